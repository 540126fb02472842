/-! THE HALL's world: the hall, its array of 32 sectors, the sectors. G: the hall's numbers (sectorCount, pairCount, tickCount, moverCount, blockedCount, guestSector); S i: sector i's (plannedFloor, plannedCeiling, light, kind, tag, neighbours, floor, ceiling, mover, way, waitLeft, wayEnd, startFloor). -/
def hs_fl (f : Nat → Int32) : List Value := [.int (f 0), .int (f 1), .int (f 2), .int (f 3), .int (f 4), .int (f 5), .int (f 6), .int (f 7), .int (f 8), .int (f 9), .int (f 10), .int (f 11), .int (f 12)]
def hh_fl (a : Nat) (g : Nat → Int32) : List Value := [.ref a, .int (g 0), .int (g 1), .int (g 2), .int (g 3), .int (g 4), .int (g 5)]
def hs_pl (ad : Nat → Nat) (S : Nat → Nat → Int32) : va_W := (List.range 32).map (fun i => (ad i, .inr (0, hs_fl (S i))))
def hw_W (h a : Nat) (ad : Nat → Nat) (cA : ClassId) (G : Nat → Int32) (S : Nat → Nat → Int32) : va_W := (h, .inr (1, hh_fl a G)) :: (a, .inl (cA, 32, .inr (.inr (.inr (.inr (fun j => some (ad j))))))) :: hs_pl ad S
def up2 (S : Nat → Nat → Int32) (i k : Nat) (v : Int32) : Nat → Nat → Int32 := fun j => if j = i then upd (S i) k v else S j
theorem hs_pl_at {ad : Nat → Nat} {S : Nat → Nat → Int32} {i : Nat} (hi : i < 32) : (hs_pl ad S)[i]? = some (ad i, .inr (0, hs_fl (S i))) := by
  simp only [hs_pl, List.getElem?_map, List.getElem?_range hi]
  rfl
theorem hs_pl_set {ad : Nat → Nat} {S : Nat → Nat → Int32} {i : Nat} {g : Nat → Int32} (hi : i < 32) : (hs_pl ad S).set i (ad i, .inr (0, hs_fl g)) = hs_pl ad (fun j => if j = i then g else S j) := by
  apply List.ext_getElem?
  intro j
  by_cases hij : i = j
  · subst hij
    rw [hs_pl_at hi, List.getElem?_set_self (by simp [hs_pl, hi])]
    simp
  · rw [List.getElem?_set_ne hij]
    by_cases hj : j < 32
    · rw [hs_pl_at hj, hs_pl_at hj]
      simp only [if_neg (Ne.symm hij)]
    · rw [List.getElem?_eq_none (by simp [hs_pl]; omega), List.getElem?_eq_none (by simp [hs_pl]; omega)]
theorem hw_at {h a : Nat} {ad : Nat → Nat} {cA : ClassId} {G : Nat → Int32} {S : Nat → Nat → Int32} {i : Nat} (hi : i < 32) : (hw_W h a ad cA G S)[i + 2]? = some (ad i, .inr (0, hs_fl (S i))) := hs_pl_at hi
theorem hw_ad {h a : Nat} {ad : Nat → Nat} {cA : ClassId} {G G' : Nat → Int32} {S S' : Nat → Nat → Int32} : (hw_W h a ad cA G' S').map Prod.fst = (hw_W h a ad cA G S).map Prod.fst := by
  simp [hw_W, hs_pl, Function.comp_def]
theorem hw_setS {D : va_G} {A : Nat → Prop} {H0 H : Heap} {locs : List Loc} {h a : Nat} {ad : Nat → Nat} {cA : ClassId} {G : Nat → Int32} {S : Nat → Nat → Int32} {i k : Nat} {v : Int32} (hi : i < 32) (hk : (hs_fl (S i)).set k (.int v) = hs_fl (upd (S i) k v))
    (T : hw_T D A H0 ((hw_W h a ad cA G S).set (i + 2) (ad i, .inr (0, (hs_fl (S i)).set k (.int v)))) H locs) : hw_T D A H0 (hw_W h a ad cA G (up2 S i k v)) H locs := by
  have e : (hw_W h a ad cA G S).set (i + 2) (ad i, .inr (0, (hs_fl (S i)).set k (.int v))) = hw_W h a ad cA G (up2 S i k v) := by
    rw [hk]
    show _ :: _ :: (hs_pl ad S).set i _ = _
    rw [hs_pl_set hi]
    rfl
  rw [e] at T
  exact T
theorem hw_setH {D : va_G} {A : Nat → Prop} {H0 H : Heap} {locs : List Loc} {h a : Nat} {ad : Nat → Nat} {cA : ClassId} {G : Nat → Int32} {S : Nat → Nat → Int32} {k : Nat} {v : Int32} (hk : (hh_fl a G).set (k + 1) (.int v) = hh_fl a (upd G k v))
    (T : hw_T D A H0 ((hw_W h a ad cA G S).set 0 (h, .inr (1, (hh_fl a G).set (k + 1) (.int v)))) H locs) : hw_T D A H0 (hw_W h a ad cA (upd G k v) S) H locs := by
  have e : (hw_W h a ad cA G S).set 0 (h, .inr (1, (hh_fl a G).set (k + 1) (.int v))) = hw_W h a ad cA (upd G k v) S := by
    rw [hk]
    rfl
  rw [e] at T
  exact T
theorem hw_isH {h a : Nat} {ad : Nat → Nat} {cA : ClassId} {G : Nat → Int32} {S : Nat → Nat → Int32} : hw_is (hw_W h a ad cA G S) h RX1 := ⟨0, 1, _, _, rfl, rfl, rfl⟩
theorem hw_isS {h a : Nat} {ad : Nat → Nat} {cA : ClassId} {G : Nat → Int32} {S : Nat → Nat → Int32} {i : Nat} (hi : i < 32) : hw_is (hw_W h a ad cA G S) (ad i) RX0 := ⟨i + 2, 0, _, _, rfl, rfl, hw_at hi⟩
/-- how many sectors there are, as a number -/
def hg_n (G : Nat → Int32) (n : Nat) : Prop := n ≤ 32 ∧ G 0 = nI n
theorem sx_lt {x : Int32} (h : vp_in x 32) : x.toNatClampNeg < 32 := by
  obtain ⟨j, hj, rfl⟩ := vp_in_of h (by decide)
  rw [nI_clamp (by omega)]
  exact hj
theorem hg_up {G : Nat → Int32} {n k : Nat} {v : Int32} (hk : 0 ≠ k) (h : hg_n G n) : hg_n (upd G k v) n := ⟨h.1, by rw [pk_un hk]; exact h.2⟩
theorem hg_0 {G : Nat → Int32} : hg_n (upd G 0 0) 0 := ⟨by decide, by rw [pk_us]; exact nI_0.symm⟩
theorem hg_lt {G : Nat → Int32} {n : Nat} (h : hg_n G n) (c : ¬ 32 ≤ G 0) : n < 32 := by
  rcases Nat.lt_or_ge n 32 with h1 | h1
  · exact h1
  · exact absurd (by rw [h.2]; exact nI_le (a := 32) h1 (by have := h.1; omega)) c
theorem hg_1 {G : Nat → Int32} {n : Nat} (h : hg_n G n) (c : ¬ 32 ≤ G 0) : hg_n (upd G 0 (G 0 + 1)) (n + 1) := ⟨hg_lt h c, by rw [pk_us, h.2, nI_1]⟩
theorem sx_in0 {G : Nat → Int32} {n : Nat} (h : hg_n G n) (c : ¬ 32 ≤ G 0) : vp_in (G 0) 32 := by
  rw [h.2]
  exact vp_in_nI (hg_lt h c) (by decide)
def sp_min (x y : Int32) : Int32 := if y < x then y else x
def sp_max (x y : Int32) : Int32 := if x < y then y else x
