/-! PURE: begin and tag. -/
theorem mx_d (x y : Int32) : sp_max x y = if x ≤ y then y else x := by
  rw [mx_c]
  by_cases h1 : y ≤ x
  · by_cases h2 : x ≤ y
    · rw [if_pos h1, if_pos h2, Int32.le_antisymm h2 h1]
    · rw [if_pos h1, if_neg h2]
  · rw [if_neg h1, if_pos (Int32.le_of_lt (Int32.not_le.mp h1))]
theorem mn_d (x y : Int32) : sp_min x y = if y ≤ x then y else x := by
  rw [mn_c]
  by_cases h1 : x ≤ y
  · by_cases h2 : y ≤ x
    · rw [if_pos h1, if_pos h2, Int32.le_antisymm h1 h2]
    · rw [if_pos h1, if_neg h2]
  · rw [if_neg h1, if_pos (Int32.le_of_lt (Int32.not_le.mp h1))]
theorem rg_mn {x y : Int32} (hx : rg x) (hy : rg y) : rg (sp_min x y) := by
  rw [mn_c]
  split
  · exact hx
  · exact hy
/-- the levels read fields 5, 6 and 7 alone -/
def e567 (S S' : Nat → Nat → Int32) : Prop := ∀ j, S' j 5 = S j 5 ∧ S' j 6 = S j 6 ∧ S' j 7 = S j 7
section
variable {S S' : Nat → Nat → Int32} {B : Nat → Int32} {n a : Nat}
theorem hn_cg (h : e567 S S') (j : Nat) : sp_hasNeighbour S' a (nI j) = sp_hasNeighbour S a (nI j) := by
  unfold sp_hasNeighbour
  rw [(h a).1]
theorem lf_cg (h : e567 S S') : sp_lowFloor S' n a = sp_lowFloor S n a := by
  unfold sp_lowFloor
  rw [sp_lf, sp_lf, (h a).2.1]
  exact lw_cg n 0 _ (fun j _ _ => ⟨hn_cg h j, (h j).2.1⟩)
theorem hf_cg (h : e567 S S') : sp_highFloor S' n a = sp_highFloor S n a := by
  unfold sp_highFloor
  rw [sp_hf, sp_hf, (h a).2.1]
  exact hi_cg n 0 _ (fun j _ _ => ⟨hn_cg h j, (h j).2.1⟩)
theorem lc_cg (h : e567 S S') : sp_lowCeiling S' n a = sp_lowCeiling S n a := by
  unfold sp_lowCeiling sp_hasNeighbours
  rw [sp_lc, sp_lc, (h a).2.2, (h a).1, lw_cg n 0 _ (fun j _ _ => ⟨hn_cg h j, (h j).2.2⟩)]
theorem Nb.cg (h : ∀ j, S' j 5 = S j 5) (hb : Nb S B n) : Nb S' B n := ⟨fun i j hi hj => by rw [h i]; exact hb.1 i j hi hj, hb.2⟩
theorem lf_rg (hr : ∀ j, j < n → rg (S j 6)) (ha : a < n) : rg (sp_lowFloor S n a) := by
  unfold sp_lowFloor
  rw [sp_lf]
  exact lw_rg n 0 _ (hr a ha) (fun j _ h => hr j (by omega))
theorem hf_rg (hr : ∀ j, j < n → rg (S j 6)) (ha : a < n) : rg (sp_highFloor S n a) := by
  unfold sp_highFloor
  rw [sp_hf]
  exact hi_rg n 0 _ (hr a ha) (fun j _ h => hr j (by omega))
end
theorem mv3 {x : Int32} (h0 : ¬ x < 0) (h2 : x ≤ 2) : x = 0 ∨ x = 1 ∨ x = 2 := by
  obtain ⟨j, hj, rfl⟩ := nI_of2 (M := 2) (n := 2) (by decide) h0 h2
  rcases (show j = 0 ∨ j = 1 ∨ j = 2 by omega) with rfl | rfl | rfl
  · exact Or.inl rfl
  · exact Or.inr (Or.inl rfl)
  · exact Or.inr (Or.inr rfl)
/-- the state behind a start: the reference's, and the hall's -/
abbrev bm (S : Nat → Nat → Int32) (i : Nat) (x w : Int32) : Nat → Nat → Int32 := up2 (up2 (up2 (up2 S i 8 x) i 10 0) i 9 w) i 12 ((up2 (up2 (up2 S i 8 x) i 10 0) i 9 w) i 6)
abbrev bc (S : Nat → Nat → Int32) (i : Nat) (x : Int32) : Nat → Nat → Int32 := up2 (up2 S i 8 x) i 12 ((up2 S i 8 x) i 6)
section
variable {S : Nat → Nat → Int32} {B : Nat → Int32} {G : Nat → Int32} {n i : Nat} {x w E τ : Int32}
theorem bm_e (S : Nat → Nat → Int32) (i : Nat) (x w : Int32) : e567 S (bm S i x w) := by
  intro j
  by_cases h : j = i
  · subst h
    simp [bm, up2, upd]
  · simp [bm, up2, h]
theorem bc_e (S : Nat → Nat → Int32) (i : Nat) (x : Int32) : e567 S (bc S i x) := by
  intro j
  by_cases h : j = i
  · subst h
    simp [bc, up2, upd]
  · simp [bc, up2, h]
theorem b_fin : up2 (bm S i x w) i 11 E = sp_go (up2 (bc S i x) i 11 E) i w := by
  unfold sp_go
  funext j q
  by_cases h : j = i
  · subst h
    simp only [bm, bc, up2, upd, if_pos rfl]
    by_cases h8 : q = 8
    · subst h8; simp [upd]
    · by_cases h9 : q = 9
      · subst h9; simp [upd]
      · by_cases h10 : q = 10
        · subst h10; simp [upd]
        · by_cases h11 : q = 11
          · subst h11; simp [upd]
          · by_cases h12 : q = 12
            · subst h12; simp [upd]
            · simp [upd, h8, h9, h10, h11, h12]
  · simp [bm, bc, up2, h]
/-- a start, as one row -/
theorem start_row : sp_start G S n i x = (upd G 3 (G 3 + 1), sp_go (up2 (bc S i x) i 11 (sp_endOfWay (bc S i x) n i x)) i (if x = 1 then -1 else 1)) := by
  unfold sp_start
  split <;> rfl
theorem end_row (hn : n ≤ 32) (hi : i < n) (hr6 : ∀ j, j < n → rg (S j 6)) (hr7 : ∀ j, j < n → rg (S j 7)) (hb : Nb S B n) : rg (sp_endOfWay (bc S i x) n i x) := by
  have hq : rg (sp_lowCeiling S n i) := (lowC_eq hb hn hi hr7).2
  have e7 : (bc S i x) i 7 = S i 7 := (bc_e S i x i).2.2
  unfold sp_endOfWay
  rw [lc_cg (bc_e S i x), lf_cg (bc_e S i x), hf_cg (bc_e S i x), e7]
  repeat' split
  · exact rg_max hq (by decide) (hr7 i hi)
  · exact lf_rg hr6 hi
  · exact rg_mn (hf_rg hr6 hi) (hr7 i hi)
theorem start_iv (hn : n ≤ 32) (iv : Iv G S n) (hb : Nb S B n) (hi : i < n) (hm : S i 8 = -1) (hx : m012 x) : Iv (sp_start G S n i x).1 (sp_start G S n i x).2 n ∧ (∀ j k, k ≤ 5 → (sp_start G S n i x).2 j k = S j k) := by
  have hE := end_row (x := x) hn hi (fun j hj => (iv.1 j hj).1.2.2.1) (fun j hj => (iv.1 j hj).1.2.2.2.1) hb
  rw [start_row]
  generalize sp_endOfWay (bc S i x) n i x = E at hE ⊢
  obtain ⟨⟨r0, r1, r6, r7, r11⟩, m⟩ := iv.1 i hi
  generalize hw : (if x = 1 then (-1 : Int32) else 1) = w
  have hw2 : w = 1 ∨ w = -1 := by
    rw [← hw]
    split
    · exact Or.inr rfl
    · exact Or.inl rfl
  have off : ∀ j, j ≠ i → sp_go (up2 (bc S i x) i 11 E) i w j = S j := fun j hj => by simp [sp_go, bc, up2, hj]
  have f8 : sp_go (up2 (bc S i x) i 11 E) i w i 8 = x := by simp [sp_go, bc, up2, upd]
  refine ⟨⟨fun j hj => ?_, fun j => ?_, ?_⟩, fun j k hk => ?_⟩
  · show sec_ok (sp_go (up2 (bc S i x) i 11 E) i w j)
    by_cases h : j = i
    · subst h
      exact ⟨⟨by simpa [sp_go, bc, up2, upd] using r0, by simpa [sp_go, bc, up2, upd] using r1, by simpa [sp_go, bc, up2, upd] using r6, by simpa [sp_go, bc, up2, upd] using r7, by simpa [sp_go, bc, up2, upd] using hE⟩, by simpa [sp_go, bc, up2, upd] using (show mvx x w 0 from Or.inr ⟨hx, Or.inl ⟨rfl, hw2⟩⟩)⟩
    · rw [off j h]
      exact iv.1 j hj
  · show rg (sp_go (up2 (bc S i x) i 11 E) i w j 12)
    by_cases h : j = i
    · subst h
      simpa [sp_go, bc, up2, upd] using r6
    · rw [off j h]
      exact iv.2.1 j
  · have h := cN_up (S := S) (S' := sp_go (up2 (bc S i x) i 11 E) i w) (m := i) (fun j hj => by rw [off j hj]) n 0 (Nat.zero_le _) (by omega)
    rw [f8, hm, if_pos (show (-1 : Int32) < 0 by decide), if_neg (m012_n hx)] at h
    show G 3 + 1 = nI (cN (sp_go (up2 (bc S i x) i 11 E) i w) n 0)
    rw [iv.2.2, nI_1]
    congr 1
    omega
  · show sp_go (up2 (bc S i x) i 11 E) i w j k = S j k
    by_cases h : j = i
    · subst h
      have h8 : ¬ k = 8 := by omega
      have h9 : ¬ k = 9 := by omega
      have h10 : ¬ k = 10 := by omega
      have h11 : ¬ k = 11 := by omega
      have h12 : ¬ k = 12 := by omega
      simp [sp_go, bc, up2, upd, h8, h9, h10, h11, h12]
    · rw [off j h]
theorem way_1 {m w t : Int32} (h : mvx m w t) : (1 ≤ w ↔ w = 1) := by
  have h3 : w = 1 ∨ w = -1 ∨ w = 0 := by
    rcases h with ⟨-, h, -⟩ | ⟨-, ⟨-, h | h⟩ | ⟨-, h⟩⟩
    · exact Or.inr (Or.inr h)
    · exact Or.inl h
    · exact Or.inr (Or.inl h)
    · exact Or.inr (Or.inr h)
  rcases h3 with rfl | rfl | rfl <;> decide
theorem mv_neg {m w t : Int32} (h : mvx m w t) : (m < 0 ↔ m = -1) := by
  rcases h with ⟨rfl, -⟩ | ⟨rfl | rfl | rfl, -⟩ <;> decide
theorem same2 : up2 (up2 S i 9 (S i 9)) i 10 ((up2 S i 9 (S i 9)) i 10) = S := by
  rw [up2_id (k := 9) rfl, up2_id rfl]
/-- begin: the same answers, the same state -/
theorem begin_eq (hn : n ≤ 32) (hg : hg_n G n) (iv : Iv G S n) (hb : Nb S B n) (x1 x2 : Int32) : ((sm_begin (upd G 3 τ) S B n x1 x2).1 = (sp_begin G S n x1 x2).1 ∧ eqp 0 (sp_begin G S n x1 x2).2 (sm_begin (upd G 3 τ) S B n x1 x2).2) ∧ Iv (sp_begin G S n x1 x2).2.1 (sp_begin G S n x1 x2).2.2 n ∧ (∀ j k, k ≤ 5 → (sp_begin G S n x1 x2).2.2 j k = S j k) := by
  have e3 : upd (upd G 3 τ) 3 0 = upd G 3 0 := upd_uu
  unfold sm_begin sp_begin
  rw [e3]
  have e0 : sm_isSector (upd G 3 0) x1 = sp_isSector G x1 := rfl
  rw [e0]
  by_cases hs : sp_isSector G x1 = 0
  · rw [if_pos hs, if_pos hs]
    exact ⟨⟨rfl, lf_id⟩, iv, fun _ _ _ => rfl⟩
  · rw [if_neg hs, if_neg hs]
    obtain ⟨i, hi, rfl⟩ := sx_n hg hs
    rw [nI_cl (show i < 32 by omega)]
    have em : sp_isMover x2 = if x2 < 0 then 0 else (if 2 < x2 then 0 else 1) := rfl
    rw [em]
    by_cases h0 : x2 < 0
    · rw [if_pos h0, if_pos h0, if_pos rfl]
      exact ⟨⟨rfl, lf_id⟩, iv, fun _ _ _ => rfl⟩
    · rw [if_neg h0, if_neg h0]
      by_cases h2 : x2 ≤ 2
      · rw [if_pos h2, if_neg (Int32.not_lt.mpr h2), if_neg (show ¬ (1 : Int32) = 0 by decide)]
        have hx := mv3 h0 h2
        have hmv := (iv.1 i hi).2
        by_cases hm : S i 8 = -1
        · rw [if_pos ((mv_neg hmv).mpr hm), if_pos hm]
          have hst := start_iv hn iv hb hi hm hx
          refine ⟨?_, hst⟩
          rw [start_row]
          have hbm : ∀ w, Nb (bm S i x2 w) B n := fun w => hb.cg (fun j => (bm_e S i x2 w j).1)
          have hr7 : ∀ w, ∀ j, j < n → rg ((bm S i x2 w) j 7) := fun w j hj => by rw [(bm_e S i x2 w j).2.2]; exact (iv.1 j hj).1.2.2.2.1
          have eF : ∀ w, sm_lowFloor (bm S i x2 w) B n (nI i) = sp_lowFloor (bc S i x2) n i := fun w => by rw [lowF_eq (hbm w) hn hi, lf_cg (bm_e S i x2 w), lf_cg (bc_e S i x2)]
          have eH : ∀ w, sm_highFloor (bm S i x2 w) B n (nI i) = sp_highFloor (bc S i x2) n i := fun w => by rw [highF_eq (hbm w) hn hi, hf_cg (bm_e S i x2 w), hf_cg (bc_e S i x2)]
          have eC : ∀ w, sm_lowCeiling (bm S i x2 w) B n (nI i) = sp_lowCeiling (bc S i x2) n i := fun w => by rw [(lowC_eq (hbm w) hn hi (hr7 w)).1, lc_cg (bm_e S i x2 w), lc_cg (bc_e S i x2)]
          have e7 : ∀ w, (up2 (up2 (up2 (up2 S i 8 x2) i 10 0) i 9 w) i 12 ((up2 (up2 (up2 S i 8 x2) i 10 0) i 9 w) i 6)) i 7 = (bc S i x2) i 7 := fun w => (bm_e S i x2 w i).2.2.trans (bc_e S i x2 i).2.2.symm
          have lf : ∀ w E, eqp 0 (upd G 3 (G 3 + 1), sp_go (up2 (bc S i x2) i 11 E) i w) (upd G 3 0, up2 (bm S i x2 w) i 11 E) := fun w E => ⟨upd_uu.symm, b_fin⟩
          unfold sp_endOfWay
          rcases hx with rfl | rfl | rfl
          · rw [if_neg (show ¬ (0 : Int32) = 1 by decide), if_pos (show (0 : Int32) = 0 from rfl), if_pos (show (0 : Int32) = 0 from rfl), if_neg (show ¬ (0 : Int32) = 1 by decide), eC, e7, mx_d]
            by_cases h9 : sp_lowCeiling (bc S i 0) n i - 4 ≤ (bc S i 0) i 7
            · rw [if_pos h9, if_pos h9]
              exact ⟨rfl, lf 1 _⟩
            · rw [if_neg h9, if_neg h9]
              exact ⟨rfl, lf 1 _⟩
          · rw [if_pos (show (1 : Int32) = 1 from rfl), if_neg (show ¬ (1 : Int32) = 0 by decide), if_neg (show ¬ (1 : Int32) = 0 by decide), if_pos (show (1 : Int32) = 1 from rfl), if_pos (show (1 : Int32) = 1 from rfl), eF]
            exact ⟨rfl, lf (-1) _⟩
          · rw [if_neg (show ¬ (2 : Int32) = 1 by decide), if_neg (show ¬ (2 : Int32) = 0 by decide), if_neg (show ¬ (2 : Int32) = 0 by decide), if_neg (show ¬ (2 : Int32) = 1 by decide), if_neg (show ¬ (2 : Int32) = 1 by decide), eH, e7, mn_d]
            by_cases h9 : (bc S i 2) i 7 ≤ sp_highFloor (bc S i 2) n i
            · rw [if_pos h9, if_pos h9]
              exact ⟨rfl, lf 1 _⟩
            · rw [if_neg h9, if_neg h9]
              exact ⟨rfl, lf 1 _⟩
        · rw [if_neg (fun q => hm ((mv_neg hmv).mp q)), if_neg hm, same2]
          by_cases hz : x2 = 0
          · rw [if_pos hz, if_pos hz]
            by_cases h8 : S i 8 = 0
            · rw [if_pos h8, if_pos h8]
              by_cases h9 : S i 9 = 1
              · rw [if_pos ((way_1 hmv).mpr h9), if_pos h9]
                exact ⟨⟨rfl, lf_id⟩, iv, fun _ _ _ => rfl⟩
              · rw [if_neg (fun q => h9 ((way_1 hmv).mp q)), if_neg h9]
                have ok := ol_ga (G := G) (iv.1 i hi) (show m012 (S i 8) from Or.inl h8)
                exact ⟨⟨rfl, lf_id⟩, one_iv iv hi ok, fun j k hk => (one_kp ok).1 j k (Or.inl hk)⟩
            · rw [if_neg h8, if_neg h8]
              exact ⟨⟨rfl, lf_id⟩, iv, fun _ _ _ => rfl⟩
          · rw [if_neg hz, if_neg hz]
            exact ⟨⟨rfl, lf_id⟩, iv, fun _ _ _ => rfl⟩
      · rw [if_neg h2, if_pos (Int32.not_le.mp h2), if_pos rfl]
        exact ⟨⟨rfl, lf_id⟩, iv, fun _ _ _ => rfl⟩
end
