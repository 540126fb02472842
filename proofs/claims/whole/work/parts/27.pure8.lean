/-! PURE: reset, clear, sector, join. -/
/-- the same but for field 5 -/
def e5 (S S' : Nat → Nat → Int32) : Prop := ∀ j k, k ≠ 5 → S' j k = S j k
/-- the reference's row of a reset -/
abbrev rb (S : Nat → Nat → Int32) (i : Nat) : Nat → Nat → Int32 := up2 (up2 (up2 (up2 (up2 (up2 S i 6 (S i 0)) i 7 ((up2 S i 6 (S i 0)) i 1)) i 8 (-1)) i 9 0) i 10 0) i 11 (-1)
theorem back_at (S : Nat → Nat → Int32) (i q : Nat) : sp_goBackToPlan S i i q = (if q = 6 then S i 0 else if q = 7 then S i 1 else if q = 8 then -1 else if q = 9 then 0 else if q = 10 then 0 else if q = 11 then -1 else S i q) := by
  unfold sp_goBackToPlan sp_dropMover
  by_cases h6 : q = 6
  · subst h6; simp [up2, upd]
  · by_cases h7 : q = 7
    · subst h7; simp [up2, upd]
    · by_cases h8 : q = 8
      · subst h8; simp [up2, upd]
      · by_cases h9 : q = 9
        · subst h9; simp [up2, upd]
        · by_cases h10 : q = 10
          · subst h10; simp [up2, upd]
          · by_cases h11 : q = 11
            · subst h11; simp [up2, upd]
            · simp [up2, upd, h6, h7, h8, h9, h10, h11]
theorem back_off (S : Nat → Nat → Int32) {i j : Nat} (h : j ≠ i) : sp_goBackToPlan S i j = S j := by
  simp [sp_goBackToPlan, sp_dropMover, sp_go, up2, h]
theorem rb_at (S : Nat → Nat → Int32) (i q : Nat) : rb S i i q = (if q = 6 then S i 0 else if q = 7 then S i 1 else if q = 8 then -1 else if q = 9 then 0 else if q = 10 then 0 else if q = 11 then -1 else S i q) := by
  by_cases h6 : q = 6
  · subst h6; simp [rb, up2, upd]
  · by_cases h7 : q = 7
    · subst h7; simp [rb, up2, upd]
    · by_cases h8 : q = 8
      · subst h8; simp [rb, up2, upd]
      · by_cases h9 : q = 9
        · subst h9; simp [rb, up2, upd]
        · by_cases h10 : q = 10
          · subst h10; simp [rb, up2, upd]
          · by_cases h11 : q = 11
            · subst h11; simp [rb, up2, upd]
            · simp [rb, up2, upd, h6, h7, h8, h9, h10, h11]
theorem rb_off (S : Nat → Nat → Int32) {i j : Nat} (h : j ≠ i) : rb S i j = S j := by
  simp [rb, up2, h]
theorem back_e5 {S S' : Nat → Nat → Int32} (h : e5 S S') (i : Nat) : e5 (sp_goBackToPlan S i) (rb S' i) := by
  intro j k hk
  by_cases hj : j = i
  · subst hj
    rw [back_at, rb_at, h j 0 (by decide), h j 1 (by decide), h j k hk]
  · rw [back_off S hj, rb_off S' hj]
    exact h j k hk
theorem reset_S {G Gm : Nat → Int32} : ∀ (k i : Nat) (S S' : Nat → Nat → Int32), e5 S S' → (∀ j, i ≤ j → j < i + k → rg (S j 0) ∧ rg (S j 1)) →
    e5 (sp_reset_loop G k i S).2 (sm_reset_loop Gm k i S').2 ∧ (∀ j, i ≤ j → j < i + k → sec_ok ((sp_reset_loop G k i S).2 j) ∧ (sp_reset_loop G k i S).2 j 8 = -1) ∧ (∀ j, j < i ∨ i + k ≤ j → (sp_reset_loop G k i S).2 j = S j) ∧ (∀ j q, q ≤ 5 ∨ q = 12 → (sp_reset_loop G k i S).2 j q = S j q) ∧ (sp_reset_loop G k i S).1 = upd (upd (upd (upd G 2 0) 3 0) 4 0) 5 (-1) ∧ (sm_reset_loop Gm k i S').1 = upd (upd (upd Gm 2 0) 5 (-1)) 4 0 := by
  intro k
  induction k with
  | zero =>
    intro i S S' he hr
    exact ⟨he, fun j h1 h2 => by omega, fun _ _ => rfl, fun _ _ _ => rfl, rfl, rfl⟩
  | succ k ih =>
    intro i S S' he hr
    have hr2 : ∀ j, i + 1 ≤ j → j < i + 1 + k → rg (sp_goBackToPlan S i j 0) ∧ rg (sp_goBackToPlan S i j 1) := fun j h1 h2 => by
      rw [back_off S (show j ≠ i by omega)]
      exact hr j (by omega) (by omega)
    obtain ⟨a1, a2, a3, a4, a5, a6⟩ := ih (i + 1) (sp_goBackToPlan S i) (rb S' i) (back_e5 he i) hr2
    rw [sp_reset_loop, sm_reset_loop]
    refine ⟨a1, fun j h1 h2 => ?_, fun j h => ?_, fun j q hq => ?_, a5, a6⟩
    · by_cases hj : j = i
      · subst hj
        rw [a3 j (Or.inl (by omega))]
        have h0 := hr j (by omega) (by omega)
        refine ⟨⟨⟨?_, ?_, ?_, ?_, ?_⟩, ?_⟩, ?_⟩
        · rw [back_at]; simpa using h0.1
        · rw [back_at]; simpa using h0.2
        · rw [back_at]; simpa using h0.1
        · rw [back_at]; simpa using h0.2
        · rw [back_at]; simpa using rg_m1
        · rw [back_at, back_at, back_at]
          exact Or.inl ⟨rfl, rfl, rfl⟩
        · rw [back_at]; rfl
      · exact a2 j (by omega) (by omega)
    · rw [a3 j (by omega), back_off S (show j ≠ i by omega)]
    · rw [a4 j q hq]
      by_cases hj : j = i
      · subst hj
        rw [back_at]
        have h6 : ¬ q = 6 := by omega
        have h7 : ¬ q = 7 := by omega
        have h8 : ¬ q = 8 := by omega
        have h9 : ¬ q = 9 := by omega
        have h10 : ¬ q = 10 := by omega
        have h11 : ¬ q = 11 := by omega
        simp [h6, h7, h8, h9, h10, h11]
      · rw [back_off S hj]
theorem cN_neg {S : Nat → Nat → Int32} : ∀ k i, (∀ j, i ≤ j → j < i + k → S j 8 = -1) → cN S k i = 0 := by
  intro k
  induction k with
  | zero => intro i h; rfl
  | succ k ih =>
    intro i h
    rw [cN, h i (by omega) (by omega), ih (i + 1) (fun j h1 h2 => h j (by omega) (by omega))]
    rfl
section
variable {G : Nat → Int32} {S : Nat → Nat → Int32} {B : Nat → Int32} {n : Nat} {τ x1 x2 x3 x4 x5 : Int32}
/-- a reset of n sectors whose plan is good -/
theorem reset_r {Gm : Nat → Int32} {S' : Nat → Nat → Int32} (hg : hg_n G n) (hG : ∀ k, k ≠ 3 → Gm k = G k) (he : e5 S S') (hp : ∀ j, j < n → rg (S j 0) ∧ rg (S j 1)) (h12 : ∀ j, rg (S j 12)) (hb : Nb S B n) : (∀ k, k ≠ 3 → (sm_reset Gm S' n).1 k = (sp_reset G S n).1 k) ∧ e5 (sp_reset G S n).2 (sm_reset Gm S' n).2 ∧ LI (sp_reset G S n).1 (sp_reset G S n).2 B n ∧ (sm_reset Gm S' n).1 0 = G 0 := by
  unfold sp_reset sm_reset
  obtain ⟨a1, a2, a3, a4, a5, a6⟩ := reset_S (G := G) (Gm := upd Gm 3 0) n 0 S S' he (fun j _ h => hp j (by omega))
  refine ⟨fun k hk => ?_, a1, ⟨⟨hg.1, ?_⟩, ⟨fun j hj => (a2 j (Nat.zero_le _) (by omega)).1, fun j => ?_, ?_⟩, hb.cg (fun j => a4 j 5 (Or.inl (by omega)))⟩, ?_⟩
  · rw [a5, a6]
    by_cases h2 : k = 2
    · subst h2; rfl
    · by_cases h4 : k = 4
      · subst h4; rfl
      · by_cases h5 : k = 5
        · subst h5; rfl
        · simp [upd, h2, h4, h5, hk, hG k hk]
  · rw [a5]
    exact hg.2
  · rw [a4 j 12 (Or.inr rfl)]
    exact h12 j
  · rw [a5, cN_neg n 0 (fun j _ h => (a2 j (Nat.zero_le _) (by omega)).2), nI_0]
    rfl
  · rw [a6]
    exact hG 0 (by decide)
theorem g3_off {k : Nat} (hk : k ≠ 3) : (upd G 3 τ) k = G k := by simp [upd, hk]
theorem L_reset (li : LI G S B n) : LR 0 (sp_reset G S n).1 (sp_reset G S n).2 0 (sm_reset (upd G 3 τ) S n).1 (sm_reset (upd G 3 τ) S n).2 B := by
  have h := reset_r (Gm := upd G 3 τ) (S' := S) li.1 (fun k hk => g3_off hk) (fun _ _ _ => rfl) (fun j hj => ⟨(li.2.1.1 j hj).1.1, (li.2.1.1 j hj).1.2.1⟩) li.2.1.2.1 li.2.2
  exact ⟨rfl, h.1, h.2.1, n, h.2.2.1⟩
theorem clr_B {G : Nat → Int32} {S : Nat → Nat → Int32} {n : Nat} : ∀ (k i : Nat) (B : Nat → Int32), (sm_clear_loop G S n k i B).1 = (sm_reset G S n).1 ∧ (sm_clear_loop G S n k i B).2.1 = (sm_reset G S n).2 ∧ (∀ j, i ≤ j → j < i + k → (sm_clear_loop G S n k i B).2.2 j = 0) ∧ (∀ j, j < i → (sm_clear_loop G S n k i B).2.2 j = B j) := by
  intro k
  induction k with
  | zero =>
    intro i B
    exact ⟨rfl, rfl, fun j h1 h2 => by omega, fun _ _ => rfl⟩
  | succ k ih =>
    intro i B
    obtain ⟨a1, a2, a3, a4⟩ := ih (i + 1) (upd B i 0)
    rw [sm_clear_loop]
    refine ⟨a1, a2, fun j h1 h2 => ?_, fun j h => ?_⟩
    · by_cases hj : j = i
      · subst hj
        rw [a4 j (by omega)]
        simp [upd]
      · exact a3 j (by omega) (by omega)
    · rw [a4 j (by omega)]
      have hj : ¬ j = i := by omega
      simp [upd, hj]
theorem L_clear (li : LI G S B n) : LR 0 (sp_clear G S n).1 (sp_clear G S n).2 0 (sm_clear (upd G 3 τ) S B).1 (sm_clear (upd G 3 τ) S B).2.1 (sm_clear (upd G 3 τ) S B).2.2 := by
  unfold sp_clear sm_clear
  obtain ⟨a1, a2, a3, a4⟩ := clr_B (G := upd (upd (upd (upd G 3 τ) 3 0) 0 0) 1 0) (S := S) (n := 0) 1024 0 B
  generalize (sm_clear_loop (upd (upd (upd (upd G 3 τ) 3 0) 0 0) 1 0) S 0 1024 0 B) = z at a1 a2 a3 a4 ⊢
  have hb : Nb S z.2.2 0 := ⟨fun i j hi _ => by omega, fun i j hi hj _ => a3 _ (Nat.zero_le _) (by omega)⟩
  have h := reset_r (G := upd (upd G 0 0) 1 0) (Gm := upd (upd (upd (upd G 3 τ) 3 0) 0 0) 1 0) (S := S) (S' := S) (n := 0) (B := z.2.2) (hg_up (by decide) hg_0) (fun k hk => by
    by_cases h0 : k = 0
    · subst h0; rfl
    · by_cases h1 : k = 1
      · subst h1; rfl
      · simp [upd, hk, h0, h1]) (fun _ _ _ => rfl) (fun j hj => by omega) li.2.1.2.1 hb
  rw [a1, a2]
  exact ⟨rfl, h.1, h.2.1, 0, h.2.2.1⟩
theorem lt_le15 (x : Int32) : (15 < x ↔ 16 ≤ x) ∧ (3 < x ↔ 4 ≤ x) ∧ (255 < x ↔ 256 ≤ x) := by
  refine ⟨?_, ?_, ?_⟩ <;> rw [Int32.lt_iff_toInt_lt, Int32.le_iff_toInt_le]
  · rw [show (15 : Int32).toInt = 15 from by decide, show (16 : Int32).toInt = 16 from by decide]; omega
  · rw [show (3 : Int32).toInt = 3 from by decide, show (4 : Int32).toInt = 4 from by decide]; omega
  · rw [show (255 : Int32).toInt = 255 from by decide, show (256 : Int32).toInt = 256 from by decide]; omega
theorem plan_at (S : Nat → Nat → Int32) (i q : Nat) : sp_plan S i x1 x2 x3 x4 x5 i q = (if q = 0 then x1 else if q = 1 then x2 else if q = 2 then x3 else if q = 3 then x4 else if q = 4 then x5 else if q = 5 then 0 else S i q) := by
  unfold sp_plan
  by_cases h0 : q = 0
  · subst h0; simp [up2, upd]
  · by_cases h1 : q = 1
    · subst h1; simp [up2, upd]
    · by_cases h2 : q = 2
      · subst h2; simp [up2, upd]
      · by_cases h3 : q = 3
        · subst h3; simp [up2, upd]
        · by_cases h4 : q = 4
          · subst h4; simp [up2, upd]
          · by_cases h5 : q = 5
            · subst h5; simp [up2, upd]
            · simp [up2, upd, h0, h1, h2, h3, h4, h5]
theorem plan_off (S : Nat → Nat → Int32) {i j : Nat} (h : j ≠ i) : sp_plan S i x1 x2 x3 x4 x5 j = S j := by
  simp [sp_plan, up2, h]
theorem plan_e5 (S : Nat → Nat → Int32) (i : Nat) : e5 (sp_plan S i x1 x2 x3 x4 x5) (up2 (up2 (up2 (up2 (up2 S i 0 x1) i 1 x2) i 2 x3) i 3 x4) i 4 x5) := by
  intro j k hk
  unfold sp_plan
  by_cases hj : j = i
  · subst hj
    exact (up2_kq hk).symm
  · exact (congrFun (up2_j hj) k).symm
theorem L_sector (li : LI G S B n) : LR (sp_sector G S n x1 x2 x3 x4 x5).1 (sp_sector G S n x1 x2 x3 x4 x5).2.1 (sp_sector G S n x1 x2 x3 x4 x5).2.2 (sm_sector (upd G 3 τ) S n x1 x2 x3 x4 x5).1 (sm_sector (upd G 3 τ) S n x1 x2 x3 x4 x5).2.1 (sm_sector (upd G 3 τ) S n x1 x2 x3 x4 x5).2.2 B := by
  have hbad : LR (-1) G S (-1) (upd G 3 0) S B := LR.q li rfl
  unfold sp_sector sm_sector
  rw [upd_uu, show (upd G 3 0) 0 = G 0 from rfl]
  unfold sp_isShape sp_isWithin
  simp only [(lt_le15 x3).1, (lt_le15 x4).2.1, (lt_le15 x5).2.2]
  by_cases h1 : x1 < (-1024)
  · simp only [if_pos h1, if_pos (show (0 : Int32) = 0 from rfl), if_true, ite_self]
    exact hbad
  by_cases h2 : 1024 < x2
  · simp only [if_neg h1, if_pos h2, if_pos (show (0 : Int32) = 0 from rfl), if_neg (show ¬ (1 : Int32) = 0 by decide), if_true, ite_self]
    exact hbad
  by_cases h3 : x2 ≤ x1
  · simp only [if_neg h1, if_neg h2, if_pos h3, if_pos (show (0 : Int32) = 0 from rfl), if_neg (show ¬ (1 : Int32) = 0 by decide), if_true, ite_self]
    exact hbad
  by_cases h4 : x3 < 0
  · simp only [if_neg h1, if_neg h2, if_neg h3, if_pos h4, if_pos (show (0 : Int32) = 0 from rfl), if_neg (show ¬ (1 : Int32) = 0 by decide), if_true, ite_self]
    exact hbad
  by_cases h5 : 16 ≤ x3
  · simp only [if_neg h1, if_neg h2, if_neg h3, if_neg h4, if_pos h5, if_pos (show (0 : Int32) = 0 from rfl), if_neg (show ¬ (1 : Int32) = 0 by decide), if_true, ite_self]
    exact hbad
  by_cases h6 : x4 < 0
  · simp only [if_neg h1, if_neg h2, if_neg h3, if_neg h4, if_neg h5, if_pos h6, if_pos (show (0 : Int32) = 0 from rfl), if_neg (show ¬ (1 : Int32) = 0 by decide), if_true, ite_self]
    exact hbad
  by_cases h7 : 4 ≤ x4
  · simp only [if_neg h1, if_neg h2, if_neg h3, if_neg h4, if_neg h5, if_neg h6, if_pos h7, if_pos (show (0 : Int32) = 0 from rfl), if_neg (show ¬ (1 : Int32) = 0 by decide), if_true, ite_self]
    exact hbad
  by_cases h8 : x5 < 0
  · simp only [if_neg h1, if_neg h2, if_neg h3, if_neg h4, if_neg h5, if_neg h6, if_neg h7, if_pos h8, if_pos (show (0 : Int32) = 0 from rfl), if_neg (show ¬ (1 : Int32) = 0 by decide), if_true, ite_self]
    exact hbad
  by_cases h9 : 256 ≤ x5
  · simp only [if_neg h1, if_neg h2, if_neg h3, if_neg h4, if_neg h5, if_neg h6, if_neg h7, if_neg h8, if_pos h9, if_pos (show (0 : Int32) = 0 from rfl), if_neg (show ¬ (1 : Int32) = 0 by decide), if_true, ite_self]
    exact hbad
  by_cases h10 : 32 ≤ G 0
  · simp only [if_neg h1, if_neg h2, if_neg h3, if_neg h4, if_neg h5, if_neg h6, if_neg h7, if_neg h8, if_neg h9, if_pos h10]
    exact hbad
  simp only [if_neg h1, if_neg h2, if_neg h3, if_neg h4, if_neg h5, if_neg h6, if_neg h7, if_neg h8, if_neg h9, if_neg h10, if_neg (show ¬ (1 : Int32) = 0 by decide)]
  have hlt := hg_lt li.1 h10
  have hG0 : (G 0).toNatClampNeg = n := by rw [li.1.2, nI_cl hlt]
  rw [hG0]
  have hx1 : rg x1 ∧ rg x2 := by
    rw [Int32.lt_iff_toInt_lt, show (-1024 : Int32).toInt = -1024 from by decide] at h1
    rw [Int32.lt_iff_toInt_lt, show (1024 : Int32).toInt = 1024 from by decide] at h2
    rw [Int32.le_iff_toInt_le] at h3
    exact ⟨⟨by omega, by omega⟩, ⟨by omega, by omega⟩⟩
  have hb : Nb (sp_plan S n x1 x2 x3 x4 x5) B (n + 1) := by
    refine ⟨fun i j hi hj => ?_, fun i j hi hj h => li.2.2.2 i j hi hj (by omega)⟩
    by_cases h : i = n
    · subst h
      rw [plan_at, li.2.2.2 i j hlt hj (Or.inl (Nat.le_refl _))]
      show (0 : Int32) = bi (bt 0 j)
      rw [b_0]
      rfl
    · rw [plan_off S h]
      exact li.2.2.1 i j (by omega) hj
  have h := reset_r (G := upd G 0 (G 0 + 1)) (Gm := upd (upd G 3 0) 0 (G 0 + 1)) (S := sp_plan S n x1 x2 x3 x4 x5) (S' := up2 (up2 (up2 (up2 (up2 S n 0 x1) n 1 x2) n 2 x3) n 3 x4) n 4 x5) (n := n + 1) (B := B) (hg_1 li.1 h10) (fun k hk => by
    by_cases h0 : k = 0
    · subst h0; rfl
    · simp [upd, hk, h0]) (plan_e5 S n) (fun j hj => by
    by_cases h : j = n
    · subst h
      rw [plan_at, plan_at]
      exact hx1
    · rw [plan_off S h]
      exact ⟨(li.2.1.1 j (by omega)).1.1, (li.2.1.1 j (by omega)).1.2.1⟩) (fun j => by
    by_cases h : j = n
    · subst h
      rw [plan_at]
      exact li.2.1.2.1 j
    · rw [plan_off S h]
      exact li.2.1.2.1 j) hb
  refine ⟨?_, h.1, h.2.1, n + 1, h.2.2.1⟩
  show G 0 = _ - 1
  rw [h.2.2.2]
  show G 0 = (upd G 0 (G 0 + 1)) 0 - 1
  rw [pk_us, Int32.add_sub_cancel]
theorem add_at (S : Nat → Nat → Int32) {a b : Nat} (hb : b < 32) {i j : Nat} (hj : j < 32) : bt (sp_addNeighbour S a (nI b) i 5) j = (bt (S i 5) j || decide (i = a ∧ j = b)) := by
  unfold sp_addNeighbour
  by_cases h : i = a
  · subst h
    rw [up2_kk, b_add hb hj]
    simp
  · rw [up2_j h]
    simp [h]
theorem add_off (S : Nat → Nat → Int32) {a : Nat} {x : Int32} (i : Nat) {k : Nat} (hk : k ≠ 5) : sp_addNeighbour S a x i k = S i k := by
  unfold sp_addNeighbour
  by_cases h : i = a
  · subst h
    rw [up2_kq hk]
  · rw [up2_j h]
theorem L_join (li : LI G S B n) : LR (sp_join G S x1 x2).1 (sp_join G S x1 x2).2.1 (sp_join G S x1 x2).2.2 (sm_join (upd G 3 τ) B x1 x2).1 (sm_join (upd G 3 τ) B x1 x2).2.1 S (sm_join (upd G 3 τ) B x1 x2).2.2 := by
  have hbad : LR 0 G S 0 (upd G 3 0) S B := LR.q li rfl
  unfold sp_join sm_join
  rw [upd_uu, show sm_isSector (upd G 3 0) x1 = sp_isSector G x1 from rfl, show sm_isSector (upd G 3 0) x2 = sp_isSector G x2 from rfl]
  by_cases hs : sp_isSector G x1 = 0
  · rw [if_pos hs, if_pos hs]
    exact hbad
  rw [if_neg hs, if_neg hs]
  by_cases ht : sp_isSector G x2 = 0
  · rw [if_pos ht, if_pos ht]
    exact hbad
  rw [if_neg ht, if_neg ht]
  by_cases he : x1 = x2
  · rw [if_pos he, if_pos he]
    exact hbad
  rw [if_neg he, if_neg he]
  obtain ⟨a, ha, rfl⟩ := sx_n li.1 hs
  obtain ⟨b, hb, rfl⟩ := sx_n li.1 ht
  have hn := li.le
  have hab : a ≠ b := fun q => he (by rw [q])
  rw [nI_cl (show a < 32 by omega), nI_cl (show b < 32 by omega), nb_at li.2.2 hn ha hb]
  by_cases hz : B ((32 * nI a + nI b).toNatClampNeg) = 0
  · rw [if_pos hz, if_pos hz, ix_n (by omega) (by omega), ix_n (by omega) (by omega)]
    dsimp only
    have hS : ∀ i k, k ≠ 5 → sp_addNeighbour (sp_addNeighbour S a (nI b)) b (nI a) i k = S i k := fun i k hk => by rw [add_off _ i hk, add_off _ i hk]
    have hbt : ∀ i j, j < 32 → bt (sp_addNeighbour (sp_addNeighbour S a (nI b)) b (nI a) i 5) j = ((bt (S i 5) j || decide (i = a ∧ j = b)) || decide (i = b ∧ j = a)) := fun i j hj => by rw [add_at _ (by omega) hj, add_at _ (by omega) hj]
    refine ⟨rfl, fun k hk => ?_, fun j k hk => (hS j k hk).symm, n, hg_up (by decide) li.1, ⟨fun i hi => ?_, fun i => ?_, ?_⟩, ⟨fun i j hi hj => ?_, fun i j hi hj h => ?_⟩⟩
    · by_cases h1 : k = 1
      · subst h1; rfl
      · simp [upd, hk, h1]
    · have h := li.2.1.1 i hi
      refine ⟨⟨?_, ?_, ?_, ?_, ?_⟩, ?_⟩
      · rw [hS i 0 (by decide)]; exact h.1.1
      · rw [hS i 1 (by decide)]; exact h.1.2.1
      · rw [hS i 6 (by decide)]; exact h.1.2.2.1
      · rw [hS i 7 (by decide)]; exact h.1.2.2.2.1
      · rw [hS i 11 (by decide)]; exact h.1.2.2.2.2
      · rw [hS i 8 (by decide), hS i 9 (by decide), hS i 10 (by decide)]; exact h.2
    · rw [hS i 12 (by decide)]
      exact li.2.1.2.1 i
    · show G 3 = _
      rw [li.2.1.2.2, cN_cg n 0 (fun j _ _ => hS j 8 (by decide))]
    · rw [hbt i j hj]
      by_cases h1 : i = b ∧ j = a
      · obtain ⟨rfl, rfl⟩ := h1
        rw [pk_us]
        simp [bi]
      · have h2 : 32 * i + j ≠ 32 * b + a := by omega
        rw [pk_un h2]
        by_cases h3 : i = a ∧ j = b
        · obtain ⟨rfl, rfl⟩ := h3
          rw [pk_us]
          simp [bi]
        · have h4 : 32 * i + j ≠ 32 * a + b := by omega
          rw [pk_un h4, li.2.2.1 i j hi hj, decide_eq_false h1, decide_eq_false h3, Bool.or_false, Bool.or_false]
    · have h2 : 32 * i + j ≠ 32 * b + a := by omega
      have h4 : 32 * i + j ≠ 32 * a + b := by omega
      rw [pk_un h2, pk_un h4]
      exact li.2.2.2 i j hi hj h
  · rw [if_neg hz, if_neg hz]
    exact hbad
end
