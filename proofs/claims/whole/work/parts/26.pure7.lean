/-! PURE: every call: the same answer, and what holds goes on to hold. -/
def LI (G : Nat → Int32) (S : Nat → Nat → Int32) (B : Nat → Int32) (n : Nat) : Prop := hg_n G n ∧ Iv G S n ∧ Nb S B n
/-- two answers, two states behind them: the same -/
def LR (ra : Int32) (Ga : Nat → Int32) (Sa : Nat → Nat → Int32) (rb : Int32) (Gb : Nat → Int32) (Sb : Nat → Nat → Int32) (Bb : Nat → Int32) : Prop := ra = rb ∧ (∀ k, k ≠ 3 → Gb k = Ga k) ∧ (∀ j k, k ≠ 5 → Sb j k = Sa j k) ∧ ∃ n, LI Ga Sa Bb n
section
variable {G : Nat → Int32} {S : Nat → Nat → Int32} {B : Nat → Int32} {n : Nat} {τ x1 x2 : Int32}
theorem LR.of {ra rb : Int32} {a b : (Nat → Int32) × (Nat → Nat → Int32)} (hr : ra = rb) (he : eqp τ a b) (li : LI a.1 a.2 B n) : LR ra a.1 a.2 rb b.1 b.2 B := by
  refine ⟨hr, fun k hk => ?_, fun j k _ => by rw [he.2], n, li⟩
  rw [he.1]
  simp [upd, hk]
theorem LR.same {r : Int32} (li : LI G S B n) : LR r G S r (upd (upd G 3 τ) 3 0) S B := by
  refine ⟨rfl, fun k hk => ?_, fun _ _ _ => rfl, n, li⟩
  simp [upd, hk]
theorem LI.le (li : LI G S B n) : n ≤ 32 := li.1.1
theorem begin_li (li : LI G S B n) : LI (sp_begin G S n x1 x2).2.1 (sp_begin G S n x1 x2).2.2 B n := by
  have h := begin_eq (τ := 0) li.le li.1 li.2.1 li.2.2 x1 x2
  exact ⟨sp_begin_n li.1, h.2.1, li.2.2.cg (fun j => h.2.2 j 5 (by omega))⟩
theorem L_begin (li : LI G S B n) : LR (sp_begin G S n x1 x2).1 (sp_begin G S n x1 x2).2.1 (sp_begin G S n x1 x2).2.2 (sm_begin (upd G 3 τ) S B n x1 x2).1 (sm_begin (upd G 3 τ) S B n x1 x2).2.1 (sm_begin (upd G 3 τ) S B n x1 x2).2.2 B := by
  have h := begin_eq (τ := τ) li.le li.1 li.2.1 li.2.2 x1 x2
  exact LR.of h.1.1.symm h.1.2 (begin_li li)
theorem tag_loop : ∀ (k i : Nat) (x : Int32) (G : Nat → Int32) (S : Nat → Nat → Int32), i + k = n → LI G S B n → ((sm_tag_loop B n x1 x2 k i x (upd G 3 0) S).1 = (sp_tag_loop n x1 x2 k i x G S).1 ∧ eqp 0 (sp_tag_loop n x1 x2 k i x G S).2 (sm_tag_loop B n x1 x2 k i x (upd G 3 0) S).2) ∧ LI (sp_tag_loop n x1 x2 k i x G S).2.1 (sp_tag_loop n x1 x2 k i x G S).2.2 B n := by
  intro k
  induction k with
  | zero =>
    intro i x G S hik li
    exact ⟨⟨rfl, lf_id⟩, li⟩
  | succ k ih =>
    intro i x G S hik li
    rw [sm_tag_loop, sp_tag_loop, Int32.add_zero]
    by_cases h4 : S i 4 = x1
    · rw [if_pos h4, if_pos h4]
      have h := begin_eq (τ := 0) li.le li.1 li.2.1 li.2.2 (nI i) x2
      have hl := begin_li (x1 := nI i) (x2 := x2) li
      rw [h.1.1, h.1.2.1, h.1.2.2]
      by_cases h5 : (sp_begin G S n (nI i) x2).1 = 0
      · rw [if_pos h5, if_pos h5]
        exact ih (i + 1) x _ _ (by omega) hl
      · rw [if_neg h5, if_neg h5]
        exact ih (i + 1) (x + 1) _ _ (by omega) hl
    · rw [if_neg h4, if_neg h4]
      exact ih (i + 1) x _ _ (by omega) li
theorem L_tag (li : LI G S B n) : LR (sp_tag G S n x1 x2).1 (sp_tag G S n x1 x2).2.1 (sp_tag G S n x1 x2).2.2 (sm_tag (upd G 3 τ) S B n x1 x2).1 (sm_tag (upd G 3 τ) S B n x1 x2).2.1 (sm_tag (upd G 3 τ) S B n x1 x2).2.2 B := by
  unfold sp_tag sm_tag
  rw [show sp_isMover x2 = if x2 < 0 then 0 else (if 2 < x2 then 0 else 1) from rfl, show sp_isWithin x1 0 255 = if x1 < 0 then 0 else (if 255 < x1 then 0 else 1) from rfl]
  by_cases h1 : x1 < 0
  · rw [if_pos h1, if_pos h1, if_pos rfl]
    exact LR.same li
  · rw [if_neg h1, if_neg h1]
    by_cases h2 : 255 < x1
    · rw [if_pos h2, if_pos h2, if_pos rfl]
      exact LR.same li
    · rw [if_neg h2, if_neg h2, if_neg (show ¬ (1 : Int32) = 0 by decide)]
      by_cases h3 : x2 < 0
      · rw [if_pos h3, if_pos h3, if_pos rfl]
        exact LR.same li
      · rw [if_neg h3, if_neg h3]
        by_cases h4 : x2 ≤ 2
        · rw [if_pos h4, if_neg (Int32.not_lt.mpr h4), if_neg (show ¬ (1 : Int32) = 0 by decide), upd_uu]
          have h := tag_loop (x1 := x1) (x2 := x2) n 0 0 G S (by omega) li
          exact LR.of h.1.1.symm h.1.2 h.2
        · rw [if_neg h4, if_pos (Int32.not_le.mp h4), if_pos rfl]
          exact LR.same li
theorem L_ticks (li : LI G S B n) : LR (sp_ticks G S n x1).1 (sp_ticks G S n x1).2.1 (sp_ticks G S n x1).2.2 (sm_ticks (upd G 3 τ) S n x1).1 (sm_ticks (upd G 3 τ) S n x1).2.1 (sm_ticks (upd G 3 τ) S n x1).2.2 B := by
  unfold sp_ticks sm_ticks
  rw [show sp_isWithin x1 0 1000 = if x1 < 0 then 0 else (if 1000 < x1 then 0 else 1) from rfl]
  by_cases h1 : x1 < 0
  · rw [if_pos h1, if_pos h1, if_pos rfl]
    exact LR.same li
  · rw [if_neg h1, if_neg h1]
    by_cases h4 : x1 ≤ 1000
    · rw [if_pos h4, if_neg (Int32.not_lt.mpr h4), if_neg (show ¬ (1 : Int32) = 0 by decide), upd_uu]
      have h := ticks_loop (τ := 0) li.le x1.toNatClampNeg 0 G S li.2.1
      exact LR.of h.1.1.symm h.1.2 ⟨⟨li.1.1, by rw [h.2.2.2.1]; exact li.1.2⟩, h.2.1, li.2.2.cg (fun j => h.2.2.1 j 5 (Or.inl (by omega)))⟩
    · rw [if_neg h4, if_pos (Int32.not_le.mp h4), if_pos rfl]
      exact LR.same li
theorem L_enter (li : LI G S B n) : LR (sp_enter G S x1).1 (sp_enter G S x1).2.1 (sp_enter G S x1).2.2 (sm_enter (upd G 3 τ) x1).1 (sm_enter (upd G 3 τ) x1).2 S B := by
  unfold sp_enter sm_enter
  rw [upd_uu, show sm_isSector (upd G 3 0) x1 = sp_isSector G x1 from rfl]
  have h5 : LI (upd G 5 x1) S B n := ⟨hg_up (by decide) li.1, li.2.1, li.2.2⟩
  have key : LR 1 (upd G 5 x1) S 1 (upd (upd G 3 0) 5 x1) S B := by
    refine ⟨rfl, fun k hk => ?_, fun _ _ _ => rfl, n, h5⟩
    by_cases h : k = 5
    · subst h
      simp [upd]
    · simp [upd, h, hk]
  have key0 : LR 0 G S 0 (upd G 3 0) S B := ⟨rfl, fun k hk => by simp [upd, hk], fun _ _ _ => rfl, n, li⟩
  by_cases h1 : x1 = -1
  · rw [if_pos h1, if_pos h1]
    exact key
  · rw [if_neg h1, if_neg h1]
    by_cases h2 : sp_isSector G x1 = 0
    · rw [if_pos h2, if_pos h2]
      exact key0
    · rw [if_neg h2, if_neg h2]
      exact key
theorem LR.q {r r' : Int32} (li : LI G S B n) (h : r = r') : LR r G S r' (upd G 3 0) S B := ⟨h, fun k hk => by simp [upd, hk], fun _ _ _ => rfl, n, li⟩
theorem many_g (li : LI G S B n) : sm_many S n = G 3 := by rw [many_n, li.2.1.2.2]
theorem L_look (li : LI G S B n) : LR (sp_look G x1) G S (sm_look (upd G 3 τ) S n x1).1 (sm_look (upd G 3 τ) S n x1).2 S B := by
  unfold sp_look sm_look
  rw [upd_uu, many_g li]
  by_cases h0 : x1 = 0
  · rw [if_pos h0, if_pos h0]
    exact LR.q li rfl
  · rw [if_neg h0, if_neg h0]
    by_cases h1 : x1 = 1
    · rw [if_pos h1, if_pos h1]
      exact LR.q li rfl
    · rw [if_neg h1, if_neg h1]
      by_cases h2 : x1 = 2
      · rw [if_pos h2, if_pos h2]
        exact LR.q li rfl
      · rw [if_neg h2, if_neg h2]
        by_cases h3 : x1 = 3
        · rw [if_pos h3, if_pos h3]
          exact LR.q li rfl
        · rw [if_neg h3, if_neg h3]
          by_cases h4 : x1 = 4
          · rw [if_pos h4, if_pos h4]
            exact LR.q li rfl
          · rw [if_neg h4, if_neg h4]
            by_cases h5 : x1 = 5
            · rw [if_pos h5, if_pos h5]
              exact LR.q li rfl
            · rw [if_neg h5, if_neg h5]
              exact LR.q li rfl
theorem light_eq (li : LI G S B n) {i : Nat} (hi : i < 32) : sp_lightNow G S i = sm_lightOf (upd G 3 0) S n (nI i) := by
  unfold sp_lightNow sm_lightOf
  rw [nI_cl hi, many_g li, show (upd G 3 0) 2 = G 2 from rfl]
  by_cases h1 : S i 3 = 1
  · rw [if_pos h1, if_pos h1]
  · rw [if_neg h1, if_neg h1]
    by_cases h2 : S i 3 = 2
    · rw [if_pos h2, if_pos h2]
    · rw [if_neg h2, if_neg h2]
      by_cases h3 : S i 3 = 3
      · rw [if_pos h3, if_pos h3, mx_d]
      · rw [if_neg h3, if_neg h3]
theorem L_of (li : LI G S B n) : LR (sp_of G S n x1 x2) G S (sm_of (upd G 3 τ) S B n x1 x2).1 (sm_of (upd G 3 τ) S B n x1 x2).2 S B := by
  unfold sp_of sm_of
  rw [upd_uu, show sm_isSector (upd G 3 0) x1 = sp_isSector G x1 from rfl]
  by_cases hs : sp_isSector G x1 = 0
  · rw [if_pos hs, if_pos hs]
    exact LR.q li rfl
  · rw [if_neg hs, if_neg hs]
    obtain ⟨i, hi, rfl⟩ := sx_n li.1 hs
    have hn := li.le
    rw [nI_cl (show i < 32 by omega), light_eq li (show i < 32 by omega), lowF_eq li.2.2 hn hi, highF_eq li.2.2 hn hi, (lowC_eq li.2.2 hn hi (fun j hj => (li.2.1.1 j hj).1.2.2.2.1)).1]
    repeat' split
    all_goals exact LR.q li rfl
theorem are_eq (li : LI G S B n) : sp_are G S x1 x2 = (sm_are (upd G 3 τ) B x1 x2).1 ∧ (sm_are (upd G 3 τ) B x1 x2).2 = upd G 3 0 := by
  unfold sp_are sm_are
  rw [upd_uu, show sm_isSector (upd G 3 0) x1 = sp_isSector G x1 from rfl, show sm_isSector (upd G 3 0) x2 = sp_isSector G x2 from rfl]
  by_cases hs : sp_isSector G x1 = 0
  · rw [if_pos hs, if_pos hs]
    exact ⟨rfl, rfl⟩
  · rw [if_neg hs, if_neg hs]
    by_cases ht : sp_isSector G x2 = 0
    · rw [if_pos ht, if_pos ht]
      exact ⟨rfl, rfl⟩
    · rw [if_neg ht, if_neg ht]
      obtain ⟨i, hi, rfl⟩ := sx_n li.1 hs
      obtain ⟨j, hj, rfl⟩ := sx_n li.1 ht
      have hn := li.le
      rw [nI_cl (show i < 32 by omega), nb_at li.2.2 hn hi hj]
      split
      · exact ⟨rfl, rfl⟩
      · exact ⟨rfl, rfl⟩
theorem L_are (li : LI G S B n) : LR (sp_are G S x1 x2) G S (sm_are (upd G 3 τ) B x1 x2).1 (sm_are (upd G 3 τ) B x1 x2).2 S B := by
  have h := are_eq (τ := τ) (x1 := x1) (x2 := x2) li
  rw [h.2]
  exact LR.q li h.1
theorem L_opn (li : LI G S B n) : LR (sp_open G S x1 x2) G S (sm_open (upd G 3 τ) S B x1 x2).1 (sm_open (upd G 3 τ) S B x1 x2).2 S B := by
  have h := are_eq (τ := τ) (x1 := x1) (x2 := x2) li
  unfold sp_open sm_open
  rw [h.2, ← h.1]
  by_cases h0 : sp_are G S x1 x2 = 0
  · rw [if_pos h0, if_pos h0]
    exact LR.q li rfl
  · rw [if_neg h0, if_neg h0, mn_d, mx_d]
    by_cases h1 : S x2.toNatClampNeg 7 ≤ S x1.toNatClampNeg 7
    · rw [if_pos h1, if_pos h1]
      by_cases h2 : S x1.toNatClampNeg 6 ≤ S x2.toNatClampNeg 6
      · rw [if_pos h2, if_pos h2]
        repeat' split
        all_goals exact LR.q li rfl
      · rw [if_neg h2, if_neg h2]
        repeat' split
        all_goals exact LR.q li rfl
    · rw [if_neg h1, if_neg h1]
      by_cases h2 : S x1.toNatClampNeg 6 ≤ S x2.toNatClampNeg 6
      · rw [if_pos h2, if_pos h2]
        repeat' split
        all_goals exact LR.q li rfl
      · rw [if_neg h2, if_neg h2]
        repeat' split
        all_goals exact LR.q li rfl
end
