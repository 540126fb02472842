/-! PURE: ticks. -/
def Iv (G : Nat → Int32) (S : Nat → Nat → Int32) (n : Nat) : Prop := (∀ i, i < n → sec_ok (S i)) ∧ (∀ i, rg (S i 12)) ∧ G 3 = nI (cN S n 0)
/-- what movers leave as it is -/
def kp (G : Nat → Int32) (S : Nat → Nat → Int32) (a : (Nat → Int32) × (Nat → Nat → Int32)) : Prop := (∀ j k, k ≤ 5 ∨ k = 12 → a.2 j k = S j k) ∧ a.1 0 = G 0 ∧ a.1 1 = G 1 ∧ a.1 5 = G 5
theorem kp.tr {G : Nat → Int32} {S : Nat → Nat → Int32} {a b : (Nat → Int32) × (Nat → Nat → Int32)} (h1 : kp G S a) (h2 : kp a.1 a.2 b) : kp G S b := ⟨fun j k hk => (h2.1 j k hk).trans (h1.1 j k hk), h2.2.1.trans h1.2.1, h2.2.2.1.trans h1.2.2.1, h2.2.2.2.trans h1.2.2.2⟩
theorem one_kp {G : Nat → Int32} {S : Nat → Nat → Int32} {i : Nat} {a : (Nat → Int32) × (Nat → Nat → Int32)} (ok : one_ok G S i a) : kp G S a := by
  obtain ⟨h1, h2, h3, ⟨g0, g1, g2, g5⟩, h5⟩ := ok
  refine ⟨fun j k hk => ?_, g0, g1, g5⟩
  by_cases h : j = i
  · subst h
    exact h3 k hk
  · rw [h2 j h]
theorem one_iv {G : Nat → Int32} {S : Nat → Nat → Int32} {i n : Nat} {a : (Nat → Int32) × (Nat → Nat → Int32)} (iv : Iv G S n) (hi : i < n) (ok : one_ok G S i a) : Iv a.1 a.2 n := by
  have hk := one_kp ok
  obtain ⟨h1, h2, h3, -, h5⟩ := ok
  refine ⟨fun j hj => ?_, fun j => ?_, ?_⟩
  · by_cases h : j = i
    · subst h
      exact h1
    · rw [h2 j h]
      exact iv.1 j hj
  · rw [hk.1 j 12 (Or.inr rfl)]
    exact iv.2.1 j
  · rcases h5 with ⟨g3, h8⟩ | ⟨g3, h8, hm⟩
    · rw [g3, iv.2.2, cN_cg (S := S) (S' := a.2) n 0 (fun j _ _ => ?_)]
      by_cases h : j = i
      · subst h
        exact h8
      · rw [h2 j h]
    · have h := cN_up (S := S) (S' := a.2) (m := i) (fun j hj => by rw [h2 j hj]) n 0 (Nat.zero_le _) (by omega)
      rw [h8, if_neg hm, if_pos (show (-1 : Int32) < 0 by decide), Nat.add_zero] at h
      have h' : cN S n 0 = cN a.2 n 0 + 1 := by omega
      rw [g3, iv.2.2, h', nI_pred]
theorem tick_loop {n : Nat} {τ : Int32} (hn : n ≤ 32) : ∀ (k i : Nat) (G : Nat → Int32) (S : Nat → Nat → Int32), i + k = n → Iv G S n → eqp τ (sp_passOneTick_loop k i G S) (sm_ticks_inner k i (upd G 3 τ) S) ∧ Iv (sp_passOneTick_loop k i G S).1 (sp_passOneTick_loop k i G S).2 n ∧ kp G S (sp_passOneTick_loop k i G S) := by
  intro k
  induction k with
  | zero =>
    intro i G S hik iv
    exact ⟨lf_id, iv, fun _ _ _ => rfl, rfl, rfl, rfl⟩
  | succ k ih =>
    intro i G S hik iv
    have hi : i < n := by omega
    have step : ∀ x4 : Int32, gst G i x4 → eqp τ (sp_passOneTick_loop k (i + 1) ((sp_move G S i x4).1) ((sp_move G S i x4).2)) (sm_ticks_inner (k + 1) i (upd G 3 τ) S) ∧ Iv (sp_passOneTick_loop k (i + 1) ((sp_move G S i x4).1) ((sp_move G S i x4).2)).1 (sp_passOneTick_loop k (i + 1) ((sp_move G S i x4).1) ((sp_move G S i x4).2)).2 n ∧ kp G S (sp_passOneTick_loop k (i + 1) ((sp_move G S i x4).1) ((sp_move G S i x4).2)) := by
      intro x4 hg
      have ok := move_ok (G := G) (x4 := x4) (iv.1 i hi) (iv.2.1 i)
      have e := one_eq (τ := τ) (G := G) (S := S) (x4 := x4) (show i < 32 by omega) (iv.1 i hi).2 hg
      have h := ih (i + 1) (sp_move G S i x4).1 (sp_move G S i x4).2 (by omega) (one_iv iv hi ok)
      rw [inner_one, e.1, e.2]
      exact ⟨h.1, h.2.1, (one_kp ok).tr h.2.2⟩
    rw [sp_passOneTick_loop]
    by_cases hg : nI i = G 5
    · rw [if_pos hg]
      exact step 1 (Or.inr ⟨rfl, hg.symm⟩)
    · rw [if_neg hg]
      exact step 0 (Or.inl ⟨rfl, fun q => hg q.symm⟩)
theorem inner_id : ∀ (k i : Nat) (G : Nat → Int32) (S : Nat → Nat → Int32), (∀ j, i ≤ j → j < i + k → S j 8 < 0) → sm_ticks_inner k i G S = (G, S) := by
  intro k
  induction k with
  | zero => intro i G S h; rfl
  | succ k ih =>
    intro i G S h
    rw [sm_ticks_inner, if_pos (h i (by omega) (by omega))]
    exact ih (i + 1) G S (fun j h1 h2 => h j (by omega) (by omega))
theorem tick_eq {n : Nat} {τ : Int32} {G : Nat → Int32} {S : Nat → Nat → Int32} (hn : n ≤ 32) (iv : Iv G S n) : eqp τ (sp_passOneTick G S n) (sm_ticks_inner n 0 (upd (upd G 3 τ) 2 ((upd G 3 τ) 2 + 1)) S) ∧ Iv (sp_passOneTick G S n).1 (sp_passOneTick G S n).2 n ∧ kp G S (sp_passOneTick G S n) := by
  have iv1 : Iv (upd G 2 (G 2 + 1)) S n := iv
  have e : upd (upd G 3 τ) 2 ((upd G 3 τ) 2 + 1) = upd (upd G 2 (G 2 + 1)) 3 τ := by rw [upd_cc (by decide)]; rfl
  have hk : kp G S (upd G 2 (G 2 + 1), S) := ⟨fun _ _ _ => rfl, rfl, rfl, rfl⟩
  rw [e]
  unfold sp_passOneTick
  by_cases h : (upd G 2 (G 2 + 1)) 3 = 0
  · rw [if_pos h]
    have h1 : nI (cN S n 0) = 0 := by rw [← iv.2.2]; exact h
    have h2 : cN S n 0 = 0 := by
      have hc := cN_le S n 0
      exact (nI_eq (by omega) (by omega)).mp (h1.trans nI_0.symm)
    rw [inner_id n 0 _ S (cN_0 n 0 h2)]
    exact ⟨lf_id, iv1, hk⟩
  · rw [if_neg h]
    have h3 := tick_loop (τ := τ) hn n 0 (upd G 2 (G 2 + 1)) S (by omega) iv1
    exact ⟨h3.1, h3.2.1, hk.tr h3.2.2⟩
theorem ticks_loop {n : Nat} {τ : Int32} (hn : n ≤ 32) : ∀ (k i : Nat) (G : Nat → Int32) (S : Nat → Nat → Int32), Iv G S n → ((sm_ticks_loop n k i (upd G 3 τ) S).1 = (sp_ticks_loop n k i G S).1 ∧ eqp τ (sp_ticks_loop n k i G S).2 (sm_ticks_loop n k i (upd G 3 τ) S).2) ∧ Iv (sp_ticks_loop n k i G S).2.1 (sp_ticks_loop n k i G S).2.2 n ∧ kp G S (sp_ticks_loop n k i G S).2 := by
  intro k
  induction k with
  | zero =>
    intro i G S iv
    exact ⟨⟨rfl, lf_id⟩, iv, fun _ _ _ => rfl, rfl, rfl, rfl⟩
  | succ k ih =>
    intro i G S iv
    have e := tick_eq (τ := τ) hn iv
    have h := ih (i + 1) (sp_passOneTick G S n).1 (sp_passOneTick G S n).2 e.2.1
    rw [sm_ticks_loop, sp_ticks_loop, e.1.1, e.1.2]
    exact ⟨h.1, h.2.1, e.2.2.tr h.2.2⟩
