/-! PURE: what holds of a sector goes on to hold. -/
def sec_ok (f : Nat → Int32) : Prop := (rg (f 0) ∧ rg (f 1) ∧ rg (f 6) ∧ rg (f 7) ∧ rg (f 11)) ∧ mvx (f 8) (f 9) (f 10)
def one_ok (G : Nat → Int32) (S : Nat → Nat → Int32) (i : Nat) (a : (Nat → Int32) × (Nat → Nat → Int32)) : Prop := sec_ok (a.2 i) ∧ (∀ j, j ≠ i → a.2 j = S j) ∧ (∀ k, k ≤ 5 ∨ k = 12 → a.2 i k = S i k) ∧ (a.1 0 = G 0 ∧ a.1 1 = G 1 ∧ a.1 2 = G 2 ∧ a.1 5 = G 5) ∧ ((a.1 3 = G 3 ∧ a.2 i 8 = S i 8) ∨ (a.1 3 = G 3 - 1 ∧ a.2 i 8 = -1 ∧ ¬ S i 8 < 0))
theorem rg_m1 : rg (-1) := by unfold rg; decide
theorem rg_min {f c y : Int32} (hf : rg f) (hc : 0 ≤ c.toInt ∧ c.toInt ≤ 1000) (hy : rg y) : rg (sp_min (f + c) y) := by
  rw [mn_c]
  by_cases h : f + c ≤ y
  · rw [if_pos h]
    rw [Int32.le_iff_toInt_le, rg_add hf hc] at h
    have h1 := hf.1
    have h2 := hy.2
    exact ⟨by rw [rg_add hf hc]; omega, by rw [rg_add hf hc]; omega⟩
  · rw [if_neg h]
    exact hy
theorem rg_max {f c y : Int32} (hf : rg f) (hc : 0 ≤ c.toInt ∧ c.toInt ≤ 1000) (hy : rg y) : rg (sp_max (f - c) y) := by
  rw [mx_c]
  by_cases h : y ≤ f - c
  · rw [if_pos h]
    rw [Int32.le_iff_toInt_le, rg_sub hf hc] at h
    have h1 := hf.2
    have h2 := hy.1
    exact ⟨by rw [rg_sub hf hc]; omega, by rw [rg_sub hf hc]; omega⟩
  · rw [if_neg h]
    exact hy
section
variable {G : Nat → Int32} {S : Nat → Nat → Int32} {i : Nat} {q v t x2 x3 x4 : Int32}
abbrev m012 (m : Int32) : Prop := m = 0 ∨ m = 1 ∨ m = 2
theorem m012_n {m : Int32} (h : m012 m) : ¬ m < 0 := by rcases h with h | h | h <;> rw [h] <;> decide
theorem ol_S (ok : sec_ok (S i)) : one_ok G S i (G, S) := ⟨ok, fun _ _ => rfl, fun _ _ => rfl, ⟨rfl, rfl, rfl, rfl⟩, Or.inl ⟨rfl, rfl⟩⟩
theorem ol_blk (ok : sec_ok (S i)) : one_ok G S i (upd G 4 v, S) := ⟨ok, fun _ _ => rfl, fun _ _ => rfl, ⟨rfl, rfl, rfl, rfl⟩, Or.inl ⟨rfl, rfl⟩⟩
theorem ol_6 (ok : sec_ok (S i)) (hq : rg q) : one_ok G S i (G, up2 S i 6 q) := by
  obtain ⟨⟨r0, r1, r6, r7, r11⟩, m⟩ := ok
  exact ⟨⟨⟨by simpa [sp_finish, sp_dropMover, sp_go, sp_waitFor, up2, upd] using r0, by simpa [sp_finish, sp_dropMover, sp_go, sp_waitFor, up2, upd] using r1, by simpa [sp_finish, sp_dropMover, sp_go, sp_waitFor, up2, upd] using hq, by simpa [sp_finish, sp_dropMover, sp_go, sp_waitFor, up2, upd] using r7, by simpa [sp_finish, sp_dropMover, sp_go, sp_waitFor, up2, upd] using r11⟩, by simpa [sp_finish, sp_dropMover, sp_go, sp_waitFor, up2, upd] using m⟩, fun j hj => by simp [sp_finish, sp_dropMover, sp_go, sp_waitFor, up2, upd, hj], fun k hk => by (have h6 : ¬ k = 6 := (by omega); have h7 : ¬ k = 7 := (by omega); have h8 : ¬ k = 8 := (by omega); have h9 : ¬ k = 9 := (by omega); have h10 : ¬ k = 10 := (by omega); have h11 : ¬ k = 11 := (by omega); simp [sp_finish, sp_dropMover, sp_go, sp_waitFor, up2, upd, h6, h7, h8, h9, h10, h11]), ⟨rfl, rfl, rfl, rfl⟩, Or.inl ⟨rfl, by simp [sp_finish, sp_dropMover, sp_go, sp_waitFor, up2, upd]⟩⟩
theorem ol_7 (ok : sec_ok (S i)) (hq : rg q) : one_ok G S i (G, up2 S i 7 q) := by
  obtain ⟨⟨r0, r1, r6, r7, r11⟩, m⟩ := ok
  exact ⟨⟨⟨by simpa [sp_finish, sp_dropMover, sp_go, sp_waitFor, up2, upd] using r0, by simpa [sp_finish, sp_dropMover, sp_go, sp_waitFor, up2, upd] using r1, by simpa [sp_finish, sp_dropMover, sp_go, sp_waitFor, up2, upd] using r6, by simpa [sp_finish, sp_dropMover, sp_go, sp_waitFor, up2, upd] using hq, by simpa [sp_finish, sp_dropMover, sp_go, sp_waitFor, up2, upd] using r11⟩, by simpa [sp_finish, sp_dropMover, sp_go, sp_waitFor, up2, upd] using m⟩, fun j hj => by simp [sp_finish, sp_dropMover, sp_go, sp_waitFor, up2, upd, hj], fun k hk => by (have h6 : ¬ k = 6 := (by omega); have h7 : ¬ k = 7 := (by omega); have h8 : ¬ k = 8 := (by omega); have h9 : ¬ k = 9 := (by omega); have h10 : ¬ k = 10 := (by omega); have h11 : ¬ k = 11 := (by omega); simp [sp_finish, sp_dropMover, sp_go, sp_waitFor, up2, upd, h6, h7, h8, h9, h10, h11]), ⟨rfl, rfl, rfl, rfl⟩, Or.inl ⟨rfl, by simp [sp_finish, sp_dropMover, sp_go, sp_waitFor, up2, upd]⟩⟩
theorem ol_f6 (ok : sec_ok (S i)) (hq : rg q) (hm : m012 (S i 8)) : one_ok G S i ((sp_finish G (up2 S i 6 q) i).1, (sp_finish G (up2 S i 6 q) i).2) := by
  obtain ⟨⟨r0, r1, r6, r7, r11⟩, m⟩ := ok
  exact ⟨⟨⟨by simpa [sp_finish, sp_dropMover, sp_go, sp_waitFor, up2, upd] using r0, by simpa [sp_finish, sp_dropMover, sp_go, sp_waitFor, up2, upd] using r1, by simpa [sp_finish, sp_dropMover, sp_go, sp_waitFor, up2, upd] using hq, by simpa [sp_finish, sp_dropMover, sp_go, sp_waitFor, up2, upd] using r7, by simpa [sp_finish, sp_dropMover, sp_go, sp_waitFor, up2, upd] using rg_m1⟩, by simpa [sp_finish, sp_dropMover, sp_go, sp_waitFor, up2, upd] using (show mvx (-1) 0 0 from Or.inl ⟨rfl, rfl, rfl⟩)⟩, fun j hj => by simp [sp_finish, sp_dropMover, sp_go, sp_waitFor, up2, upd, hj], fun k hk => by (have h6 : ¬ k = 6 := (by omega); have h7 : ¬ k = 7 := (by omega); have h8 : ¬ k = 8 := (by omega); have h9 : ¬ k = 9 := (by omega); have h10 : ¬ k = 10 := (by omega); have h11 : ¬ k = 11 := (by omega); simp [sp_finish, sp_dropMover, sp_go, sp_waitFor, up2, upd, h6, h7, h8, h9, h10, h11]), ⟨rfl, rfl, rfl, rfl⟩, Or.inr ⟨rfl, by simp [sp_finish, sp_dropMover, sp_go, sp_waitFor, up2, upd], m012_n hm⟩⟩
theorem ol_f7 (ok : sec_ok (S i)) (hq : rg q) (hm : m012 (S i 8)) : one_ok G S i ((sp_finish G (up2 S i 7 q) i).1, (sp_finish G (up2 S i 7 q) i).2) := by
  obtain ⟨⟨r0, r1, r6, r7, r11⟩, m⟩ := ok
  exact ⟨⟨⟨by simpa [sp_finish, sp_dropMover, sp_go, sp_waitFor, up2, upd] using r0, by simpa [sp_finish, sp_dropMover, sp_go, sp_waitFor, up2, upd] using r1, by simpa [sp_finish, sp_dropMover, sp_go, sp_waitFor, up2, upd] using r6, by simpa [sp_finish, sp_dropMover, sp_go, sp_waitFor, up2, upd] using hq, by simpa [sp_finish, sp_dropMover, sp_go, sp_waitFor, up2, upd] using rg_m1⟩, by simpa [sp_finish, sp_dropMover, sp_go, sp_waitFor, up2, upd] using (show mvx (-1) 0 0 from Or.inl ⟨rfl, rfl, rfl⟩)⟩, fun j hj => by simp [sp_finish, sp_dropMover, sp_go, sp_waitFor, up2, upd, hj], fun k hk => by (have h6 : ¬ k = 6 := (by omega); have h7 : ¬ k = 7 := (by omega); have h8 : ¬ k = 8 := (by omega); have h9 : ¬ k = 9 := (by omega); have h10 : ¬ k = 10 := (by omega); have h11 : ¬ k = 11 := (by omega); simp [sp_finish, sp_dropMover, sp_go, sp_waitFor, up2, upd, h6, h7, h8, h9, h10, h11]), ⟨rfl, rfl, rfl, rfl⟩, Or.inr ⟨rfl, by simp [sp_finish, sp_dropMover, sp_go, sp_waitFor, up2, upd], m012_n hm⟩⟩
theorem ol_w6 (ok : sec_ok (S i)) (hq : rg q) (hm : m012 (S i 8)) (ht : 0 < t.toInt) : one_ok G S i (G, sp_waitFor (up2 S i 6 q) i t) := by
  obtain ⟨⟨r0, r1, r6, r7, r11⟩, m⟩ := ok
  exact ⟨⟨⟨by simpa [sp_finish, sp_dropMover, sp_go, sp_waitFor, up2, upd] using r0, by simpa [sp_finish, sp_dropMover, sp_go, sp_waitFor, up2, upd] using r1, by simpa [sp_finish, sp_dropMover, sp_go, sp_waitFor, up2, upd] using hq, by simpa [sp_finish, sp_dropMover, sp_go, sp_waitFor, up2, upd] using r7, by simpa [sp_finish, sp_dropMover, sp_go, sp_waitFor, up2, upd] using r11⟩, by simpa [sp_finish, sp_dropMover, sp_go, sp_waitFor, up2, upd] using (show mvx (S i 8) 0 t from Or.inr ⟨hm, Or.inr ⟨ht, rfl⟩⟩)⟩, fun j hj => by simp [sp_finish, sp_dropMover, sp_go, sp_waitFor, up2, upd, hj], fun k hk => by (have h6 : ¬ k = 6 := (by omega); have h7 : ¬ k = 7 := (by omega); have h8 : ¬ k = 8 := (by omega); have h9 : ¬ k = 9 := (by omega); have h10 : ¬ k = 10 := (by omega); have h11 : ¬ k = 11 := (by omega); simp [sp_finish, sp_dropMover, sp_go, sp_waitFor, up2, upd, h6, h7, h8, h9, h10, h11]), ⟨rfl, rfl, rfl, rfl⟩, Or.inl ⟨rfl, by simp [sp_finish, sp_dropMover, sp_go, sp_waitFor, up2, upd]⟩⟩
theorem ol_w7 (ok : sec_ok (S i)) (hq : rg q) (hm : m012 (S i 8)) (ht : 0 < t.toInt) : one_ok G S i (G, sp_waitFor (up2 S i 7 q) i t) := by
  obtain ⟨⟨r0, r1, r6, r7, r11⟩, m⟩ := ok
  exact ⟨⟨⟨by simpa [sp_finish, sp_dropMover, sp_go, sp_waitFor, up2, upd] using r0, by simpa [sp_finish, sp_dropMover, sp_go, sp_waitFor, up2, upd] using r1, by simpa [sp_finish, sp_dropMover, sp_go, sp_waitFor, up2, upd] using r6, by simpa [sp_finish, sp_dropMover, sp_go, sp_waitFor, up2, upd] using hq, by simpa [sp_finish, sp_dropMover, sp_go, sp_waitFor, up2, upd] using r11⟩, by simpa [sp_finish, sp_dropMover, sp_go, sp_waitFor, up2, upd] using (show mvx (S i 8) 0 t from Or.inr ⟨hm, Or.inr ⟨ht, rfl⟩⟩)⟩, fun j hj => by simp [sp_finish, sp_dropMover, sp_go, sp_waitFor, up2, upd, hj], fun k hk => by (have h6 : ¬ k = 6 := (by omega); have h7 : ¬ k = 7 := (by omega); have h8 : ¬ k = 8 := (by omega); have h9 : ¬ k = 9 := (by omega); have h10 : ¬ k = 10 := (by omega); have h11 : ¬ k = 11 := (by omega); simp [sp_finish, sp_dropMover, sp_go, sp_waitFor, up2, upd, h6, h7, h8, h9, h10, h11]), ⟨rfl, rfl, rfl, rfl⟩, Or.inl ⟨rfl, by simp [sp_finish, sp_dropMover, sp_go, sp_waitFor, up2, upd]⟩⟩
theorem ol_go (ok : sec_ok (S i)) (hm : m012 (S i 8)) : one_ok G S i (upd G 4 v, sp_go S i 1) := by
  obtain ⟨⟨r0, r1, r6, r7, r11⟩, m⟩ := ok
  exact ⟨⟨⟨by simpa [sp_finish, sp_dropMover, sp_go, sp_waitFor, up2, upd] using r0, by simpa [sp_finish, sp_dropMover, sp_go, sp_waitFor, up2, upd] using r1, by simpa [sp_finish, sp_dropMover, sp_go, sp_waitFor, up2, upd] using r6, by simpa [sp_finish, sp_dropMover, sp_go, sp_waitFor, up2, upd] using r7, by simpa [sp_finish, sp_dropMover, sp_go, sp_waitFor, up2, upd] using r11⟩, by simpa [sp_finish, sp_dropMover, sp_go, sp_waitFor, up2, upd] using (show mvx (S i 8) 1 0 from Or.inr ⟨hm, Or.inl ⟨rfl, Or.inl rfl⟩⟩)⟩, fun j hj => by simp [sp_finish, sp_dropMover, sp_go, sp_waitFor, up2, upd, hj], fun k hk => by (have h6 : ¬ k = 6 := (by omega); have h7 : ¬ k = 7 := (by omega); have h8 : ¬ k = 8 := (by omega); have h9 : ¬ k = 9 := (by omega); have h10 : ¬ k = 10 := (by omega); have h11 : ¬ k = 11 := (by omega); simp [sp_finish, sp_dropMover, sp_go, sp_waitFor, up2, upd, h6, h7, h8, h9, h10, h11]), ⟨rfl, rfl, rfl, rfl⟩, Or.inl ⟨rfl, by simp [sp_finish, sp_dropMover, sp_go, sp_waitFor, up2, upd]⟩⟩
theorem ol_ga (ok : sec_ok (S i)) (hm : m012 (S i 8)) : one_ok G S i (G, sp_go S i 1) := by
  obtain ⟨⟨r0, r1, r6, r7, r11⟩, m⟩ := ok
  exact ⟨⟨⟨by simpa [sp_finish, sp_dropMover, sp_go, sp_waitFor, up2, upd] using r0, by simpa [sp_finish, sp_dropMover, sp_go, sp_waitFor, up2, upd] using r1, by simpa [sp_finish, sp_dropMover, sp_go, sp_waitFor, up2, upd] using r6, by simpa [sp_finish, sp_dropMover, sp_go, sp_waitFor, up2, upd] using r7, by simpa [sp_finish, sp_dropMover, sp_go, sp_waitFor, up2, upd] using r11⟩, by simpa [sp_finish, sp_dropMover, sp_go, sp_waitFor, up2, upd] using (show mvx (S i 8) 1 0 from Or.inr ⟨hm, Or.inl ⟨rfl, Or.inl rfl⟩⟩)⟩, fun j hj => by simp [sp_finish, sp_dropMover, sp_go, sp_waitFor, up2, upd, hj], fun k hk => by (have h6 : ¬ k = 6 := (by omega); have h7 : ¬ k = 7 := (by omega); have h8 : ¬ k = 8 := (by omega); have h9 : ¬ k = 9 := (by omega); have h10 : ¬ k = 10 := (by omega); have h11 : ¬ k = 11 := (by omega); simp [sp_finish, sp_dropMover, sp_go, sp_waitFor, up2, upd, h6, h7, h8, h9, h10, h11]), ⟨rfl, rfl, rfl, rfl⟩, Or.inl ⟨rfl, by simp [sp_finish, sp_dropMover, sp_go, sp_waitFor, up2, upd]⟩⟩
theorem ol_d1 (ok : sec_ok (S i)) (hm : m012 (S i 8)) (ht : t = 0) : one_ok G S i (G, up2 (up2 S i 10 t) i 9 (-1)) := by
  obtain ⟨⟨r0, r1, r6, r7, r11⟩, m⟩ := ok
  exact ⟨⟨⟨by simpa [sp_finish, sp_dropMover, sp_go, sp_waitFor, up2, upd] using r0, by simpa [sp_finish, sp_dropMover, sp_go, sp_waitFor, up2, upd] using r1, by simpa [sp_finish, sp_dropMover, sp_go, sp_waitFor, up2, upd] using r6, by simpa [sp_finish, sp_dropMover, sp_go, sp_waitFor, up2, upd] using r7, by simpa [sp_finish, sp_dropMover, sp_go, sp_waitFor, up2, upd] using r11⟩, by simpa [sp_finish, sp_dropMover, sp_go, sp_waitFor, up2, upd] using (show mvx (S i 8) (-1) t from Or.inr ⟨hm, Or.inl ⟨ht, Or.inr rfl⟩⟩)⟩, fun j hj => by simp [sp_finish, sp_dropMover, sp_go, sp_waitFor, up2, upd, hj], fun k hk => by (have h6 : ¬ k = 6 := (by omega); have h7 : ¬ k = 7 := (by omega); have h8 : ¬ k = 8 := (by omega); have h9 : ¬ k = 9 := (by omega); have h10 : ¬ k = 10 := (by omega); have h11 : ¬ k = 11 := (by omega); simp [sp_finish, sp_dropMover, sp_go, sp_waitFor, up2, upd, h6, h7, h8, h9, h10, h11]), ⟨rfl, rfl, rfl, rfl⟩, Or.inl ⟨rfl, by simp [sp_finish, sp_dropMover, sp_go, sp_waitFor, up2, upd]⟩⟩
theorem ol_d2 (ok : sec_ok (S i)) (hm : m012 (S i 8)) (ht : t = 0) : one_ok G S i (G, up2 (up2 S i 10 t) i 9 1) := by
  obtain ⟨⟨r0, r1, r6, r7, r11⟩, m⟩ := ok
  exact ⟨⟨⟨by simpa [sp_finish, sp_dropMover, sp_go, sp_waitFor, up2, upd] using r0, by simpa [sp_finish, sp_dropMover, sp_go, sp_waitFor, up2, upd] using r1, by simpa [sp_finish, sp_dropMover, sp_go, sp_waitFor, up2, upd] using r6, by simpa [sp_finish, sp_dropMover, sp_go, sp_waitFor, up2, upd] using r7, by simpa [sp_finish, sp_dropMover, sp_go, sp_waitFor, up2, upd] using r11⟩, by simpa [sp_finish, sp_dropMover, sp_go, sp_waitFor, up2, upd] using (show mvx (S i 8) 1 t from Or.inr ⟨hm, Or.inl ⟨ht, Or.inl rfl⟩⟩)⟩, fun j hj => by simp [sp_finish, sp_dropMover, sp_go, sp_waitFor, up2, upd, hj], fun k hk => by (have h6 : ¬ k = 6 := (by omega); have h7 : ¬ k = 7 := (by omega); have h8 : ¬ k = 8 := (by omega); have h9 : ¬ k = 9 := (by omega); have h10 : ¬ k = 10 := (by omega); have h11 : ¬ k = 11 := (by omega); simp [sp_finish, sp_dropMover, sp_go, sp_waitFor, up2, upd, h6, h7, h8, h9, h10, h11]), ⟨rfl, rfl, rfl, rfl⟩, Or.inl ⟨rfl, by simp [sp_finish, sp_dropMover, sp_go, sp_waitFor, up2, upd]⟩⟩
theorem ol_d3 (ok : sec_ok (S i)) (hm : m012 (S i 8)) (ht : 0 < t.toInt) (hy : S i 9 = 0) : one_ok G S i (G, up2 S i 10 t) := by
  obtain ⟨⟨r0, r1, r6, r7, r11⟩, m⟩ := ok
  exact ⟨⟨⟨by simpa [sp_finish, sp_dropMover, sp_go, sp_waitFor, up2, upd] using r0, by simpa [sp_finish, sp_dropMover, sp_go, sp_waitFor, up2, upd] using r1, by simpa [sp_finish, sp_dropMover, sp_go, sp_waitFor, up2, upd] using r6, by simpa [sp_finish, sp_dropMover, sp_go, sp_waitFor, up2, upd] using r7, by simpa [sp_finish, sp_dropMover, sp_go, sp_waitFor, up2, upd] using r11⟩, by simpa [sp_finish, sp_dropMover, sp_go, sp_waitFor, up2, upd] using (show mvx (S i 8) (S i 9) t from Or.inr ⟨hm, Or.inr ⟨ht, hy⟩⟩)⟩, fun j hj => by simp [sp_finish, sp_dropMover, sp_go, sp_waitFor, up2, upd, hj], fun k hk => by (have h6 : ¬ k = 6 := (by omega); have h7 : ¬ k = 7 := (by omega); have h8 : ¬ k = 8 := (by omega); have h9 : ¬ k = 9 := (by omega); have h10 : ¬ k = 10 := (by omega); have h11 : ¬ k = 11 := (by omega); simp [sp_finish, sp_dropMover, sp_go, sp_waitFor, up2, upd, h6, h7, h8, h9, h10, h11]), ⟨rfl, rfl, rfl, rfl⟩, Or.inl ⟨rfl, by simp [sp_finish, sp_dropMover, sp_go, sp_waitFor, up2, upd]⟩⟩
theorem rise_ok (ok : sec_ok (S i)) (hm : m012 (S i 8)) (hx : 0 ≤ x2.toInt ∧ x2.toInt ≤ 1000) (h3 : rg x3) : one_ok G S i (sp_raiseFloor G S i x2 x3 x4) := by
  have hq := rg_min ok.1.2.2.1 hx h3
  have key : one_ok G S i (if (sp_min ((S i 6) + x2) x3) = x3 then ((sp_finish G (up2 S i 6 (sp_min ((S i 6) + x2) x3)) i).1, (sp_finish G (up2 S i 6 (sp_min ((S i 6) + x2) x3)) i).2) else (G, up2 S i 6 (sp_min ((S i 6) + x2) x3))) := by
    by_cases h : sp_min (S i 6 + x2) x3 = x3
    · rw [if_pos h]
      exact ol_f6 ok hq hm
    · rw [if_neg h]
      exact ol_6 ok hq
  unfold sp_raiseFloor
  by_cases h4 : x4 = 0
  · rw [if_pos h4]
    exact key
  · rw [if_neg h4]
    by_cases h5 : 56 ≤ S i 7 - sp_min (S i 6 + x2) x3
    · rw [if_pos h5]
      exact key
    · rw [if_neg h5]
      exact ol_blk ok
theorem close_ok (ok : sec_ok (S i)) (hm : m012 (S i 8)) : one_ok G S i (sp_closeDoor G S i x4) := by
  have hq : rg (sp_max (S i 7 - 8) (S i 6)) := rg_max ok.1.2.2.2.1 (by decide) ok.1.2.2.1
  have key : one_ok G S i (if (sp_max ((S i 7) - 8) (S i 6)) = ((up2 S i 7 (sp_max ((S i 7) - 8) (S i 6))) i 6) then ((sp_finish G (up2 S i 7 (sp_max ((S i 7) - 8) (S i 6))) i).1, (sp_finish G (up2 S i 7 (sp_max ((S i 7) - 8) (S i 6))) i).2) else (G, up2 S i 7 (sp_max ((S i 7) - 8) (S i 6)))) := by
    by_cases h : (sp_max ((S i 7) - 8) (S i 6)) = ((up2 S i 7 (sp_max ((S i 7) - 8) (S i 6))) i 6)
    · rw [if_pos h]
      exact ol_f7 ok hq hm
    · rw [if_neg h]
      exact ol_7 ok hq
  unfold sp_closeDoor
  by_cases h4 : x4 = 0
  · rw [if_pos h4]
    exact key
  · rw [if_neg h4]
    by_cases h5 : 56 ≤ sp_max (S i 7 - 8) (S i 6) - S i 6
    · rw [if_pos h5]
      exact key
    · rw [if_neg h5]
      exact ol_go ok hm
theorem door_ok (ok : sec_ok (S i)) (hm : m012 (S i 8)) : one_ok G S i (sp_moveDoor G S i x4) := by
  have hq : rg (sp_min (S i 7 + 8) (S i 11)) := rg_min ok.1.2.2.2.1 (by decide) ok.1.2.2.2.2
  unfold sp_moveDoor
  repeat' split
  · exact close_ok ok hm
  · exact ol_w7 ok hq hm (by decide)
  · exact ol_7 ok hq
theorem lift_ok (ok : sec_ok (S i)) (hm : m012 (S i 8)) (hh : rg (S i 12)) : one_ok G S i (sp_moveLift G S i x4) := by
  have hq : rg (sp_max (S i 6 - 4) (S i 11)) := rg_max ok.1.2.2.1 (by decide) ok.1.2.2.2.2
  unfold sp_moveLift
  repeat' split
  · exact rise_ok ok hm (by decide) hh
  · exact ol_w6 ok hq hm (by decide)
  · exact ol_6 ok hq
theorem wait_ok (ok : sec_ok (S i)) (hm : m012 (S i 8)) (ht : 0 < (S i 10).toInt) (hy : S i 9 = 0) : one_ok G S i (G, sp_waitOneTick S i) := by
  unfold sp_waitOneTick
  simp only [up2_kk]
  by_cases h1 : S i 10 - 1 = 0
  · simp only [if_pos h1]
    split
    · exact ol_d1 ok hm h1
    · exact ol_d2 ok hm h1
  · simp only [if_neg h1]
    refine ol_d3 ok hm ?_ hy
    rw [(t_dec ht).2]
    by_cases h2 : (S i 10).toInt < 2
    · exfalso
      apply h1
      apply Int32.toInt_inj.mp
      rw [(t_dec ht).2, show (0 : Int32).toInt = 0 from by decide]
      omega
    · omega
theorem move_ok (ok : sec_ok (S i)) (hh : rg (S i 12)) : one_ok G S i (sp_move G S i x4) := by
  unfold sp_move
  rcases id ok.2 with ⟨hm, hy, ht⟩ | ⟨hm, hw⟩
  · rw [if_pos hm]
    exact ol_S ok
  · have h1 : ¬ S i 8 = -1 := by rcases hm with h | h | h <;> rw [h] <;> decide
    rw [if_neg h1]
    rcases hw with ⟨ht, hy⟩ | ⟨ht, hy⟩
    · rw [if_pos (show S i 10 ≤ 0 by rw [ht]; decide)]
      repeat' split
      · exact door_ok ok hm
      · exact lift_ok ok hm hh
      · exact rise_ok ok hm (by decide) ok.1.2.2.2.2
    · have h3 : ¬ S i 10 ≤ 0 := by
        rw [Int32.le_iff_toInt_le, show (0 : Int32).toInt = 0 from by decide]
        omega
      rw [if_neg h3]
      exact wait_ok ok hm ht hy
end
/-- how many sectors have a mover -/
def cN (S : Nat → Nat → Int32) : Nat → Nat → Nat
  | 0, _ => 0
  | k + 1, i => (if S i 8 < 0 then 0 else 1) + cN S k (i + 1)
theorem many_c (S : Nat → Nat → Int32) : ∀ (k i : Nat) (x : Int32), sm_many_loop S k i x = x + nI (cN S k i) := by
  intro k
  induction k with
  | zero =>
    intro i x
    rw [sm_many_loop, cN, nI_0, Int32.add_zero]
  | succ k ih =>
    intro i x
    rw [sm_many_loop, cN]
    split
    · rw [ih, Int32.add_zero, Nat.zero_add]
    · rw [ih, ← nI_add, Int32.add_assoc]
      rfl
theorem many_n (S : Nat → Nat → Int32) (n : Nat) : sm_many S n = nI (cN S n 0) := by
  unfold sm_many
  rw [many_c, Int32.zero_add]
theorem cN_le (S : Nat → Nat → Int32) : ∀ k i, cN S k i ≤ k := by
  intro k
  induction k with
  | zero => intro i; exact Nat.le_refl 0
  | succ k ih =>
    intro i
    rw [cN]
    have := ih (i + 1)
    split <;> omega
theorem cN_cg {S S' : Nat → Nat → Int32} : ∀ k i, (∀ j, i ≤ j → j < i + k → S' j 8 = S j 8) → cN S' k i = cN S k i := by
  intro k
  induction k with
  | zero => intro i h; rfl
  | succ k ih =>
    intro i h
    rw [cN, cN, h i (by omega) (by omega), ih (i + 1) (fun j h1 h2 => h j (by omega) (by omega))]
theorem cN_up {S S' : Nat → Nat → Int32} {m : Nat} (hoff : ∀ j, j ≠ m → S' j 8 = S j 8) : ∀ k i, i ≤ m → m < i + k → cN S' k i + (if S m 8 < 0 then 0 else 1) = cN S k i + (if S' m 8 < 0 then 0 else 1) := by
  intro k
  induction k with
  | zero => intro i h1 h2; omega
  | succ k ih =>
    intro i h1 h2
    rw [cN, cN]
    by_cases h : i = m
    · subst h
      rw [cN_cg k (i + 1) (fun j h3 h4 => hoff j (by omega))]
      omega
    · rw [hoff i h]
      have := ih (i + 1) (by omega) (by omega)
      omega
theorem cN_0 {S : Nat → Nat → Int32} : ∀ k i, cN S k i = 0 → ∀ j, i ≤ j → j < i + k → S j 8 < 0 := by
  intro k
  induction k with
  | zero => intro i h j h1 h2; omega
  | succ k ih =>
    intro i h j h1 h2
    rw [cN] at h
    by_cases hj : j = i
    · subst hj
      by_cases h3 : S j 8 < 0
      · exact h3
      · rw [if_neg h3] at h
        omega
    · exact ih (i + 1) (by omega) j (by omega) (by omega)
