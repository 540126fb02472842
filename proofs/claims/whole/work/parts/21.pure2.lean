/-! PURE: one step of one sector. -/
/-- the hall's pair a, the reference's pair b: the same, but for the place where the one keeps its movers and the other its 'thrown' -/
def eqp (τ : Int32) (a b : (Nat → Int32) × (Nat → Nat → Int32)) : Prop := b.1 = upd a.1 3 τ ∧ b.2 = a.2
section
variable {G : Nat → Int32} {S S1 : Nat → Nat → Int32} {i : Nat} {τ x2 x3 x4 : Int32}
theorem lf_id : eqp τ (G, S1) (upd G 3 τ, S1) := ⟨rfl, rfl⟩
theorem lf_fin (hi : i < 32) (hw : S1 i 10 = 0) : eqp τ ((sp_finish G S1 i).1, (sp_finish G S1 i).2) (upd G 3 τ, sm_end S1 (nI i)) := ⟨(upd_uu).symm, end_eq hi hw⟩
theorem lf_blk : eqp τ (upd G 4 (G 4 + 1), S1) (upd (upd G 3 τ) 4 ((upd G 3 τ) 4 + 1), S1) := ⟨by rw [upd_cc (by decide)]; rfl, rfl⟩
/-- is the guest in it: told by a number, or by a place -/
def gst (G : Nat → Int32) (i : Nat) (x4 : Int32) : Prop := (x4 = 0 ∧ ¬ G 5 = nI i) ∨ (x4 = 1 ∧ G 5 = nI i)
theorem rise_eq (hi : i < 32) (hw : S i 10 = 0) (hg : gst G i x4) : eqp τ (sp_raiseFloor G S i x2 x3 x4) (sm_rise (upd G 3 τ) S (nI i) x2 x3) := by
  unfold sp_raiseFloor sm_rise
  rw [nI_cl hi, mn_c]
  by_cases h1 : S i 6 + x2 ≤ x3
  · rcases hg with ⟨rfl, hg⟩ | ⟨rfl, hg⟩
    · simp only [if_pos h1, if_pos (rfl : (0 : Int32) = 0), if_neg (show ¬ (upd G 3 τ) 5 = nI i from hg)]
      by_cases h2 : S i 6 + x2 = x3
      · simp only [if_pos h2]
        exact lf_fin hi (by rw [up2_kq (by decide), hw])
      · simp only [if_neg h2]
        exact lf_id
    · simp only [if_pos h1, if_neg (show ¬ (1 : Int32) = 0 by decide), if_pos (show (upd G 3 τ) 5 = nI i from hg)]
      by_cases h3 : 56 ≤ S i 7 - (S i 6 + x2)
      · simp only [if_pos h3]
        by_cases h2 : S i 6 + x2 = x3
        · simp only [if_pos h2]
          exact lf_fin hi (by rw [up2_kq (by decide), hw])
        · simp only [if_neg h2]
          exact lf_id
      · simp only [if_neg h3]
        exact lf_blk
  · rcases hg with ⟨rfl, hg⟩ | ⟨rfl, hg⟩
    · simp only [if_neg h1, if_pos (rfl : (0 : Int32) = 0), if_neg (show ¬ (upd G 3 τ) 5 = nI i from hg)]
      repeat rw [if_pos trivial]
      exact lf_fin hi (by rw [up2_kq (by decide), hw])
    · simp only [if_neg h1, if_neg (show ¬ (1 : Int32) = 0 by decide), if_pos (show (upd G 3 τ) 5 = nI i from hg)]
      by_cases h3 : 56 ≤ S i 7 - x3
      · simp only [if_pos h3]
        repeat rw [if_pos trivial]
        exact lf_fin hi (by rw [up2_kq (by decide), hw])
      · simp only [if_neg h3]
        exact lf_blk
theorem go_eq (hw : S i 10 = 0) : sp_go S i 1 = up2 S i 9 1 := by
  unfold sp_go
  exact up2_id (by rw [up2_kq (by decide), hw])
theorem door_eq (hi : i < 32) (hw : S i 10 = 0) (hy : S i 9 = 1 ∨ S i 9 = -1) (hg : gst G i x4) : eqp τ (sp_moveDoor G S i x4) (sm_stepDoor (upd G 3 τ) S (nI i)) := by
  unfold sp_moveDoor sm_stepDoor
  rw [nI_cl hi]
  rcases hy with hy | hy
  · simp only [hy, if_neg (show ¬ (1 : Int32) = -1 by decide), if_neg (show ¬ (1 : Int32) ≤ 0 by decide), p8, mn_c, up2_kk, up2_kq (show 11 ≠ 7 by decide), await_eq hi]
    by_cases h1 : S i 7 + 8 ≤ S i 11
    · simp only [if_pos h1]
      by_cases h2 : S i 7 + 8 = S i 11
      · simp only [if_pos h2]
        exact lf_id
      · simp only [if_neg h2]
        exact lf_id
    · simp only [if_neg h1]
      exact lf_id
  · simp only [hy, if_pos (show (-1 : Int32) = -1 from rfl), if_pos (show (-1 : Int32) ≤ 0 by decide), m8]
    unfold sp_closeDoor
    simp only [mx_c, up2_kq (show 6 ≠ 7 by decide)]
    by_cases h1 : S i 6 ≤ S i 7 - 8
    · rcases hg with ⟨rfl, hg⟩ | ⟨rfl, hg⟩
      · simp only [if_pos h1, if_pos (rfl : (0 : Int32) = 0), if_neg (show ¬ (upd G 3 τ) 5 = nI i from hg)]
        by_cases h2 : S i 7 - 8 = S i 6
        · simp only [if_pos h2]
          exact lf_fin hi (by rw [up2_kq (by decide), hw])
        · simp only [if_neg h2]
          exact lf_id
      · simp only [if_pos h1, if_neg (show ¬ (1 : Int32) = 0 by decide), if_pos (show (upd G 3 τ) 5 = nI i from hg)]
        by_cases h3 : 56 ≤ S i 7 - 8 - S i 6
        · simp only [if_pos h3]
          by_cases h2 : S i 7 - 8 = S i 6
          · simp only [if_pos h2]
            exact lf_fin hi (by rw [up2_kq (by decide), hw])
          · simp only [if_neg h2]
            exact lf_id
        · simp only [if_neg h3, go_eq hw]
          exact lf_blk
    · rcases hg with ⟨rfl, hg⟩ | ⟨rfl, hg⟩
      · simp only [if_neg h1, if_pos (rfl : (0 : Int32) = 0), if_neg (show ¬ (upd G 3 τ) 5 = nI i from hg)]
        exact lf_fin hi (by rw [up2_kq (by decide), hw])
      · simp only [if_neg h1, if_neg (show ¬ (1 : Int32) = 0 by decide), if_pos (show (upd G 3 τ) 5 = nI i from hg)]
        by_cases h3 : 56 ≤ S i 6 - S i 6
        · simp only [if_pos h3]
          exact lf_fin hi (by rw [up2_kq (by decide), hw])
        · simp only [if_neg h3, go_eq hw]
          exact lf_blk
theorem eqp_eta {a b : (Nat → Int32) × (Nat → Nat → Int32)} (h : eqp τ a b) : eqp τ (a.1, a.2) (b.1, b.2) := h
theorem lift_eq (hi : i < 32) (hw : S i 10 = 0) (hm : S i 8 = 1) (hy : S i 9 = 1 ∨ S i 9 = -1) (hg : gst G i x4) : eqp τ (sp_moveLift G S i x4) (sm_step (upd G 3 τ) S (nI i)) := by
  unfold sp_moveLift sm_step
  rw [nI_cl hi]
  simp only [hm, if_neg (show ¬ (1 : Int32) = 0 by decide), if_neg (show ¬ (1 : Int32) = 2 by decide)]
  rcases hy with hy | hy
  · simp only [hy, if_pos (show (1 : Int32) = 1 from rfl), if_neg (show ¬ (1 : Int32) ≤ 0 by decide)]
    exact rise_eq hi hw hg
  · simp only [hy, if_neg (show ¬ (-1 : Int32) = 1 by decide), if_pos (show (-1 : Int32) ≤ 0 by decide), mx_c, up2_kk, up2_kq (show 11 ≠ 6 by decide), await_eq hi]
    by_cases h1 : S i 11 ≤ S i 6 - 4
    · simp only [if_pos h1]
      by_cases h2 : S i 6 - 4 = S i 11
      · simp only [if_pos h2]
        exact lf_id
      · simp only [if_neg h2]
        exact lf_id
    · simp only [if_neg h1]
      exact lf_id
/-- what a mover, its way and its wait may be -/
def mvx (m w t : Int32) : Prop := (m = -1 ∧ w = 0 ∧ t = 0) ∨ ((m = 0 ∨ m = 1 ∨ m = 2) ∧ ((t = 0 ∧ (w = 1 ∨ w = -1)) ∨ (0 < t.toInt ∧ w = 0)))
/-- the reference's step of one sector -/
def md_one (G : Nat → Int32) (S : Nat → Nat → Int32) (i : Nat) : (Nat → Int32) × (Nat → Nat → Int32) := if (S i 8) < 0 then (G, S) else (if (S i 10) ≤ 0 then ((sm_step G S (nI i)).1, (sm_step G S (nI i)).2) else (if ((up2 S i 10 ((S i 10) - 1)) i 10) ≤ 0 then (if ((up2 S i 10 ((S i 10) - 1)) i 8) = 0 then (G, up2 (up2 S i 10 ((S i 10) - 1)) i 9 (-1)) else (G, up2 (up2 S i 10 ((S i 10) - 1)) i 9 1)) else (G, up2 (up2 S i 10 ((S i 10) - 1)) i 9 0)))
theorem inner_one (k : Nat) : sm_ticks_inner (k + 1) i G S = sm_ticks_inner k (i + 1) (md_one G S i).1 (md_one G S i).2 := by
  rw [sm_ticks_inner]
  unfold md_one
  repeat' split
  all_goals rfl
theorem t_dec {t : Int32} (h : 0 < t.toInt) : (t - 1 ≤ 0 ↔ t - 1 = 0) ∧ (t - 1).toInt = t.toInt - 1 := by
  have hlt := Int32.toInt_lt t
  have e : (t - 1).toInt = t.toInt - 1 := by
    rw [Int32.toInt_sub, show (1 : Int32).toInt = 1 from by decide, Int.bmod_eq_of_le (by omega) (by omega)]
  refine ⟨⟨fun q => ?_, fun q => ?_⟩, e⟩
  · rw [Int32.le_iff_toInt_le, e, show (0 : Int32).toInt = 0 from by decide] at q
    apply Int32.toInt_inj.mp
    rw [e, show (0 : Int32).toInt = 0 from by decide]
    omega
  · rw [q]
    decide
theorem wait_eq (ht : 0 < (S i 10).toInt) (hy : S i 9 = 0) : (G, sp_waitOneTick S i) = (if ((up2 S i 10 ((S i 10) - 1)) i 10) ≤ 0 then (if ((up2 S i 10 ((S i 10) - 1)) i 8) = 0 then (G, up2 (up2 S i 10 ((S i 10) - 1)) i 9 (-1)) else (G, up2 (up2 S i 10 ((S i 10) - 1)) i 9 1)) else (G, up2 (up2 S i 10 ((S i 10) - 1)) i 9 0)) := by
  unfold sp_waitOneTick
  simp only [up2_kk]
  by_cases h1 : S i 10 - 1 = 0
  · simp only [if_pos h1, if_pos ((t_dec ht).1.mpr h1)]
    split <;> rfl
  · simp only [if_neg h1, if_neg (fun q => h1 ((t_dec ht).1.mp q))]
    rw [up2_id (k := 9) (v := 0) (by rw [up2_kq (by decide), hy])]
theorem one_eq (hi : i < 32) (ok : mvx (S i 8) (S i 9) (S i 10)) (hg : gst G i x4) : eqp τ (sp_move G S i x4) (md_one (upd G 3 τ) S i) := by
  unfold sp_move md_one
  rcases ok with ⟨hm, hy, ht⟩ | ⟨hm, hh⟩
  · simp only [hm, if_pos (show (-1 : Int32) = -1 from rfl), if_pos (show (-1 : Int32) < 0 by decide)]
    exact lf_id
  · have h1 : ¬ S i 8 = -1 := by rcases hm with h | h | h <;> rw [h] <;> decide
    have h2 : ¬ S i 8 < 0 := by rcases hm with h | h | h <;> rw [h] <;> decide
    rw [if_neg h1, if_neg h2]
    rcases hh with ⟨ht, hy⟩ | ⟨ht, hy⟩
    · have h3 : S i 10 ≤ 0 := by rw [ht]; decide
      rw [if_pos h3, if_pos h3]
      rcases hm with hm | hm | hm
      · simp only [hm, if_pos (show (0 : Int32) = 0 from rfl)]
        unfold sm_step
        rw [nI_cl hi]
        simp only [hm, if_pos (show (0 : Int32) = 0 from rfl)]
        exact door_eq hi ht hy hg
      · simp only [hm, if_neg (show ¬ (1 : Int32) = 0 by decide), if_pos (show (1 : Int32) = 1 from rfl)]
        exact lift_eq hi ht hm hy hg
      · simp only [hm, if_neg (show ¬ (2 : Int32) = 0 by decide), if_neg (show ¬ (2 : Int32) = 1 by decide)]
        unfold sm_step
        rw [nI_cl hi]
        simp only [hm, if_neg (show ¬ (2 : Int32) = 0 by decide), if_pos (show (2 : Int32) = 2 from rfl)]
        exact rise_eq hi ht hg
    · have h3 : ¬ S i 10 ≤ 0 := by
        rw [Int32.le_iff_toInt_le, show (0 : Int32).toInt = 0 from by decide]
        omega
      rw [if_neg h3, if_neg h3, ← wait_eq ht hy]
      exact lf_id
end
