/-! PURE: what the hall and the reference do to the numbers is the same. -/
theorem nI_cl {i : Nat} (hi : i < 32) : (nI i).toNatClampNeg = i := nI_clamp (by omega)
theorem up2_kk {S : Nat → Nat → Int32} {i k : Nat} {v : Int32} : up2 S i k v i k = v := by simp [up2, upd]
theorem up2_kq {S : Nat → Nat → Int32} {i k q : Nat} {v : Int32} (h : q ≠ k) : up2 S i k v i q = S i q := by simp [up2, upd, h]
theorem up2_j {S : Nat → Nat → Int32} {i j k : Nat} {v : Int32} (h : j ≠ i) : up2 S i k v j = S j := by simp [up2, h]
theorem up2_id {S : Nat → Nat → Int32} {i k : Nat} {v : Int32} (h : S i k = v) : up2 S i k v = S := by
  funext j q
  by_cases hj : j = i
  · subst hj
    by_cases hq : q = k
    · subst hq
      rw [up2_kk, h]
    · rw [up2_kq hq]
  · rw [up2_j hj]
theorem up2_cc {S : Nat → Nat → Int32} {i k k2 : Nat} {v v2 : Int32} (h : k ≠ k2) : up2 (up2 S i k v) i k2 v2 = up2 (up2 S i k2 v2) i k v := by
  funext j q
  by_cases hj : j = i
  · subst hj
    by_cases h1 : q = k
    · subst h1
      rw [up2_kq h, up2_kk, up2_kk]
    · by_cases h2 : q = k2
      · subst h2
        rw [up2_kk, up2_kq h1, up2_kk]
      · rw [up2_kq h2, up2_kq h1, up2_kq h1, up2_kq h2]
  · rw [up2_j hj, up2_j hj, up2_j hj, up2_j hj]
theorem up2_uu {S : Nat → Nat → Int32} {i k : Nat} {v v2 : Int32} : up2 (up2 S i k v) i k v2 = up2 S i k v2 := by
  funext j q
  by_cases hj : j = i
  · subst hj
    by_cases h1 : q = k
    · subst h1
      rw [up2_kk, up2_kk]
    · rw [up2_kq h1, up2_kq h1, up2_kq h1]
  · rw [up2_j hj, up2_j hj, up2_j hj]
theorem upd_cc {f : Nat → Int32} {k k2 : Nat} {v v2 : Int32} (h : k ≠ k2) : upd (upd f k v) k2 v2 = upd (upd f k2 v2) k v := by
  funext q
  by_cases h1 : q = k
  · subst h1
    simp [upd, h]
  · by_cases h2 : q = k2
    · subst h2
      simp [upd, h1]
    · simp [upd, h1, h2]
theorem upd_uu {f : Nat → Int32} {k : Nat} {v v2 : Int32} : upd (upd f k v) k v2 = upd f k v2 := by
  funext q
  by_cases h1 : q = k
  · subst h1
    simp [upd]
  · simp [upd, h1]
theorem upd_id {f : Nat → Int32} {k : Nat} {v : Int32} (h : f k = v) : upd f k v = f := by
  funext q
  by_cases h1 : q = k
  · subst h1
    simp [upd, h]
  · simp [upd, h1]
/-- numbers in the plan's range -/
def rg (x : Int32) : Prop := -1024 ≤ x.toInt ∧ x.toInt ≤ 1024
theorem rg_sub {x c : Int32} (h : rg x) (hc : 0 ≤ c.toInt ∧ c.toInt ≤ 1000) : (x - c).toInt = x.toInt - c.toInt := by
  have := h.1
  have := h.2
  rw [Int32.toInt_sub, Int.bmod_eq_of_le (by omega) (by omega)]
theorem rg_add {x c : Int32} (h : rg x) (hc : 0 ≤ c.toInt ∧ c.toInt ≤ 1000) : (x + c).toInt = x.toInt + c.toInt := by
  have := h.1
  have := h.2
  rw [Int32.toInt_add, Int.bmod_eq_of_le (by omega) (by omega)]
theorem m8 (x : Int32) : x + 8 * (-1) = x - 8 := by
  rw [show (8 : Int32) * (-1) = -8 from by decide, Int32.sub_eq_add_neg]
theorem p8 (x : Int32) : x + 8 * 1 = x + 8 := by
  rw [show (8 : Int32) * 1 = 8 from by decide]
theorem mx_c (x y : Int32) : sp_max x y = if y ≤ x then x else y := by
  unfold sp_max
  by_cases h : x < y
  · rw [if_pos h, if_neg (Int32.not_le.mpr h)]
  · rw [if_neg h, if_pos (Int32.not_lt.mp h)]
theorem mn_c (x y : Int32) : sp_min x y = if x ≤ y then x else y := by
  unfold sp_min
  by_cases h : y < x
  · rw [if_pos h, if_neg (Int32.not_le.mpr h)]
  · rw [if_neg h, if_pos (Int32.not_lt.mp h)]
theorem end_eq {S : Nat → Nat → Int32} {i : Nat} (hi : i < 32) (hw : S i 10 = 0) : sm_end S (nI i) = sp_dropMover S i := by
  unfold sm_end sp_dropMover
  rw [nI_cl hi, up2_cc (k := 9) (k2 := 11) (by decide)]
  exact (up2_id (by simp [up2, upd, hw])).symm
theorem await_eq {S : Nat → Nat → Int32} {i : Nat} {t : Int32} (hi : i < 32) : sm_await S (nI i) t = sp_waitFor S i t := by
  unfold sm_await sp_waitFor
  rw [nI_cl hi]
