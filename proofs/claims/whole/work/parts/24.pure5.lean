/-! PURE: neighbours by bits, and the levels. The first rows are the kit's own (laws/BITS.to-paste), pasted. -/
def bt (x : Int32) (i : Nat) : Bool := x.toBitVec.getLsbD i
theorem b_ext {x y : Int32} (h : ∀ i, i < 32 → bt x i = bt y i) : x = y := Int32.toBitVec_inj.mp (BitVec.eq_of_getLsbD_eq (fun i hi => h i hi))
theorem b_or (x y : Int32) (i : Nat) : bt (x ||| y) i = (bt x i || bt y i) := by unfold bt; rw [Int32.toBitVec_or, BitVec.getLsbD_or]
theorem b_and (x y : Int32) (i : Nat) : bt (x &&& y) i = (bt x i && bt y i) := by unfold bt; rw [Int32.toBitVec_and, BitVec.getLsbD_and]
theorem b_big {x : Int32} {i : Nat} (h : 32 ≤ i) : bt x i = false := BitVec.getLsbD_of_ge _ _ h
theorem b_0 (i : Nat) : bt 0 i = false := BitVec.getLsbD_zero
theorem s_l : ∀ n, n < 32 → ((nI n &&& 31).toBitVec.smod 32).toNat = n := by decide +kernel
theorem s_u : ∀ n, n < 32 → (((nI n).toUInt32 &&& Int32.toUInt32 31).toBitVec % 32).toNat = n := by decide +kernel
theorem b_shl (n : Nat) (hn : n < 32) (x : Int32) {i : Nat} (hi : i < 32) : bt (x <<< (nI n &&& 31)) i = (decide (n ≤ i) && bt x (i - n)) := by
  unfold bt
  rw [Int32.toBitVec_shiftLeft]
  show (x.toBitVec <<< ((nI n &&& 31).toBitVec.smod 32).toNat).getLsbD i = _
  rw [s_l n hn, BitVec.getLsbD_shiftLeft]
  rcases Nat.lt_or_ge i n with h | h
  · simp [h, Nat.not_le.mpr h]
  · simp [hi, h, Nat.not_lt.mpr h]
theorem b_ushr (n : Nat) (hn : n < 32) (x : Int32) (i : Nat) : bt ((x.toUInt32 >>> ((nI n).toUInt32 &&& Int32.toUInt32 31)).toInt32) i = bt x (n + i) := by
  show (x.toUInt32 >>> ((nI n).toUInt32 &&& Int32.toUInt32 31)).toBitVec.getLsbD i = x.toUInt32.toBitVec.getLsbD (n + i)
  rw [UInt32.toBitVec_shiftRight]
  show (x.toUInt32.toBitVec >>> (((nI n).toUInt32 &&& Int32.toUInt32 31).toBitVec % 32).toNat).getLsbD i = _
  rw [s_u n hn, BitVec.getLsbD_ushiftRight]
theorem b_1 (i : Nat) : bt 1 i = decide (i = 0) := by
  rcases Nat.lt_or_ge i 32 with h | h
  · exact (by decide +kernel : ∀ i, i < 32 → bt 1 i = decide (i = 0)) i h
  · rw [b_big h, decide_eq_false (by omega)]
def bi (b : Bool) : Int32 := if b = true then 1 else 0
theorem bi_0 {b : Bool} : bi b = 0 ↔ b = false := by cases b <;> decide
theorem hn_z {x : Int32} {j : Nat} (hj : j < 32) : ((x.toUInt32 >>> ((nI j).toUInt32 &&& Int32.toUInt32 31)).toInt32 &&& 1) = 0 ↔ bt x j = false := by
  constructor
  · intro h
    have h1 : bt ((x.toUInt32 >>> ((nI j).toUInt32 &&& Int32.toUInt32 31)).toInt32 &&& 1) 0 = false := by rw [h]; exact b_0 0
    rw [b_and, b_ushr j hj, b_1] at h1
    simpa using h1
  · intro h
    refine b_ext (fun i hi => ?_)
    rw [b_and, b_ushr j hj, b_1, b_0]
    by_cases hz : i = 0
    · subst hz
      simp [h]
    · simp [hz]
theorem hn_bt {S : Nat → Nat → Int32} {a j : Nat} (hj : j < 32) : sp_hasNeighbour S a (nI j) = bi (bt (S a 5) j) := by
  unfold sp_hasNeighbour
  by_cases h : bt (S a 5) j = false
  · rw [if_pos ((hn_z hj).mpr h), h]
    rfl
  · rw [if_neg (fun q => h ((hn_z hj).mp q))]
    have h1 : bt (S a 5) j = true := by cases hb : bt (S a 5) j <;> simp_all
    rw [h1]
    rfl
theorem b_all {x : Int32} : x = 0 ↔ ∀ j, j < 32 → bt x j = false := ⟨fun h j _ => by rw [h]; exact b_0 j, fun h => b_ext (fun i hi => by rw [h i hi, b_0])⟩
theorem b_add {x : Int32} {m j : Nat} (hm : m < 32) (hj : j < 32) : bt (x ||| (1 <<< (nI m &&& 31))) j = (bt x j || decide (j = m)) := by
  rw [b_or, b_shl m hm 1 hj, b_1]
  by_cases h : j = m
  · subst h
    simp
  · rcases Nat.lt_or_ge j m with h1 | h1
    · simp [h, Nat.not_le.mpr h1]
    · have h2 : ¬ j - m = 0 := by omega
      simp [h, h1, h2]
theorem ix_n {a j : Nat} (ha : a < 32) (hj : j < 32) : (32 * nI a + nI j).toNatClampNeg = 32 * a + j := by
  rw [show (32 : Int32) = nI 32 from rfl, pk_mul, nI_add, nI_clamp (by omega)]
/-- neighbours: the hall's bits and the reference's table -/
def Nb (S : Nat → Nat → Int32) (B : Nat → Int32) (n : Nat) : Prop := (∀ i j, i < n → j < 32 → B (32 * i + j) = bi (bt (S i 5) j)) ∧ (∀ i j, i < 32 → j < 32 → n ≤ i ∨ n ≤ j → B (32 * i + j) = 0)
/-- the lowest, the highest of some numbers -/
def lw (nb fl : Nat → Int32) : Nat → Nat → Int32 → Int32
  | 0, _, x => x
  | k + 1, i, x => lw nb fl k (i + 1) (if nb i = 0 then x else (if x ≤ fl i then x else fl i))
def hw_hi (nb fl : Nat → Int32) : Nat → Nat → Int32 → Int32
  | 0, _, x => x
  | k + 1, i, x => hw_hi nb fl k (i + 1) (if nb i = 0 then x else (if fl i ≤ x then x else fl i))
theorem lw_cg {nb nb' fl fl' : Nat → Int32} : ∀ (k i : Nat) (x : Int32), (∀ j, i ≤ j → j < i + k → nb j = nb' j ∧ fl j = fl' j) → lw nb fl k i x = lw nb' fl' k i x := by
  intro k
  induction k with
  | zero => intro i x h; rfl
  | succ k ih =>
    intro i x h
    rw [lw, lw, (h i (by omega) (by omega)).1, (h i (by omega) (by omega)).2]
    exact ih (i + 1) _ (fun j h1 h2 => h j (by omega) (by omega))
theorem hi_cg {nb nb' fl fl' : Nat → Int32} : ∀ (k i : Nat) (x : Int32), (∀ j, i ≤ j → j < i + k → nb j = nb' j ∧ fl j = fl' j) → hw_hi nb fl k i x = hw_hi nb' fl' k i x := by
  intro k
  induction k with
  | zero => intro i x h; rfl
  | succ k ih =>
    intro i x h
    rw [hw_hi, hw_hi, (h i (by omega) (by omega)).1, (h i (by omega) (by omega)).2]
    exact ih (i + 1) _ (fun j h1 h2 => h j (by omega) (by omega))
theorem sp_lf (S : Nat → Nat → Int32) (a : Nat) : ∀ (k i : Nat) (x : Int32), sp_lowFloor_loop S a k i x = lw (fun j => sp_hasNeighbour S a (nI j)) (fun j => S j 6) k i x := by
  intro k
  induction k with
  | zero => intro i x; rfl
  | succ k ih =>
    intro i x
    rw [sp_lowFloor_loop, lw, ih, ih, mn_c]
    split <;> rfl
theorem sp_lc (S : Nat → Nat → Int32) (a : Nat) : ∀ (k i : Nat) (x : Int32), sp_lowCeiling_loop S a k i x = lw (fun j => sp_hasNeighbour S a (nI j)) (fun j => S j 7) k i x := by
  intro k
  induction k with
  | zero => intro i x; rfl
  | succ k ih =>
    intro i x
    rw [sp_lowCeiling_loop, lw, ih, ih, mn_c]
    split <;> rfl
theorem sp_hf (S : Nat → Nat → Int32) (a : Nat) : ∀ (k i : Nat) (x : Int32), sp_highFloor_loop S a k i x = hw_hi (fun j => sp_hasNeighbour S a (nI j)) (fun j => S j 6) k i x := by
  intro k
  induction k with
  | zero => intro i x; rfl
  | succ k ih =>
    intro i x
    rw [sp_highFloor_loop, hw_hi, ih, ih, mx_c]
    split <;> rfl
theorem sm_lf (S : Nat → Nat → Int32) (B : Nat → Int32) (x1 : Int32) : ∀ (k i : Nat) (x : Int32), sm_lowFloor_loop S B x1 k i x = lw (fun j => B ((32 * x1 + nI j).toNatClampNeg)) (fun j => S j 6) k i x := by
  intro k
  induction k with
  | zero => intro i x; rfl
  | succ k ih =>
    intro i x
    rw [sm_lowFloor_loop, lw, ih, ih]
    split
    · rfl
    · split <;> rfl
theorem sm_hf (S : Nat → Nat → Int32) (B : Nat → Int32) (x1 : Int32) : ∀ (k i : Nat) (x : Int32), sm_highFloor_loop S B x1 k i x = hw_hi (fun j => B ((32 * x1 + nI j).toNatClampNeg)) (fun j => S j 6) k i x := by
  intro k
  induction k with
  | zero => intro i x; rfl
  | succ k ih =>
    intro i x
    rw [sm_highFloor_loop, hw_hi, ih, ih]
    split
    · rfl
    · split <;> rfl
theorem sm_lc (S : Nat → Nat → Int32) (B : Nat → Int32) (x1 : Int32) : ∀ (k i : Nat) (x : Int32), sm_lowCeiling_loop S B x1 k i x = (if lw (fun j => B ((32 * x1 + nI j).toNatClampNeg)) (fun j => S j 7) k i x = 100000 then S x1.toNatClampNeg 7 else lw (fun j => B ((32 * x1 + nI j).toNatClampNeg)) (fun j => S j 7) k i x) := by
  intro k
  induction k with
  | zero => intro i x; rfl
  | succ k ih =>
    intro i x
    rw [sm_lowCeiling_loop, lw, ih, ih]
    split
    · rfl
    · split <;> rfl
theorem lw_0 {nb fl : Nat → Int32} : ∀ (k i : Nat) (x : Int32), (∀ j, i ≤ j → j < i + k → nb j = 0) → lw nb fl k i x = x := by
  intro k
  induction k with
  | zero => intro i x h; rfl
  | succ k ih =>
    intro i x h
    rw [lw, if_pos (h i (by omega) (by omega))]
    exact ih (i + 1) x (fun j h1 h2 => h j (by omega) (by omega))
theorem lw_rg {nb fl : Nat → Int32} : ∀ (k i : Nat) (x : Int32), rg x → (∀ j, i ≤ j → j < i + k → rg (fl j)) → rg (lw nb fl k i x) := by
  intro k
  induction k with
  | zero => intro i x hx h; exact hx
  | succ k ih =>
    intro i x hx h
    rw [lw]
    refine ih (i + 1) _ ?_ (fun j h1 h2 => h j (by omega) (by omega))
    have := h i (by omega) (by omega)
    repeat' split
    all_goals assumption
theorem hi_rg {nb fl : Nat → Int32} : ∀ (k i : Nat) (x : Int32), rg x → (∀ j, i ≤ j → j < i + k → rg (fl j)) → rg (hw_hi nb fl k i x) := by
  intro k
  induction k with
  | zero => intro i x hx h; exact hx
  | succ k ih =>
    intro i x hx h
    rw [hw_hi]
    refine ih (i + 1) _ ?_ (fun j h1 h2 => h j (by omega) (by omega))
    have := h i (by omega) (by omega)
    repeat' split
    all_goals assumption
theorem lw_st {nb fl : Nat → Int32} : ∀ (k i : Nat), (∀ j, i ≤ j → j < i + k → rg (fl j)) → (∃ j, i ≤ j ∧ j < i + k ∧ nb j ≠ 0) → lw nb fl k i 100000 = lw nb fl k i 1024 ∧ rg (lw nb fl k i 1024) := by
  intro k
  induction k with
  | zero => intro i h hx; obtain ⟨j, h1, h2, -⟩ := hx; omega
  | succ k ih =>
    intro i h hx
    rw [lw, lw]
    have hr := h i (by omega) (by omega)
    by_cases h0 : nb i = 0
    · rw [if_pos h0, if_pos h0]
      refine ih (i + 1) (fun j h1 h2 => h j (by omega) (by omega)) ?_
      obtain ⟨j, h1, h2, h3⟩ := hx
      have h4 : j ≠ i := fun q => h3 (by rw [q]; exact h0)
      exact ⟨j, by omega, by omega, h3⟩
    · rw [if_neg h0, if_neg h0]
      have e1 : ¬ (100000 : Int32) ≤ fl i := by
        rw [Int32.le_iff_toInt_le, show (100000 : Int32).toInt = 100000 from by decide]
        have := hr.2
        omega
      have e2 : (if (1024 : Int32) ≤ fl i then (1024 : Int32) else fl i) = fl i := by
        by_cases h5 : (1024 : Int32) ≤ fl i
        · rw [if_pos h5]
          apply Int32.toInt_inj.mp
          rw [Int32.le_iff_toInt_le, show (1024 : Int32).toInt = 1024 from by decide] at h5
          rw [show (1024 : Int32).toInt = 1024 from by decide]
          have := hr.2
          omega
        · rw [if_neg h5]
      rw [if_neg e1, e2]
      exact ⟨rfl, lw_rg k (i + 1) _ hr (fun j h1 h2 => h j (by omega) (by omega))⟩
section
variable {S : Nat → Nat → Int32} {B : Nat → Int32} {n a : Nat}
theorem nb_at (h : Nb S B n) (hn : n ≤ 32) (ha : a < n) {j : Nat} (hj : j < n) : sp_hasNeighbour S a (nI j) = B ((32 * nI a + nI j).toNatClampNeg) := by
  rw [ix_n (by omega) (by omega), h.1 a j ha (by omega), hn_bt (by omega)]
theorem lowF_eq (h : Nb S B n) (hn : n ≤ 32) (ha : a < n) : sm_lowFloor S B n (nI a) = sp_lowFloor S n a := by
  unfold sm_lowFloor sp_lowFloor
  rw [sm_lf, sp_lf, nI_cl (by omega)]
  exact lw_cg n 0 _ (fun j h1 h2 => ⟨(nb_at h hn ha (by omega)).symm, rfl⟩)
theorem highF_eq (h : Nb S B n) (hn : n ≤ 32) (ha : a < n) : sm_highFloor S B n (nI a) = sp_highFloor S n a := by
  unfold sm_highFloor sp_highFloor
  rw [sm_hf, sp_hf, nI_cl (by omega)]
  exact hi_cg n 0 _ (fun j h1 h2 => ⟨(nb_at h hn ha (by omega)).symm, rfl⟩)
theorem lowC_eq (h : Nb S B n) (hn : n ≤ 32) (ha : a < n) (hr : ∀ j, j < n → rg (S j 7)) : sm_lowCeiling S B n (nI a) = sp_lowCeiling S n a ∧ rg (sp_lowCeiling S n a) := by
  have hB : ∀ j, j < n → B ((32 * nI a + nI j).toNatClampNeg) = sp_hasNeighbour S a (nI j) := fun j hj => (nb_at h hn ha hj).symm
  have hcg : ∀ x, lw (fun j => B ((32 * nI a + nI j).toNatClampNeg)) (fun j => S j 7) n 0 x = lw (fun j => sp_hasNeighbour S a (nI j)) (fun j => S j 7) n 0 x := fun x => lw_cg n 0 x (fun j h1 h2 => ⟨hB j (by omega), rfl⟩)
  unfold sm_lowCeiling sp_lowCeiling sp_hasNeighbours
  rw [sm_lc, sp_lc, nI_cl (by omega), hcg]
  by_cases h5 : S a 5 = 0
  · rw [if_pos h5, if_pos rfl]
    rw [lw_0 n 0 100000 (fun j h1 h2 => by rw [hn_bt (by omega), bi_0]; exact b_all.mp h5 j (by omega)), if_pos rfl]
    exact ⟨rfl, hr a ha⟩
  · rw [if_neg h5, if_neg (show ¬ (1 : Int32) = 0 by decide)]
    have hx : ∃ j, 0 ≤ j ∧ j < 0 + n ∧ sp_hasNeighbour S a (nI j) ≠ 0 := by
      apply Classical.byContradiction
      intro hc
      apply h5
      rw [b_all]
      intro j hj
      rcases Nat.lt_or_ge j n with h1 | h1
      · have h2 : sp_hasNeighbour S a (nI j) = 0 := by
          apply Classical.byContradiction
          intro h3
          exact hc ⟨j, Nat.zero_le _, by omega, h3⟩
        rw [hn_bt hj, bi_0] at h2
        exact h2
      · have h2 := h.2 a j (by omega) hj (Or.inr h1)
        rw [h.1 a j ha hj, bi_0] at h2
        exact h2
    have hs := lw_st (nb := fun j => sp_hasNeighbour S a (nI j)) (fl := fun j => S j 7) n 0 (fun j h1 h2 => hr j (by omega)) hx
    rw [hs.1]
    refine ⟨?_, hs.2⟩
    rw [if_neg]
    intro q
    have h9 := hs.2.2
    rw [q] at h9
    exact absurd h9 (by decide)
end
