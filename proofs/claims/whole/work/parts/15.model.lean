/-! THE REFERENCE's world: the object and its thirteen arrays. G: sectors, pairs, time, thrown, blocked, guest at 0 1 2 3 4 5; S j k: place j of array k (planFloors 0, planCeilings 1, lights 2, kinds 3, tags 4, floors 6, ceilings 7, movers 8, ways 9, waits 10, ends 11, homes 12); B: beside. -/
def md_fl (am : Nat → Nat) (G : Nat → Int32) : List Value := [.int (G 3), .int (G 0), .ref (am 0), .ref (am 1), .ref (am 2), .ref (am 3), .ref (am 4), .ref (am 5), .int (G 1), .ref (am 6), .ref (am 7), .ref (am 8), .ref (am 9), .ref (am 10), .ref (am 11), .ref (am 12), .int (G 2), .int (G 5), .int (G 4)]
def md_W (o : Nat) (am : Nat → Nat) (cm : Nat → ClassId) (G : Nat → Int32) (S : Nat → Nat → Int32) (B : Nat → Int32) : va_W := [(o, .inr (2, md_fl am G)), (am 0, .inl (cm 0, 32, .inl (fun j => S j 0))), (am 1, .inl (cm 1, 32, .inl (fun j => S j 1))), (am 2, .inl (cm 2, 32, .inl (fun j => S j 2))), (am 3, .inl (cm 3, 32, .inl (fun j => S j 3))), (am 4, .inl (cm 4, 32, .inl (fun j => S j 4))), (am 5, .inl (cm 5, 1024, .inl B)), (am 6, .inl (cm 6, 32, .inl (fun j => S j 6))), (am 7, .inl (cm 7, 32, .inl (fun j => S j 7))), (am 8, .inl (cm 8, 32, .inl (fun j => S j 8))), (am 9, .inl (cm 9, 32, .inl (fun j => S j 9))), (am 10, .inl (cm 10, 32, .inl (fun j => S j 10))), (am 11, .inl (cm 11, 32, .inl (fun j => S j 11))), (am 12, .inl (cm 12, 32, .inl (fun j => S j 12)))]
def md_tys (cm : Nat → ClassId) : List (ClassId × FieldType) := [(cm 0, .int), (cm 1, .int), (cm 2, .int), (cm 3, .int), (cm 4, .int), (cm 5, .boolean), (cm 6, .int), (cm 7, .int), (cm 8, .int), (cm 9, .int), (cm 10, .int), (cm 11, .int), (cm 12, .int)]
theorem md_ad {o : Nat} {am : Nat → Nat} {cm : Nat → ClassId} {G G' : Nat → Int32} {S S' : Nat → Nat → Int32} {B B' : Nat → Int32} : (md_W o am cm G' S' B').map Prod.fst = (md_W o am cm G S B).map Prod.fst := rfl
theorem md_isO {o : Nat} {am : Nat → Nat} {cm : Nat → ClassId} {G : Nat → Int32} {S : Nat → Nat → Int32} {B : Nat → Int32} : hw_is (md_W o am cm G S B) o RX3 := ⟨0, 2, _, _, rfl, rfl, rfl⟩
theorem up2_self {S : Nat → Nat → Int32} {i k : Nat} {v : Int32} : (fun j => up2 S i k v j k) = upd (fun j => S j k) i v := by
  funext j
  by_cases h : j = i
  · subst h
    simp [up2, upd]
  · simp [up2, upd, h]
theorem up2_ne {S : Nat → Nat → Int32} {i k k' : Nat} {v : Int32} (hk : k' ≠ k) : (fun j => up2 S i k v j k') = (fun j => S j k') := by
  funext j
  by_cases h : j = i
  · subst h
    simp [up2, upd, hk]
  · simp [up2, h]
section
variable {D : va_G} {A : Nat → Prop} {H0 H : Heap} {locs : List Loc} {o : Nat} {am : Nat → Nat} {cm : Nat → ClassId} {G : Nat → Int32} {S : Nat → Nat → Int32} {B : Nat → Int32} {v : Int32}
theorem md_setG {k kk : Nat} (hk : (md_fl am G).set kk (.int v) = md_fl am (upd G k v)) (T : hw_T D A H0 ((md_W o am cm G S B).set 0 (o, .inr (2, (md_fl am G).set kk (.int v)))) H locs) : hw_T D A H0 (md_W o am cm (upd G k v) S B) H locs := by
  rw [hk] at T
  exact T
theorem md_setB {i : Nat} (T : hw_T D A H0 ((md_W o am cm G S B).set 6 (am 5, .inl (cm 5, 1024, .inl (upd B i (vp_nar .boolean v))))) H locs) (hv : vp_nar .boolean v = v := by decide) : hw_T D A H0 (md_W o am cm G S (upd B i v)) H locs := by
  rw [hv] at T
  exact T
theorem md_set0 {i : Nat} (T : hw_T D A H0 ((md_W o am cm G S B).set 1 (am 0, .inl (cm 0, 32, .inl (upd (fun j => S j 0) i v)))) H locs) : hw_T D A H0 (md_W o am cm G (up2 S i 0 v) B) H locs := by
  have e : (md_W o am cm G S B).set 1 (am 0, .inl (cm 0, 32, .inl (upd (fun j => S j 0) i v))) = md_W o am cm G (up2 S i 0 v) B := by
    unfold md_W
    rw [up2_self, up2_ne (k := 0) (k' := 1) (by decide), up2_ne (k := 0) (k' := 2) (by decide), up2_ne (k := 0) (k' := 3) (by decide), up2_ne (k := 0) (k' := 4) (by decide), up2_ne (k := 0) (k' := 6) (by decide), up2_ne (k := 0) (k' := 7) (by decide), up2_ne (k := 0) (k' := 8) (by decide), up2_ne (k := 0) (k' := 9) (by decide), up2_ne (k := 0) (k' := 10) (by decide), up2_ne (k := 0) (k' := 11) (by decide), up2_ne (k := 0) (k' := 12) (by decide)]
    rfl
  rw [e] at T
  exact T
theorem md_set1 {i : Nat} (T : hw_T D A H0 ((md_W o am cm G S B).set 2 (am 1, .inl (cm 1, 32, .inl (upd (fun j => S j 1) i v)))) H locs) : hw_T D A H0 (md_W o am cm G (up2 S i 1 v) B) H locs := by
  have e : (md_W o am cm G S B).set 2 (am 1, .inl (cm 1, 32, .inl (upd (fun j => S j 1) i v))) = md_W o am cm G (up2 S i 1 v) B := by
    unfold md_W
    rw [up2_self, up2_ne (k := 1) (k' := 0) (by decide), up2_ne (k := 1) (k' := 2) (by decide), up2_ne (k := 1) (k' := 3) (by decide), up2_ne (k := 1) (k' := 4) (by decide), up2_ne (k := 1) (k' := 6) (by decide), up2_ne (k := 1) (k' := 7) (by decide), up2_ne (k := 1) (k' := 8) (by decide), up2_ne (k := 1) (k' := 9) (by decide), up2_ne (k := 1) (k' := 10) (by decide), up2_ne (k := 1) (k' := 11) (by decide), up2_ne (k := 1) (k' := 12) (by decide)]
    rfl
  rw [e] at T
  exact T
theorem md_set2 {i : Nat} (T : hw_T D A H0 ((md_W o am cm G S B).set 3 (am 2, .inl (cm 2, 32, .inl (upd (fun j => S j 2) i v)))) H locs) : hw_T D A H0 (md_W o am cm G (up2 S i 2 v) B) H locs := by
  have e : (md_W o am cm G S B).set 3 (am 2, .inl (cm 2, 32, .inl (upd (fun j => S j 2) i v))) = md_W o am cm G (up2 S i 2 v) B := by
    unfold md_W
    rw [up2_self, up2_ne (k := 2) (k' := 0) (by decide), up2_ne (k := 2) (k' := 1) (by decide), up2_ne (k := 2) (k' := 3) (by decide), up2_ne (k := 2) (k' := 4) (by decide), up2_ne (k := 2) (k' := 6) (by decide), up2_ne (k := 2) (k' := 7) (by decide), up2_ne (k := 2) (k' := 8) (by decide), up2_ne (k := 2) (k' := 9) (by decide), up2_ne (k := 2) (k' := 10) (by decide), up2_ne (k := 2) (k' := 11) (by decide), up2_ne (k := 2) (k' := 12) (by decide)]
    rfl
  rw [e] at T
  exact T
theorem md_set3 {i : Nat} (T : hw_T D A H0 ((md_W o am cm G S B).set 4 (am 3, .inl (cm 3, 32, .inl (upd (fun j => S j 3) i v)))) H locs) : hw_T D A H0 (md_W o am cm G (up2 S i 3 v) B) H locs := by
  have e : (md_W o am cm G S B).set 4 (am 3, .inl (cm 3, 32, .inl (upd (fun j => S j 3) i v))) = md_W o am cm G (up2 S i 3 v) B := by
    unfold md_W
    rw [up2_self, up2_ne (k := 3) (k' := 0) (by decide), up2_ne (k := 3) (k' := 1) (by decide), up2_ne (k := 3) (k' := 2) (by decide), up2_ne (k := 3) (k' := 4) (by decide), up2_ne (k := 3) (k' := 6) (by decide), up2_ne (k := 3) (k' := 7) (by decide), up2_ne (k := 3) (k' := 8) (by decide), up2_ne (k := 3) (k' := 9) (by decide), up2_ne (k := 3) (k' := 10) (by decide), up2_ne (k := 3) (k' := 11) (by decide), up2_ne (k := 3) (k' := 12) (by decide)]
    rfl
  rw [e] at T
  exact T
theorem md_set4 {i : Nat} (T : hw_T D A H0 ((md_W o am cm G S B).set 5 (am 4, .inl (cm 4, 32, .inl (upd (fun j => S j 4) i v)))) H locs) : hw_T D A H0 (md_W o am cm G (up2 S i 4 v) B) H locs := by
  have e : (md_W o am cm G S B).set 5 (am 4, .inl (cm 4, 32, .inl (upd (fun j => S j 4) i v))) = md_W o am cm G (up2 S i 4 v) B := by
    unfold md_W
    rw [up2_self, up2_ne (k := 4) (k' := 0) (by decide), up2_ne (k := 4) (k' := 1) (by decide), up2_ne (k := 4) (k' := 2) (by decide), up2_ne (k := 4) (k' := 3) (by decide), up2_ne (k := 4) (k' := 6) (by decide), up2_ne (k := 4) (k' := 7) (by decide), up2_ne (k := 4) (k' := 8) (by decide), up2_ne (k := 4) (k' := 9) (by decide), up2_ne (k := 4) (k' := 10) (by decide), up2_ne (k := 4) (k' := 11) (by decide), up2_ne (k := 4) (k' := 12) (by decide)]
    rfl
  rw [e] at T
  exact T
theorem md_set6 {i : Nat} (T : hw_T D A H0 ((md_W o am cm G S B).set 7 (am 6, .inl (cm 6, 32, .inl (upd (fun j => S j 6) i v)))) H locs) : hw_T D A H0 (md_W o am cm G (up2 S i 6 v) B) H locs := by
  have e : (md_W o am cm G S B).set 7 (am 6, .inl (cm 6, 32, .inl (upd (fun j => S j 6) i v))) = md_W o am cm G (up2 S i 6 v) B := by
    unfold md_W
    rw [up2_self, up2_ne (k := 6) (k' := 0) (by decide), up2_ne (k := 6) (k' := 1) (by decide), up2_ne (k := 6) (k' := 2) (by decide), up2_ne (k := 6) (k' := 3) (by decide), up2_ne (k := 6) (k' := 4) (by decide), up2_ne (k := 6) (k' := 7) (by decide), up2_ne (k := 6) (k' := 8) (by decide), up2_ne (k := 6) (k' := 9) (by decide), up2_ne (k := 6) (k' := 10) (by decide), up2_ne (k := 6) (k' := 11) (by decide), up2_ne (k := 6) (k' := 12) (by decide)]
    rfl
  rw [e] at T
  exact T
theorem md_set7 {i : Nat} (T : hw_T D A H0 ((md_W o am cm G S B).set 8 (am 7, .inl (cm 7, 32, .inl (upd (fun j => S j 7) i v)))) H locs) : hw_T D A H0 (md_W o am cm G (up2 S i 7 v) B) H locs := by
  have e : (md_W o am cm G S B).set 8 (am 7, .inl (cm 7, 32, .inl (upd (fun j => S j 7) i v))) = md_W o am cm G (up2 S i 7 v) B := by
    unfold md_W
    rw [up2_self, up2_ne (k := 7) (k' := 0) (by decide), up2_ne (k := 7) (k' := 1) (by decide), up2_ne (k := 7) (k' := 2) (by decide), up2_ne (k := 7) (k' := 3) (by decide), up2_ne (k := 7) (k' := 4) (by decide), up2_ne (k := 7) (k' := 6) (by decide), up2_ne (k := 7) (k' := 8) (by decide), up2_ne (k := 7) (k' := 9) (by decide), up2_ne (k := 7) (k' := 10) (by decide), up2_ne (k := 7) (k' := 11) (by decide), up2_ne (k := 7) (k' := 12) (by decide)]
    rfl
  rw [e] at T
  exact T
theorem md_set8 {i : Nat} (T : hw_T D A H0 ((md_W o am cm G S B).set 9 (am 8, .inl (cm 8, 32, .inl (upd (fun j => S j 8) i v)))) H locs) : hw_T D A H0 (md_W o am cm G (up2 S i 8 v) B) H locs := by
  have e : (md_W o am cm G S B).set 9 (am 8, .inl (cm 8, 32, .inl (upd (fun j => S j 8) i v))) = md_W o am cm G (up2 S i 8 v) B := by
    unfold md_W
    rw [up2_self, up2_ne (k := 8) (k' := 0) (by decide), up2_ne (k := 8) (k' := 1) (by decide), up2_ne (k := 8) (k' := 2) (by decide), up2_ne (k := 8) (k' := 3) (by decide), up2_ne (k := 8) (k' := 4) (by decide), up2_ne (k := 8) (k' := 6) (by decide), up2_ne (k := 8) (k' := 7) (by decide), up2_ne (k := 8) (k' := 9) (by decide), up2_ne (k := 8) (k' := 10) (by decide), up2_ne (k := 8) (k' := 11) (by decide), up2_ne (k := 8) (k' := 12) (by decide)]
    rfl
  rw [e] at T
  exact T
theorem md_set9 {i : Nat} (T : hw_T D A H0 ((md_W o am cm G S B).set 10 (am 9, .inl (cm 9, 32, .inl (upd (fun j => S j 9) i v)))) H locs) : hw_T D A H0 (md_W o am cm G (up2 S i 9 v) B) H locs := by
  have e : (md_W o am cm G S B).set 10 (am 9, .inl (cm 9, 32, .inl (upd (fun j => S j 9) i v))) = md_W o am cm G (up2 S i 9 v) B := by
    unfold md_W
    rw [up2_self, up2_ne (k := 9) (k' := 0) (by decide), up2_ne (k := 9) (k' := 1) (by decide), up2_ne (k := 9) (k' := 2) (by decide), up2_ne (k := 9) (k' := 3) (by decide), up2_ne (k := 9) (k' := 4) (by decide), up2_ne (k := 9) (k' := 6) (by decide), up2_ne (k := 9) (k' := 7) (by decide), up2_ne (k := 9) (k' := 8) (by decide), up2_ne (k := 9) (k' := 10) (by decide), up2_ne (k := 9) (k' := 11) (by decide), up2_ne (k := 9) (k' := 12) (by decide)]
    rfl
  rw [e] at T
  exact T
theorem md_set10 {i : Nat} (T : hw_T D A H0 ((md_W o am cm G S B).set 11 (am 10, .inl (cm 10, 32, .inl (upd (fun j => S j 10) i v)))) H locs) : hw_T D A H0 (md_W o am cm G (up2 S i 10 v) B) H locs := by
  have e : (md_W o am cm G S B).set 11 (am 10, .inl (cm 10, 32, .inl (upd (fun j => S j 10) i v))) = md_W o am cm G (up2 S i 10 v) B := by
    unfold md_W
    rw [up2_self, up2_ne (k := 10) (k' := 0) (by decide), up2_ne (k := 10) (k' := 1) (by decide), up2_ne (k := 10) (k' := 2) (by decide), up2_ne (k := 10) (k' := 3) (by decide), up2_ne (k := 10) (k' := 4) (by decide), up2_ne (k := 10) (k' := 6) (by decide), up2_ne (k := 10) (k' := 7) (by decide), up2_ne (k := 10) (k' := 8) (by decide), up2_ne (k := 10) (k' := 9) (by decide), up2_ne (k := 10) (k' := 11) (by decide), up2_ne (k := 10) (k' := 12) (by decide)]
    rfl
  rw [e] at T
  exact T
theorem md_set11 {i : Nat} (T : hw_T D A H0 ((md_W o am cm G S B).set 12 (am 11, .inl (cm 11, 32, .inl (upd (fun j => S j 11) i v)))) H locs) : hw_T D A H0 (md_W o am cm G (up2 S i 11 v) B) H locs := by
  have e : (md_W o am cm G S B).set 12 (am 11, .inl (cm 11, 32, .inl (upd (fun j => S j 11) i v))) = md_W o am cm G (up2 S i 11 v) B := by
    unfold md_W
    rw [up2_self, up2_ne (k := 11) (k' := 0) (by decide), up2_ne (k := 11) (k' := 1) (by decide), up2_ne (k := 11) (k' := 2) (by decide), up2_ne (k := 11) (k' := 3) (by decide), up2_ne (k := 11) (k' := 4) (by decide), up2_ne (k := 11) (k' := 6) (by decide), up2_ne (k := 11) (k' := 7) (by decide), up2_ne (k := 11) (k' := 8) (by decide), up2_ne (k := 11) (k' := 9) (by decide), up2_ne (k := 11) (k' := 10) (by decide), up2_ne (k := 11) (k' := 12) (by decide)]
    rfl
  rw [e] at T
  exact T
theorem md_set12 {i : Nat} (T : hw_T D A H0 ((md_W o am cm G S B).set 13 (am 12, .inl (cm 12, 32, .inl (upd (fun j => S j 12) i v)))) H locs) : hw_T D A H0 (md_W o am cm G (up2 S i 12 v) B) H locs := by
  have e : (md_W o am cm G S B).set 13 (am 12, .inl (cm 12, 32, .inl (upd (fun j => S j 12) i v))) = md_W o am cm G (up2 S i 12 v) B := by
    unfold md_W
    rw [up2_self, up2_ne (k := 12) (k' := 0) (by decide), up2_ne (k := 12) (k' := 1) (by decide), up2_ne (k := 12) (k' := 2) (by decide), up2_ne (k := 12) (k' := 3) (by decide), up2_ne (k := 12) (k' := 4) (by decide), up2_ne (k := 12) (k' := 6) (by decide), up2_ne (k := 12) (k' := 7) (by decide), up2_ne (k := 12) (k' := 8) (by decide), up2_ne (k := 12) (k' := 9) (by decide), up2_ne (k := 12) (k' := 10) (by decide), up2_ne (k := 12) (k' := 11) (by decide)]
    rfl
  rw [e] at T
  exact T
end
theorem mb_in {x y : Int32} (h1 : vp_in x 32) (h2 : vp_in y 32) : vp_in (32 * x + y) 1024 := by
  obtain ⟨a, ha, rfl⟩ := vp_in_of h1 (by decide)
  obtain ⟨b, hb, rfl⟩ := vp_in_of h2 (by decide)
  rw [show (32 : Int32) = nI 32 from rfl, pk_mul, nI_add]
  exact vp_in_nI (by omega) (by decide)
