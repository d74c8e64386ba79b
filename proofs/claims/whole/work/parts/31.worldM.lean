/-! ===== the world of an OctalHouseModel: cell j lies at a j ===== -/
def oh_V (a : Nat → Nat) (k : Nat → ClassId) (σ : oh_St) : va_W := [
  (a 0, .inr (8, [.int (σ 0 12), .ref (a 1), .int (σ 0 14), .int (σ 0 15), .int (σ 0 3), .int (σ 0 4), .int (σ 0 5), .int (σ 0 9), .int (σ 0 6), .int (σ 0 13), .int (σ 0 7), .int (σ 0 8), .int (σ 0 11), .int (σ 0 10), .int (σ 0 0), .int (σ 0 1), .int (σ 0 2), .ref (a 2), .ref (a 3), .ref (a 4), .ref (a 5), .ref (a 6), .ref (a 7), .ref (a 8), .ref (a 9), .ref (a 10), .ref (a 11), .ref (a 12), .ref (a 13), .ref (a 14), .ref (a 15), .ref (a 16), .ref (a 17), .ref (a 18), .ref (a 19)])),
  (a 1, .inl (k 0, 4096, .inl (σ 1))),
  (a 2, .inl (k 4, 12, .inl (σ 2))),
  (a 3, .inl (k 4, 12, .inl (σ 3))),
  (a 4, .inl (k 4, 12, .inl (σ 4))),
  (a 5, .inl (k 4, 12, .inl (σ 5))),
  (a 6, .inl (k 4, 12, .inl (σ 8))),
  (a 7, .inl (k 4, 12, .inl (σ 11))),
  (a 8, .inl (k 0, 12, .inl (σ 6))),
  (a 9, .inl (k 0, 12, .inl (σ 7))),
  (a 10, .inl (k 0, 12, .inl (σ 9))),
  (a 11, .inl (k 0, 12, .inl (σ 10))),
  (a 12, .inl (k 4, 12, .inl (σ 12))),
  (a 13, .inl (k 0, 12, .inl (σ 13))),
  (a 14, .inl (k 0, 12, .inl (σ 14))),
  (a 15, .inl (k 0, 12, .inl (σ 15))),
  (a 16, .inl (k 0, 12, .inl (σ 16))),
  (a 17, .inl (k 0, 12, .inl (σ 17))),
  (a 18, .inl (k 0, 1200, .inl (σ 20))),
  (a 19, .inl (k 0, 2400, .inl (σ 24)))]
theorem oh_nnI {x : Int32} : ¬ x < 0 ↔ 0 ≤ x.toInt := by
  rw [Int32.lt_iff_toInt_lt]
  have : (0 : Int32).toInt = 0 := rfl
  omega
/-- a mask that isn't negative makes what isn't negative -/
theorem oh_nnand (x : Int32) {m : Int32} (hm : 0 ≤ m.toInt) : ¬ (x &&& m) < 0 := by
  rw [oh_nnI]
  have h : (x &&& m).toBitVec.msb = false := by
    have e : (x &&& m).toBitVec = x.toBitVec &&& m.toBitVec := rfl
    rw [e, BitVec.msb_and]
    have h2 : m.toBitVec.msb = false := by
      have h3 : m.toInt = m.toBitVec.toInt := rfl
      rw [h3] at hm
      exact BitVec.msb_eq_false_iff_two_mul_lt.mpr (by
        have := BitVec.toInt_eq_toNat_cond m.toBitVec
        split at this <;> omega)
    rw [h2, Bool.and_false]
  have h3 : (x &&& m).toInt = (x &&& m).toBitVec.toInt := rfl
  rw [h3, BitVec.toInt_eq_toNat_of_msb h]
  omega
theorem oh_in8 {i : Int32} (h1 : ¬ i < 8) (h2 : ¬ 12 ≤ i) : vp_in i 12 := by
  rw [vp_in_iff]
  rw [Int32.lt_iff_toInt_lt] at h1
  rw [Int32.le_iff_toInt_le] at h2
  have : (8 : Int32).toInt = 8 := rfl
  have : (12 : Int32).toInt = 12 := rfl
  omega
theorem oh_in6 {i : Int32} (h1 : ¬ i < 6) (h2 : ¬ 12 ≤ i) : vp_in i 12 := by
  rw [vp_in_iff]
  rw [Int32.lt_iff_toInt_lt] at h1
  rw [Int32.le_iff_toInt_le] at h2
  have : (6 : Int32).toInt = 6 := rfl
  have : (12 : Int32).toInt = 12 := rfl
  omega
theorem oh_le2 {x y : Int32} (h : x ≤ y) : ¬ y < x := by
  rw [Int32.lt_iff_toInt_lt]
  rw [Int32.le_iff_toInt_le] at h
  omega
theorem oh_lt2 {x y : Int32} (h : x < y) : ¬ y ≤ x := by
  rw [Int32.le_iff_toInt_le]
  rw [Int32.lt_iff_toInt_lt] at h
  omega
theorem oh_cntE {i M : Int32} {f N : Nat} (hM : M.toInt = N + 1) (hN : N < 2147483000) (hI : ∃ j : Nat, i = nI j ∧ j + (f + 1) = N + 1 ∧ j ≤ N) (h : ¬ i + 1 = M) : ∃ j : Nat, i + 1 = nI j ∧ j + f = N + 1 ∧ j ≤ N := by
  obtain ⟨j, rfl, h1, h2⟩ := hI
  rw [nI_1] at h
  by_cases e : j = N
  · exact absurd (by apply Int32.toInt_inj.mp; rw [nI_toInt (by omega), hM, e]; omega) h
  · exact ⟨j + 1, nI_1 j, by omega, by omega⟩
theorem oh_cntV {i p1 : Int32} {f : Nat} (hI : ∃ j : Nat, i = nI j ∧ j + (f + 1) = p1.toNatClampNeg + 1 ∧ j ≤ p1.toNatClampNeg) (h : ¬ p1 ≤ i) : ∃ j : Nat, i + 1 = nI j ∧ j + f = p1.toNatClampNeg + 1 ∧ j ≤ p1.toNatClampNeg := by
  obtain ⟨j, rfl, h1, h2⟩ := hI
  have e : p1.toNatClampNeg = p1.toInt.toNat := rfl
  have hp : p1.toInt < 2147483648 := by
    have := Int32.toInt_lt p1
    omega
  rw [Int32.le_iff_toInt_le, nI_toInt (by omega)] at h
  exact ⟨j + 1, nI_1 j, by omega, by omega⟩
theorem oh_cntV0 {i : Int32} {N : Nat} : ¬ ∃ j : Nat, i = nI j ∧ j + 0 = N + 1 ∧ j ≤ N := by
  rintro ⟨j, -, h1, h2⟩
  omega
theorem oh_cntn {i : Int32} {f N : Nat} (hN : N < 2147483000) (hI : ∃ j : Nat, i = nI j ∧ j + (f + 1) = N + 1 ∧ j ≤ N) : ¬ i < 0 := by
  obtain ⟨j, rfl, h1, h2⟩ := hI
  exact nI_pos (by omega)

