/-! ===== the world of an OctalHouse: cell j lies at a j ===== -/
def oh_ty (k : Nat → ClassId) : List (ClassId × FieldType) := [(k 0, .int), (k 1, .object RX1), (k 2, .object RX2), (k 3, .object RX3), (k 4, .boolean)]
def oh_W (a : Nat → Nat) (k : Nat → ClassId) (σ : oh_St) : va_W := [
  (a 0, .inr (7, [.ref (a 1), .ref (a 3), .ref (a 4), .ref (a 8), .int (σ 0 0), .int (σ 0 1), .int (σ 0 2)])),
  (a 1, .inr (4, [.ref (a 2)])),
  (a 2, .inl (k 0, 4096, .inl (σ 1))),
  (a 3, .inr (6, [.int (σ 0 3), .int (σ 0 4), .int (σ 0 5), .int (σ 0 6), .int (σ 0 7), .int (σ 0 8)])),
  (a 4, .inr (0, [.ref (a 3), .ref (a 5), .ref (a 6), .ref (a 7), .int (σ 0 9), .int (σ 0 10), .int (σ 0 11)])),
  (a 5, .inl (k 1, 2, .inr (.inr (.inr (.inr (fun i => some (a (15 + i)))))))),
  (a 6, .inl (k 2, 4, .inr (.inr (.inr (.inr (fun i => some (a (17 + i)))))))),
  (a 7, .inl (k 3, 6, .inr (.inr (.inr (.inr (fun i => some (a (9 + i)))))))),
  (a 8, .inr (5, [.ref (a 1), .ref (a 3), .ref (a 4)])),
  (a 9, .inr (3, [.int (σ 2 6), .int (σ 3 6), .int (σ 4 6)])),
  (a 10, .inr (3, [.int (σ 2 7), .int (σ 3 7), .int (σ 4 7)])),
  (a 11, .inr (3, [.int (σ 2 8), .int (σ 3 8), .int (σ 4 8)])),
  (a 12, .inr (3, [.int (σ 2 9), .int (σ 3 9), .int (σ 4 9)])),
  (a 13, .inr (3, [.int (σ 2 10), .int (σ 3 10), .int (σ 4 10)])),
  (a 14, .inr (3, [.int (σ 2 11), .int (σ 3 11), .int (σ 4 11)])),
  (a 15, .inr (1, [.ref (a 9), .int (σ 5 6), .int (σ 6 6), .int (σ 7 6), .int (σ 8 6), .int (σ 9 6), .int (σ 10 6), .int (σ 11 6)])),
  (a 16, .inr (1, [.ref (a 10), .int (σ 5 7), .int (σ 6 7), .int (σ 7 7), .int (σ 8 7), .int (σ 9 7), .int (σ 10 7), .int (σ 11 7)])),
  (a 17, .inr (2, [.ref (a (11)), .ref (a 21), .ref (a 25), .int (σ 12 8), .int (σ 13 8), .int (σ 14 8), .int (σ 15 8), .int (σ 18 8), .int (σ 16 8), .int (σ 17 8)])),
  (a 18, .inr (2, [.ref (a (12)), .ref (a 22), .ref (a 26), .int (σ 12 9), .int (σ 13 9), .int (σ 14 9), .int (σ 15 9), .int (σ 18 9), .int (σ 16 9), .int (σ 17 9)])),
  (a 19, .inr (2, [.ref (a (13)), .ref (a 23), .ref (a 27), .int (σ 12 10), .int (σ 13 10), .int (σ 14 10), .int (σ 15 10), .int (σ 18 10), .int (σ 16 10), .int (σ 17 10)])),
  (a 20, .inr (2, [.ref (a (14)), .ref (a 24), .ref (a 28), .int (σ 12 11), .int (σ 13 11), .int (σ 14 11), .int (σ 15 11), .int (σ 18 11), .int (σ 16 11), .int (σ 17 11)])),
  (a 21, .inl (k 0, 100, .inl (σ 20))),
  (a 22, .inl (k 0, 100, .inl (σ 21))),
  (a 23, .inl (k 0, 100, .inl (σ 22))),
  (a 24, .inl (k 0, 100, .inl (σ 23))),
  (a 25, .inl (k 0, 200, .inl (σ 24))),
  (a 26, .inl (k 0, 200, .inl (σ 25))),
  (a 27, .inl (k 0, 200, .inl (σ 26))),
  (a 28, .inl (k 0, 200, .inl (σ 27)))]
theorem oh_gln (a : Nat → Nat) (k : Nat → ClassId) (σ : oh_St) {n : Nat} (hn : n < 6) : (oh_W a k σ)[9 + n]? = some (a (9 + n), .inr (3, [.int (σ 2 (6 + n)), .int (σ 3 (6 + n)), .int (σ 4 (6 + n))])) := by
  rcases (show n = 0 ∨ n = 1 ∨ n = 2 ∨ n = 3 ∨ n = 4 ∨ n = 5 by omega) with rfl | rfl | rfl | rfl | rfl | rfl <;> rfl
theorem oh_sln0 (a : Nat → Nat) (k : Nat → ClassId) (σ : oh_St) {n : Nat} (hn : n < 6) (v : Int32) : (oh_W a k σ).set (9 + n) (a (9 + n), .inr (3, [.int (σ 2 (6 + n)), .int (σ 3 (6 + n)), .int (σ 4 (6 + n))].set 0 (.int v))) = oh_W a k (oh_up σ 2 (6 + n) v) := by
  rcases (show n = 0 ∨ n = 1 ∨ n = 2 ∨ n = 3 ∨ n = 4 ∨ n = 5 by omega) with rfl | rfl | rfl | rfl | rfl | rfl <;> rfl
theorem oh_sln1 (a : Nat → Nat) (k : Nat → ClassId) (σ : oh_St) {n : Nat} (hn : n < 6) (v : Int32) : (oh_W a k σ).set (9 + n) (a (9 + n), .inr (3, [.int (σ 2 (6 + n)), .int (σ 3 (6 + n)), .int (σ 4 (6 + n))].set 1 (.int v))) = oh_W a k (oh_up σ 3 (6 + n) v) := by
  rcases (show n = 0 ∨ n = 1 ∨ n = 2 ∨ n = 3 ∨ n = 4 ∨ n = 5 by omega) with rfl | rfl | rfl | rfl | rfl | rfl <;> rfl
theorem oh_sln2 (a : Nat → Nat) (k : Nat → ClassId) (σ : oh_St) {n : Nat} (hn : n < 6) (v : Int32) : (oh_W a k σ).set (9 + n) (a (9 + n), .inr (3, [.int (σ 2 (6 + n)), .int (σ 3 (6 + n)), .int (σ 4 (6 + n))].set 2 (.int v))) = oh_W a k (oh_up σ 4 (6 + n) v) := by
  rcases (show n = 0 ∨ n = 1 ∨ n = 2 ∨ n = 3 ∨ n = 4 ∨ n = 5 by omega) with rfl | rfl | rfl | rfl | rfl | rfl <;> rfl
theorem oh_gch (a : Nat → Nat) (k : Nat → ClassId) (σ : oh_St) {n : Nat} (hn : n < 2) : (oh_W a k σ)[15 + n]? = some (a (15 + n), .inr (1, [.ref (a (9 + n)), .int (σ 5 (6 + n)), .int (σ 6 (6 + n)), .int (σ 7 (6 + n)), .int (σ 8 (6 + n)), .int (σ 9 (6 + n)), .int (σ 10 (6 + n)), .int (σ 11 (6 + n))])) := by
  rcases (show n = 0 ∨ n = 1 by omega) with rfl | rfl <;> rfl
theorem oh_sch1 (a : Nat → Nat) (k : Nat → ClassId) (σ : oh_St) {n : Nat} (hn : n < 2) (v : Int32) : (oh_W a k σ).set (15 + n) (a (15 + n), .inr (1, [.ref (a (9 + n)), .int (σ 5 (6 + n)), .int (σ 6 (6 + n)), .int (σ 7 (6 + n)), .int (σ 8 (6 + n)), .int (σ 9 (6 + n)), .int (σ 10 (6 + n)), .int (σ 11 (6 + n))].set 1 (.int v))) = oh_W a k (oh_up σ 5 (6 + n) v) := by
  rcases (show n = 0 ∨ n = 1 by omega) with rfl | rfl <;> rfl
theorem oh_sch2 (a : Nat → Nat) (k : Nat → ClassId) (σ : oh_St) {n : Nat} (hn : n < 2) (v : Int32) : (oh_W a k σ).set (15 + n) (a (15 + n), .inr (1, [.ref (a (9 + n)), .int (σ 5 (6 + n)), .int (σ 6 (6 + n)), .int (σ 7 (6 + n)), .int (σ 8 (6 + n)), .int (σ 9 (6 + n)), .int (σ 10 (6 + n)), .int (σ 11 (6 + n))].set 2 (.int v))) = oh_W a k (oh_up σ 6 (6 + n) v) := by
  rcases (show n = 0 ∨ n = 1 by omega) with rfl | rfl <;> rfl
theorem oh_sch3 (a : Nat → Nat) (k : Nat → ClassId) (σ : oh_St) {n : Nat} (hn : n < 2) (v : Int32) : (oh_W a k σ).set (15 + n) (a (15 + n), .inr (1, [.ref (a (9 + n)), .int (σ 5 (6 + n)), .int (σ 6 (6 + n)), .int (σ 7 (6 + n)), .int (σ 8 (6 + n)), .int (σ 9 (6 + n)), .int (σ 10 (6 + n)), .int (σ 11 (6 + n))].set 3 (.int v))) = oh_W a k (oh_up σ 7 (6 + n) v) := by
  rcases (show n = 0 ∨ n = 1 by omega) with rfl | rfl <;> rfl
theorem oh_sch4 (a : Nat → Nat) (k : Nat → ClassId) (σ : oh_St) {n : Nat} (hn : n < 2) (v : Int32) : (oh_W a k σ).set (15 + n) (a (15 + n), .inr (1, [.ref (a (9 + n)), .int (σ 5 (6 + n)), .int (σ 6 (6 + n)), .int (σ 7 (6 + n)), .int (σ 8 (6 + n)), .int (σ 9 (6 + n)), .int (σ 10 (6 + n)), .int (σ 11 (6 + n))].set 4 (.int v))) = oh_W a k (oh_up σ 8 (6 + n) v) := by
  rcases (show n = 0 ∨ n = 1 by omega) with rfl | rfl <;> rfl
theorem oh_sch5 (a : Nat → Nat) (k : Nat → ClassId) (σ : oh_St) {n : Nat} (hn : n < 2) (v : Int32) : (oh_W a k σ).set (15 + n) (a (15 + n), .inr (1, [.ref (a (9 + n)), .int (σ 5 (6 + n)), .int (σ 6 (6 + n)), .int (σ 7 (6 + n)), .int (σ 8 (6 + n)), .int (σ 9 (6 + n)), .int (σ 10 (6 + n)), .int (σ 11 (6 + n))].set 5 (.int v))) = oh_W a k (oh_up σ 9 (6 + n) v) := by
  rcases (show n = 0 ∨ n = 1 by omega) with rfl | rfl <;> rfl
theorem oh_sch6 (a : Nat → Nat) (k : Nat → ClassId) (σ : oh_St) {n : Nat} (hn : n < 2) (v : Int32) : (oh_W a k σ).set (15 + n) (a (15 + n), .inr (1, [.ref (a (9 + n)), .int (σ 5 (6 + n)), .int (σ 6 (6 + n)), .int (σ 7 (6 + n)), .int (σ 8 (6 + n)), .int (σ 9 (6 + n)), .int (σ 10 (6 + n)), .int (σ 11 (6 + n))].set 6 (.int v))) = oh_W a k (oh_up σ 10 (6 + n) v) := by
  rcases (show n = 0 ∨ n = 1 by omega) with rfl | rfl <;> rfl
theorem oh_sch7 (a : Nat → Nat) (k : Nat → ClassId) (σ : oh_St) {n : Nat} (hn : n < 2) (v : Int32) : (oh_W a k σ).set (15 + n) (a (15 + n), .inr (1, [.ref (a (9 + n)), .int (σ 5 (6 + n)), .int (σ 6 (6 + n)), .int (σ 7 (6 + n)), .int (σ 8 (6 + n)), .int (σ 9 (6 + n)), .int (σ 10 (6 + n)), .int (σ 11 (6 + n))].set 7 (.int v))) = oh_W a k (oh_up σ 11 (6 + n) v) := by
  rcases (show n = 0 ∨ n = 1 by omega) with rfl | rfl <;> rfl
theorem oh_gdv (a : Nat → Nat) (k : Nat → ClassId) (σ : oh_St) {n : Nat} (hn : n < 4) : (oh_W a k σ)[17 + n]? = some (a (17 + n), .inr (2, [.ref (a (9 + (2 + n))), .ref (a (21 + n)), .ref (a (25 + n)), .int (σ 12 (8 + n)), .int (σ 13 (8 + n)), .int (σ 14 (8 + n)), .int (σ 15 (8 + n)), .int (σ 18 (8 + n)), .int (σ 16 (8 + n)), .int (σ 17 (8 + n))])) := by
  rcases (show n = 0 ∨ n = 1 ∨ n = 2 ∨ n = 3 by omega) with rfl | rfl | rfl | rfl <;> rfl
theorem oh_sdv3 (a : Nat → Nat) (k : Nat → ClassId) (σ : oh_St) {n : Nat} (hn : n < 4) (v : Int32) : (oh_W a k σ).set (17 + n) (a (17 + n), .inr (2, [.ref (a (9 + (2 + n))), .ref (a (21 + n)), .ref (a (25 + n)), .int (σ 12 (8 + n)), .int (σ 13 (8 + n)), .int (σ 14 (8 + n)), .int (σ 15 (8 + n)), .int (σ 18 (8 + n)), .int (σ 16 (8 + n)), .int (σ 17 (8 + n))].set 3 (.int v))) = oh_W a k (oh_up σ 12 (8 + n) v) := by
  rcases (show n = 0 ∨ n = 1 ∨ n = 2 ∨ n = 3 by omega) with rfl | rfl | rfl | rfl <;> rfl
theorem oh_sdv4 (a : Nat → Nat) (k : Nat → ClassId) (σ : oh_St) {n : Nat} (hn : n < 4) (v : Int32) : (oh_W a k σ).set (17 + n) (a (17 + n), .inr (2, [.ref (a (9 + (2 + n))), .ref (a (21 + n)), .ref (a (25 + n)), .int (σ 12 (8 + n)), .int (σ 13 (8 + n)), .int (σ 14 (8 + n)), .int (σ 15 (8 + n)), .int (σ 18 (8 + n)), .int (σ 16 (8 + n)), .int (σ 17 (8 + n))].set 4 (.int v))) = oh_W a k (oh_up σ 13 (8 + n) v) := by
  rcases (show n = 0 ∨ n = 1 ∨ n = 2 ∨ n = 3 by omega) with rfl | rfl | rfl | rfl <;> rfl
theorem oh_sdv5 (a : Nat → Nat) (k : Nat → ClassId) (σ : oh_St) {n : Nat} (hn : n < 4) (v : Int32) : (oh_W a k σ).set (17 + n) (a (17 + n), .inr (2, [.ref (a (9 + (2 + n))), .ref (a (21 + n)), .ref (a (25 + n)), .int (σ 12 (8 + n)), .int (σ 13 (8 + n)), .int (σ 14 (8 + n)), .int (σ 15 (8 + n)), .int (σ 18 (8 + n)), .int (σ 16 (8 + n)), .int (σ 17 (8 + n))].set 5 (.int v))) = oh_W a k (oh_up σ 14 (8 + n) v) := by
  rcases (show n = 0 ∨ n = 1 ∨ n = 2 ∨ n = 3 by omega) with rfl | rfl | rfl | rfl <;> rfl
theorem oh_sdv6 (a : Nat → Nat) (k : Nat → ClassId) (σ : oh_St) {n : Nat} (hn : n < 4) (v : Int32) : (oh_W a k σ).set (17 + n) (a (17 + n), .inr (2, [.ref (a (9 + (2 + n))), .ref (a (21 + n)), .ref (a (25 + n)), .int (σ 12 (8 + n)), .int (σ 13 (8 + n)), .int (σ 14 (8 + n)), .int (σ 15 (8 + n)), .int (σ 18 (8 + n)), .int (σ 16 (8 + n)), .int (σ 17 (8 + n))].set 6 (.int v))) = oh_W a k (oh_up σ 15 (8 + n) v) := by
  rcases (show n = 0 ∨ n = 1 ∨ n = 2 ∨ n = 3 by omega) with rfl | rfl | rfl | rfl <;> rfl
theorem oh_sdv7 (a : Nat → Nat) (k : Nat → ClassId) (σ : oh_St) {n : Nat} (hn : n < 4) (v : Int32) : (oh_W a k σ).set (17 + n) (a (17 + n), .inr (2, [.ref (a (9 + (2 + n))), .ref (a (21 + n)), .ref (a (25 + n)), .int (σ 12 (8 + n)), .int (σ 13 (8 + n)), .int (σ 14 (8 + n)), .int (σ 15 (8 + n)), .int (σ 18 (8 + n)), .int (σ 16 (8 + n)), .int (σ 17 (8 + n))].set 7 (.int v))) = oh_W a k (oh_up σ 18 (8 + n) v) := by
  rcases (show n = 0 ∨ n = 1 ∨ n = 2 ∨ n = 3 by omega) with rfl | rfl | rfl | rfl <;> rfl
theorem oh_sdv8 (a : Nat → Nat) (k : Nat → ClassId) (σ : oh_St) {n : Nat} (hn : n < 4) (v : Int32) : (oh_W a k σ).set (17 + n) (a (17 + n), .inr (2, [.ref (a (9 + (2 + n))), .ref (a (21 + n)), .ref (a (25 + n)), .int (σ 12 (8 + n)), .int (σ 13 (8 + n)), .int (σ 14 (8 + n)), .int (σ 15 (8 + n)), .int (σ 18 (8 + n)), .int (σ 16 (8 + n)), .int (σ 17 (8 + n))].set 8 (.int v))) = oh_W a k (oh_up σ 16 (8 + n) v) := by
  rcases (show n = 0 ∨ n = 1 ∨ n = 2 ∨ n = 3 by omega) with rfl | rfl | rfl | rfl <;> rfl
theorem oh_sdv9 (a : Nat → Nat) (k : Nat → ClassId) (σ : oh_St) {n : Nat} (hn : n < 4) (v : Int32) : (oh_W a k σ).set (17 + n) (a (17 + n), .inr (2, [.ref (a (9 + (2 + n))), .ref (a (21 + n)), .ref (a (25 + n)), .int (σ 12 (8 + n)), .int (σ 13 (8 + n)), .int (σ 14 (8 + n)), .int (σ 15 (8 + n)), .int (σ 18 (8 + n)), .int (σ 16 (8 + n)), .int (σ 17 (8 + n))].set 9 (.int v))) = oh_W a k (oh_up σ 17 (8 + n) v) := by
  rcases (show n = 0 ∨ n = 1 ∨ n = 2 ∨ n = 3 by omega) with rfl | rfl | rfl | rfl <;> rfl
theorem oh_gtp (a : Nat → Nat) (k : Nat → ClassId) (σ : oh_St) {n : Nat} (hn : n < 4) : (oh_W a k σ)[21 + n]? = some (a (21 + n), .inl (k 0, 100, .inl (σ (20 + n)))) := by
  rcases (show n = 0 ∨ n = 1 ∨ n = 2 ∨ n = 3 by omega) with rfl | rfl | rfl | rfl <;> rfl
theorem oh_stp (a : Nat → Nat) (k : Nat → ClassId) (σ : oh_St) {n : Nat} (hn : n < 4) (i : Nat) (v : Int32) : (oh_W a k σ).set (21 + n) (a (21 + n), .inl (k 0, 100, .inl (upd (σ (20 + n)) i v))) = oh_W a k (oh_up σ (20 + n) i v) := by
  rcases (show n = 0 ∨ n = 1 ∨ n = 2 ∨ n = 3 by omega) with rfl | rfl | rfl | rfl <;> rfl
theorem oh_gkp (a : Nat → Nat) (k : Nat → ClassId) (σ : oh_St) {n : Nat} (hn : n < 4) : (oh_W a k σ)[25 + n]? = some (a (25 + n), .inl (k 0, 200, .inl (σ (24 + n)))) := by
  rcases (show n = 0 ∨ n = 1 ∨ n = 2 ∨ n = 3 by omega) with rfl | rfl | rfl | rfl <;> rfl
theorem oh_skp (a : Nat → Nat) (k : Nat → ClassId) (σ : oh_St) {n : Nat} (hn : n < 4) (i : Nat) (v : Int32) : (oh_W a k σ).set (25 + n) (a (25 + n), .inl (k 0, 200, .inl (upd (σ (24 + n)) i v))) = oh_W a k (oh_up σ (24 + n) i v) := by
  rcases (show n = 0 ∨ n = 1 ∨ n = 2 ∨ n = 3 by omega) with rfl | rfl | rfl | rfl <;> rfl
abbrev oh_ix (i : Int32) (n : Nat) : Prop := 0 ≤ i.toInt ∧ i.toInt < (n : Int)
theorem oh_ixN {i : Int32} {n : Nat} (h : oh_ix i n) : i.toNatClampNeg < n := by
  obtain ⟨h1, h2⟩ := h
  have e : i.toNatClampNeg = i.toInt.toNat := rfl
  omega
theorem oh_ixin {i : Int32} {n : Nat} (h : oh_ix i n) : vp_in i n := vp_in_iff.mpr h
theorem oh_ix_iff {i N : Int32} {n : Nat} (hN : N.toInt = n) : oh_ix i n ↔ ¬ i < 0 ∧ ¬ N ≤ i := by
  rw [Int32.lt_iff_toInt_lt, Int32.le_iff_toInt_le]
  have : (0 : Int32).toInt = 0 := rfl
  unfold oh_ix
  omega
theorem oh_cnt {i M : Int32} {f N : Nat} (hM : M.toInt = N) (hN : N < 2147483000) (hI : ∃ j : Nat, i = nI j ∧ j + (f + 1) = N + 1 ∧ j ≤ N) (h : ¬ M ≤ i) : ∃ j : Nat, i + 1 = nI j ∧ j + f = N + 1 ∧ j ≤ N := by
  obtain ⟨j, rfl, h1, h2⟩ := hI
  rw [Int32.le_iff_toInt_le, hM, nI_toInt (by omega)] at h
  exact ⟨j + 1, nI_1 j, by omega, by omega⟩
theorem oh_cnt0 {i : Int32} {N : Nat} : ¬ ∃ j : Nat, i = nI j ∧ j + 0 = N + 1 ∧ j ≤ N := by
  rintro ⟨j, -, h1, h2⟩
  omega
theorem oh_l1 {n : Nat} (h : n < 2) : n < 6 := by omega
theorem oh_l2 {n : Nat} (h : n < 4) : 2 + n < 6 := by omega
theorem oh_pair {α β : Type} {x : α} {y : β} {z : α × β} (h : (x, y) = z) : x = z.1 ∧ y = z.2 := by subst h; exact ⟨rfl, rfl⟩
theorem oh_nb {v : Int32} (h : v = 0 ∨ v = 1) : narrow .boolean (.int v) = .int v := by rcases h with rfl | rfl <;> rfl
theorem oh_fb {v : Int32} (h : v = 0 ∨ v = 1) : fits .boolean (.int v) = true := by rcases h with rfl | rfl <;> rfl
theorem oh_vb {v : Int32} (h : v = 0 ∨ v = 1) : vp_nar .boolean v = v := by rcases h with rfl | rfl <;> rfl
theorem oh_b01 {c : Prop} [Decidable c] : (if c then (1 : Int32) else 0) = 0 ∨ (if c then (1 : Int32) else 0) = 1 := by split <;> simp
theorem oh_b10 {c : Prop} [Decidable c] : (if c then (0 : Int32) else 1) = 0 ∨ (if c then (0 : Int32) else 1) = 1 := by split <;> simp
theorem oh_ne {x j : Int32} (h : ¬ x = j) : x.toInt ≠ j.toInt := fun e => h (Int32.toInt_inj.mp e)
theorem oh_in {i N : Int32} {n : Nat} (h1 : ¬ i < 0) (h2 : ¬ N ≤ i) (hN : N.toInt = n) : vp_in i n := by
  rw [vp_in_iff]
  rw [Int32.lt_iff_toInt_lt] at h1
  rw [Int32.le_iff_toInt_le] at h2
  have : (0 : Int32).toInt = 0 := rfl
  omega
theorem oh_in2 {i N : Int32} {n : Nat} (h1 : ¬ i < 0) (h2 : i < N) (hN : N.toInt = n) : vp_in i n := by
  rw [vp_in_iff]
  rw [Int32.lt_iff_toInt_lt] at h1 h2
  have : (0 : Int32).toInt = 0 := rfl
  omega
theorem oh_in3 {i N : Int32} {n : Nat} (h1 : 0 ≤ i) (h2 : ¬ N ≤ i) (hN : N.toInt = n) : vp_in i n := by
  rw [vp_in_iff]
  rw [Int32.le_iff_toInt_le] at h1 h2
  have : (0 : Int32).toInt = 0 := rfl
  omega
theorem oh_inN {i : Int32} {n : Nat} (h : vp_in i n) : i.toNatClampNeg < n := by
  unfold vp_in at h
  omega
section
variable {p : Program} {l : Launch} {e : Env} {R : Room} {s : State} {m : MethodId} {args : Array Value} {below : List Frame} {meth : Method} {c : Code} {H : Heap} {locs : List Loc} {Q : State → Prop} {D : va_G} {tys : List (ClassId × FieldType)} {Wd : oh_St → va_W} {σ σ' : oh_St} {cc : ByteArray} {nL pc : Nat} {ls : Array Slot} {ws : List Cond} {own : String} {A : Nat → Prop} {rt : Option FieldType}
theorem oh_get (hC : oh_Cx p s m meth c cc nL rt ws args own D tys A) (hP : va_P D vwCl (Wd σ) H) {C : String} {T : u_T} {N : Nat} (hin : ∀ w ∈ u_ws C T N, w ∈ ws) (q0 : Nat) {b ci : Nat} {fs rest : List Value} (he : (Wd σ)[q0]? = some (b, .inr (ci, fs))) (hc : vwCl[ci]? = some (C, T, N)) (k : Nat) (hk : k < N) {index : Nat} (hlink : (Cond.fieldLink own index (T k).1 (T k).2.1 (T k).2.2.1) ∈ ws) {v : Value} (hv : fs[k]? = some v) (hdg : decode cc pc = .ok (.getfield index, 3)) (kk : W p l e R s m args below meth c H locs 0 0 Q (F0 m (pc + 3) ls (v :: rest))) : W p l e R s m args below meth c H locs 0 0 Q (F0 m pc ls (.ref b :: rest)) := by
  obtain ⟨hx, hb, hml, hown, hts, hr, hlocks, hK, hN, hA⟩ := hC
  exact va_get hx hb hts hin hown hK hP q0 he hc k hk (hts _ hlink) (fun _ h9 => h9) hv hdg kk
theorem oh_getN (hC : oh_Cx p s m meth c cc nL rt ws args own D tys A) (hP : va_P D vwCl (Wd σ) H) {C : String} {T : u_T} {N : Nat} (hin : ∀ w ∈ u_ws C T N, w ∈ ws) (q0 : Nat) {b ci : Nat} {fs rest : List Value} (he : (Wd σ)[q0]? = some (b, .inr (ci, fs))) (hc : vwCl[ci]? = some (C, T, N)) (k : Nat) (hk : k < N) {index : Nat} (hlink : (own, index, (T k).1, (T k).2.1, (T k).2.2.1) ∈ oh_nf) {v : Value} (hv : fs[k]? = some v) (hdg : decode cc pc = .ok (.getfield index, 3)) (kk : W p l e R s m args below meth c H locs 0 0 Q (F0 m (pc + 3) ls (v :: rest))) : W p l e R s m args below meth c H locs 0 0 Q (F0 m pc ls (.ref b :: rest)) := by
  obtain ⟨hx, hb, hml, hown, hts, hr, hlocks, hK, hN, hA⟩ := hC
  exact va_getN hx hb hts hin hown hK hP q0 he hc k hk (oh_nF hN hlink) (fun _ h9 => h9) hv hdg kk
theorem oh_put (hC : oh_Cx p s m meth c cc nL rt ws args own D tys A) (hP : va_P D vwCl (Wd σ) H) (hD : va_D A (Wd σ)) (hS : va_S A s.heap H locs) {C : String} {T : u_T} {N : Nat} (hin : ∀ w ∈ u_ws C T N, w ∈ ws) (ty0 : Nat → FieldType) (hty : ∀ k, k < N → parseFieldDescriptor (T k).2.2.1 = some (ty0 k)) (hnm : ∀ a, a < N → ∀ b, b < N → a ≠ b → (T a).2.1 ≠ (T b).2.1) (q0 : Nat) {b ci : Nat} {fs rest : List Value} (he : (Wd σ)[q0]? = some (b, .inr (ci, fs))) (hc : vwCl[ci]? = some (C, T, N)) (k : Nat) (hk : k < N) {index : Nat} (hlink : (Cond.fieldLink own index (T k).1 (T k).2.1 (T k).2.2.1) ∈ ws) (hfin : (T k).2.2.2 = false) {v : Value} (hn : narrow (ty0 k) v = v) (hfit : fits (ty0 k) v = true) (hl : k < fs.length) (hset : (Wd σ).set q0 (b, .inr (ci, fs.set k v)) = Wd σ') (hdg : decode cc pc = .ok (.putfield index, 3)) (kk : ∀ (H1 : Heap) (locs1 : List Loc), va_P D vwCl (Wd σ') H1 → va_D A (Wd σ') → va_S A s.heap H1 locs1 → W p l e R s m args below meth c H1 locs1 0 0 Q (F0 m (pc + 3) ls rest)) : W p l e R s m args below meth c H locs 0 0 Q (F0 m pc ls (v :: .ref b :: rest)) := by
  obtain ⟨hx, hb, hml, hown, hts, hr, hlocks, hK, hN, hA⟩ := hC
  refine va_put hx hb hts hin ty0 hty hnm hown hK hP hD hS q0 he hc k hk (hts _ hlink) (fun _ h9 => h9) hfin (hty k hk) hn hfit hl hdg (fun H1 locs1 hP1 hD1 hS1 => ?_)
  rw [hset] at hP1 hD1
  exact kk H1 locs1 hP1 hD1 hS1
theorem oh_putN (hC : oh_Cx p s m meth c cc nL rt ws args own D tys A) (hP : va_P D vwCl (Wd σ) H) (hD : va_D A (Wd σ)) (hS : va_S A s.heap H locs) {C : String} {T : u_T} {N : Nat} (hin : ∀ w ∈ u_ws C T N, w ∈ ws) (ty0 : Nat → FieldType) (hty : ∀ k, k < N → parseFieldDescriptor (T k).2.2.1 = some (ty0 k)) (hnm : ∀ a, a < N → ∀ b, b < N → a ≠ b → (T a).2.1 ≠ (T b).2.1) (q0 : Nat) {b ci : Nat} {fs rest : List Value} (he : (Wd σ)[q0]? = some (b, .inr (ci, fs))) (hc : vwCl[ci]? = some (C, T, N)) (k : Nat) (hk : k < N) {index : Nat} (hlink : (own, index, (T k).1, (T k).2.1, (T k).2.2.1) ∈ oh_nf) (hfin : (T k).2.2.2 = false) {v : Value} (hn : narrow (ty0 k) v = v) (hfit : fits (ty0 k) v = true) (hl : k < fs.length) (hset : (Wd σ).set q0 (b, .inr (ci, fs.set k v)) = Wd σ') (hdg : decode cc pc = .ok (.putfield index, 3)) (kk : ∀ (H1 : Heap) (locs1 : List Loc), va_P D vwCl (Wd σ') H1 → va_D A (Wd σ') → va_S A s.heap H1 locs1 → W p l e R s m args below meth c H1 locs1 0 0 Q (F0 m (pc + 3) ls rest)) : W p l e R s m args below meth c H locs 0 0 Q (F0 m pc ls (v :: .ref b :: rest)) := by
  obtain ⟨hx, hb, hml, hown, hts, hr, hlocks, hK, hN, hA⟩ := hC
  refine va_putN hx hb hts hin ty0 hty hnm hown hK hP hD hS q0 he hc k hk (oh_nF hN hlink) (fun _ h9 => h9) hfin (hty k hk) hn hfit hl hdg (fun H1 locs1 hP1 hD1 hS1 => ?_)
  rw [hset] at hP1 hD1
  exact kk H1 locs1 hP1 hD1 hS1
theorem oh_iald (hC : oh_Cx p s m meth c cc nL rt ws args own D tys A) (hP : va_P D vwCl (Wd σ) H) (q0 t0 : Nat) {b : Nat} {rest : List Value} {cA : ClassId} {n : Nat} {f : Nat → Int32} (he : (Wd σ)[q0]? = some (b, .inl (cA, n, .inl f))) (ht : tys[t0]? = some (cA, .int)) {i : Int32} (hin : vp_in i n) (hdg : decode cc pc = .ok (.iaload, 1)) (kk : W p l e R s m args below meth c H locs 0 0 Q (F0 m (pc + 1) ls (.int (f i.toNatClampNeg) :: rest))) : W p l e R s m args below meth c H locs 0 0 Q (F0 m pc ls (.int i :: .ref b :: rest)) := by
  obtain ⟨hx, hb, hml, hown, hts, hr, hlocks, hK, hN, hA⟩ := hC
  exact va_iald hx hb hK hP q0 t0 he ht hin hdg kk
theorem oh_zald (hC : oh_Cx p s m meth c cc nL rt ws args own D tys A) (hP : va_P D vwCl (Wd σ) H) (q0 t0 : Nat) {b : Nat} {rest : List Value} {cA : ClassId} {n : Nat} {f : Nat → Int32} (he : (Wd σ)[q0]? = some (b, .inl (cA, n, .inl f))) (ht : tys[t0]? = some (cA, .boolean)) {i : Int32} (hin : vp_in i n) (hdg : decode cc pc = .ok (.baload, 1)) (kk : W p l e R s m args below meth c H locs 0 0 Q (F0 m (pc + 1) ls (.int (f i.toNatClampNeg) :: rest))) : W p l e R s m args below meth c H locs 0 0 Q (F0 m pc ls (.int i :: .ref b :: rest)) := by
  obtain ⟨hx, hb, hml, hown, hts, hr, hlocks, hK, hN, hA⟩ := hC
  exact va_zald hx hb hK hP q0 t0 he ht hin hdg kk
theorem oh_aald (hC : oh_Cx p s m meth c cc nL rt ws args own D tys A) (hP : va_P D vwCl (Wd σ) H) (q0 t0 : Nat) {b : Nat} {rest : List Value} {cA : ClassId} {C : String} {n : Nat} {f : Nat → Option Nat} (he : (Wd σ)[q0]? = some (b, .inl (cA, n, .inr (.inr (.inr (.inr f)))))) (ht : tys[t0]? = some (cA, .object C)) {i : Int32} (hin : vp_in i n) (hdg : decode cc pc = .ok (.aaload, 1)) (kk : W p l e R s m args below meth c H locs 0 0 Q (F0 m (pc + 1) ls (va_rf (f i.toNatClampNeg) :: rest))) : W p l e R s m args below meth c H locs 0 0 Q (F0 m pc ls (.int i :: .ref b :: rest)) := by
  obtain ⟨hx, hb, hml, hown, hts, hr, hlocks, hK, hN, hA⟩ := hC
  exact va_aldq hx hb hK hP q0 t0 he ht hin hdg kk
theorem oh_iast (hC : oh_Cx p s m meth c cc nL rt ws args own D tys A) (hP : va_P D vwCl (Wd σ) H) (hD : va_D A (Wd σ)) (hS : va_S A s.heap H locs) (q0 t0 : Nat) {b : Nat} {rest : List Value} {cA : ClassId} {n : Nat} {f : Nat → Int32} (he : (Wd σ)[q0]? = some (b, .inl (cA, n, .inl f))) (ht : tys[t0]? = some (cA, .int)) {i x : Int32} (hin : vp_in i n) (hset : (Wd σ).set q0 (b, .inl (cA, n, .inl (upd f i.toNatClampNeg x))) = Wd σ') (hdg : decode cc pc = .ok (.iastore, 1)) (kk : ∀ (H1 : Heap) (locs1 : List Loc), va_P D vwCl (Wd σ') H1 → va_D A (Wd σ') → va_S A s.heap H1 locs1 → W p l e R s m args below meth c H1 locs1 0 0 Q (F0 m (pc + 1) ls rest)) : W p l e R s m args below meth c H locs 0 0 Q (F0 m pc ls (.int x :: .int i :: .ref b :: rest)) := by
  obtain ⟨hx, hb, hml, hown, hts, hr, hlocks, hK, hN, hA⟩ := hC
  refine va_iast hx hb hK hP hD hS q0 t0 he ht hin hdg (fun H1 locs1 hP1 hD1 hS1 => ?_)
  rw [hset] at hP1 hD1
  exact kk H1 locs1 hP1 hD1 hS1
theorem oh_zast (hC : oh_Cx p s m meth c cc nL rt ws args own D tys A) (hP : va_P D vwCl (Wd σ) H) (hD : va_D A (Wd σ)) (hS : va_S A s.heap H locs) (q0 t0 : Nat) {b : Nat} {rest : List Value} {cA : ClassId} {n : Nat} {f : Nat → Int32} (he : (Wd σ)[q0]? = some (b, .inl (cA, n, .inl f))) (ht : tys[t0]? = some (cA, .boolean)) {i x : Int32} (hin : vp_in i n) (hx01 : x = 0 ∨ x = 1) (hset : (Wd σ).set q0 (b, .inl (cA, n, .inl (upd f i.toNatClampNeg x))) = Wd σ') (hdg : decode cc pc = .ok (.bastore, 1)) (kk : ∀ (H1 : Heap) (locs1 : List Loc), va_P D vwCl (Wd σ') H1 → va_D A (Wd σ') → va_S A s.heap H1 locs1 → W p l e R s m args below meth c H1 locs1 0 0 Q (F0 m (pc + 1) ls rest)) : W p l e R s m args below meth c H locs 0 0 Q (F0 m pc ls (.int x :: .int i :: .ref b :: rest)) := by
  obtain ⟨hx, hb, hml, hown, hts, hr, hlocks, hK, hN, hA⟩ := hC
  refine va_zast hx hb hK hP hD hS q0 t0 he ht hin hdg (fun H1 locs1 hP1 hD1 hS1 => ?_)
  rw [oh_vb hx01, hset] at hP1 hD1
  exact kk H1 locs1 hP1 hD1 hS1
theorem oh_alen (hC : oh_Cx p s m meth c cc nL rt ws args own D tys A) (hP : va_P D vwCl (Wd σ) H) (q0 t0 : Nat) {b : Nat} {rest : List Value} {cA : ClassId} {x : vp_A} (he : (Wd σ)[q0]? = some (b, .inl (cA, x))) {ty : FieldType} (ht : tys[t0]? = some (cA, ty)) {v : Int32} (hv : Int32.ofNat x.1 = v) (hdg : decode cc pc = .ok (.arraylength, 1)) (kk : W p l e R s m args below meth c H locs 0 0 Q (F0 m (pc + 1) ls (.int v :: rest))) : W p l e R s m args below meth c H locs 0 0 Q (F0 m pc ls (.ref b :: rest)) := by
  obtain ⟨hx, hb, hml, hown, hts, hr, hlocks, hK, hN, hA⟩ := hC
  exact va_alen hx hb hK hP q0 t0 he ht hv hdg kk
theorem oh_fr (hA : ∀ q : Nat, s.heap.size ≤ q → A q) (hD : va_D A (Wd σ)) (hS : va_S A s.heap H locs) : ∀ q, va_A (Wd σ) H.size q → A q := by
  intro q h
  rcases h with ⟨k, e, h⟩ | h
  · exact hD.2 k _ h
  · exact hA q (Nat.le_trans hS.1 h)
section
variable {y : MethodName} {wy : List Cond} {rm : Room} {bytes : ByteArray} {maxL index n : Nat} {ret : Option FieldType} {C : String} {b : Nat} {As rest st0 : List Value}
theorem oh_cvi {post : Int32 → oh_St → Prop} (hC : oh_Cx p s m meth c cc nL rt ws args own D tys A) (hP : va_P D vwCl (Wd σ) H) (hD : va_D A (Wd σ)) (hS : va_S A s.heap H locs) (hM : oh_Mi l y wy rm D tys Wd (.ref b :: As) σ post) (cw : CallW R s args own C index y bytes maxL ret wy rm 0 0 n) (q0 ci : Nat) {T : u_T} {N : Nat} {fs : List Value} (he : (Wd σ)[q0]? = some (b, .inr (ci, fs))) (hc : vwCl[ci]? = some (C, T, N)) (hn : As.length = n) (hsz : ls.size = nL) (hst : st0 = As.reverse ++ .ref b :: rest) (hW : (rest.map fun v => v.category).sum ≤ 8) (hdg : decode cc pc = .ok (.invokevirtual index, 3)) (kk : ∀ (r : Int32) (u : oh_St) (H1 : Heap) (locs1 : List Loc), post r u → va_P D vwCl (Wd u) H1 → va_D A (Wd u) → va_S A s.heap H1 locs1 → W p l e R s m args below meth c H1 locs1 0 0 Q (F0 m (pc + 3) ls (.int r :: rest))) : W p l e R s m args below meth c H locs 0 0 Q (F0 m pc ls st0) := by
  obtain ⟨hx, hb, hml, hown, hts, hr, hlocks, hK, hN, hA⟩ := hC
  have hF := oh_fr hA hD hS
  subst hst
  refine va_calli (va_runV (As := As) (rest := rest) ⟨hx, hb, hml, hown, hts⟩ (hM H.size) cw ⟨oh_blind, va_recv hK hP hc he, fun U hU hW => ⟨rfl, oh_Pr.at hP hK hN hD U hU hW⟩⟩ rfl hn hsz rfl (lv_room hW) hdg ⟨Nat.zero_le _, Nat.zero_le _⟩) hS (fun q _ h => hF q h) hF (fun r u t H1 locs1 ht hvm hw hB hz1 hk1 hS1 => ?_)
  exact kk r u H1 locs1 hw (by rw [← ht]; exact hB.1) (hB.2.weaken (fun _ q _ h => hF q.1 h)) hS1
theorem oh_cvl {post : Int64 → oh_St → Prop} (hC : oh_Cx p s m meth c cc nL rt ws args own D tys A) (hP : va_P D vwCl (Wd σ) H) (hD : va_D A (Wd σ)) (hS : va_S A s.heap H locs) (hM : oh_Ml l y wy rm D tys Wd (.ref b :: As) σ post) (cw : CallW R s args own C index y bytes maxL ret wy rm 0 0 n) (q0 ci : Nat) {T : u_T} {N : Nat} {fs : List Value} (he : (Wd σ)[q0]? = some (b, .inr (ci, fs))) (hc : vwCl[ci]? = some (C, T, N)) (hn : As.length = n) (hsz : ls.size = nL) (hst : st0 = As.reverse ++ .ref b :: rest) (hW : (rest.map fun v => v.category).sum ≤ 8) (hdg : decode cc pc = .ok (.invokevirtual index, 3)) (kk : ∀ (r : Int64) (u : oh_St) (H1 : Heap) (locs1 : List Loc), post r u → va_P D vwCl (Wd u) H1 → va_D A (Wd u) → va_S A s.heap H1 locs1 → W p l e R s m args below meth c H1 locs1 0 0 Q (F0 m (pc + 3) ls (.long r :: rest))) : W p l e R s m args below meth c H locs 0 0 Q (F0 m pc ls st0) := by
  obtain ⟨hx, hb, hml, hown, hts, hr, hlocks, hK, hN, hA⟩ := hC
  have hF := oh_fr hA hD hS
  subst hst
  refine va_calll (va_runV (As := As) (rest := rest) ⟨hx, hb, hml, hown, hts⟩ (hM H.size) cw ⟨oh_blind, va_recv hK hP hc he, fun U hU hW => ⟨rfl, oh_Pr.at hP hK hN hD U hU hW⟩⟩ rfl hn hsz rfl (lv_room hW) hdg ⟨Nat.zero_le _, Nat.zero_le _⟩) hS (fun q _ h => hF q h) hF (fun r u t H1 locs1 ht hvm hw hB hz1 hk1 hS1 => ?_)
  exact kk r u H1 locs1 hw (by rw [← ht]; exact hB.1) (hB.2.weaken (fun _ q _ h => hF q.1 h)) hS1
theorem oh_cvv {post : oh_St → Prop} (hC : oh_Cx p s m meth c cc nL rt ws args own D tys A) (hP : va_P D vwCl (Wd σ) H) (hD : va_D A (Wd σ)) (hS : va_S A s.heap H locs) (hM : oh_Mv l y wy rm D tys Wd (.ref b :: As) σ post) (cw : CallW R s args own C index y bytes maxL ret wy rm 0 0 n) (q0 ci : Nat) {T : u_T} {N : Nat} {fs : List Value} (he : (Wd σ)[q0]? = some (b, .inr (ci, fs))) (hc : vwCl[ci]? = some (C, T, N)) (hn : As.length = n) (hsz : ls.size = nL) (hst : st0 = As.reverse ++ .ref b :: rest) (hW : (rest.map fun v => v.category).sum ≤ 8) (hdg : decode cc pc = .ok (.invokevirtual index, 3)) (kk : ∀ (u : oh_St) (H1 : Heap) (locs1 : List Loc), post u → va_P D vwCl (Wd u) H1 → va_D A (Wd u) → va_S A s.heap H1 locs1 → W p l e R s m args below meth c H1 locs1 0 0 Q (F0 m (pc + 3) ls rest)) : W p l e R s m args below meth c H locs 0 0 Q (F0 m pc ls st0) := by
  obtain ⟨hx, hb, hml, hown, hts, hr, hlocks, hK, hN, hA⟩ := hC
  have hF := oh_fr hA hD hS
  subst hst
  refine va_callv (va_runV (As := As) (rest := rest) ⟨hx, hb, hml, hown, hts⟩ (hM H.size) cw ⟨oh_blind, va_recv hK hP hc he, fun U hU hW => ⟨rfl, oh_Pr.at hP hK hN hD U hU hW⟩⟩ rfl hn hsz rfl (lv_room hW) hdg ⟨Nat.zero_le _, Nat.zero_le _⟩) hS (fun q _ h => hF q h) hF (fun u t H1 locs1 ht hvm hw hB hz1 hk1 hS1 => ?_)
  exact kk u H1 locs1 hw (by rw [← ht]; exact hB.1) (hB.2.weaken (fun _ q _ h => hF q.1 h)) hS1
theorem oh_cvq {post : Option Nat → oh_St → Prop} (hC : oh_Cx p s m meth c cc nL rt ws args own D tys A) (hP : va_P D vwCl (Wd σ) H) (hD : va_D A (Wd σ)) (hS : va_S A s.heap H locs) (hM : oh_Mq l y wy rm D tys Wd (.ref b :: As) σ post) (cw : CallW R s args own C index y bytes maxL ret wy rm 0 0 n) (q0 ci : Nat) {T : u_T} {N : Nat} {fs : List Value} (he : (Wd σ)[q0]? = some (b, .inr (ci, fs))) (hc : vwCl[ci]? = some (C, T, N)) (hn : As.length = n) (hsz : ls.size = nL) (hst : st0 = As.reverse ++ .ref b :: rest) (hW : (rest.map fun v => v.category).sum ≤ 8) (hdg : decode cc pc = .ok (.invokevirtual index, 3)) (kk : ∀ (r : Option Nat) (u : oh_St) (H1 : Heap) (locs1 : List Loc), post r u → va_P D vwCl (Wd u) H1 → va_D A (Wd u) → va_S A s.heap H1 locs1 → W p l e R s m args below meth c H1 locs1 0 0 Q (F0 m (pc + 3) ls (va_rf r :: rest))) : W p l e R s m args below meth c H locs 0 0 Q (F0 m pc ls st0) := by
  obtain ⟨hx, hb, hml, hown, hts, hr, hlocks, hK, hN, hA⟩ := hC
  have hF := oh_fr hA hD hS
  subst hst
  refine va_callq (va_runV (As := As) (rest := rest) ⟨hx, hb, hml, hown, hts⟩ (hM H.size) cw ⟨oh_blind, va_recv hK hP hc he, fun U hU hW => ⟨rfl, oh_Pr.at hP hK hN hD U hU hW⟩⟩ rfl hn hsz rfl (lv_room hW) hdg ⟨Nat.zero_le _, Nat.zero_le _⟩) hS (fun q _ h => hF q h) hF (fun r u t H1 locs1 ht hvm hw hB hz1 hk1 hS1 => ?_)
  exact kk r u H1 locs1 hw (by rw [← ht]; exact hB.1) (hB.2.weaken (fun _ q _ h => hF q.1 h)) hS1
theorem oh_csi {post : Int32 → oh_St → Prop} (hC : oh_Cx p s m meth c cc nL rt ws args own D tys A) (hP : va_P D vwCl (Wd σ) H) (hD : va_D A (Wd σ)) (hS : va_S A s.heap H locs) (hM : oh_Mi l y wy rm D tys Wd As σ post) (cw : CallB R s args own index y bytes maxL ret wy rm 0 0 n ∧ (Cond.static y).before args s = true) (hn : As.length = n) (hsz : ls.size = nL) (hst : st0 = As.reverse ++ rest) (hW : (rest.map fun v => v.category).sum ≤ 8) (hdg : decode cc pc = .ok (.invokestatic index, 3)) (kk : ∀ (r : Int32) (u : oh_St) (H1 : Heap) (locs1 : List Loc), post r u → va_P D vwCl (Wd u) H1 → va_D A (Wd u) → va_S A s.heap H1 locs1 → W p l e R s m args below meth c H1 locs1 0 0 Q (F0 m (pc + 3) ls (.int r :: rest))) : W p l e R s m args below meth c H locs 0 0 Q (F0 m pc ls st0) := by
  obtain ⟨hx, hb, hml, hown, hts, hr, hlocks, hK, hN, hA⟩ := hC
  have hF := oh_fr hA hD hS
  subst hst
  refine va_calli (va_runS (As := As) (rest := rest) ⟨hx, hb, hml, hown, hts⟩ (hM H.size) cw ⟨oh_blind, fun U hU hW => ⟨rfl, oh_Pr.at hP hK hN hD U hU hW⟩⟩ rfl hn hsz rfl (lv_room hW) hdg ⟨Nat.zero_le _, Nat.zero_le _⟩) hS (fun q _ h => hF q h) hF (fun r u t H1 locs1 ht hvm hw hB hz1 hk1 hS1 => ?_)
  exact kk r u H1 locs1 hw (by rw [← ht]; exact hB.1) (hB.2.weaken (fun _ q _ h => hF q.1 h)) hS1
theorem oh_csn {post : Int32 → oh_St → Prop} (hC : oh_Cx p s m meth c cc nL rt ws args own D tys A) (hP : va_P D vwCl (Wd σ) H) (hD : va_D A (Wd σ)) (hS : va_S A s.heap H locs) (hM : oh_Mi l y wy rm D tys Wd As σ post) (cw : va_CN R s args own index y RX7 bytes maxL ret wy rm 0 0 n ∧ (Cond.static y).before args s = true ∧ True) (hn : As.length = n) (hsz : ls.size = nL) (hst : st0 = As.reverse ++ rest) (hW : (rest.map fun v => v.category).sum ≤ 8) (hdg : decode cc pc = .ok (.invokestatic index, 3)) (kk : ∀ (r : Int32) (u : oh_St) (H1 : Heap) (locs1 : List Loc), post r u → va_P D vwCl (Wd u) H1 → va_D A (Wd u) → va_S A s.heap H1 locs1 → W p l e R s m args below meth c H1 locs1 0 0 Q (F0 m (pc + 3) ls (.int r :: rest))) : W p l e R s m args below meth c H locs 0 0 Q (F0 m pc ls st0) := by
  obtain ⟨hx, hb, hml, hown, hts, hr, hlocks, hK, hN, hA⟩ := hC
  have hF := oh_fr hA hD hS
  subst hst
  refine va_calli (va_runSN (As := As) (rest := rest) ⟨hx, hb, hml, hown, hts⟩ (hM H.size) cw ⟨oh_blind, fun U hU hW => ⟨rfl, oh_Pr.at hP hK hN hD U hU hW⟩⟩ rfl hn hsz rfl (lv_room hW) hdg ⟨Nat.zero_le _, Nat.zero_le _⟩) hS (fun q _ h => hF q h) hF (fun r u t H1 locs1 ht hvm hw hB hz1 hk1 hS1 => ?_)
  exact kk r u H1 locs1 hw (by rw [← ht]; exact hB.1) (hB.2.weaken (fun _ q _ h => hF q.1 h)) hS1
theorem oh_cvp {v : Int32} (hC : oh_Cx p s m meth c cc nL rt ws args own D tys A) (hP : va_P D vwCl (Wd σ) H) (hD : va_D A (Wd σ)) (hS : va_S A s.heap H locs) (hM : oh_Mi l y wy rm D tys Wd (.ref b :: As) σ (fun r u => r = v ∧ u = σ)) (cw : CallW R s args own C index y bytes maxL ret wy rm 0 0 n) (q0 ci : Nat) {T : u_T} {N : Nat} {fs : List Value} (he : (Wd σ)[q0]? = some (b, .inr (ci, fs))) (hc : vwCl[ci]? = some (C, T, N)) (hn : As.length = n) (hsz : ls.size = nL) (hst : st0 = As.reverse ++ .ref b :: rest) (hW : (rest.map fun v => v.category).sum ≤ 8) (hdg : decode cc pc = .ok (.invokevirtual index, 3)) (kk : ∀ (r : Int32) (H1 : Heap) (locs1 : List Loc), r = v → va_P D vwCl (Wd σ) H1 → va_D A (Wd σ) → va_S A s.heap H1 locs1 → W p l e R s m args below meth c H1 locs1 0 0 Q (F0 m (pc + 3) ls (.int r :: rest))) : W p l e R s m args below meth c H locs 0 0 Q (F0 m pc ls st0) :=
  oh_cvi hC hP hD hS hM cw q0 ci he hc hn hsz hst hW hdg (fun r u H1 locs1 hw hP1 hD1 hS1 => by obtain ⟨h1, h2⟩ := hw; rw [h2] at hP1 hD1; exact kk r H1 locs1 h1 hP1 hD1 hS1)
theorem oh_cvlp {v : Int64} (hC : oh_Cx p s m meth c cc nL rt ws args own D tys A) (hP : va_P D vwCl (Wd σ) H) (hD : va_D A (Wd σ)) (hS : va_S A s.heap H locs) (hM : oh_Ml l y wy rm D tys Wd (.ref b :: As) σ (fun r u => r = v ∧ u = σ)) (cw : CallW R s args own C index y bytes maxL ret wy rm 0 0 n) (q0 ci : Nat) {T : u_T} {N : Nat} {fs : List Value} (he : (Wd σ)[q0]? = some (b, .inr (ci, fs))) (hc : vwCl[ci]? = some (C, T, N)) (hn : As.length = n) (hsz : ls.size = nL) (hst : st0 = As.reverse ++ .ref b :: rest) (hW : (rest.map fun v => v.category).sum ≤ 8) (hdg : decode cc pc = .ok (.invokevirtual index, 3)) (kk : ∀ (r : Int64) (H1 : Heap) (locs1 : List Loc), r = v → va_P D vwCl (Wd σ) H1 → va_D A (Wd σ) → va_S A s.heap H1 locs1 → W p l e R s m args below meth c H1 locs1 0 0 Q (F0 m (pc + 3) ls (.long r :: rest))) : W p l e R s m args below meth c H locs 0 0 Q (F0 m pc ls st0) :=
  oh_cvl hC hP hD hS hM cw q0 ci he hc hn hsz hst hW hdg (fun r u H1 locs1 hw hP1 hD1 hS1 => by obtain ⟨h1, h2⟩ := hw; rw [h2] at hP1 hD1; exact kk r H1 locs1 h1 hP1 hD1 hS1)
theorem oh_cvqp {v : Option Nat} (hC : oh_Cx p s m meth c cc nL rt ws args own D tys A) (hP : va_P D vwCl (Wd σ) H) (hD : va_D A (Wd σ)) (hS : va_S A s.heap H locs) (hM : oh_Mq l y wy rm D tys Wd (.ref b :: As) σ (fun r u => r = v ∧ u = σ)) (cw : CallW R s args own C index y bytes maxL ret wy rm 0 0 n) (q0 ci : Nat) {T : u_T} {N : Nat} {fs : List Value} (he : (Wd σ)[q0]? = some (b, .inr (ci, fs))) (hc : vwCl[ci]? = some (C, T, N)) (hn : As.length = n) (hsz : ls.size = nL) (hst : st0 = As.reverse ++ .ref b :: rest) (hW : (rest.map fun v => v.category).sum ≤ 8) (hdg : decode cc pc = .ok (.invokevirtual index, 3)) (kk : ∀ (H1 : Heap) (locs1 : List Loc), va_P D vwCl (Wd σ) H1 → va_D A (Wd σ) → va_S A s.heap H1 locs1 → W p l e R s m args below meth c H1 locs1 0 0 Q (F0 m (pc + 3) ls (va_rf v :: rest))) : W p l e R s m args below meth c H locs 0 0 Q (F0 m pc ls st0) :=
  oh_cvq hC hP hD hS hM cw q0 ci he hc hn hsz hst hW hdg (fun r u H1 locs1 hw hP1 hD1 hS1 => by obtain ⟨h1, h2⟩ := hw; rw [h2] at hP1 hD1; rw [h1]; exact kk H1 locs1 hP1 hD1 hS1)
theorem oh_csp {v : Int32} (hC : oh_Cx p s m meth c cc nL rt ws args own D tys A) (hP : va_P D vwCl (Wd σ) H) (hD : va_D A (Wd σ)) (hS : va_S A s.heap H locs) (hM : oh_Mi l y wy rm D tys Wd As σ (fun r u => r = v ∧ u = σ)) (cw : CallB R s args own index y bytes maxL ret wy rm 0 0 n ∧ (Cond.static y).before args s = true) (hn : As.length = n) (hsz : ls.size = nL) (hst : st0 = As.reverse ++ rest) (hW : (rest.map fun v => v.category).sum ≤ 8) (hdg : decode cc pc = .ok (.invokestatic index, 3)) (kk : ∀ (r : Int32) (H1 : Heap) (locs1 : List Loc), r = v → va_P D vwCl (Wd σ) H1 → va_D A (Wd σ) → va_S A s.heap H1 locs1 → W p l e R s m args below meth c H1 locs1 0 0 Q (F0 m (pc + 3) ls (.int r :: rest))) : W p l e R s m args below meth c H locs 0 0 Q (F0 m pc ls st0) :=
  oh_csi hC hP hD hS hM cw hn hsz hst hW hdg (fun r u H1 locs1 hw hP1 hD1 hS1 => by obtain ⟨h1, h2⟩ := hw; rw [h2] at hP1 hD1; exact kk r H1 locs1 h1 hP1 hD1 hS1)
theorem oh_csnp {v : Int32} (hC : oh_Cx p s m meth c cc nL rt ws args own D tys A) (hP : va_P D vwCl (Wd σ) H) (hD : va_D A (Wd σ)) (hS : va_S A s.heap H locs) (hM : oh_Mi l y wy rm D tys Wd As σ (fun r u => r = v ∧ u = σ)) (cw : va_CN R s args own index y RX7 bytes maxL ret wy rm 0 0 n ∧ (Cond.static y).before args s = true ∧ True) (hn : As.length = n) (hsz : ls.size = nL) (hst : st0 = As.reverse ++ rest) (hW : (rest.map fun v => v.category).sum ≤ 8) (hdg : decode cc pc = .ok (.invokestatic index, 3)) (kk : ∀ (r : Int32) (H1 : Heap) (locs1 : List Loc), r = v → va_P D vwCl (Wd σ) H1 → va_D A (Wd σ) → va_S A s.heap H1 locs1 → W p l e R s m args below meth c H1 locs1 0 0 Q (F0 m (pc + 3) ls (.int r :: rest))) : W p l e R s m args below meth c H locs 0 0 Q (F0 m pc ls st0) :=
  oh_csn hC hP hD hS hM cw hn hsz hst hW hdg (fun r u H1 locs1 hw hP1 hD1 hS1 => by obtain ⟨h1, h2⟩ := hw; rw [h2] at hP1 hD1; exact kk r H1 locs1 h1 hP1 hD1 hS1)
end
end

