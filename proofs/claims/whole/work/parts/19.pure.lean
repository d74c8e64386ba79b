/-! ===== what the state's functions leave alone ===== -/
theorem oh_upk {σ : oh_St} {k i k' : Nat} {v : Int32} (h : k' ≠ k) : oh_up σ k i v k' = σ k' := va_up_ne _ _ h
theorem oh_upi {σ : oh_St} {k i i' : Nat} {v : Int32} (h : i' ≠ i) : oh_up σ k i v k i' = σ k i' := by
  unfold oh_up
  rw [va_up_self]
  simp [upd, h]
theorem oh_ups {σ : oh_St} {k i : Nat} {v : Int32} : oh_up σ k i v k i = v := by
  unfold oh_up
  rw [va_up_self]
  simp [upd]
theorem k0_putFlag (σ : oh_St) (n : Nat) (v : Int32) : spX3_putFlag σ n v 0 = σ 0 := rfl
theorem k0_start (σ : oh_St) (n : Nat) : spX2_start σ n 0 = σ 0 := rfl
theorem k0_write (σ : oh_St) (x v : Int32) : spX4_write σ x v 0 = σ 0 := by
  unfold spX4_write
  (repeat' split) <;> rfl
theorem k0_putOut (σ : oh_St) (n : Nat) (v : Int32) : spX2_putOut σ n v 0 = σ 0 := by
  unfold spX2_putOut
  (try dsimp only)
  rw [oh_upk (by omega)]
  (repeat' split) <;> first | rfl | exact oh_upk (by omega)
theorem k0_takeFromTape (σ : oh_St) (n : Nat) : (spX2_takeFromTape σ n).2 0 = σ 0 := by
  unfold spX2_takeFromTape
  (try dsimp only)
  (repeat' split) <;> rfl
theorem k0_advance (σ : oh_St) (n : Nat) : spX2_advance σ n 0 = σ 0 := by
  unfold spX2_advance
  (try dsimp only)
  split
  · rfl
  · split
    · rw [k0_putFlag]
      split
      · rw [k0_putOut]; rfl
      · rw [oh_upk (by omega), k0_takeFromTape]; rfl
    · rfl
theorem k0_advanceDevices (σ : oh_St) : spX0_advanceDevices σ 0 = σ 0 := by
  unfold spX0_advanceDevices
  (try dsimp only)
  rw [k0_advance, k0_advance, k0_advance, k0_advance]
theorem k0_finish (σ : oh_St) (n n1 : Nat) : spX1_finish σ n n1 0 = σ 0 := by
  unfold spX1_finish
  (try dsimp only)
  split <;> rfl
theorem k0_move (σ : oh_St) (n n1 : Nat) : spX1_move σ n n1 0 = σ 0 := by
  unfold spX1_move
  (try dsimp only)
  (repeat' split) <;> first | rfl | exact k0_write _ _ _ | (rw [k0_finish]; first | rfl | exact k0_write _ _ _) | (rw [k0_start]; first | rfl | exact k0_write _ _ _)
theorem k0_advanceChannels (σ : oh_St) : spX0_advanceChannels σ 0 = σ 0 := by
  have h : ∀ (τ : oh_St) (n : Nat), (if (τ 5 (6 + n)) = (0 : Int32) then τ else (if oh_ix (((τ 9 (6 + n)) &&& (63 : Int32)) - (8 : Int32)) 4 then (if (τ 3 (6 + (2 + (((τ 9 (6 + n)) &&& (63 : Int32)) - (8 : Int32)).toNatClampNeg))) = (0 : Int32) then τ else (spX1_move τ n ((((τ 9 (6 + n)) &&& (63 : Int32)) - (8 : Int32)).toNatClampNeg))) else τ)) 0 = τ 0 := by
    intro τ n
    (repeat' split) <;> first | rfl | exact k0_move _ _ _
  unfold spX0_advanceChannels
  (try dsimp only)
  exact (h _ 1).trans (h σ 0)
def oh_ti (σ : oh_St) (n : Nat) (v : Int32) (k : Int32 × oh_St) : Int32 × oh_St := if σ 2 (6 + n) = 0 then k else if σ 3 (6 + n) = 0 then k else if σ 4 (6 + n) = 0 then ((-1 : Int32), oh_up σ 4 (6 + n) 0) else (v, oh_up σ 4 (6 + n) 0)
theorem ti_eq (σ : oh_St) : spX0_takeInterrupt σ = oh_ti σ 0 6 (oh_ti σ 1 7 (oh_ti σ 2 8 (oh_ti σ 3 9 (oh_ti σ 4 10 (oh_ti σ 5 11 (-1, σ)))))) := rfl
theorem k0_ti (σ : oh_St) (n : Nat) (v : Int32) (k : Int32 × oh_St) (h : k.2 0 = σ 0) : (oh_ti σ n v k).2 0 = σ 0 := by
  unfold oh_ti
  (repeat' split) <;> first | exact h | rfl
theorem k0_takeInterrupt (σ : oh_St) : (spX0_takeInterrupt σ).2 0 = σ 0 := by
  rw [ti_eq]
  exact k0_ti _ _ _ _ (k0_ti _ _ _ _ (k0_ti _ _ _ _ (k0_ti _ _ _ _ (k0_ti _ _ _ _ (k0_ti _ _ _ _ rfl)))))
theorem k9_nextWord (σ : oh_St) : (spX5_nextWord σ).2 0 9 = σ 0 9 := rfl
