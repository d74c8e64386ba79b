-- OctalHouse$Bus.channelAt
theorem inX0_channelAt_X0 : ∀ w ∈ u_ws RX0 TX0 7, w ∈ wsX0_channelAt := by decide +kernel
def spX0_channelAt (a : Nat → Nat) (p1 : Int32) : Option Nat := (if p1 < (0 : Int32) then none else (if (2 : Int32) ≤ p1 then none else some (a (15 + p1.toNatClampNeg))))
set_option maxHeartbeats 8000000 in
set_option maxRecDepth 100000 in
theorem mtX0_channelAt (l : Launch) (a : Nat → Nat) (k : Nat → ClassId) (D : va_G) (σ : oh_St) (p1 : Int32) : oh_Mq l yX0_channelAt wsX0_channelAt { frames := 0, cells := 0, slots := 0, locals := 0 } D (oh_ty k) (oh_W a k) [.ref (a 4), .int p1] σ (fun r u => r = spX0_channelAt a p1 ∧ u = σ) := by
  refine oh_inq (cc := cX0_channelAt) (nL := 2) (rt := some (.object "OctalHouse$Channel")) (by decide) rfl (Nat.le_of_ble_eq_true rfl) ?_
  intro p e s m below meth c A ls hC hP hD hS hl
  obtain ⟨hx, hb, hml, hown, hts, hr, hlocks, hK, hN, hA⟩ := id hC
  have hl : lv_has ls 2 [(0, .ref (a 4)), (1, .int p1)] := hl
  refine lv_iload_n hx hb dX0_channelAt_0 rfl (lv_at hl 1 rfl) ?_
  refine lv_if_lt (tgt := 22) hx hb dX0_channelAt_1 (by decide) (fun c1 => ?_) (fun c1 => ?_)
  · refine lv_null hx hb dX0_channelAt_22 ?_
    exact oh_retq (v := none) (u := σ) hC hP hD hS ⟨(by exact (if_pos c1).symm), rfl⟩ dX0_channelAt_23
  · refine lv_iload_n hx hb dX0_channelAt_4 rfl (lv_at hl 1 rfl) ?_
    refine lv_aload_n hx hb dX0_channelAt_5 rfl (lv_at hl 0 rfl) ?_
    refine oh_get (v := .ref (a 5)) hC hP inX0_channelAt_X0 4 rfl rfl 1 (by decide) (by decide +kernel) rfl dX0_channelAt_6 ?_
    refine oh_alen (v := (2 : Int32)) hC hP 5 1 rfl rfl rfl dX0_channelAt_9 ?_
    refine lv_icmp_ge (tgt := 22) hx hb dX0_channelAt_10 (by decide) (fun c2 => ?_) (fun c2 => ?_)
    · refine lv_null hx hb dX0_channelAt_22 ?_
      exact oh_retq (v := none) (u := σ) hC hP hD hS ⟨(by exact ((if_neg c1).trans (if_pos c2)).symm), rfl⟩ dX0_channelAt_23
    · refine lv_aload_n hx hb dX0_channelAt_13 rfl (lv_at hl 0 rfl) ?_
      refine oh_get (v := .ref (a 5)) hC hP inX0_channelAt_X0 4 rfl rfl 1 (by decide) (by decide +kernel) rfl dX0_channelAt_14 ?_
      refine lv_iload_n hx hb dX0_channelAt_17 rfl (lv_at hl 1 rfl) ?_
      refine oh_aald hC hP 5 1 rfl rfl (oh_in c1 c2 rfl) dX0_channelAt_18 ?_
      refine lv_goto (tgt := 23) hx hb dX0_channelAt_19 (by decide) ?_
      exact oh_retq (v := some (a (15 + p1.toNatClampNeg))) (u := σ) hC hP hD hS ⟨(by exact ((if_neg c1).trans (if_neg c2)).symm), rfl⟩ dX0_channelAt_23
theorem sq_channelAt (a : Nat → Nat) (p1 : Int32) : spX0_channelAt a p1 = (if oh_ix p1 2 then some (a (15 + p1.toNatClampNeg)) else none) := by
  unfold spX0_channelAt
  by_cases h1 : p1 < 0
  · rw [if_pos h1, if_neg (fun h => ((oh_ix_iff (N := 2) (n := 2) rfl).mp h).1 h1)]
  · rw [if_neg h1]
    by_cases h2 : (2 : Int32) ≤ p1
    · rw [if_pos h2, if_neg (fun h => ((oh_ix_iff (N := 2) (n := 2) rfl).mp h).2 h2)]
    · rw [if_neg h2, if_pos ((oh_ix_iff (N := 2) (n := 2) rfl).mpr ⟨h1, h2⟩)]
theorem mtX0_channelAt_ (l : Launch) (a : Nat → Nat) (k : Nat → ClassId) (D : va_G) (σ : oh_St) (p1 : Int32) : oh_Mq l yX0_channelAt wsX0_channelAt { frames := 0, cells := 0, slots := 0, locals := 0 } D (oh_ty k) (oh_W a k) [.ref (a 4), .int p1] σ (fun r u => r = (if oh_ix p1 2 then some (a (15 + p1.toNatClampNeg)) else none) ∧ u = σ) := by
  rw [← sq_channelAt]
  exact mtX0_channelAt l a k D σ p1
-- OctalHouse$Bus.deviceAt
theorem inX0_deviceAt_X0 : ∀ w ∈ u_ws RX0 TX0 7, w ∈ wsX0_deviceAt := by decide +kernel
def spX0_deviceAt (a : Nat → Nat) (p1 : Int32) : Option Nat := (if p1 < (0 : Int32) then none else (if (4 : Int32) ≤ p1 then none else some (a (17 + p1.toNatClampNeg))))
set_option maxHeartbeats 8000000 in
set_option maxRecDepth 100000 in
theorem mtX0_deviceAt (l : Launch) (a : Nat → Nat) (k : Nat → ClassId) (D : va_G) (σ : oh_St) (p1 : Int32) : oh_Mq l yX0_deviceAt wsX0_deviceAt { frames := 0, cells := 0, slots := 0, locals := 0 } D (oh_ty k) (oh_W a k) [.ref (a 4), .int p1] σ (fun r u => r = spX0_deviceAt a p1 ∧ u = σ) := by
  refine oh_inq (cc := cX0_deviceAt) (nL := 2) (rt := some (.object "OctalHouse$Device")) (by decide) rfl (Nat.le_of_ble_eq_true rfl) ?_
  intro p e s m below meth c A ls hC hP hD hS hl
  obtain ⟨hx, hb, hml, hown, hts, hr, hlocks, hK, hN, hA⟩ := id hC
  have hl : lv_has ls 2 [(0, .ref (a 4)), (1, .int p1)] := hl
  refine lv_iload_n hx hb dX0_deviceAt_0 rfl (lv_at hl 1 rfl) ?_
  refine lv_if_lt (tgt := 22) hx hb dX0_deviceAt_1 (by decide) (fun c1 => ?_) (fun c1 => ?_)
  · refine lv_null hx hb dX0_deviceAt_22 ?_
    exact oh_retq (v := none) (u := σ) hC hP hD hS ⟨(by exact (if_pos c1).symm), rfl⟩ dX0_deviceAt_23
  · refine lv_iload_n hx hb dX0_deviceAt_4 rfl (lv_at hl 1 rfl) ?_
    refine lv_aload_n hx hb dX0_deviceAt_5 rfl (lv_at hl 0 rfl) ?_
    refine oh_get (v := .ref (a 6)) hC hP inX0_deviceAt_X0 4 rfl rfl 2 (by decide) (by decide +kernel) rfl dX0_deviceAt_6 ?_
    refine oh_alen (v := (4 : Int32)) hC hP 6 2 rfl rfl rfl dX0_deviceAt_9 ?_
    refine lv_icmp_ge (tgt := 22) hx hb dX0_deviceAt_10 (by decide) (fun c2 => ?_) (fun c2 => ?_)
    · refine lv_null hx hb dX0_deviceAt_22 ?_
      exact oh_retq (v := none) (u := σ) hC hP hD hS ⟨(by exact ((if_neg c1).trans (if_pos c2)).symm), rfl⟩ dX0_deviceAt_23
    · refine lv_aload_n hx hb dX0_deviceAt_13 rfl (lv_at hl 0 rfl) ?_
      refine oh_get (v := .ref (a 6)) hC hP inX0_deviceAt_X0 4 rfl rfl 2 (by decide) (by decide +kernel) rfl dX0_deviceAt_14 ?_
      refine lv_iload_n hx hb dX0_deviceAt_17 rfl (lv_at hl 1 rfl) ?_
      refine oh_aald hC hP 6 2 rfl rfl (oh_in c1 c2 rfl) dX0_deviceAt_18 ?_
      refine lv_goto (tgt := 23) hx hb dX0_deviceAt_19 (by decide) ?_
      exact oh_retq (v := some (a (17 + p1.toNatClampNeg))) (u := σ) hC hP hD hS ⟨(by exact ((if_neg c1).trans (if_neg c2)).symm), rfl⟩ dX0_deviceAt_23
theorem sq_deviceAt (a : Nat → Nat) (p1 : Int32) : spX0_deviceAt a p1 = (if oh_ix p1 4 then some (a (17 + p1.toNatClampNeg)) else none) := by
  unfold spX0_deviceAt
  by_cases h1 : p1 < 0
  · rw [if_pos h1, if_neg (fun h => ((oh_ix_iff (N := 4) (n := 4) rfl).mp h).1 h1)]
  · rw [if_neg h1]
    by_cases h2 : (4 : Int32) ≤ p1
    · rw [if_pos h2, if_neg (fun h => ((oh_ix_iff (N := 4) (n := 4) rfl).mp h).2 h2)]
    · rw [if_neg h2, if_pos ((oh_ix_iff (N := 4) (n := 4) rfl).mpr ⟨h1, h2⟩)]
theorem mtX0_deviceAt_ (l : Launch) (a : Nat → Nat) (k : Nat → ClassId) (D : va_G) (σ : oh_St) (p1 : Int32) : oh_Mq l yX0_deviceAt wsX0_deviceAt { frames := 0, cells := 0, slots := 0, locals := 0 } D (oh_ty k) (oh_W a k) [.ref (a 4), .int p1] σ (fun r u => r = (if oh_ix p1 4 then some (a (17 + p1.toNatClampNeg)) else none) ∧ u = σ) := by
  rw [← sq_deviceAt]
  exact mtX0_deviceAt l a k D σ p1
-- OctalHouse$Bus.lineOf
theorem inX0_lineOf_X0 : ∀ w ∈ u_ws RX0 TX0 7, w ∈ wsX0_lineOf := by decide +kernel
def spX0_lineOf (a : Nat → Nat) (p1 : Int32) : Option Nat := (if (p1 - (6 : Int32)) < (0 : Int32) then none else (if (6 : Int32) ≤ (p1 - (6 : Int32)) then none else some (a (9 + (p1 - (6 : Int32)).toNatClampNeg))))
set_option maxHeartbeats 8000000 in
set_option maxRecDepth 100000 in
theorem mtX0_lineOf (l : Launch) (a : Nat → Nat) (k : Nat → ClassId) (D : va_G) (σ : oh_St) (p1 : Int32) : oh_Mq l yX0_lineOf wsX0_lineOf { frames := 0, cells := 0, slots := 0, locals := 0 } D (oh_ty k) (oh_W a k) [.ref (a 4), .int p1] σ (fun r u => r = spX0_lineOf a p1 ∧ u = σ) := by
  refine oh_inq (cc := cX0_lineOf) (nL := 3) (rt := some (.object "OctalHouse$Line")) (by decide) rfl (Nat.le_of_ble_eq_true rfl) ?_
  intro p e s m below meth c A ls hC hP hD hS hl
  obtain ⟨hx, hb, hml, hown, hts, hr, hlocks, hK, hN, hA⟩ := id hC
  have hl : lv_has ls 3 [(0, .ref (a 4)), (1, .int p1)] := hl
  refine lv_iload_n hx hb dX0_lineOf_0 rfl (lv_at hl 1 rfl) ?_
  refine lv_bipush (v := (6 : Int32)) hx hb dX0_lineOf_1 (by decide) ?_
  refine lv_isub hx hb dX0_lineOf_3 ?_
  refine lv_istore_n (lv' := [(2, .int (p1 - (6 : Int32))), (0, .ref (a 4)), (1, .int p1)]) hx hb dX0_lineOf_4 rfl hl (by decide) rfl (fun ls hl => ?_)
  refine lv_iload_n hx hb dX0_lineOf_5 rfl (lv_at hl 0 rfl) ?_
  refine lv_if_lt (tgt := 27) hx hb dX0_lineOf_6 (by decide) (fun c1 => ?_) (fun c1 => ?_)
  · refine lv_null hx hb dX0_lineOf_27 ?_
    exact oh_retq (v := none) (u := σ) hC hP hD hS ⟨(by exact (if_pos c1).symm), rfl⟩ dX0_lineOf_28
  · refine lv_iload_n hx hb dX0_lineOf_9 rfl (lv_at hl 0 rfl) ?_
    refine lv_aload_n hx hb dX0_lineOf_10 rfl (lv_at hl 1 rfl) ?_
    refine oh_get (v := .ref (a 7)) hC hP inX0_lineOf_X0 4 rfl rfl 3 (by decide) (by decide +kernel) rfl dX0_lineOf_11 ?_
    refine oh_alen (v := (6 : Int32)) hC hP 7 3 rfl rfl rfl dX0_lineOf_14 ?_
    refine lv_icmp_ge (tgt := 27) hx hb dX0_lineOf_15 (by decide) (fun c2 => ?_) (fun c2 => ?_)
    · refine lv_null hx hb dX0_lineOf_27 ?_
      exact oh_retq (v := none) (u := σ) hC hP hD hS ⟨(by exact ((if_neg c1).trans (if_pos c2)).symm), rfl⟩ dX0_lineOf_28
    · refine lv_aload_n hx hb dX0_lineOf_18 rfl (lv_at hl 1 rfl) ?_
      refine oh_get (v := .ref (a 7)) hC hP inX0_lineOf_X0 4 rfl rfl 3 (by decide) (by decide +kernel) rfl dX0_lineOf_19 ?_
      refine lv_iload_n hx hb dX0_lineOf_22 rfl (lv_at hl 0 rfl) ?_
      refine oh_aald hC hP 7 3 rfl rfl (oh_in c1 c2 rfl) dX0_lineOf_23 ?_
      refine lv_goto (tgt := 28) hx hb dX0_lineOf_24 (by decide) ?_
      exact oh_retq (v := some (a (9 + (p1 - (6 : Int32)).toNatClampNeg))) (u := σ) hC hP hD hS ⟨(by exact ((if_neg c1).trans (if_neg c2)).symm), rfl⟩ dX0_lineOf_28
theorem sq_lineOf (a : Nat → Nat) (p1 : Int32) : spX0_lineOf a p1 = (if oh_ix (p1 - (6 : Int32)) 6 then some (a (9 + (p1 - (6 : Int32)).toNatClampNeg)) else none) := by
  unfold spX0_lineOf
  by_cases h1 : (p1 - (6 : Int32)) < 0
  · rw [if_pos h1, if_neg (fun h => ((oh_ix_iff (N := 6) (n := 6) rfl).mp h).1 h1)]
  · rw [if_neg h1]
    by_cases h2 : (6 : Int32) ≤ (p1 - (6 : Int32))
    · rw [if_pos h2, if_neg (fun h => ((oh_ix_iff (N := 6) (n := 6) rfl).mp h).2 h2)]
    · rw [if_neg h2, if_pos ((oh_ix_iff (N := 6) (n := 6) rfl).mpr ⟨h1, h2⟩)]
theorem mtX0_lineOf_ (l : Launch) (a : Nat → Nat) (k : Nat → ClassId) (D : va_G) (σ : oh_St) (p1 : Int32) : oh_Mq l yX0_lineOf wsX0_lineOf { frames := 0, cells := 0, slots := 0, locals := 0 } D (oh_ty k) (oh_W a k) [.ref (a 4), .int p1] σ (fun r u => r = (if oh_ix (p1 - (6 : Int32)) 6 then some (a (9 + (p1 - (6 : Int32)).toNatClampNeg)) else none) ∧ u = σ) := by
  rw [← sq_lineOf]
  exact mtX0_lineOf l a k D σ p1
