-- OctalHouse.bit
def spX7_bit (p1 : Int32) : Int32 := (if p1 = (0 : Int32) then (0 : Int32) else (1 : Int32))
set_option maxHeartbeats 8000000 in
set_option maxRecDepth 100000 in
theorem mtX7_bit (l : Launch) (a : Nat → Nat) (k : Nat → ClassId) (D : va_G) (σ : oh_St) (p1 : Int32) : oh_Mi l yX7_bit wsX7_bit { frames := 0, cells := 0, slots := 0, locals := 0 } D (oh_ty k) (oh_W a k) [.int p1] σ (fun r u => r = spX7_bit p1 ∧ u = σ) := by
  refine oh_ini (cc := cX7_bit) (nL := 1) (rt := some .int) (by decide) rfl (Nat.le_of_ble_eq_true rfl) ?_
  intro p e s m below meth c A ls hC hP hD hS hl
  obtain ⟨hx, hb, hml, hown, hts, hr, hlocks, hK, hN, hA⟩ := id hC
  have hl : lv_has ls 1 [(0, .int p1)] := hl
  refine lv_iload_n hx hb dX7_bit_0 rfl (lv_at hl 0 rfl) ?_
  refine lv_if_eq (tgt := 8) hx hb dX7_bit_1 (by decide) (fun c1 => ?_) (fun c1 => ?_)
  · refine lv_iconst (v := (0 : Int32)) hx hb dX7_bit_8 (by decide) ?_
    exact oh_reti (v := (0 : Int32)) (u := σ) hC hP hD hS ⟨(by exact (if_pos c1).symm), rfl⟩ dX7_bit_9
  · refine lv_iconst (v := (1 : Int32)) hx hb dX7_bit_4 (by decide) ?_
    refine lv_goto (tgt := 9) hx hb dX7_bit_5 (by decide) ?_
    exact oh_reti (v := (1 : Int32)) (u := σ) hC hP hD hS ⟨(by exact (if_neg c1).symm), rfl⟩ dX7_bit_9
-- OctalHouse$Memory.read
theorem inX4_read_X4 : ∀ w ∈ u_ws RX4 TX4 1, w ∈ wsX4_read := by decide +kernel
def spX4_read (σ : oh_St) (p1 : Int32) : Int32 := (if p1 < (0 : Int32) then (0 : Int32) else (if (4096 : Int32) ≤ p1 then (0 : Int32) else (σ 1 p1.toNatClampNeg)))
set_option maxHeartbeats 8000000 in
set_option maxRecDepth 100000 in
theorem mtX4_read (l : Launch) (a : Nat → Nat) (k : Nat → ClassId) (D : va_G) (σ : oh_St) (p1 : Int32) : oh_Mi l yX4_read wsX4_read { frames := 0, cells := 0, slots := 0, locals := 0 } D (oh_ty k) (oh_W a k) [.ref (a 1), .int p1] σ (fun r u => r = spX4_read σ p1 ∧ u = σ) := by
  refine oh_ini (cc := cX4_read) (nL := 2) (rt := some .int) (by decide) rfl (Nat.le_of_ble_eq_true rfl) ?_
  intro p e s m below meth c A ls hC hP hD hS hl
  obtain ⟨hx, hb, hml, hown, hts, hr, hlocks, hK, hN, hA⟩ := id hC
  have hl : lv_has ls 2 [(0, .ref (a 1)), (1, .int p1)] := hl
  refine lv_iload_n hx hb dX4_read_0 rfl (lv_at hl 1 rfl) ?_
  refine lv_if_lt (tgt := 22) hx hb dX4_read_1 (by decide) (fun c1 => ?_) (fun c1 => ?_)
  · refine lv_iconst (v := (0 : Int32)) hx hb dX4_read_22 (by decide) ?_
    exact oh_reti (v := (0 : Int32)) (u := σ) hC hP hD hS ⟨(by exact (if_pos c1).symm), rfl⟩ dX4_read_23
  · refine lv_iload_n hx hb dX4_read_4 rfl (lv_at hl 1 rfl) ?_
    refine lv_aload_n hx hb dX4_read_5 rfl (lv_at hl 0 rfl) ?_
    refine oh_get (v := .ref (a 2)) hC hP inX4_read_X4 1 rfl rfl 0 (by decide) (by decide +kernel) rfl dX4_read_6 ?_
    refine oh_alen (v := (4096 : Int32)) hC hP 2 0 rfl rfl rfl dX4_read_9 ?_
    refine lv_icmp_ge (tgt := 22) hx hb dX4_read_10 (by decide) (fun c2 => ?_) (fun c2 => ?_)
    · refine lv_iconst (v := (0 : Int32)) hx hb dX4_read_22 (by decide) ?_
      exact oh_reti (v := (0 : Int32)) (u := σ) hC hP hD hS ⟨(by exact ((if_neg c1).trans (if_pos c2)).symm), rfl⟩ dX4_read_23
    · refine lv_aload_n hx hb dX4_read_13 rfl (lv_at hl 0 rfl) ?_
      refine oh_get (v := .ref (a 2)) hC hP inX4_read_X4 1 rfl rfl 0 (by decide) (by decide +kernel) rfl dX4_read_14 ?_
      refine lv_iload_n hx hb dX4_read_17 rfl (lv_at hl 1 rfl) ?_
      refine oh_iald hC hP 2 0 rfl rfl (oh_in c1 c2 rfl) dX4_read_18 ?_
      refine lv_goto (tgt := 23) hx hb dX4_read_19 (by decide) ?_
      exact oh_reti (v := (σ 1 p1.toNatClampNeg)) (u := σ) hC hP hD hS ⟨(by exact ((if_neg c1).trans (if_neg c2)).symm), rfl⟩ dX4_read_23
-- OctalHouse$Memory.write
theorem inX4_write_X4 : ∀ w ∈ u_ws RX4 TX4 1, w ∈ wsX4_write := by decide +kernel
def spX4_write (σ : oh_St) (p1 : Int32) (p2 : Int32) : oh_St := (if p1 < (0 : Int32) then σ else (if (4096 : Int32) ≤ p1 then σ else (oh_up σ 1 p1.toNatClampNeg (p2 &&& (65535 : Int32)))))
set_option maxHeartbeats 8000000 in
set_option maxRecDepth 100000 in
theorem mtX4_write (l : Launch) (a : Nat → Nat) (k : Nat → ClassId) (D : va_G) (σ : oh_St) (p1 : Int32) (p2 : Int32) : oh_Mv l yX4_write wsX4_write { frames := 0, cells := 0, slots := 0, locals := 0 } D (oh_ty k) (oh_W a k) [.ref (a 1), .int p1, .int p2] σ (fun u => u = spX4_write σ p1 p2) := by
  refine oh_inv (cc := cX4_write) (nL := 3) (rt := none) (by decide) rfl (Nat.le_of_ble_eq_true rfl) ?_
  intro p e s m below meth c A ls hC hP hD hS hl
  obtain ⟨hx, hb, hml, hown, hts, hr, hlocks, hK, hN, hA⟩ := id hC
  have hl : lv_has ls 3 [(0, .ref (a 1)), (1, .int p1), (2, .int p2)] := hl
  refine lv_iload_n hx hb dX4_write_0 rfl (lv_at hl 1 rfl) ?_
  refine lv_if_lt (tgt := 23) hx hb dX4_write_1 (by decide) (fun c1 => ?_) (fun c1 => ?_)
  · exact oh_retv (u := σ) hC hP hD hS (by exact (if_pos c1).symm) dX4_write_23
  · refine lv_iload_n hx hb dX4_write_4 rfl (lv_at hl 1 rfl) ?_
    refine lv_aload_n hx hb dX4_write_5 rfl (lv_at hl 0 rfl) ?_
    refine oh_get (v := .ref (a 2)) hC hP inX4_write_X4 1 rfl rfl 0 (by decide) (by decide +kernel) rfl dX4_write_6 ?_
    refine oh_alen (v := (4096 : Int32)) hC hP 2 0 rfl rfl rfl dX4_write_9 ?_
    refine lv_icmp_ge (tgt := 23) hx hb dX4_write_10 (by decide) (fun c2 => ?_) (fun c2 => ?_)
    · exact oh_retv (u := σ) hC hP hD hS (by exact ((if_neg c1).trans (if_pos c2)).symm) dX4_write_23
    · refine lv_aload_n hx hb dX4_write_13 rfl (lv_at hl 0 rfl) ?_
      refine oh_get (v := .ref (a 2)) hC hP inX4_write_X4 1 rfl rfl 0 (by decide) (by decide +kernel) rfl dX4_write_14 ?_
      refine lv_iload_n hx hb dX4_write_17 rfl (lv_at hl 1 rfl) ?_
      refine lv_iload_n hx hb dX4_write_18 rfl (lv_at hl 2 rfl) ?_
      refine lv_ldc (v := (65535 : Int32)) hx hb hown (hts (.constant RX4 15 (65535)) (by decide +kernel)) dX4_write_19 ?_
      refine lv_iand hx hb dX4_write_21 ?_
      refine oh_iast (σ' := (oh_up σ 1 p1.toNatClampNeg (p2 &&& (65535 : Int32)))) hC hP hD hS 2 0 rfl rfl (oh_in c1 c2 rfl) rfl dX4_write_22 (fun H locs hP hD hS => ?_)
      exact oh_retv (u := (oh_up σ 1 p1.toNatClampNeg (p2 &&& (65535 : Int32)))) hC hP hD hS (by exact ((if_neg c1).trans (if_neg c2)).symm) dX4_write_23
-- OctalHouse$Registers.stepOn
theorem inX6_stepOn_X6 : ∀ w ∈ u_ws RX6 TX6 6, w ∈ wsX6_stepOn := by decide +kernel
def spX6_stepOn (σ : oh_St) : oh_St := (oh_up σ 0 3 (((σ 0 3) + (1 : Int32)) &&& (32767 : Int32)))
set_option maxHeartbeats 8000000 in
set_option maxRecDepth 100000 in
theorem mtX6_stepOn (l : Launch) (a : Nat → Nat) (k : Nat → ClassId) (D : va_G) (σ : oh_St)  : oh_Mv l yX6_stepOn wsX6_stepOn { frames := 0, cells := 0, slots := 0, locals := 0 } D (oh_ty k) (oh_W a k) [.ref (a 3)] σ (fun u => u = spX6_stepOn σ) := by
  refine oh_inv (cc := cX6_stepOn) (nL := 1) (rt := none) (by decide) rfl (Nat.le_of_ble_eq_true rfl) ?_
  intro p e s m below meth c A ls hC hP hD hS hl
  obtain ⟨hx, hb, hml, hown, hts, hr, hlocks, hK, hN, hA⟩ := id hC
  have hl : lv_has ls 1 [(0, .ref (a 3))] := hl
  refine lv_aload_n hx hb dX6_stepOn_0 rfl (lv_at hl 0 rfl) ?_
  refine lv_aload_n hx hb dX6_stepOn_1 rfl (lv_at hl 0 rfl) ?_
  refine oh_get (v := .int (σ 0 3)) hC hP inX6_stepOn_X6 3 rfl rfl 0 (by decide) (by decide +kernel) rfl dX6_stepOn_2 ?_
  refine lv_iconst (v := (1 : Int32)) hx hb dX6_stepOn_5 (by decide) ?_
  refine lv_iadd hx hb dX6_stepOn_6 ?_
  refine lv_sipush (v := (32767 : Int32)) hx hb dX6_stepOn_7 (by decide) ?_
  refine lv_iand hx hb dX6_stepOn_10 ?_
  refine oh_put (σ' := (oh_up σ 0 3 (((σ 0 3) + (1 : Int32)) &&& (32767 : Int32)))) (v := .int (((σ 0 3) + (1 : Int32)) &&& (32767 : Int32))) hC hP hD hS inX6_stepOn_X6 tyX6 tyX6_ok nmX6 3 rfl rfl 0 (by decide) (by decide +kernel) rfl rfl rfl (by simp) rfl dX6_stepOn_11 (fun H locs hP hD hS => ?_)
  exact oh_retv (u := (oh_up σ 0 3 (((σ 0 3) + (1 : Int32)) &&& (32767 : Int32)))) hC hP hD hS (by exact rfl) dX6_stepOn_14
-- OctalHouse$Registers.halt
theorem inX6_halt_X6 : ∀ w ∈ u_ws RX6 TX6 6, w ∈ wsX6_halt := by decide +kernel
def spX6_halt (σ : oh_St) (p1 : Int32) : oh_St := (oh_up (oh_up σ 0 7 (1 : Int32)) 0 8 p1)
set_option maxHeartbeats 8000000 in
set_option maxRecDepth 100000 in
theorem mtX6_halt (l : Launch) (a : Nat → Nat) (k : Nat → ClassId) (D : va_G) (σ : oh_St) (p1 : Int32) : oh_Mv l yX6_halt wsX6_halt { frames := 0, cells := 0, slots := 0, locals := 0 } D (oh_ty k) (oh_W a k) [.ref (a 3), .int p1] σ (fun u => u = spX6_halt σ p1) := by
  refine oh_inv (cc := cX6_halt) (nL := 2) (rt := none) (by decide) rfl (Nat.le_of_ble_eq_true rfl) ?_
  intro p e s m below meth c A ls hC hP hD hS hl
  obtain ⟨hx, hb, hml, hown, hts, hr, hlocks, hK, hN, hA⟩ := id hC
  have hl : lv_has ls 2 [(0, .ref (a 3)), (1, .int p1)] := hl
  refine lv_aload_n hx hb dX6_halt_0 rfl (lv_at hl 0 rfl) ?_
  refine lv_iconst (v := (1 : Int32)) hx hb dX6_halt_1 (by decide) ?_
  refine oh_put (σ' := (oh_up σ 0 7 (1 : Int32))) (v := .int (1 : Int32)) hC hP hD hS inX6_halt_X6 tyX6 tyX6_ok nmX6 3 rfl rfl 4 (by decide) (by decide +kernel) rfl (oh_nb (by decide)) (oh_fb (by decide)) (by simp) rfl dX6_halt_2 (fun H locs hP hD hS => ?_)
  refine lv_aload_n hx hb dX6_halt_5 rfl (lv_at hl 0 rfl) ?_
  refine lv_iload_n hx hb dX6_halt_6 rfl (lv_at hl 1 rfl) ?_
  refine oh_put (σ' := (oh_up (oh_up σ 0 7 (1 : Int32)) 0 8 p1)) (v := .int p1) hC hP hD hS inX6_halt_X6 tyX6 tyX6_ok nmX6 3 rfl rfl 5 (by decide) (by decide +kernel) rfl rfl rfl (by simp) rfl dX6_halt_7 (fun H locs hP hD hS => ?_)
  exact oh_retv (u := (oh_up (oh_up σ 0 7 (1 : Int32)) 0 8 p1)) hC hP hD hS (by exact rfl) dX6_halt_10
-- OctalHouse$Line.putFlag
theorem inX3_putFlag_X3 : ∀ w ∈ u_ws RX3 TX3 3, w ∈ wsX3_putFlag := by decide +kernel
def spX3_putFlag (σ : oh_St) (n : Nat) (p1 : Int32) : oh_St := (oh_up (oh_up σ 3 (6 + n) p1) 4 (6 + n) p1)
set_option maxHeartbeats 8000000 in
set_option maxRecDepth 100000 in
theorem mtX3_putFlag (l : Launch) (a : Nat → Nat) (k : Nat → ClassId) (D : va_G) (σ : oh_St) {n : Nat} (hn : n < 6) (p1 : Int32) (hbp1 : p1 = 0 ∨ p1 = 1) : oh_Mv l yX3_putFlag wsX3_putFlag { frames := 0, cells := 0, slots := 0, locals := 0 } D (oh_ty k) (oh_W a k) [.ref (a (9 + n)), .int p1] σ (fun u => u = spX3_putFlag σ n p1) := by
  refine oh_inv (cc := cX3_putFlag) (nL := 2) (rt := none) (by decide) rfl (Nat.le_of_ble_eq_true rfl) ?_
  intro p e s m below meth c A ls hC hP hD hS hl
  obtain ⟨hx, hb, hml, hown, hts, hr, hlocks, hK, hN, hA⟩ := id hC
  have hl : lv_has ls 2 [(0, .ref (a (9 + n))), (1, .int p1)] := hl
  refine lv_aload_n hx hb dX3_putFlag_0 rfl (lv_at hl 0 rfl) ?_
  refine lv_iload_n hx hb dX3_putFlag_1 rfl (lv_at hl 1 rfl) ?_
  refine oh_put (σ' := (oh_up σ 3 (6 + n) p1)) (v := .int p1) hC hP hD hS inX3_putFlag_X3 tyX3 tyX3_ok nmX3 (9 + n) (oh_gln a k σ hn) rfl 1 (by decide) (by decide +kernel) rfl (oh_nb hbp1) (oh_fb hbp1) (by simp) (oh_sln1 a k σ hn _) dX3_putFlag_2 (fun H locs hP hD hS => ?_)
  refine lv_aload_n hx hb dX3_putFlag_5 rfl (lv_at hl 0 rfl) ?_
  refine lv_iload_n hx hb dX3_putFlag_6 rfl (lv_at hl 1 rfl) ?_
  refine oh_put (σ' := (oh_up (oh_up σ 3 (6 + n) p1) 4 (6 + n) p1)) (v := .int p1) hC hP hD hS inX3_putFlag_X3 tyX3 tyX3_ok nmX3 (9 + n) (oh_gln a k (oh_up σ 3 (6 + n) p1) hn) rfl 2 (by decide) (by decide +kernel) rfl (oh_nb hbp1) (oh_fb hbp1) (by simp) (oh_sln2 a k (oh_up σ 3 (6 + n) p1) hn _) dX3_putFlag_7 (fun H locs hP hD hS => ?_)
  exact oh_retv (u := (oh_up (oh_up σ 3 (6 + n) p1) 4 (6 + n) p1)) hC hP hD hS (by exact rfl) dX3_putFlag_10
