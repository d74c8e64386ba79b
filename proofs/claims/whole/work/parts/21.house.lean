-- OctalHouse.go
theorem inX7_go_X6 : ∀ w ∈ u_ws RX6 TX6 6, w ∈ wsX7_go := by decide +kernel
theorem inX7_go_X7 : ∀ w ∈ u_ws RX7 TX7 7, w ∈ wsX7_go := by decide +kernel
def spX7_go (σ : oh_St) (p1 : Int32) : oh_St := (if p1 = (-1 : Int32) then (oh_up σ 0 7 (0 : Int32)) else (oh_up (oh_up σ 0 7 (0 : Int32)) 0 3 (p1 &&& (32767 : Int32))))
set_option maxHeartbeats 8000000 in
set_option maxRecDepth 100000 in
theorem mtX7_go (l : Launch) (a : Nat → Nat) (k : Nat → ClassId) (D : va_G) (σ : oh_St) (p1 : Int32) : oh_Mv l yX7_go wsX7_go { frames := 0, cells := 0, slots := 0, locals := 0 } D (oh_ty k) (oh_W a k) [.ref (a 0), .int p1] σ (fun u => u = spX7_go σ p1) := by
  refine oh_inv (cc := cX7_go) (nL := 2) (rt := none) (by decide) rfl (Nat.le_of_ble_eq_true rfl) ?_
  intro p e s m below meth c A ls hC hP hD hS hl
  obtain ⟨hx, hb, hml, hown, hts, hr, hlocks, hK, hN, hA⟩ := id hC
  have hl : lv_has ls 2 [(0, .ref (a 0)), (1, .int p1)] := hl
  refine lv_aload_n hx hb dX7_go_0 rfl (lv_at hl 0 rfl) ?_
  refine oh_get (v := .ref (a 3)) hC hP inX7_go_X7 0 rfl rfl 1 (by decide) (by decide +kernel) rfl dX7_go_1 ?_
  refine lv_iconst (v := (0 : Int32)) hx hb dX7_go_4 (by decide) ?_
  refine oh_putN (σ' := (oh_up σ 0 7 (0 : Int32))) (v := .int (0 : Int32)) hC hP hD hS inX7_go_X6 tyX6 tyX6_ok nmX6 3 rfl rfl 4 (by decide) (by decide +kernel) rfl (oh_nb (by decide)) (oh_fb (by decide)) (by simp) rfl dX7_go_5 (fun H locs hP hD hS => ?_)
  refine lv_iload_n hx hb dX7_go_8 rfl (lv_at hl 1 rfl) ?_
  refine lv_iconst (v := (-1 : Int32)) hx hb dX7_go_9 (by decide) ?_
  refine lv_icmp_eq (tgt := 25) hx hb dX7_go_10 (by decide) (fun c1 => ?_) (fun c1 => ?_)
  · exact oh_retv (u := (oh_up σ 0 7 (0 : Int32))) hC hP hD hS (by exact (if_pos c1).symm) dX7_go_25
  · refine lv_aload_n hx hb dX7_go_13 rfl (lv_at hl 0 rfl) ?_
    refine oh_get (v := .ref (a 3)) hC hP inX7_go_X7 0 rfl rfl 1 (by decide) (by decide +kernel) rfl dX7_go_14 ?_
    refine lv_iload_n hx hb dX7_go_17 rfl (lv_at hl 1 rfl) ?_
    refine lv_sipush (v := (32767 : Int32)) hx hb dX7_go_18 (by decide) ?_
    refine lv_iand hx hb dX7_go_21 ?_
    refine oh_putN (σ' := (oh_up (oh_up σ 0 7 (0 : Int32)) 0 3 (p1 &&& (32767 : Int32)))) (v := .int (p1 &&& (32767 : Int32))) hC hP hD hS inX7_go_X6 tyX6 tyX6_ok nmX6 3 rfl rfl 0 (by decide) (by decide +kernel) rfl rfl rfl (by simp) rfl dX7_go_22 (fun H locs hP hD hS => ?_)
    exact oh_retv (u := (oh_up (oh_up σ 0 7 (0 : Int32)) 0 3 (p1 &&& (32767 : Int32)))) hC hP hD hS (by exact (if_neg c1).symm) dX7_go_25
-- OctalHouse.state
theorem inX7_state_X0 : ∀ w ∈ u_ws RX0 TX0 7, w ∈ wsX7_state := by decide +kernel
theorem inX7_state_X6 : ∀ w ∈ u_ws RX6 TX6 6, w ∈ wsX7_state := by decide +kernel
theorem inX7_state_X7 : ∀ w ∈ u_ws RX7 TX7 7, w ∈ wsX7_state := by decide +kernel
def spX7_state (σ : oh_St) (p1 : Int32) : Int32 := (let y1 : Int32 := p1; (if y1 = (0 : Int32) then (let r3 : Int32 := (spX4_read σ (0 : Int32)); r3) else (if y1 = (1 : Int32) then (let r5 : Int32 := (spX4_read σ (1 : Int32)); r5) else (if y1 = (2 : Int32) then (σ 0 3) else (if y1 = (3 : Int32) then (σ 0 4) else (if y1 = (4 : Int32) then (σ 0 5) else (if y1 = (5 : Int32) then (let r10 : Int32 := (spX7_bit (σ 0 9)); r10) else (if y1 = (6 : Int32) then (let r12 : Int32 := (spX7_bit (σ 0 6)); r12) else (if y1 = (7 : Int32) then (let r14 : Int32 := (spX7_bit (σ 0 7)); r14) else (if y1 = (8 : Int32) then (σ 0 8) else (if y1 = (9 : Int32) then (σ 0 11) else (if y1 = (10 : Int32) then (σ 0 0) else (if y1 = (11 : Int32) then (σ 0 1) else (if y1 = (12 : Int32) then (σ 0 2) else (-1 : Int32)))))))))))))))
set_option maxHeartbeats 8000000 in
set_option maxRecDepth 100000 in
theorem mtX7_state (l : Launch) (a : Nat → Nat) (k : Nat → ClassId) (D : va_G) (σ : oh_St) (p1 : Int32) : oh_Mi l yX7_state wsX7_state { frames := 1, cells := 0, slots := 0, locals := 21 } D (oh_ty k) (oh_W a k) [.ref (a 0), .int p1] σ (fun r u => r = spX7_state σ p1 ∧ u = σ) := by
  refine oh_ini (cc := cX7_state) (nL := 2) (rt := some .int) (by decide) rfl (Nat.le_of_ble_eq_true rfl) ?_
  intro p e s m below meth c A ls hC hP hD hS hl
  obtain ⟨hx, hb, hml, hown, hts, hr, hlocks, hK, hN, hA⟩ := id hC
  have hl : lv_has ls 2 [(0, .ref (a 0)), (1, .int p1)] := hl
  refine lv_iload_n hx hb dX7_state_0 rfl (lv_at hl 1 rfl) ?_
  refine lv_topi (fun y1 hy1 => ?_)
  by_cases c2 : y1 = (0 : Int32)
  · refine lv_tableIn (tgt := 68) hx hb dX7_state_1 (by rw [c2]; decide) (by rw [c2]; decide) (by rw [c2]; rfl) (by decide) ?_
    refine lv_aload_n hx hb dX7_state_68 rfl (lv_at hl 0 rfl) ?_
    refine oh_get (v := .ref (a 1)) hC hP inX7_state_X7 0 rfl rfl 0 (by decide) (by decide +kernel) rfl dX7_state_69 ?_
    refine lv_iconst (v := (0 : Int32)) hx hb dX7_state_72 (by decide) ?_
    refine oh_cvp (As := [.int (0 : Int32)]) (rest := []) hC hP hD hS (mtX4_read l a k D σ (0 : Int32)) (cwV 1 hts gX7_state_X4_read rfl rfl rfl (by decide +kernel) ⟨Nat.le_of_ble_eq_true rfl, Nat.le_of_ble_eq_true rfl⟩) 1 4 rfl rfl rfl hl.1 rfl (Nat.le_of_ble_eq_true rfl) dX7_state_73 (fun r3 H locs hr3 hP hD hS => ?_)
    exact oh_reti (v := r3) (u := σ) hC hP hD hS ⟨(by subst hr3 hy1; exact (if_pos c2).symm), rfl⟩ dX7_state_76
  by_cases c4 : y1 = (1 : Int32)
  · refine lv_tableIn (tgt := 77) hx hb dX7_state_1 (by rw [c4]; decide) (by rw [c4]; decide) (by rw [c4]; rfl) (by decide) ?_
    refine lv_aload_n hx hb dX7_state_77 rfl (lv_at hl 0 rfl) ?_
    refine oh_get (v := .ref (a 1)) hC hP inX7_state_X7 0 rfl rfl 0 (by decide) (by decide +kernel) rfl dX7_state_78 ?_
    refine lv_iconst (v := (1 : Int32)) hx hb dX7_state_81 (by decide) ?_
    refine oh_cvp (As := [.int (1 : Int32)]) (rest := []) hC hP hD hS (mtX4_read l a k D σ (1 : Int32)) (cwV 1 hts gX7_state_X4_read rfl rfl rfl (by decide +kernel) ⟨Nat.le_of_ble_eq_true rfl, Nat.le_of_ble_eq_true rfl⟩) 1 4 rfl rfl rfl hl.1 rfl (Nat.le_of_ble_eq_true rfl) dX7_state_82 (fun r5 H locs hr5 hP hD hS => ?_)
    exact oh_reti (v := r5) (u := σ) hC hP hD hS ⟨(by subst hr5 hy1; exact ((if_neg c2).trans (if_pos c4)).symm), rfl⟩ dX7_state_85
  by_cases c6 : y1 = (2 : Int32)
  · refine lv_tableIn (tgt := 86) hx hb dX7_state_1 (by rw [c6]; decide) (by rw [c6]; decide) (by rw [c6]; rfl) (by decide) ?_
    refine lv_aload_n hx hb dX7_state_86 rfl (lv_at hl 0 rfl) ?_
    refine oh_get (v := .ref (a 3)) hC hP inX7_state_X7 0 rfl rfl 1 (by decide) (by decide +kernel) rfl dX7_state_87 ?_
    refine oh_getN (v := .int (σ 0 3)) hC hP inX7_state_X6 3 rfl rfl 0 (by decide) (by decide +kernel) rfl dX7_state_90 ?_
    exact oh_reti (v := (σ 0 3)) (u := σ) hC hP hD hS ⟨(by subst hy1; exact (((if_neg c2).trans (if_neg c4)).trans (if_pos c6)).symm), rfl⟩ dX7_state_93
  by_cases c7 : y1 = (3 : Int32)
  · refine lv_tableIn (tgt := 94) hx hb dX7_state_1 (by rw [c7]; decide) (by rw [c7]; decide) (by rw [c7]; rfl) (by decide) ?_
    refine lv_aload_n hx hb dX7_state_94 rfl (lv_at hl 0 rfl) ?_
    refine oh_get (v := .ref (a 3)) hC hP inX7_state_X7 0 rfl rfl 1 (by decide) (by decide +kernel) rfl dX7_state_95 ?_
    refine oh_getN (v := .int (σ 0 4)) hC hP inX7_state_X6 3 rfl rfl 1 (by decide) (by decide +kernel) rfl dX7_state_98 ?_
    exact oh_reti (v := (σ 0 4)) (u := σ) hC hP hD hS ⟨(by subst hy1; exact ((((if_neg c2).trans (if_neg c4)).trans (if_neg c6)).trans (if_pos c7)).symm), rfl⟩ dX7_state_101
  by_cases c8 : y1 = (4 : Int32)
  · refine lv_tableIn (tgt := 102) hx hb dX7_state_1 (by rw [c8]; decide) (by rw [c8]; decide) (by rw [c8]; rfl) (by decide) ?_
    refine lv_aload_n hx hb dX7_state_102 rfl (lv_at hl 0 rfl) ?_
    refine oh_get (v := .ref (a 3)) hC hP inX7_state_X7 0 rfl rfl 1 (by decide) (by decide +kernel) rfl dX7_state_103 ?_
    refine oh_getN (v := .int (σ 0 5)) hC hP inX7_state_X6 3 rfl rfl 2 (by decide) (by decide +kernel) rfl dX7_state_106 ?_
    exact oh_reti (v := (σ 0 5)) (u := σ) hC hP hD hS ⟨(by subst hy1; exact (((((if_neg c2).trans (if_neg c4)).trans (if_neg c6)).trans (if_neg c7)).trans (if_pos c8)).symm), rfl⟩ dX7_state_109
  by_cases c9 : y1 = (5 : Int32)
  · refine lv_tableIn (tgt := 110) hx hb dX7_state_1 (by rw [c9]; decide) (by rw [c9]; decide) (by rw [c9]; rfl) (by decide) ?_
    refine lv_aload_n hx hb dX7_state_110 rfl (lv_at hl 0 rfl) ?_
    refine oh_get (v := .ref (a 4)) hC hP inX7_state_X7 0 rfl rfl 2 (by decide) (by decide +kernel) rfl dX7_state_111 ?_
    refine oh_getN (v := .int (σ 0 9)) hC hP inX7_state_X0 4 rfl rfl 4 (by decide) (by decide +kernel) rfl dX7_state_114 ?_
    refine oh_csp (As := [.int (σ 0 9)]) (rest := []) hC hP hD hS (mtX7_bit l a k D σ (σ 0 9)) (va_cwS 1 hts gX7_state_X7_bit rfl rfl rfl (by decide +kernel) ⟨Nat.le_of_ble_eq_true rfl, Nat.le_of_ble_eq_true rfl⟩) rfl hl.1 rfl (Nat.le_of_ble_eq_true rfl) dX7_state_117 (fun r10 H locs hr10 hP hD hS => ?_)
    exact oh_reti (v := r10) (u := σ) hC hP hD hS ⟨(by subst hr10 hy1; exact ((((((if_neg c2).trans (if_neg c4)).trans (if_neg c6)).trans (if_neg c7)).trans (if_neg c8)).trans (if_pos c9)).symm), rfl⟩ dX7_state_120
  by_cases c11 : y1 = (6 : Int32)
  · refine lv_tableIn (tgt := 121) hx hb dX7_state_1 (by rw [c11]; decide) (by rw [c11]; decide) (by rw [c11]; rfl) (by decide) ?_
    refine lv_aload_n hx hb dX7_state_121 rfl (lv_at hl 0 rfl) ?_
    refine oh_get (v := .ref (a 3)) hC hP inX7_state_X7 0 rfl rfl 1 (by decide) (by decide +kernel) rfl dX7_state_122 ?_
    refine oh_getN (v := .int (σ 0 6)) hC hP inX7_state_X6 3 rfl rfl 3 (by decide) (by decide +kernel) rfl dX7_state_125 ?_
    refine oh_csp (As := [.int (σ 0 6)]) (rest := []) hC hP hD hS (mtX7_bit l a k D σ (σ 0 6)) (va_cwS 1 hts gX7_state_X7_bit rfl rfl rfl (by decide +kernel) ⟨Nat.le_of_ble_eq_true rfl, Nat.le_of_ble_eq_true rfl⟩) rfl hl.1 rfl (Nat.le_of_ble_eq_true rfl) dX7_state_128 (fun r12 H locs hr12 hP hD hS => ?_)
    exact oh_reti (v := r12) (u := σ) hC hP hD hS ⟨(by subst hr12 hy1; exact (((((((if_neg c2).trans (if_neg c4)).trans (if_neg c6)).trans (if_neg c7)).trans (if_neg c8)).trans (if_neg c9)).trans (if_pos c11)).symm), rfl⟩ dX7_state_131
  by_cases c13 : y1 = (7 : Int32)
  · refine lv_tableIn (tgt := 132) hx hb dX7_state_1 (by rw [c13]; decide) (by rw [c13]; decide) (by rw [c13]; rfl) (by decide) ?_
    refine lv_aload_n hx hb dX7_state_132 rfl (lv_at hl 0 rfl) ?_
    refine oh_get (v := .ref (a 3)) hC hP inX7_state_X7 0 rfl rfl 1 (by decide) (by decide +kernel) rfl dX7_state_133 ?_
    refine oh_getN (v := .int (σ 0 7)) hC hP inX7_state_X6 3 rfl rfl 4 (by decide) (by decide +kernel) rfl dX7_state_136 ?_
    refine oh_csp (As := [.int (σ 0 7)]) (rest := []) hC hP hD hS (mtX7_bit l a k D σ (σ 0 7)) (va_cwS 1 hts gX7_state_X7_bit rfl rfl rfl (by decide +kernel) ⟨Nat.le_of_ble_eq_true rfl, Nat.le_of_ble_eq_true rfl⟩) rfl hl.1 rfl (Nat.le_of_ble_eq_true rfl) dX7_state_139 (fun r14 H locs hr14 hP hD hS => ?_)
    exact oh_reti (v := r14) (u := σ) hC hP hD hS ⟨(by subst hr14 hy1; exact ((((((((if_neg c2).trans (if_neg c4)).trans (if_neg c6)).trans (if_neg c7)).trans (if_neg c8)).trans (if_neg c9)).trans (if_neg c11)).trans (if_pos c13)).symm), rfl⟩ dX7_state_142
  by_cases c15 : y1 = (8 : Int32)
  · refine lv_tableIn (tgt := 143) hx hb dX7_state_1 (by rw [c15]; decide) (by rw [c15]; decide) (by rw [c15]; rfl) (by decide) ?_
    refine lv_aload_n hx hb dX7_state_143 rfl (lv_at hl 0 rfl) ?_
    refine oh_get (v := .ref (a 3)) hC hP inX7_state_X7 0 rfl rfl 1 (by decide) (by decide +kernel) rfl dX7_state_144 ?_
    refine oh_getN (v := .int (σ 0 8)) hC hP inX7_state_X6 3 rfl rfl 5 (by decide) (by decide +kernel) rfl dX7_state_147 ?_
    exact oh_reti (v := (σ 0 8)) (u := σ) hC hP hD hS ⟨(by subst hy1; exact (((((((((if_neg c2).trans (if_neg c4)).trans (if_neg c6)).trans (if_neg c7)).trans (if_neg c8)).trans (if_neg c9)).trans (if_neg c11)).trans (if_neg c13)).trans (if_pos c15)).symm), rfl⟩ dX7_state_150
  by_cases c16 : y1 = (9 : Int32)
  · refine lv_tableIn (tgt := 151) hx hb dX7_state_1 (by rw [c16]; decide) (by rw [c16]; decide) (by rw [c16]; rfl) (by decide) ?_
    refine lv_aload_n hx hb dX7_state_151 rfl (lv_at hl 0 rfl) ?_
    refine oh_get (v := .ref (a 4)) hC hP inX7_state_X7 0 rfl rfl 2 (by decide) (by decide +kernel) rfl dX7_state_152 ?_
    refine oh_getN (v := .int (σ 0 11)) hC hP inX7_state_X0 4 rfl rfl 6 (by decide) (by decide +kernel) rfl dX7_state_155 ?_
    exact oh_reti (v := (σ 0 11)) (u := σ) hC hP hD hS ⟨(by subst hy1; exact ((((((((((if_neg c2).trans (if_neg c4)).trans (if_neg c6)).trans (if_neg c7)).trans (if_neg c8)).trans (if_neg c9)).trans (if_neg c11)).trans (if_neg c13)).trans (if_neg c15)).trans (if_pos c16)).symm), rfl⟩ dX7_state_158
  by_cases c17 : y1 = (10 : Int32)
  · refine lv_tableIn (tgt := 159) hx hb dX7_state_1 (by rw [c17]; decide) (by rw [c17]; decide) (by rw [c17]; rfl) (by decide) ?_
    refine lv_aload_n hx hb dX7_state_159 rfl (lv_at hl 0 rfl) ?_
    refine oh_get (v := .int (σ 0 0)) hC hP inX7_state_X7 0 rfl rfl 4 (by decide) (by decide +kernel) rfl dX7_state_160 ?_
    exact oh_reti (v := (σ 0 0)) (u := σ) hC hP hD hS ⟨(by subst hy1; exact (((((((((((if_neg c2).trans (if_neg c4)).trans (if_neg c6)).trans (if_neg c7)).trans (if_neg c8)).trans (if_neg c9)).trans (if_neg c11)).trans (if_neg c13)).trans (if_neg c15)).trans (if_neg c16)).trans (if_pos c17)).symm), rfl⟩ dX7_state_163
  by_cases c18 : y1 = (11 : Int32)
  · refine lv_tableIn (tgt := 164) hx hb dX7_state_1 (by rw [c18]; decide) (by rw [c18]; decide) (by rw [c18]; rfl) (by decide) ?_
    refine lv_aload_n hx hb dX7_state_164 rfl (lv_at hl 0 rfl) ?_
    refine oh_get (v := .int (σ 0 1)) hC hP inX7_state_X7 0 rfl rfl 5 (by decide) (by decide +kernel) rfl dX7_state_165 ?_
    exact oh_reti (v := (σ 0 1)) (u := σ) hC hP hD hS ⟨(by subst hy1; exact ((((((((((((if_neg c2).trans (if_neg c4)).trans (if_neg c6)).trans (if_neg c7)).trans (if_neg c8)).trans (if_neg c9)).trans (if_neg c11)).trans (if_neg c13)).trans (if_neg c15)).trans (if_neg c16)).trans (if_neg c17)).trans (if_pos c18)).symm), rfl⟩ dX7_state_168
  by_cases c19 : y1 = (12 : Int32)
  · refine lv_tableIn (tgt := 169) hx hb dX7_state_1 (by rw [c19]; decide) (by rw [c19]; decide) (by rw [c19]; rfl) (by decide) ?_
    refine lv_aload_n hx hb dX7_state_169 rfl (lv_at hl 0 rfl) ?_
    refine oh_get (v := .int (σ 0 2)) hC hP inX7_state_X7 0 rfl rfl 6 (by decide) (by decide +kernel) rfl dX7_state_170 ?_
    exact oh_reti (v := (σ 0 2)) (u := σ) hC hP hD hS ⟨(by subst hy1; exact (((((((((((((if_neg c2).trans (if_neg c4)).trans (if_neg c6)).trans (if_neg c7)).trans (if_neg c8)).trans (if_neg c9)).trans (if_neg c11)).trans (if_neg c13)).trans (if_neg c15)).trans (if_neg c16)).trans (if_neg c17)).trans (if_neg c18)).trans (if_pos c19)).symm), rfl⟩ dX7_state_173
  refine lv_tableOut (tgt := 174) hx hb dX7_state_1 (by have hh := True.intro; have : (∀ z : Int32, y1.toInt = z.toInt → y1 = z) := fun z e => Int32.toInt_inj.mp e; have hc2 : y1.toInt ≠ 0 := oh_ne c2; have hc4 : y1.toInt ≠ 1 := oh_ne c4; have hc6 : y1.toInt ≠ 2 := oh_ne c6; have hc7 : y1.toInt ≠ 3 := oh_ne c7; have hc8 : y1.toInt ≠ 4 := oh_ne c8; have hc9 : y1.toInt ≠ 5 := oh_ne c9; have hc11 : y1.toInt ≠ 6 := oh_ne c11; have hc13 : y1.toInt ≠ 7 := oh_ne c13; have hc15 : y1.toInt ≠ 8 := oh_ne c15; have hc16 : y1.toInt ≠ 9 := oh_ne c16; have hc17 : y1.toInt ≠ 10 := oh_ne c17; have hc18 : y1.toInt ≠ 11 := oh_ne c18; have hc19 : y1.toInt ≠ 12 := oh_ne c19; omega) (by decide) ?_
  refine lv_iconst (v := (-1 : Int32)) hx hb dX7_state_174 (by decide) ?_
  exact oh_reti (v := (-1 : Int32)) (u := σ) hC hP hD hS ⟨(by subst hy1; exact (((((((((((((if_neg c2).trans (if_neg c4)).trans (if_neg c6)).trans (if_neg c7)).trans (if_neg c8)).trans (if_neg c9)).trans (if_neg c11)).trans (if_neg c13)).trans (if_neg c15)).trans (if_neg c16)).trans (if_neg c17)).trans (if_neg c18)).trans (if_neg c19)).symm), rfl⟩ dX7_state_175
-- OctalHouse.switches
theorem inX7_switches_X0 : ∀ w ∈ u_ws RX0 TX0 7, w ∈ wsX7_switches := by decide +kernel
theorem inX7_switches_X7 : ∀ w ∈ u_ws RX7 TX7 7, w ∈ wsX7_switches := by decide +kernel
def spX7_switches (σ : oh_St) (p1 : Int32) : oh_St := (oh_up σ 0 10 (p1 &&& (65535 : Int32)))
set_option maxHeartbeats 8000000 in
set_option maxRecDepth 100000 in
theorem mtX7_switches (l : Launch) (a : Nat → Nat) (k : Nat → ClassId) (D : va_G) (σ : oh_St) (p1 : Int32) : oh_Mv l yX7_switches wsX7_switches { frames := 0, cells := 0, slots := 0, locals := 0 } D (oh_ty k) (oh_W a k) [.ref (a 0), .int p1] σ (fun u => u = spX7_switches σ p1) := by
  refine oh_inv (cc := cX7_switches) (nL := 2) (rt := none) (by decide) rfl (Nat.le_of_ble_eq_true rfl) ?_
  intro p e s m below meth c A ls hC hP hD hS hl
  obtain ⟨hx, hb, hml, hown, hts, hr, hlocks, hK, hN, hA⟩ := id hC
  have hl : lv_has ls 2 [(0, .ref (a 0)), (1, .int p1)] := hl
  refine lv_aload_n hx hb dX7_switches_0 rfl (lv_at hl 0 rfl) ?_
  refine oh_get (v := .ref (a 4)) hC hP inX7_switches_X7 0 rfl rfl 2 (by decide) (by decide +kernel) rfl dX7_switches_1 ?_
  refine lv_iload_n hx hb dX7_switches_4 rfl (lv_at hl 1 rfl) ?_
  refine lv_ldc (v := (65535 : Int32)) hx hb hown (hts (.constant RX7 103 (65535)) (by decide +kernel)) dX7_switches_5 ?_
  refine lv_iand hx hb dX7_switches_7 ?_
  refine oh_putN (σ' := (oh_up σ 0 10 (p1 &&& (65535 : Int32)))) (v := .int (p1 &&& (65535 : Int32))) hC hP hD hS inX7_switches_X0 tyX0 tyX0_ok nmX0 4 rfl rfl 5 (by decide) (by decide +kernel) rfl rfl rfl (by simp) rfl dX7_switches_8 (fun H locs hP hD hS => ?_)
  exact oh_retv (u := (oh_up σ 0 10 (p1 &&& (65535 : Int32)))) hC hP hD hS (by exact rfl) dX7_switches_11
-- OctalHouse.code
theorem inX7_code_X3 : ∀ w ∈ u_ws RX3 TX3 3, w ∈ wsX7_code := by decide +kernel
theorem inX7_code_X7 : ∀ w ∈ u_ws RX7 TX7 7, w ∈ wsX7_code := by decide +kernel
def spX7_code (σ : oh_St) (p1 : Int32) (p2 : Int32) : Int32 := (if oh_ix (p1 - (6 : Int32)) 6 then (let y2 : Int32 := p2; (if y2 = (0 : Int32) then (let r4 : Int32 := (spX7_bit (σ 2 (6 + (p1 - (6 : Int32)).toNatClampNeg))); r4) else (if y2 = (1 : Int32) then (let r6 : Int32 := (spX7_bit (σ 3 (6 + (p1 - (6 : Int32)).toNatClampNeg))); r6) else (if y2 = (2 : Int32) then (let r8 : Int32 := (spX7_bit (σ 4 (6 + (p1 - (6 : Int32)).toNatClampNeg))); r8) else (if oh_ix (p1 - (6 : Int32)) 2 then (let r10 : Int32 := (spX1_tellPart σ ((p1 - (6 : Int32)).toNatClampNeg) p2); r10) else (if oh_ix (p1 - (8 : Int32)) 4 then (let r12 : Int32 := (spX2_tellPart σ ((p1 - (8 : Int32)).toNatClampNeg) p2); r12) else (-1 : Int32))))))) else (-1 : Int32))
set_option maxHeartbeats 8000000 in
set_option maxRecDepth 100000 in
theorem mtX7_code (l : Launch) (a : Nat → Nat) (k : Nat → ClassId) (D : va_G) (σ : oh_St) (p1 : Int32) (p2 : Int32) : oh_Mi l yX7_code wsX7_code { frames := 2, cells := 0, slots := 0, locals := 41 } D (oh_ty k) (oh_W a k) [.ref (a 0), .int p1, .int p2] σ (fun r u => r = spX7_code σ p1 p2 ∧ u = σ) := by
  refine oh_ini (cc := cX7_code) (nL := 6) (rt := some .int) (by decide) rfl (Nat.le_of_ble_eq_true rfl) ?_
  intro p e s m below meth c A ls hC hP hD hS hl
  obtain ⟨hx, hb, hml, hown, hts, hr, hlocks, hK, hN, hA⟩ := id hC
  have hl : lv_has ls 6 [(0, .ref (a 0)), (1, .int p1), (2, .int p2)] := hl
  refine lv_aload_n hx hb dX7_code_0 rfl (lv_at hl 0 rfl) ?_
  refine oh_get (v := .ref (a 4)) hC hP inX7_code_X7 0 rfl rfl 2 (by decide) (by decide +kernel) rfl dX7_code_1 ?_
  refine lv_iload_n hx hb dX7_code_4 rfl (lv_at hl 1 rfl) ?_
  refine oh_cvqp (As := [.int p1]) (rest := []) hC hP hD hS (mtX0_lineOf_ l a k D σ p1) (cwV 1 hts gX7_code_X0_lineOf rfl rfl rfl (by decide +kernel) ⟨Nat.le_of_ble_eq_true rfl, Nat.le_of_ble_eq_true rfl⟩) 4 0 rfl rfl rfl hl.1 rfl (Nat.le_of_ble_eq_true rfl) dX7_code_5 (fun H locs hP hD hS => ?_)
  by_cases c1 : oh_ix (p1 - (6 : Int32)) 6
  · rw [if_pos c1]
    refine W.eq (g2 := F0 m 8 ls ([.ref (a (9 + (p1 - (6 : Int32)).toNatClampNeg))])) rfl ?_
    refine lv_astore_n (lv' := [(3, .ref (a (9 + (p1 - (6 : Int32)).toNatClampNeg))), (0, .ref (a 0)), (1, .int p1), (2, .int p2)]) hx hb dX7_code_8 rfl hl (by decide) rfl (fun ls hl => ?_)
    refine lv_aload_n hx hb dX7_code_9 rfl (lv_at hl 0 rfl) ?_
    refine lv_ifnonnull (tgt := 15) hx hb dX7_code_10 (by decide) ?_
    refine lv_iload_n hx hb dX7_code_15 rfl (lv_at hl 3 rfl) ?_
    refine lv_topi (fun y2 hy2 => ?_)
    by_cases c3 : y2 = (0 : Int32)
    · refine lv_tableIn (tgt := 44) hx hb dX7_code_16 (by rw [c3]; decide) (by rw [c3]; decide) (by rw [c3]; rfl) (by decide) ?_
      refine lv_aload_n hx hb dX7_code_44 rfl (lv_at hl 0 rfl) ?_
      refine oh_getN (v := .int (σ 2 (6 + (p1 - (6 : Int32)).toNatClampNeg))) hC hP inX7_code_X3 (9 + (p1 - (6 : Int32)).toNatClampNeg) (oh_gln a k σ (oh_ixN c1)) rfl 0 (by decide) (by decide +kernel) rfl dX7_code_45 ?_
      refine oh_csp (As := [.int (σ 2 (6 + (p1 - (6 : Int32)).toNatClampNeg))]) (rest := []) hC hP hD hS (mtX7_bit l a k D σ (σ 2 (6 + (p1 - (6 : Int32)).toNatClampNeg))) (va_cwS 1 hts gX7_code_X7_bit rfl rfl rfl (by decide +kernel) ⟨Nat.le_of_ble_eq_true rfl, Nat.le_of_ble_eq_true rfl⟩) rfl hl.1 rfl (Nat.le_of_ble_eq_true rfl) dX7_code_48 (fun r4 H locs hr4 hP hD hS => ?_)
      exact oh_reti (v := r4) (u := σ) hC hP hD hS ⟨(by subst hr4 hy2; exact ((if_pos c1).trans (if_pos c3)).symm), rfl⟩ dX7_code_51
    by_cases c5 : y2 = (1 : Int32)
    · refine lv_tableIn (tgt := 52) hx hb dX7_code_16 (by rw [c5]; decide) (by rw [c5]; decide) (by rw [c5]; rfl) (by decide) ?_
      refine lv_aload_n hx hb dX7_code_52 rfl (lv_at hl 0 rfl) ?_
      refine oh_getN (v := .int (σ 3 (6 + (p1 - (6 : Int32)).toNatClampNeg))) hC hP inX7_code_X3 (9 + (p1 - (6 : Int32)).toNatClampNeg) (oh_gln a k σ (oh_ixN c1)) rfl 1 (by decide) (by decide +kernel) rfl dX7_code_53 ?_
      refine oh_csp (As := [.int (σ 3 (6 + (p1 - (6 : Int32)).toNatClampNeg))]) (rest := []) hC hP hD hS (mtX7_bit l a k D σ (σ 3 (6 + (p1 - (6 : Int32)).toNatClampNeg))) (va_cwS 1 hts gX7_code_X7_bit rfl rfl rfl (by decide +kernel) ⟨Nat.le_of_ble_eq_true rfl, Nat.le_of_ble_eq_true rfl⟩) rfl hl.1 rfl (Nat.le_of_ble_eq_true rfl) dX7_code_56 (fun r6 H locs hr6 hP hD hS => ?_)
      exact oh_reti (v := r6) (u := σ) hC hP hD hS ⟨(by subst hr6 hy2; exact (((if_pos c1).trans (if_neg c3)).trans (if_pos c5)).symm), rfl⟩ dX7_code_59
    by_cases c7 : y2 = (2 : Int32)
    · refine lv_tableIn (tgt := 60) hx hb dX7_code_16 (by rw [c7]; decide) (by rw [c7]; decide) (by rw [c7]; rfl) (by decide) ?_
      refine lv_aload_n hx hb dX7_code_60 rfl (lv_at hl 0 rfl) ?_
      refine oh_getN (v := .int (σ 4 (6 + (p1 - (6 : Int32)).toNatClampNeg))) hC hP inX7_code_X3 (9 + (p1 - (6 : Int32)).toNatClampNeg) (oh_gln a k σ (oh_ixN c1)) rfl 2 (by decide) (by decide +kernel) rfl dX7_code_61 ?_
      refine oh_csp (As := [.int (σ 4 (6 + (p1 - (6 : Int32)).toNatClampNeg))]) (rest := []) hC hP hD hS (mtX7_bit l a k D σ (σ 4 (6 + (p1 - (6 : Int32)).toNatClampNeg))) (va_cwS 1 hts gX7_code_X7_bit rfl rfl rfl (by decide +kernel) ⟨Nat.le_of_ble_eq_true rfl, Nat.le_of_ble_eq_true rfl⟩) rfl hl.1 rfl (Nat.le_of_ble_eq_true rfl) dX7_code_64 (fun r8 H locs hr8 hP hD hS => ?_)
      exact oh_reti (v := r8) (u := σ) hC hP hD hS ⟨(by subst hr8 hy2; exact ((((if_pos c1).trans (if_neg c3)).trans (if_neg c5)).trans (if_pos c7)).symm), rfl⟩ dX7_code_67
    refine lv_tableOut (tgt := 68) hx hb dX7_code_16 (by have hh := True.intro; have : (∀ z : Int32, y2.toInt = z.toInt → y2 = z) := fun z e => Int32.toInt_inj.mp e; have hc3 : y2.toInt ≠ 0 := oh_ne c3; have hc5 : y2.toInt ≠ 1 := oh_ne c5; have hc7 : y2.toInt ≠ 2 := oh_ne c7; omega) (by decide) ?_
    refine lv_aload_n hx hb dX7_code_68 rfl (lv_at hl 1 rfl) ?_
    refine oh_get (v := .ref (a 4)) hC hP inX7_code_X7 0 rfl rfl 2 (by decide) (by decide +kernel) rfl dX7_code_69 ?_
    refine lv_iload_n hx hb dX7_code_72 rfl (lv_at hl 2 rfl) ?_
    refine lv_bipush (v := (6 : Int32)) hx hb dX7_code_73 (by decide) ?_
    refine lv_isub hx hb dX7_code_75 ?_
    refine oh_cvqp (As := [.int (p1 - (6 : Int32))]) (rest := []) hC hP hD hS (mtX0_channelAt_ l a k D σ (p1 - (6 : Int32))) (cwV 1 hts gX7_code_X0_channelAt rfl rfl rfl (by decide +kernel) ⟨Nat.le_of_ble_eq_true rfl, Nat.le_of_ble_eq_true rfl⟩) 4 0 rfl rfl rfl hl.1 rfl (Nat.le_of_ble_eq_true rfl) dX7_code_76 (fun H locs hP hD hS => ?_)
    by_cases c9 : oh_ix (p1 - (6 : Int32)) 2
    · rw [if_pos c9]
      refine W.eq (g2 := F0 m 79 ls ([.ref (a (15 + (p1 - (6 : Int32)).toNatClampNeg))])) rfl ?_
      refine lv_astore (lv' := [(4, .ref (a (15 + (p1 - (6 : Int32)).toNatClampNeg))), (3, .ref (a (9 + (p1 - (6 : Int32)).toNatClampNeg))), (0, .ref (a 0)), (1, .int p1), (2, .int p2)]) hx hb dX7_code_79 hl (by decide) rfl (fun ls hl => ?_)
      refine lv_aload hx hb dX7_code_81 (lv_at hl 0 rfl) ?_
      refine lv_ifnull hx hb dX7_code_83 ?_
      refine lv_aload hx hb dX7_code_86 (lv_at hl 0 rfl) ?_
      refine lv_iload_n hx hb dX7_code_88 rfl (lv_at hl 4 rfl) ?_
      refine oh_cvp (As := [.int p2]) (rest := []) hC hP hD hS (mtX1_tellPart l a k D σ (oh_ixN c9) p2) (cwV 1 hts gX7_code_X1_tellPart rfl rfl rfl (by decide +kernel) ⟨Nat.le_of_ble_eq_true rfl, Nat.le_of_ble_eq_true rfl⟩) (15 + (p1 - (6 : Int32)).toNatClampNeg) 1 (oh_gch a k σ (oh_ixN c9)) rfl rfl hl.1 rfl (Nat.le_of_ble_eq_true rfl) dX7_code_89 (fun r10 H locs hr10 hP hD hS => ?_)
      exact oh_reti (v := r10) (u := σ) hC hP hD hS ⟨(by subst hr10 hy2; exact (((((if_pos c1).trans (if_neg c3)).trans (if_neg c5)).trans (if_neg c7)).trans (if_pos c9)).symm), rfl⟩ dX7_code_92
    · rw [if_neg c9]
      refine W.eq (g2 := F0 m 79 ls ([.null])) rfl ?_
      refine lv_astoreN (lv' := [(4, .null), (3, .ref (a (9 + (p1 - (6 : Int32)).toNatClampNeg))), (0, .ref (a 0)), (1, .int p1), (2, .int p2)]) hx hb dX7_code_79 hl (by decide) rfl (fun ls hl => ?_)
      refine lv_aloadN hx hb dX7_code_81 (lv_at hl 0 rfl) ?_
      refine lv_ifnullN (tgt := 93) hx hb dX7_code_83 (by decide) ?_
      refine lv_aload_n hx hb dX7_code_93 rfl (lv_at hl 2 rfl) ?_
      refine oh_get (v := .ref (a 4)) hC hP inX7_code_X7 0 rfl rfl 2 (by decide) (by decide +kernel) rfl dX7_code_94 ?_
      refine lv_iload_n hx hb dX7_code_97 rfl (lv_at hl 3 rfl) ?_
      refine lv_bipush (v := (8 : Int32)) hx hb dX7_code_98 (by decide) ?_
      refine lv_isub hx hb dX7_code_100 ?_
      refine oh_cvqp (As := [.int (p1 - (8 : Int32))]) (rest := []) hC hP hD hS (mtX0_deviceAt_ l a k D σ (p1 - (8 : Int32))) (cwV 1 hts gX7_code_X0_deviceAt rfl rfl rfl (by decide +kernel) ⟨Nat.le_of_ble_eq_true rfl, Nat.le_of_ble_eq_true rfl⟩) 4 0 rfl rfl rfl hl.1 rfl (Nat.le_of_ble_eq_true rfl) dX7_code_101 (fun H locs hP hD hS => ?_)
      by_cases c11 : oh_ix (p1 - (8 : Int32)) 4
      · rw [if_pos c11]
        refine W.eq (g2 := F0 m 104 ls ([.ref (a (17 + (p1 - (8 : Int32)).toNatClampNeg))])) rfl ?_
        refine lv_astore (lv' := [(5, .ref (a (17 + (p1 - (8 : Int32)).toNatClampNeg))), (4, .null), (3, .ref (a (9 + (p1 - (6 : Int32)).toNatClampNeg))), (0, .ref (a 0)), (1, .int p1), (2, .int p2)]) hx hb dX7_code_104 hl (by decide) rfl (fun ls hl => ?_)
        refine lv_aload hx hb dX7_code_106 (lv_at hl 0 rfl) ?_
        refine lv_ifnonnull (tgt := 115) hx hb dX7_code_108 (by decide) ?_
        refine lv_aload hx hb dX7_code_115 (lv_at hl 0 rfl) ?_
        refine lv_iload_n hx hb dX7_code_117 rfl (lv_at hl 5 rfl) ?_
        refine oh_cvp (As := [.int p2]) (rest := []) hC hP hD hS (mtX2_tellPart l a k D σ (oh_ixN c11) p2) (cwV 1 hts gX7_code_X2_tellPart rfl rfl rfl (by decide +kernel) ⟨Nat.le_of_ble_eq_true rfl, Nat.le_of_ble_eq_true rfl⟩) (17 + (p1 - (8 : Int32)).toNatClampNeg) 2 (oh_gdv a k σ (oh_ixN c11)) rfl rfl hl.1 rfl (Nat.le_of_ble_eq_true rfl) dX7_code_118 (fun r12 H locs hr12 hP hD hS => ?_)
        exact oh_reti (v := r12) (u := σ) hC hP hD hS ⟨(by subst hr12 hy2; exact ((((((if_pos c1).trans (if_neg c3)).trans (if_neg c5)).trans (if_neg c7)).trans (if_neg c9)).trans (if_pos c11)).symm), rfl⟩ dX7_code_121
      · rw [if_neg c11]
        refine W.eq (g2 := F0 m 104 ls ([.null])) rfl ?_
        refine lv_astoreN (lv' := [(5, .null), (4, .null), (3, .ref (a (9 + (p1 - (6 : Int32)).toNatClampNeg))), (0, .ref (a 0)), (1, .int p1), (2, .int p2)]) hx hb dX7_code_104 hl (by decide) rfl (fun ls hl => ?_)
        refine lv_aloadN hx hb dX7_code_106 (lv_at hl 0 rfl) ?_
        refine lv_ifnonnullN hx hb dX7_code_108 ?_
        refine lv_iconst (v := (-1 : Int32)) hx hb dX7_code_111 (by decide) ?_
        refine lv_goto (tgt := 121) hx hb dX7_code_112 (by decide) ?_
        exact oh_reti (v := (-1 : Int32)) (u := σ) hC hP hD hS ⟨(by subst hy2; exact ((((((if_pos c1).trans (if_neg c3)).trans (if_neg c5)).trans (if_neg c7)).trans (if_neg c9)).trans (if_neg c11)).symm), rfl⟩ dX7_code_121
  · rw [if_neg c1]
    refine W.eq (g2 := F0 m 8 ls ([.null])) rfl ?_
    refine lv_astore_nN (lv' := [(3, .null), (0, .ref (a 0)), (1, .int p1), (2, .int p2)]) hx hb dX7_code_8 rfl hl (by decide) rfl (fun ls hl => ?_)
    refine lv_aload_nN hx hb dX7_code_9 rfl (lv_at hl 0 rfl) ?_
    refine lv_ifnonnullN hx hb dX7_code_10 ?_
    refine lv_iconst (v := (-1 : Int32)) hx hb dX7_code_13 (by decide) ?_
    exact oh_reti (v := (-1 : Int32)) (u := σ) hC hP hD hS ⟨(by exact (if_neg c1).symm), rfl⟩ dX7_code_14
-- OctalHouse.sum
theorem inX7_sum_X7 : ∀ w ∈ u_ws RX7 TX7 7, w ∈ wsX7_sum := by decide +kernel
def lpX7_sum (σ : oh_St) : Nat → Int32 → Int32 → Int32
  | 0, x, i => x
  | f + 1, x, i => (if (4096 : Int32) ≤ i then x else (let r2 : Int32 := (spX4_read σ i); (lpX7_sum σ f (((31 : Int32) * x) + r2) (i + (1 : Int32)))))
def spX7_sum (σ : oh_St) : Int32 := (lpX7_sum σ 4097 (0 : Int32) (0 : Int32))
set_option maxHeartbeats 8000000 in
set_option maxRecDepth 100000 in
theorem mtX7_sum (l : Launch) (a : Nat → Nat) (k : Nat → ClassId) (D : va_G) (σ : oh_St)  : oh_Mi l yX7_sum wsX7_sum { frames := 1, cells := 0, slots := 0, locals := 21 } D (oh_ty k) (oh_W a k) [.ref (a 0)] σ (fun r u => r = spX7_sum σ ∧ u = σ) := by
  refine oh_ini (cc := cX7_sum) (nL := 3) (rt := some .int) (by decide) rfl (Nat.le_of_ble_eq_true rfl) ?_
  intro p e s m below meth c A ls hC hP hD hS hl
  obtain ⟨hx, hb, hml, hown, hts, hr, hlocks, hK, hN, hA⟩ := id hC
  have hl : lv_has ls 3 [(0, .ref (a 0))] := hl
  refine lv_iconst (v := (0 : Int32)) hx hb dX7_sum_0 (by decide) ?_
  refine lv_istore_n (lv' := [(1, .int (0 : Int32)), (0, .ref (a 0))]) hx hb dX7_sum_1 rfl hl (by decide) rfl (fun ls hl => ?_)
  refine lv_iconst (v := (0 : Int32)) hx hb dX7_sum_2 (by decide) ?_
  refine lv_istore_n (lv' := [(2, .int (0 : Int32)), (1, .int (0 : Int32)), (0, .ref (a 0))]) hx hb dX7_sum_3 rfl hl (by decide) rfl (fun ls hl => ?_)
  have LP : ∀ (f : Nat) (x : Int32) (i : Int32), (∃ j : Nat, i = nI j ∧ j + f = 4096 + 1 ∧ j ≤ 4096) → lpX7_sum σ f x i = spX7_sum σ → ∀ (ls : Array Slot) (H : Heap) (locs : List Loc), va_P D vwCl (oh_W a k σ) H → va_D A (oh_W a k σ) → va_S A s.heap H locs → lv_has ls 3 [(2, .int i), (1, .int x), (0, .ref (a 0))] → W p l e ({ frames := 1, cells := 0, slots := 0, locals := 21 } : Room) s m (([.ref (a 0)] : List Value).toArray) below meth c H locs 0 0 (oh_Ei below (fun r u => r = spX7_sum σ ∧ u = σ) D (oh_W a k) A [.ref (a 0)] s) (F0 m 4 ls []) := by
    intro f
    induction f with
    | zero => intro x i hI; exact absurd hI (oh_cnt0)
    | succ f ih =>
      intro x i hI hk ls H locs hP hD hS hl
      refine lv_iload_n hx hb dX7_sum_4 rfl (lv_at hl 0 rfl) ?_
      refine lv_sipush (v := (4096 : Int32)) hx hb dX7_sum_5 (by decide) ?_
      refine lv_icmp_ge (tgt := 31) hx hb dX7_sum_8 (by decide) (fun c1 => ?_) (fun c1 => ?_)
      · refine lv_iload_n hx hb dX7_sum_31 rfl (lv_at hl 1 rfl) ?_
        exact oh_reti (v := x) (u := σ) hC hP hD hS ⟨(by exact ((if_pos c1).symm).trans hk), rfl⟩ dX7_sum_32
      · refine lv_bipush (v := (31 : Int32)) hx hb dX7_sum_11 (by decide) ?_
        refine lv_iload_n hx hb dX7_sum_13 rfl (lv_at hl 1 rfl) ?_
        refine lv_imul hx hb dX7_sum_14 ?_
        refine lv_aload_n hx hb dX7_sum_15 rfl (lv_at hl 2 rfl) ?_
        refine oh_get (v := .ref (a 1)) hC hP inX7_sum_X7 0 rfl rfl 0 (by decide) (by decide +kernel) rfl dX7_sum_16 ?_
        refine lv_iload_n hx hb dX7_sum_19 rfl (lv_at hl 0 rfl) ?_
        refine oh_cvp (As := [.int i]) (rest := [.int ((31 : Int32) * x)]) hC hP hD hS (mtX4_read l a k D σ i) (cwV 1 hts gX7_sum_X4_read rfl rfl rfl (by decide +kernel) ⟨Nat.le_of_ble_eq_true rfl, Nat.le_of_ble_eq_true rfl⟩) 1 4 rfl rfl rfl hl.1 rfl (Nat.le_of_ble_eq_true rfl) dX7_sum_20 (fun r2 H locs hr2 hP hD hS => ?_)
        refine lv_iadd hx hb dX7_sum_23 ?_
        refine lv_istore_n (lv' := [(1, .int (((31 : Int32) * x) + r2)), (2, .int i), (0, .ref (a 0))]) hx hb dX7_sum_24 rfl hl (by decide) rfl (fun ls hl => ?_)
        refine lv_iinc (v := (i + (1 : Int32))) (lv' := [(2, .int (i + (1 : Int32))), (1, .int (((31 : Int32) * x) + r2)), (0, .ref (a 0))]) hx hb dX7_sum_25 hl (k := 1) rfl (by first | rfl | decide) (by decide) rfl (fun ls hl => ?_)
        refine lv_goto (tgt := 4) hx hb dX7_sum_28 (by decide) ?_
        exact ih (((31 : Int32) * x) + r2) (i + (1 : Int32)) (oh_cnt (M := 4096) rfl (by decide) hI c1) ((by subst hr2; exact ((if_neg c1).symm).trans hk)) ls _ _ hP hD hS (lv_sub hl [0, 1, 2] rfl)
  exact LP 4097 (0 : Int32) (0 : Int32) ⟨0, rfl, rfl, by decide⟩ (rfl) ls _ _ hP hD hS (lv_sub hl [0, 1, 2] rfl)
