-- OctalHouse$Channel.takeRegister
theorem inX1_takeRegister_X1 : ∀ w ∈ u_ws RX1 TX1 8, w ∈ wsX1_takeRegister := by decide +kernel
def spX1_takeRegister (σ : oh_St) (n : Nat) (p1 : Int32) : oh_St := (if (σ 11 (6 + n)) = (0 : Int32) then (let x3 : Int32 := (if (p1 &&& (32768 : Int32)) = (0 : Int32) then (0 : Int32) else (1 : Int32)); (oh_up (oh_up σ 6 (6 + n) (p1 &&& (32767 : Int32))) 8 (6 + n) x3)) else (oh_up σ 7 (6 + n) p1))
set_option maxHeartbeats 8000000 in
set_option maxRecDepth 100000 in
theorem mtX1_takeRegister (l : Launch) (a : Nat → Nat) (k : Nat → ClassId) (D : va_G) (σ : oh_St) {n : Nat} (hn : n < 2) (p1 : Int32) : oh_Mv l yX1_takeRegister wsX1_takeRegister { frames := 0, cells := 0, slots := 0, locals := 0 } D (oh_ty k) (oh_W a k) [.ref (a (15 + n)), .int p1] σ (fun u => u = spX1_takeRegister σ n p1) := by
  refine oh_inv (cc := cX1_takeRegister) (nL := 2) (rt := none) (by decide) rfl (Nat.le_of_ble_eq_true rfl) ?_
  intro p e s m below meth c A ls hC hP hD hS hl
  obtain ⟨hx, hb, hml, hown, hts, hr, hlocks, hK, hN, hA⟩ := id hC
  have hl : lv_has ls 2 [(0, .ref (a (15 + n))), (1, .int p1)] := hl
  refine lv_aload_n hx hb dX1_takeRegister_0 rfl (lv_at hl 0 rfl) ?_
  refine oh_get (v := .int (σ 11 (6 + n))) hC hP inX1_takeRegister_X1 (15 + n) (oh_gch a k σ hn) rfl 7 (by decide) (by decide +kernel) rfl dX1_takeRegister_1 ?_
  refine lv_if_eq (tgt := 15) hx hb dX1_takeRegister_4 (by decide) (fun c1 => ?_) (fun c1 => ?_)
  · refine lv_aload_n hx hb dX1_takeRegister_15 rfl (lv_at hl 0 rfl) ?_
    refine lv_iload_n hx hb dX1_takeRegister_16 rfl (lv_at hl 1 rfl) ?_
    refine lv_sipush (v := (32767 : Int32)) hx hb dX1_takeRegister_17 (by decide) ?_
    refine lv_iand hx hb dX1_takeRegister_20 ?_
    refine oh_put (σ' := (oh_up σ 6 (6 + n) (p1 &&& (32767 : Int32)))) (v := .int (p1 &&& (32767 : Int32))) hC hP hD hS inX1_takeRegister_X1 tyX1 tyX1_ok nmX1 (15 + n) (oh_gch a k σ hn) rfl 2 (by decide) (by decide +kernel) rfl rfl rfl (by simp) (oh_sch2 a k σ hn _) dX1_takeRegister_21 (fun H locs hP hD hS => ?_)
    refine lv_aload_n hx hb dX1_takeRegister_24 rfl (lv_at hl 0 rfl) ?_
    refine lv_iload_n hx hb dX1_takeRegister_25 rfl (lv_at hl 1 rfl) ?_
    refine lv_ldc (v := (32768 : Int32)) hx hb hown (hts (.constant RX1 60 (32768)) (by decide +kernel)) dX1_takeRegister_26 ?_
    refine lv_iand hx hb dX1_takeRegister_28 ?_
    have K4 : ∀ x3 : Int32, x3 = (if (p1 &&& (32768 : Int32)) = (0 : Int32) then (0 : Int32) else (1 : Int32)) → ∀ (ls : Array Slot) (H : Heap) (locs : List Loc), va_P D vwCl (oh_W a k (oh_up σ 6 (6 + n) (p1 &&& (32767 : Int32)))) H → va_D A (oh_W a k (oh_up σ 6 (6 + n) (p1 &&& (32767 : Int32)))) → va_S A s.heap H locs → lv_has ls 2 [(0, .ref (a (15 + n))), (1, .int p1)] → W p l e ({ frames := 0, cells := 0, slots := 0, locals := 0 } : Room) s m (([.ref (a (15 + n)), .int p1] : List Value).toArray) below meth c H locs 0 0 (oh_Ev below (fun u => u = spX1_takeRegister σ n p1) D (oh_W a k) A [.ref (a (15 + n)), .int p1] s) (F0 m 37 ls [.int x3, .ref (a (15 + n))]) := by
      intro x3 hx3 ls H locs hP hD hS hl
      refine oh_put (σ' := (oh_up (oh_up σ 6 (6 + n) (p1 &&& (32767 : Int32))) 8 (6 + n) x3)) (v := .int x3) hC hP hD hS inX1_takeRegister_X1 tyX1 tyX1_ok nmX1 (15 + n) (oh_gch a k (oh_up σ 6 (6 + n) (p1 &&& (32767 : Int32))) hn) rfl 4 (by decide) (by decide +kernel) rfl (oh_nb (by rw [hx3]; (repeat' split) <;> first | exact Or.inl rfl | exact Or.inr rfl)) (oh_fb (by rw [hx3]; (repeat' split) <;> first | exact Or.inl rfl | exact Or.inr rfl)) (by simp) (oh_sch4 a k (oh_up σ 6 (6 + n) (p1 &&& (32767 : Int32))) hn _) dX1_takeRegister_37 (fun H locs hP hD hS => ?_)
      exact oh_retv (u := (oh_up (oh_up σ 6 (6 + n) (p1 &&& (32767 : Int32))) 8 (6 + n) x3)) hC hP hD hS (by subst hx3; exact (if_pos c1).symm) dX1_takeRegister_40
    refine lv_if_eq (tgt := 36) hx hb dX1_takeRegister_29 (by decide) (fun c2 => ?_) (fun c2 => ?_)
    · refine lv_iconst (v := (0 : Int32)) hx hb dX1_takeRegister_36 (by decide) ?_
      exact K4 _ (if_pos c2).symm ls _ _ hP hD hS (lv_sub hl [0, 1] rfl)
    · refine lv_iconst (v := (1 : Int32)) hx hb dX1_takeRegister_32 (by decide) ?_
      refine lv_goto (tgt := 37) hx hb dX1_takeRegister_33 (by decide) ?_
      exact K4 _ (if_neg c2).symm ls _ _ hP hD hS (lv_sub hl [0, 1] rfl)
  · refine lv_aload_n hx hb dX1_takeRegister_7 rfl (lv_at hl 0 rfl) ?_
    refine lv_iload_n hx hb dX1_takeRegister_8 rfl (lv_at hl 1 rfl) ?_
    refine oh_put (σ' := (oh_up σ 7 (6 + n) p1)) (v := .int p1) hC hP hD hS inX1_takeRegister_X1 tyX1 tyX1_ok nmX1 (15 + n) (oh_gch a k σ hn) rfl 3 (by decide) (by decide +kernel) rfl rfl rfl (by simp) (oh_sch3 a k σ hn _) dX1_takeRegister_9 (fun H locs hP hD hS => ?_)
    refine lv_goto (tgt := 40) hx hb dX1_takeRegister_12 (by decide) ?_
    exact oh_retv (u := (oh_up σ 7 (6 + n) p1)) hC hP hD hS (by exact (if_neg c1).symm) dX1_takeRegister_40
-- OctalHouse$Channel.tellPart
theorem inX1_tellPart_X1 : ∀ w ∈ u_ws RX1 TX1 8, w ∈ wsX1_tellPart := by decide +kernel
def spX1_tellPart (σ : oh_St) (n : Nat) (p1 : Int32) : Int32 := (let y1 : Int32 := p1; (if y1 = (3 : Int32) then (let r3 : Int32 := (spX7_bit (σ 5 (6 + n))); r3) else (if y1 = (4 : Int32) then (σ 6 (6 + n)) else (if y1 = (5 : Int32) then (σ 7 (6 + n)) else (if y1 = (6 : Int32) then (let r7 : Int32 := (spX7_bit (σ 8 (6 + n))); r7) else (if y1 = (7 : Int32) then (σ 9 (6 + n)) else (if y1 = (8 : Int32) then (σ 10 (6 + n)) else (-1 : Int32))))))))
set_option maxHeartbeats 8000000 in
set_option maxRecDepth 100000 in
theorem mtX1_tellPart (l : Launch) (a : Nat → Nat) (k : Nat → ClassId) (D : va_G) (σ : oh_St) {n : Nat} (hn : n < 2) (p1 : Int32) : oh_Mi l yX1_tellPart wsX1_tellPart { frames := 1, cells := 0, slots := 0, locals := 20 } D (oh_ty k) (oh_W a k) [.ref (a (15 + n)), .int p1] σ (fun r u => r = spX1_tellPart σ n p1 ∧ u = σ) := by
  refine oh_ini (cc := cX1_tellPart) (nL := 2) (rt := some .int) (by decide) rfl (Nat.le_of_ble_eq_true rfl) ?_
  intro p e s m below meth c A ls hC hP hD hS hl
  obtain ⟨hx, hb, hml, hown, hts, hr, hlocks, hK, hN, hA⟩ := id hC
  have hl : lv_has ls 2 [(0, .ref (a (15 + n))), (1, .int p1)] := hl
  refine lv_iload_n hx hb dX1_tellPart_0 rfl (lv_at hl 1 rfl) ?_
  refine lv_topi (fun y1 hy1 => ?_)
  by_cases c2 : y1 = (3 : Int32)
  · refine lv_tableIn (tgt := 40) hx hb dX1_tellPart_1 (by rw [c2]; decide) (by rw [c2]; decide) (by rw [c2]; rfl) (by decide) ?_
    refine lv_aload_n hx hb dX1_tellPart_40 rfl (lv_at hl 0 rfl) ?_
    refine oh_get (v := .int (σ 5 (6 + n))) hC hP inX1_tellPart_X1 (15 + n) (oh_gch a k σ hn) rfl 1 (by decide) (by decide +kernel) rfl dX1_tellPart_41 ?_
    refine oh_csnp (As := [.int (σ 5 (6 + n))]) (rest := []) hC hP hD hS (mtX7_bit l a k D σ (σ 5 (6 + n))) ⟨va_cnB 1 hts gX1_tellPart_X7_bit_n73 rfl rfl rfl (oh_nM hN (by decide +kernel)) (hts (.initialized RX7) (by decide +kernel)) (by decide +kernel) ⟨Nat.le_of_ble_eq_true rfl, Nat.le_of_ble_eq_true rfl⟩, hts (.static yX7_bit) (by decide +kernel), trivial⟩ rfl hl.1 rfl (Nat.le_of_ble_eq_true rfl) dX1_tellPart_44 (fun r3 H locs hr3 hP hD hS => ?_)
    exact oh_reti (v := r3) (u := σ) hC hP hD hS ⟨(by subst hr3 hy1; exact (if_pos c2).symm), rfl⟩ dX1_tellPart_47
  by_cases c4 : y1 = (4 : Int32)
  · refine lv_tableIn (tgt := 48) hx hb dX1_tellPart_1 (by rw [c4]; decide) (by rw [c4]; decide) (by rw [c4]; rfl) (by decide) ?_
    refine lv_aload_n hx hb dX1_tellPart_48 rfl (lv_at hl 0 rfl) ?_
    refine oh_get (v := .int (σ 6 (6 + n))) hC hP inX1_tellPart_X1 (15 + n) (oh_gch a k σ hn) rfl 2 (by decide) (by decide +kernel) rfl dX1_tellPart_49 ?_
    exact oh_reti (v := (σ 6 (6 + n))) (u := σ) hC hP hD hS ⟨(by subst hy1; exact ((if_neg c2).trans (if_pos c4)).symm), rfl⟩ dX1_tellPart_52
  by_cases c5 : y1 = (5 : Int32)
  · refine lv_tableIn (tgt := 53) hx hb dX1_tellPart_1 (by rw [c5]; decide) (by rw [c5]; decide) (by rw [c5]; rfl) (by decide) ?_
    refine lv_aload_n hx hb dX1_tellPart_53 rfl (lv_at hl 0 rfl) ?_
    refine oh_get (v := .int (σ 7 (6 + n))) hC hP inX1_tellPart_X1 (15 + n) (oh_gch a k σ hn) rfl 3 (by decide) (by decide +kernel) rfl dX1_tellPart_54 ?_
    exact oh_reti (v := (σ 7 (6 + n))) (u := σ) hC hP hD hS ⟨(by subst hy1; exact (((if_neg c2).trans (if_neg c4)).trans (if_pos c5)).symm), rfl⟩ dX1_tellPart_57
  by_cases c6 : y1 = (6 : Int32)
  · refine lv_tableIn (tgt := 58) hx hb dX1_tellPart_1 (by rw [c6]; decide) (by rw [c6]; decide) (by rw [c6]; rfl) (by decide) ?_
    refine lv_aload_n hx hb dX1_tellPart_58 rfl (lv_at hl 0 rfl) ?_
    refine oh_get (v := .int (σ 8 (6 + n))) hC hP inX1_tellPart_X1 (15 + n) (oh_gch a k σ hn) rfl 4 (by decide) (by decide +kernel) rfl dX1_tellPart_59 ?_
    refine oh_csnp (As := [.int (σ 8 (6 + n))]) (rest := []) hC hP hD hS (mtX7_bit l a k D σ (σ 8 (6 + n))) ⟨va_cnB 1 hts gX1_tellPart_X7_bit_n73 rfl rfl rfl (oh_nM hN (by decide +kernel)) (hts (.initialized RX7) (by decide +kernel)) (by decide +kernel) ⟨Nat.le_of_ble_eq_true rfl, Nat.le_of_ble_eq_true rfl⟩, hts (.static yX7_bit) (by decide +kernel), trivial⟩ rfl hl.1 rfl (Nat.le_of_ble_eq_true rfl) dX1_tellPart_62 (fun r7 H locs hr7 hP hD hS => ?_)
    exact oh_reti (v := r7) (u := σ) hC hP hD hS ⟨(by subst hr7 hy1; exact ((((if_neg c2).trans (if_neg c4)).trans (if_neg c5)).trans (if_pos c6)).symm), rfl⟩ dX1_tellPart_65
  by_cases c8 : y1 = (7 : Int32)
  · refine lv_tableIn (tgt := 66) hx hb dX1_tellPart_1 (by rw [c8]; decide) (by rw [c8]; decide) (by rw [c8]; rfl) (by decide) ?_
    refine lv_aload_n hx hb dX1_tellPart_66 rfl (lv_at hl 0 rfl) ?_
    refine oh_get (v := .int (σ 9 (6 + n))) hC hP inX1_tellPart_X1 (15 + n) (oh_gch a k σ hn) rfl 5 (by decide) (by decide +kernel) rfl dX1_tellPart_67 ?_
    exact oh_reti (v := (σ 9 (6 + n))) (u := σ) hC hP hD hS ⟨(by subst hy1; exact (((((if_neg c2).trans (if_neg c4)).trans (if_neg c5)).trans (if_neg c6)).trans (if_pos c8)).symm), rfl⟩ dX1_tellPart_70
  by_cases c9 : y1 = (8 : Int32)
  · refine lv_tableIn (tgt := 71) hx hb dX1_tellPart_1 (by rw [c9]; decide) (by rw [c9]; decide) (by rw [c9]; rfl) (by decide) ?_
    refine lv_aload_n hx hb dX1_tellPart_71 rfl (lv_at hl 0 rfl) ?_
    refine oh_get (v := .int (σ 10 (6 + n))) hC hP inX1_tellPart_X1 (15 + n) (oh_gch a k σ hn) rfl 6 (by decide) (by decide +kernel) rfl dX1_tellPart_72 ?_
    exact oh_reti (v := (σ 10 (6 + n))) (u := σ) hC hP hD hS ⟨(by subst hy1; exact ((((((if_neg c2).trans (if_neg c4)).trans (if_neg c5)).trans (if_neg c6)).trans (if_neg c8)).trans (if_pos c9)).symm), rfl⟩ dX1_tellPart_75
  refine lv_tableOut (tgt := 76) hx hb dX1_tellPart_1 (by have hh := True.intro; have : (∀ z : Int32, y1.toInt = z.toInt → y1 = z) := fun z e => Int32.toInt_inj.mp e; have hc2 : y1.toInt ≠ 3 := oh_ne c2; have hc4 : y1.toInt ≠ 4 := oh_ne c4; have hc5 : y1.toInt ≠ 5 := oh_ne c5; have hc6 : y1.toInt ≠ 6 := oh_ne c6; have hc8 : y1.toInt ≠ 7 := oh_ne c8; have hc9 : y1.toInt ≠ 8 := oh_ne c9; omega) (by decide) ?_
  refine lv_iconst (v := (-1 : Int32)) hx hb dX1_tellPart_76 (by decide) ?_
  exact oh_reti (v := (-1 : Int32)) (u := σ) hC hP hD hS ⟨(by subst hy1; exact ((((((if_neg c2).trans (if_neg c4)).trans (if_neg c5)).trans (if_neg c6)).trans (if_neg c8)).trans (if_neg c9)).symm), rfl⟩ dX1_tellPart_77
-- OctalHouse$Channel.finish
theorem inX1_finish_X1 : ∀ w ∈ u_ws RX1 TX1 8, w ∈ wsX1_finish := by decide +kernel
theorem inX1_finish_X2 : ∀ w ∈ u_ws RX2 TX2 10, w ∈ wsX1_finish := by decide +kernel
theorem inX1_finish_X3 : ∀ w ∈ u_ws RX3 TX3 3, w ∈ wsX1_finish := by decide +kernel
def spX1_finish (σ : oh_St) (n : Nat) (n1 : Nat) : oh_St := (let s1 : oh_St := (spX3_putFlag σ n (1 : Int32)); (if ((s1 9 (6 + n)) &&& (8192 : Int32)) = (0 : Int32) then (oh_up s1 5 (6 + n) (0 : Int32)) else (oh_up (oh_up s1 5 (6 + n) (0 : Int32)) 2 (6 + (2 + n1)) (0 : Int32))))
set_option maxHeartbeats 8000000 in
set_option maxRecDepth 100000 in
theorem mtX1_finish (l : Launch) (a : Nat → Nat) (k : Nat → ClassId) (D : va_G) (σ : oh_St) {n : Nat} (hn : n < 2) {n1 : Nat} (hn1 : n1 < 4) : oh_Mv l yX1_finish wsX1_finish { frames := 1, cells := 0, slots := 0, locals := 21 } D (oh_ty k) (oh_W a k) [.ref (a (15 + n)), .ref (a (17 + n1))] σ (fun u => u = spX1_finish σ n n1) := by
  refine oh_inv (cc := cX1_finish) (nL := 2) (rt := none) (by decide) rfl (Nat.le_of_ble_eq_true rfl) ?_
  intro p e s m below meth c A ls hC hP hD hS hl
  obtain ⟨hx, hb, hml, hown, hts, hr, hlocks, hK, hN, hA⟩ := id hC
  have hl : lv_has ls 2 [(0, .ref (a (15 + n))), (1, .ref (a (17 + n1)))] := hl
  refine lv_aload_n hx hb dX1_finish_0 rfl (lv_at hl 0 rfl) ?_
  refine oh_get (v := .ref (a (9 + n))) hC hP inX1_finish_X1 (15 + n) (oh_gch a k σ hn) rfl 0 (by decide) (by decide +kernel) rfl dX1_finish_1 ?_
  refine lv_iconst (v := (1 : Int32)) hx hb dX1_finish_4 (by decide) ?_
  refine oh_cvv (As := [.int (1 : Int32)]) (rest := []) hC hP hD hS (mtX3_putFlag l a k D σ (oh_l1 hn) (1 : Int32) (by decide)) (cwV 1 hts gX1_finish_X3_putFlag rfl rfl rfl (by decide +kernel) ⟨Nat.le_of_ble_eq_true rfl, Nat.le_of_ble_eq_true rfl⟩) (9 + n) 3 (oh_gln a k σ (oh_l1 hn)) rfl rfl hl.1 rfl (Nat.le_of_ble_eq_true rfl) dX1_finish_5 (fun s1 H locs hs1 hP hD hS => ?_)
  refine lv_aload_n hx hb dX1_finish_8 rfl (lv_at hl 0 rfl) ?_
  refine lv_iconst (v := (0 : Int32)) hx hb dX1_finish_9 (by decide) ?_
  refine oh_put (σ' := (oh_up s1 5 (6 + n) (0 : Int32))) (v := .int (0 : Int32)) hC hP hD hS inX1_finish_X1 tyX1 tyX1_ok nmX1 (15 + n) (oh_gch a k s1 hn) rfl 1 (by decide) (by decide +kernel) rfl (oh_nb (by decide)) (oh_fb (by decide)) (by simp) (oh_sch1 a k s1 hn _) dX1_finish_10 (fun H locs hP hD hS => ?_)
  refine lv_aload_n hx hb dX1_finish_13 rfl (lv_at hl 0 rfl) ?_
  refine oh_get (v := .int (s1 9 (6 + n))) hC hP inX1_finish_X1 (15 + n) (oh_gch a k (oh_up s1 5 (6 + n) (0 : Int32)) hn) rfl 5 (by decide) (by decide +kernel) rfl dX1_finish_14 ?_
  refine lv_sipush (v := (8192 : Int32)) hx hb dX1_finish_17 (by decide) ?_
  refine lv_iand hx hb dX1_finish_20 ?_
  refine lv_if_eq (tgt := 32) hx hb dX1_finish_21 (by decide) (fun c2 => ?_) (fun c2 => ?_)
  · exact oh_retv (u := (oh_up s1 5 (6 + n) (0 : Int32))) hC hP hD hS (by subst hs1; exact (if_pos c2).symm) dX1_finish_32
  · refine lv_aload_n hx hb dX1_finish_24 rfl (lv_at hl 1 rfl) ?_
    refine oh_getN (v := .ref (a (9 + (2 + n1)))) hC hP inX1_finish_X2 (17 + n1) (oh_gdv a k (oh_up s1 5 (6 + n) (0 : Int32)) hn1) rfl 0 (by decide) (by decide +kernel) rfl dX1_finish_25 ?_
    refine lv_iconst (v := (0 : Int32)) hx hb dX1_finish_28 (by decide) ?_
    refine oh_putN (σ' := (oh_up (oh_up s1 5 (6 + n) (0 : Int32)) 2 (6 + (2 + n1)) (0 : Int32))) (v := .int (0 : Int32)) hC hP hD hS inX1_finish_X3 tyX3 tyX3_ok nmX3 (9 + (2 + n1)) (oh_gln a k (oh_up s1 5 (6 + n) (0 : Int32)) (oh_l2 hn1)) rfl 0 (by decide) (by decide +kernel) rfl (oh_nb (by decide)) (oh_fb (by decide)) (by simp) (oh_sln0 a k (oh_up s1 5 (6 + n) (0 : Int32)) (oh_l2 hn1) _) dX1_finish_29 (fun H locs hP hD hS => ?_)
    exact oh_retv (u := (oh_up (oh_up s1 5 (6 + n) (0 : Int32)) 2 (6 + (2 + n1)) (0 : Int32))) hC hP hD hS (by subst hs1; exact (if_neg c2).symm) dX1_finish_32
-- OctalHouse$Channel.move
theorem inX1_move_X1 : ∀ w ∈ u_ws RX1 TX1 8, w ∈ wsX1_move := by decide +kernel
theorem inX1_move_X2 : ∀ w ∈ u_ws RX2 TX2 10, w ∈ wsX1_move := by decide +kernel
theorem inX1_move_X3 : ∀ w ∈ u_ws RX3 TX3 3, w ∈ wsX1_move := by decide +kernel
def spX1_move (σ : oh_St) (n : Nat) (n1 : Nat) : oh_St := (let s4 : oh_St := (if (σ 8 (6 + n)) = (0 : Int32) then (let r2 : Int32 := (spX4_read σ (σ 6 (6 + n))); (oh_up σ 14 (8 + n1) r2)) else (let s3 : oh_St := (spX4_write σ (σ 6 (6 + n)) (σ 14 (8 + n1))); s3)); (let s5 : oh_St := (spX3_putFlag s4 ((2 + n1)) (0 : Int32)); (if ((oh_up (oh_up s5 6 (6 + n) (((s5 6 (6 + n)) + (1 : Int32)) &&& (32767 : Int32))) 7 (6 + n) (((s5 7 (6 + n)) + (1 : Int32)) &&& (65535 : Int32))) 7 (6 + n)) = (0 : Int32) then (let s9 : oh_St := (spX1_finish (oh_up (oh_up (oh_up s5 6 (6 + n) (((s5 6 (6 + n)) + (1 : Int32)) &&& (32767 : Int32))) 7 (6 + n) (((s5 7 (6 + n)) + (1 : Int32)) &&& (65535 : Int32))) 10 (6 + n) ((s5 10 (6 + n)) + (1 : Int32))) n (n1)); s9) else (if ((s5 9 (6 + n)) &&& (32768 : Int32)) = (0 : Int32) then (oh_up (oh_up (oh_up s5 6 (6 + n) (((s5 6 (6 + n)) + (1 : Int32)) &&& (32767 : Int32))) 7 (6 + n) (((s5 7 (6 + n)) + (1 : Int32)) &&& (65535 : Int32))) 10 (6 + n) ((s5 10 (6 + n)) + (1 : Int32))) else (let s8 : oh_St := (spX2_start (oh_up (oh_up (oh_up (oh_up s5 6 (6 + n) (((s5 6 (6 + n)) + (1 : Int32)) &&& (32767 : Int32))) 7 (6 + n) (((s5 7 (6 + n)) + (1 : Int32)) &&& (65535 : Int32))) 10 (6 + n) ((s5 10 (6 + n)) + (1 : Int32))) 2 (6 + (2 + n1)) (1 : Int32)) n1); s8)))))
set_option maxHeartbeats 8000000 in
set_option maxRecDepth 100000 in
theorem mtX1_move (l : Launch) (a : Nat → Nat) (k : Nat → ClassId) (D : va_G) (σ : oh_St) {n : Nat} (hn : n < 2) {n1 : Nat} (hn1 : n1 < 4) : oh_Mv l yX1_move wsX1_move { frames := 2, cells := 0, slots := 0, locals := 42 } D (oh_ty k) (oh_W a k) [.ref (a (15 + n)), .ref (a (17 + n1)), .ref (a 1)] σ (fun u => u = spX1_move σ n n1) := by
  refine oh_inv (cc := cX1_move) (nL := 3) (rt := none) (by decide) rfl (Nat.le_of_ble_eq_true rfl) ?_
  intro p e s m below meth c A ls hC hP hD hS hl
  obtain ⟨hx, hb, hml, hown, hts, hr, hlocks, hK, hN, hA⟩ := id hC
  have hl : lv_has ls 3 [(0, .ref (a (15 + n))), (1, .ref (a (17 + n1))), (2, .ref (a 1))] := hl
  refine lv_aload_n hx hb dX1_move_0 rfl (lv_at hl 0 rfl) ?_
  refine oh_get (v := .int (σ 8 (6 + n))) hC hP inX1_move_X1 (15 + n) (oh_gch a k σ hn) rfl 4 (by decide) (by decide +kernel) rfl dX1_move_1 ?_
  have K10 : ∀ s4 : oh_St, s4 = (if (σ 8 (6 + n)) = (0 : Int32) then (let r2 : Int32 := (spX4_read σ (σ 6 (6 + n))); (oh_up σ 14 (8 + n1) r2)) else (let s3 : oh_St := (spX4_write σ (σ 6 (6 + n)) (σ 14 (8 + n1))); s3)) → ∀ (ls : Array Slot) (H : Heap) (locs : List Loc), va_P D vwCl (oh_W a k s4) H → va_D A (oh_W a k s4) → va_S A s.heap H locs → lv_has ls 3 [(0, .ref (a (15 + n))), (1, .ref (a (17 + n1))), (2, .ref (a 1))] → W p l e ({ frames := 2, cells := 0, slots := 0, locals := 42 } : Room) s m (([.ref (a (15 + n)), .ref (a (17 + n1)), .ref (a 1)] : List Value).toArray) below meth c H locs 0 0 (oh_Ev below (fun u => u = spX1_move σ n n1) D (oh_W a k) A [.ref (a (15 + n)), .ref (a (17 + n1)), .ref (a 1)] s) (F0 m 34 ls []) := by
    intro s4 hs4 ls H locs hP hD hS hl
    refine lv_aload_n hx hb dX1_move_34 rfl (lv_at hl 1 rfl) ?_
    refine oh_getN (v := .ref (a (9 + (2 + n1)))) hC hP inX1_move_X2 (17 + n1) (oh_gdv a k s4 hn1) rfl 0 (by decide) (by decide +kernel) rfl dX1_move_35 ?_
    refine lv_iconst (v := (0 : Int32)) hx hb dX1_move_38 (by decide) ?_
    refine oh_cvv (As := [.int (0 : Int32)]) (rest := []) hC hP hD hS (mtX3_putFlag l a k D s4 (oh_l2 hn1) (0 : Int32) (by decide)) (cwV 1 hts gX1_move_X3_putFlag rfl rfl rfl (by decide +kernel) ⟨Nat.le_of_ble_eq_true rfl, Nat.le_of_ble_eq_true rfl⟩) (9 + (2 + n1)) 3 (oh_gln a k s4 (oh_l2 hn1)) rfl rfl hl.1 rfl (Nat.le_of_ble_eq_true rfl) dX1_move_39 (fun s5 H locs hs5 hP hD hS => ?_)
    refine lv_aload_n hx hb dX1_move_42 rfl (lv_at hl 0 rfl) ?_
    refine lv_aload_n hx hb dX1_move_43 rfl (lv_at hl 0 rfl) ?_
    refine oh_get (v := .int (s5 6 (6 + n))) hC hP inX1_move_X1 (15 + n) (oh_gch a k s5 hn) rfl 2 (by decide) (by decide +kernel) rfl dX1_move_44 ?_
    refine lv_iconst (v := (1 : Int32)) hx hb dX1_move_47 (by decide) ?_
    refine lv_iadd hx hb dX1_move_48 ?_
    refine lv_sipush (v := (32767 : Int32)) hx hb dX1_move_49 (by decide) ?_
    refine lv_iand hx hb dX1_move_52 ?_
    refine oh_put (σ' := (oh_up s5 6 (6 + n) (((s5 6 (6 + n)) + (1 : Int32)) &&& (32767 : Int32)))) (v := .int (((s5 6 (6 + n)) + (1 : Int32)) &&& (32767 : Int32))) hC hP hD hS inX1_move_X1 tyX1 tyX1_ok nmX1 (15 + n) (oh_gch a k s5 hn) rfl 2 (by decide) (by decide +kernel) rfl rfl rfl (by simp) (oh_sch2 a k s5 hn _) dX1_move_53 (fun H locs hP hD hS => ?_)
    refine lv_aload_n hx hb dX1_move_56 rfl (lv_at hl 0 rfl) ?_
    refine lv_aload_n hx hb dX1_move_57 rfl (lv_at hl 0 rfl) ?_
    refine oh_get (v := .int (s5 7 (6 + n))) hC hP inX1_move_X1 (15 + n) (oh_gch a k (oh_up s5 6 (6 + n) (((s5 6 (6 + n)) + (1 : Int32)) &&& (32767 : Int32))) hn) rfl 3 (by decide) (by decide +kernel) rfl dX1_move_58 ?_
    refine lv_iconst (v := (1 : Int32)) hx hb dX1_move_61 (by decide) ?_
    refine lv_iadd hx hb dX1_move_62 ?_
    refine lv_ldc (v := (65535 : Int32)) hx hb hown (hts (.constant RX1 49 (65535)) (by decide +kernel)) dX1_move_63 ?_
    refine lv_iand hx hb dX1_move_65 ?_
    refine oh_put (σ' := (oh_up (oh_up s5 6 (6 + n) (((s5 6 (6 + n)) + (1 : Int32)) &&& (32767 : Int32))) 7 (6 + n) (((s5 7 (6 + n)) + (1 : Int32)) &&& (65535 : Int32)))) (v := .int (((s5 7 (6 + n)) + (1 : Int32)) &&& (65535 : Int32))) hC hP hD hS inX1_move_X1 tyX1 tyX1_ok nmX1 (15 + n) (oh_gch a k (oh_up s5 6 (6 + n) (((s5 6 (6 + n)) + (1 : Int32)) &&& (32767 : Int32))) hn) rfl 3 (by decide) (by decide +kernel) rfl rfl rfl (by simp) (oh_sch3 a k (oh_up s5 6 (6 + n) (((s5 6 (6 + n)) + (1 : Int32)) &&& (32767 : Int32))) hn _) dX1_move_66 (fun H locs hP hD hS => ?_)
    refine lv_aload_n hx hb dX1_move_69 rfl (lv_at hl 0 rfl) ?_
    refine lv_dup hx hb dX1_move_70 rfl ?_
    refine oh_get (v := .int (s5 10 (6 + n))) hC hP inX1_move_X1 (15 + n) (oh_gch a k (oh_up (oh_up s5 6 (6 + n) (((s5 6 (6 + n)) + (1 : Int32)) &&& (32767 : Int32))) 7 (6 + n) (((s5 7 (6 + n)) + (1 : Int32)) &&& (65535 : Int32))) hn) rfl 6 (by decide) (by decide +kernel) rfl dX1_move_71 ?_
    refine lv_iconst (v := (1 : Int32)) hx hb dX1_move_74 (by decide) ?_
    refine lv_iadd hx hb dX1_move_75 ?_
    refine oh_put (σ' := (oh_up (oh_up (oh_up s5 6 (6 + n) (((s5 6 (6 + n)) + (1 : Int32)) &&& (32767 : Int32))) 7 (6 + n) (((s5 7 (6 + n)) + (1 : Int32)) &&& (65535 : Int32))) 10 (6 + n) ((s5 10 (6 + n)) + (1 : Int32)))) (v := .int ((s5 10 (6 + n)) + (1 : Int32))) hC hP hD hS inX1_move_X1 tyX1 tyX1_ok nmX1 (15 + n) (oh_gch a k (oh_up (oh_up s5 6 (6 + n) (((s5 6 (6 + n)) + (1 : Int32)) &&& (32767 : Int32))) 7 (6 + n) (((s5 7 (6 + n)) + (1 : Int32)) &&& (65535 : Int32))) hn) rfl 6 (by decide) (by decide +kernel) rfl rfl rfl (by simp) (oh_sch6 a k (oh_up (oh_up s5 6 (6 + n) (((s5 6 (6 + n)) + (1 : Int32)) &&& (32767 : Int32))) 7 (6 + n) (((s5 7 (6 + n)) + (1 : Int32)) &&& (65535 : Int32))) hn _) dX1_move_76 (fun H locs hP hD hS => ?_)
    refine lv_aload_n hx hb dX1_move_79 rfl (lv_at hl 0 rfl) ?_
    refine oh_get (v := .int ((oh_up (oh_up s5 6 (6 + n) (((s5 6 (6 + n)) + (1 : Int32)) &&& (32767 : Int32))) 7 (6 + n) (((s5 7 (6 + n)) + (1 : Int32)) &&& (65535 : Int32))) 7 (6 + n))) hC hP inX1_move_X1 (15 + n) (oh_gch a k (oh_up (oh_up (oh_up s5 6 (6 + n) (((s5 6 (6 + n)) + (1 : Int32)) &&& (32767 : Int32))) 7 (6 + n) (((s5 7 (6 + n)) + (1 : Int32)) &&& (65535 : Int32))) 10 (6 + n) ((s5 10 (6 + n)) + (1 : Int32))) hn) rfl 3 (by decide) (by decide +kernel) rfl dX1_move_80 ?_
    refine lv_if_ne (tgt := 94) hx hb dX1_move_83 (by decide) (fun c6 => ?_) (fun c6 => ?_)
    · refine lv_aload_n hx hb dX1_move_94 rfl (lv_at hl 0 rfl) ?_
      refine oh_get (v := .int (s5 9 (6 + n))) hC hP inX1_move_X1 (15 + n) (oh_gch a k (oh_up (oh_up (oh_up s5 6 (6 + n) (((s5 6 (6 + n)) + (1 : Int32)) &&& (32767 : Int32))) 7 (6 + n) (((s5 7 (6 + n)) + (1 : Int32)) &&& (65535 : Int32))) 10 (6 + n) ((s5 10 (6 + n)) + (1 : Int32))) hn) rfl 5 (by decide) (by decide +kernel) rfl dX1_move_95 ?_
      refine lv_ldc (v := (32768 : Int32)) hx hb hown (hts (.constant RX1 60 (32768)) (by decide +kernel)) dX1_move_98 ?_
      refine lv_iand hx hb dX1_move_100 ?_
      refine lv_if_eq (tgt := 116) hx hb dX1_move_101 (by decide) (fun c7 => ?_) (fun c7 => ?_)
      · exact oh_retv (u := (oh_up (oh_up (oh_up s5 6 (6 + n) (((s5 6 (6 + n)) + (1 : Int32)) &&& (32767 : Int32))) 7 (6 + n) (((s5 7 (6 + n)) + (1 : Int32)) &&& (65535 : Int32))) 10 (6 + n) ((s5 10 (6 + n)) + (1 : Int32)))) hC hP hD hS (by subst hs5 hs4; exact ((if_neg c6).trans (if_pos c7)).symm) dX1_move_116
      · refine lv_aload_n hx hb dX1_move_104 rfl (lv_at hl 1 rfl) ?_
        refine oh_getN (v := .ref (a (9 + (2 + n1)))) hC hP inX1_move_X2 (17 + n1) (oh_gdv a k (oh_up (oh_up (oh_up s5 6 (6 + n) (((s5 6 (6 + n)) + (1 : Int32)) &&& (32767 : Int32))) 7 (6 + n) (((s5 7 (6 + n)) + (1 : Int32)) &&& (65535 : Int32))) 10 (6 + n) ((s5 10 (6 + n)) + (1 : Int32))) hn1) rfl 0 (by decide) (by decide +kernel) rfl dX1_move_105 ?_
        refine lv_iconst (v := (1 : Int32)) hx hb dX1_move_108 (by decide) ?_
        refine oh_putN (σ' := (oh_up (oh_up (oh_up (oh_up s5 6 (6 + n) (((s5 6 (6 + n)) + (1 : Int32)) &&& (32767 : Int32))) 7 (6 + n) (((s5 7 (6 + n)) + (1 : Int32)) &&& (65535 : Int32))) 10 (6 + n) ((s5 10 (6 + n)) + (1 : Int32))) 2 (6 + (2 + n1)) (1 : Int32))) (v := .int (1 : Int32)) hC hP hD hS inX1_move_X3 tyX3 tyX3_ok nmX3 (9 + (2 + n1)) (oh_gln a k (oh_up (oh_up (oh_up s5 6 (6 + n) (((s5 6 (6 + n)) + (1 : Int32)) &&& (32767 : Int32))) 7 (6 + n) (((s5 7 (6 + n)) + (1 : Int32)) &&& (65535 : Int32))) 10 (6 + n) ((s5 10 (6 + n)) + (1 : Int32))) (oh_l2 hn1)) rfl 0 (by decide) (by decide +kernel) rfl (oh_nb (by decide)) (oh_fb (by decide)) (by simp) (oh_sln0 a k (oh_up (oh_up (oh_up s5 6 (6 + n) (((s5 6 (6 + n)) + (1 : Int32)) &&& (32767 : Int32))) 7 (6 + n) (((s5 7 (6 + n)) + (1 : Int32)) &&& (65535 : Int32))) 10 (6 + n) ((s5 10 (6 + n)) + (1 : Int32))) (oh_l2 hn1) _) dX1_move_109 (fun H locs hP hD hS => ?_)
        refine lv_aload_n hx hb dX1_move_112 rfl (lv_at hl 1 rfl) ?_
        refine oh_cvv (As := []) (rest := []) hC hP hD hS (mtX2_start l a k D (oh_up (oh_up (oh_up (oh_up s5 6 (6 + n) (((s5 6 (6 + n)) + (1 : Int32)) &&& (32767 : Int32))) 7 (6 + n) (((s5 7 (6 + n)) + (1 : Int32)) &&& (65535 : Int32))) 10 (6 + n) ((s5 10 (6 + n)) + (1 : Int32))) 2 (6 + (2 + n1)) (1 : Int32)) hn1) (cwV 0 hts gX1_move_X2_start rfl rfl rfl (by decide +kernel) ⟨Nat.le_of_ble_eq_true rfl, Nat.le_of_ble_eq_true rfl⟩) (17 + n1) 2 (oh_gdv a k (oh_up (oh_up (oh_up (oh_up s5 6 (6 + n) (((s5 6 (6 + n)) + (1 : Int32)) &&& (32767 : Int32))) 7 (6 + n) (((s5 7 (6 + n)) + (1 : Int32)) &&& (65535 : Int32))) 10 (6 + n) ((s5 10 (6 + n)) + (1 : Int32))) 2 (6 + (2 + n1)) (1 : Int32)) hn1) rfl rfl hl.1 rfl (Nat.le_of_ble_eq_true rfl) dX1_move_113 (fun s8 H locs hs8 hP hD hS => ?_)
        exact oh_retv (u := s8) hC hP hD hS (by subst hs8 hs5 hs4; exact ((if_neg c6).trans (if_neg c7)).symm) dX1_move_116
    · refine lv_aload_n hx hb dX1_move_86 rfl (lv_at hl 0 rfl) ?_
      refine lv_aload_n hx hb dX1_move_87 rfl (lv_at hl 1 rfl) ?_
      refine oh_cvv (As := [.ref (a (17 + n1))]) (rest := []) hC hP hD hS (mtX1_finish l a k D (oh_up (oh_up (oh_up s5 6 (6 + n) (((s5 6 (6 + n)) + (1 : Int32)) &&& (32767 : Int32))) 7 (6 + n) (((s5 7 (6 + n)) + (1 : Int32)) &&& (65535 : Int32))) 10 (6 + n) ((s5 10 (6 + n)) + (1 : Int32))) hn hn1) (cwV 1 hts gX1_move_X1_finish rfl rfl rfl (by decide +kernel) ⟨Nat.le_of_ble_eq_true rfl, Nat.le_of_ble_eq_true rfl⟩) (15 + n) 1 (oh_gch a k (oh_up (oh_up (oh_up s5 6 (6 + n) (((s5 6 (6 + n)) + (1 : Int32)) &&& (32767 : Int32))) 7 (6 + n) (((s5 7 (6 + n)) + (1 : Int32)) &&& (65535 : Int32))) 10 (6 + n) ((s5 10 (6 + n)) + (1 : Int32))) hn) rfl rfl hl.1 rfl (Nat.le_of_ble_eq_true rfl) dX1_move_88 (fun s9 H locs hs9 hP hD hS => ?_)
      refine lv_goto (tgt := 116) hx hb dX1_move_91 (by decide) ?_
      exact oh_retv (u := s9) hC hP hD hS (by subst hs9 hs5 hs4; exact (if_pos c6).symm) dX1_move_116
  refine lv_if_eq (tgt := 22) hx hb dX1_move_4 (by decide) (fun c1 => ?_) (fun c1 => ?_)
  · refine lv_aload_n hx hb dX1_move_22 rfl (lv_at hl 1 rfl) ?_
    refine lv_aload_n hx hb dX1_move_23 rfl (lv_at hl 2 rfl) ?_
    refine lv_aload_n hx hb dX1_move_24 rfl (lv_at hl 0 rfl) ?_
    refine oh_get (v := .int (σ 6 (6 + n))) hC hP inX1_move_X1 (15 + n) (oh_gch a k σ hn) rfl 2 (by decide) (by decide +kernel) rfl dX1_move_25 ?_
    refine oh_cvp (As := [.int (σ 6 (6 + n))]) (rest := [.ref (a (17 + n1))]) hC hP hD hS (mtX4_read l a k D σ (σ 6 (6 + n))) (cwV 1 hts gX1_move_X4_read rfl rfl rfl (by decide +kernel) ⟨Nat.le_of_ble_eq_true rfl, Nat.le_of_ble_eq_true rfl⟩) 1 4 rfl rfl rfl hl.1 rfl (Nat.le_of_ble_eq_true rfl) dX1_move_28 (fun r2 H locs hr2 hP hD hS => ?_)
    refine oh_putN (σ' := (oh_up σ 14 (8 + n1) r2)) (v := .int r2) hC hP hD hS inX1_move_X2 tyX2 tyX2_ok nmX2 (17 + n1) (oh_gdv a k σ hn1) rfl 5 (by decide) (by decide +kernel) rfl rfl rfl (by simp) (oh_sdv5 a k σ hn1 _) dX1_move_31 (fun H locs hP hD hS => ?_)
    exact K10 _ (by subst hr2; exact (if_pos c1).symm) ls _ _ hP hD hS (lv_sub hl [0, 1, 2] rfl)
  · refine lv_aload_n hx hb dX1_move_7 rfl (lv_at hl 2 rfl) ?_
    refine lv_aload_n hx hb dX1_move_8 rfl (lv_at hl 0 rfl) ?_
    refine oh_get (v := .int (σ 6 (6 + n))) hC hP inX1_move_X1 (15 + n) (oh_gch a k σ hn) rfl 2 (by decide) (by decide +kernel) rfl dX1_move_9 ?_
    refine lv_aload_n hx hb dX1_move_12 rfl (lv_at hl 1 rfl) ?_
    refine oh_getN (v := .int (σ 14 (8 + n1))) hC hP inX1_move_X2 (17 + n1) (oh_gdv a k σ hn1) rfl 5 (by decide) (by decide +kernel) rfl dX1_move_13 ?_
    refine oh_cvv (As := [.int (σ 6 (6 + n)), .int (σ 14 (8 + n1))]) (rest := []) hC hP hD hS (mtX4_write l a k D σ (σ 6 (6 + n)) (σ 14 (8 + n1))) (cwV 2 hts gX1_move_X4_write rfl rfl rfl (by decide +kernel) ⟨Nat.le_of_ble_eq_true rfl, Nat.le_of_ble_eq_true rfl⟩) 1 4 rfl rfl rfl hl.1 rfl (Nat.le_of_ble_eq_true rfl) dX1_move_16 (fun s3 H locs hs3 hP hD hS => ?_)
    refine lv_goto (tgt := 34) hx hb dX1_move_19 (by decide) ?_
    exact K10 _ (by subst hs3; exact (if_neg c1).symm) ls _ _ hP hD hS (lv_sub hl [0, 1, 2] rfl)
