-- OctalHouse$Device.equip
theorem inX2_equip_X2 : ∀ w ∈ u_ws RX2 TX2 10, w ∈ wsX2_equip := by decide +kernel
def spX2_equip (σ : oh_St) (n : Nat) (p1 : Int32) (p2 : Int32) : oh_St := (oh_up (oh_up (oh_up (oh_up σ 12 (8 + n) p1) 13 (8 + n) p2) 15 (8 + n) (0 : Int32)) 14 (8 + n) (0 : Int32))
set_option maxHeartbeats 8000000 in
set_option maxRecDepth 100000 in
theorem mtX2_equip (l : Launch) (a : Nat → Nat) (k : Nat → ClassId) (D : va_G) (σ : oh_St) {n : Nat} (hn : n < 4) (p1 : Int32) (p2 : Int32) (hbp1 : p1 = 0 ∨ p1 = 1) : oh_Mv l yX2_equip wsX2_equip { frames := 0, cells := 0, slots := 0, locals := 0 } D (oh_ty k) (oh_W a k) [.ref (a (17 + n)), .int p1, .int p2] σ (fun u => u = spX2_equip σ n p1 p2) := by
  refine oh_inv (cc := cX2_equip) (nL := 3) (rt := none) (by decide) rfl (Nat.le_of_ble_eq_true rfl) ?_
  intro p e s m below meth c A ls hC hP hD hS hl
  obtain ⟨hx, hb, hml, hown, hts, hr, hlocks, hK, hN, hA⟩ := id hC
  have hl : lv_has ls 3 [(0, .ref (a (17 + n))), (1, .int p1), (2, .int p2)] := hl
  refine lv_aload_n hx hb dX2_equip_0 rfl (lv_at hl 0 rfl) ?_
  refine lv_iload_n hx hb dX2_equip_1 rfl (lv_at hl 1 rfl) ?_
  refine oh_put (σ' := (oh_up σ 12 (8 + n) p1)) (v := .int p1) hC hP hD hS inX2_equip_X2 tyX2 tyX2_ok nmX2 (17 + n) (oh_gdv a k σ hn) rfl 3 (by decide) (by decide +kernel) rfl (oh_nb hbp1) (oh_fb hbp1) (by simp) (oh_sdv3 a k σ hn _) dX2_equip_2 (fun H locs hP hD hS => ?_)
  refine lv_aload_n hx hb dX2_equip_5 rfl (lv_at hl 0 rfl) ?_
  refine lv_iload_n hx hb dX2_equip_6 rfl (lv_at hl 2 rfl) ?_
  refine oh_put (σ' := (oh_up (oh_up σ 12 (8 + n) p1) 13 (8 + n) p2)) (v := .int p2) hC hP hD hS inX2_equip_X2 tyX2 tyX2_ok nmX2 (17 + n) (oh_gdv a k (oh_up σ 12 (8 + n) p1) hn) rfl 4 (by decide) (by decide +kernel) rfl rfl rfl (by simp) (oh_sdv4 a k (oh_up σ 12 (8 + n) p1) hn _) dX2_equip_7 (fun H locs hP hD hS => ?_)
  refine lv_aload_n hx hb dX2_equip_10 rfl (lv_at hl 0 rfl) ?_
  refine lv_iconst (v := (0 : Int32)) hx hb dX2_equip_11 (by decide) ?_
  refine oh_put (σ' := (oh_up (oh_up (oh_up σ 12 (8 + n) p1) 13 (8 + n) p2) 15 (8 + n) (0 : Int32))) (v := .int (0 : Int32)) hC hP hD hS inX2_equip_X2 tyX2 tyX2_ok nmX2 (17 + n) (oh_gdv a k (oh_up (oh_up σ 12 (8 + n) p1) 13 (8 + n) p2) hn) rfl 6 (by decide) (by decide +kernel) rfl rfl rfl (by simp) (oh_sdv6 a k (oh_up (oh_up σ 12 (8 + n) p1) 13 (8 + n) p2) hn _) dX2_equip_12 (fun H locs hP hD hS => ?_)
  refine lv_aload_n hx hb dX2_equip_15 rfl (lv_at hl 0 rfl) ?_
  refine lv_iconst (v := (0 : Int32)) hx hb dX2_equip_16 (by decide) ?_
  refine oh_put (σ' := (oh_up (oh_up (oh_up (oh_up σ 12 (8 + n) p1) 13 (8 + n) p2) 15 (8 + n) (0 : Int32)) 14 (8 + n) (0 : Int32))) (v := .int (0 : Int32)) hC hP hD hS inX2_equip_X2 tyX2 tyX2_ok nmX2 (17 + n) (oh_gdv a k (oh_up (oh_up (oh_up σ 12 (8 + n) p1) 13 (8 + n) p2) 15 (8 + n) (0 : Int32)) hn) rfl 5 (by decide) (by decide +kernel) rfl rfl rfl (by simp) (oh_sdv5 a k (oh_up (oh_up (oh_up σ 12 (8 + n) p1) 13 (8 + n) p2) 15 (8 + n) (0 : Int32)) hn _) dX2_equip_17 (fun H locs hP hD hS => ?_)
  exact oh_retv (u := (oh_up (oh_up (oh_up (oh_up σ 12 (8 + n) p1) 13 (8 + n) p2) 15 (8 + n) (0 : Int32)) 14 (8 + n) (0 : Int32))) hC hP hD hS (by exact rfl) dX2_equip_20
-- OctalHouse$Device.start
theorem inX2_start_X2 : ∀ w ∈ u_ws RX2 TX2 10, w ∈ wsX2_start := by decide +kernel
def spX2_start (σ : oh_St) (n : Nat) : oh_St := (oh_up σ 15 (8 + n) (σ 13 (8 + n)))
set_option maxHeartbeats 8000000 in
set_option maxRecDepth 100000 in
theorem mtX2_start (l : Launch) (a : Nat → Nat) (k : Nat → ClassId) (D : va_G) (σ : oh_St) {n : Nat} (hn : n < 4) : oh_Mv l yX2_start wsX2_start { frames := 0, cells := 0, slots := 0, locals := 0 } D (oh_ty k) (oh_W a k) [.ref (a (17 + n))] σ (fun u => u = spX2_start σ n) := by
  refine oh_inv (cc := cX2_start) (nL := 1) (rt := none) (by decide) rfl (Nat.le_of_ble_eq_true rfl) ?_
  intro p e s m below meth c A ls hC hP hD hS hl
  obtain ⟨hx, hb, hml, hown, hts, hr, hlocks, hK, hN, hA⟩ := id hC
  have hl : lv_has ls 1 [(0, .ref (a (17 + n)))] := hl
  refine lv_aload_n hx hb dX2_start_0 rfl (lv_at hl 0 rfl) ?_
  refine lv_aload_n hx hb dX2_start_1 rfl (lv_at hl 0 rfl) ?_
  refine oh_get (v := .int (σ 13 (8 + n))) hC hP inX2_start_X2 (17 + n) (oh_gdv a k σ hn) rfl 4 (by decide) (by decide +kernel) rfl dX2_start_2 ?_
  refine oh_put (σ' := (oh_up σ 15 (8 + n) (σ 13 (8 + n)))) (v := .int (σ 13 (8 + n))) hC hP hD hS inX2_start_X2 tyX2 tyX2_ok nmX2 (17 + n) (oh_gdv a k σ hn) rfl 6 (by decide) (by decide +kernel) rfl rfl rfl (by simp) (oh_sdv6 a k σ hn _) dX2_start_5 (fun H locs hP hD hS => ?_)
  exact oh_retv (u := (oh_up σ 15 (8 + n) (σ 13 (8 + n)))) hC hP hD hS (by exact rfl) dX2_start_8
-- OctalHouse$Device.putOnTape
theorem inX2_putOnTape_X2 : ∀ w ∈ u_ws RX2 TX2 10, w ∈ wsX2_putOnTape := by decide +kernel
def spX2_putOnTape (σ : oh_St) (n : Nat) (p1 : Int32) : oh_St := (let x2 : Int32 := (if ((σ 18 (8 + n)) + (σ 16 (8 + n))) < (100 : Int32) then ((σ 18 (8 + n)) + (σ 16 (8 + n))) else (((σ 18 (8 + n)) + (σ 16 (8 + n))) + (-100 : Int32))); (if (100 : Int32) ≤ (σ 16 (8 + n)) then σ else (if x2 < (0 : Int32) then σ else (if (100 : Int32) ≤ x2 then σ else (oh_up (oh_up σ (20 + n) x2.toNatClampNeg p1) 16 (8 + n) (((oh_up σ (20 + n) x2.toNatClampNeg p1) 16 (8 + n)) + (1 : Int32)))))))
set_option maxHeartbeats 8000000 in
set_option maxRecDepth 100000 in
theorem mtX2_putOnTape (l : Launch) (a : Nat → Nat) (k : Nat → ClassId) (D : va_G) (σ : oh_St) {n : Nat} (hn : n < 4) (p1 : Int32) : oh_Mv l yX2_putOnTape wsX2_putOnTape { frames := 0, cells := 0, slots := 0, locals := 0 } D (oh_ty k) (oh_W a k) [.ref (a (17 + n)), .int p1] σ (fun u => u = spX2_putOnTape σ n p1) := by
  refine oh_inv (cc := cX2_putOnTape) (nL := 3) (rt := none) (by decide) rfl (Nat.le_of_ble_eq_true rfl) ?_
  intro p e s m below meth c A ls hC hP hD hS hl
  obtain ⟨hx, hb, hml, hown, hts, hr, hlocks, hK, hN, hA⟩ := id hC
  have hl : lv_has ls 3 [(0, .ref (a (17 + n))), (1, .int p1)] := hl
  refine lv_aload_n hx hb dX2_putOnTape_0 rfl (lv_at hl 0 rfl) ?_
  refine oh_get (v := .int (σ 18 (8 + n))) hC hP inX2_putOnTape_X2 (17 + n) (oh_gdv a k σ hn) rfl 7 (by decide) (by decide +kernel) rfl dX2_putOnTape_1 ?_
  refine lv_aload_n hx hb dX2_putOnTape_4 rfl (lv_at hl 0 rfl) ?_
  refine oh_get (v := .int (σ 16 (8 + n))) hC hP inX2_putOnTape_X2 (17 + n) (oh_gdv a k σ hn) rfl 8 (by decide) (by decide +kernel) rfl dX2_putOnTape_5 ?_
  refine lv_iadd hx hb dX2_putOnTape_8 ?_
  refine lv_istore_n (lv' := [(2, .int ((σ 18 (8 + n)) + (σ 16 (8 + n)))), (0, .ref (a (17 + n))), (1, .int p1)]) hx hb dX2_putOnTape_9 rfl hl (by decide) rfl (fun ls hl => ?_)
  refine lv_iload_n hx hb dX2_putOnTape_10 rfl (lv_at hl 0 rfl) ?_
  refine lv_bipush (v := (100 : Int32)) hx hb dX2_putOnTape_11 (by decide) ?_
  have K6 : ∀ x2 : Int32, x2 = (if ((σ 18 (8 + n)) + (σ 16 (8 + n))) < (100 : Int32) then ((σ 18 (8 + n)) + (σ 16 (8 + n))) else (((σ 18 (8 + n)) + (σ 16 (8 + n))) + (-100 : Int32))) → ∀ (ls : Array Slot) (H : Heap) (locs : List Loc), va_P D vwCl (oh_W a k σ) H → va_D A (oh_W a k σ) → va_S A s.heap H locs → lv_has ls 3 [(2, .int x2), (0, .ref (a (17 + n))), (1, .int p1)] → W p l e ({ frames := 0, cells := 0, slots := 0, locals := 0 } : Room) s m (([.ref (a (17 + n)), .int p1] : List Value).toArray) below meth c H locs 0 0 (oh_Ev below (fun u => u = spX2_putOnTape σ n p1) D (oh_W a k) A [.ref (a (17 + n)), .int p1] s) (F0 m 19 ls []) := by
    intro x2 hx2 ls H locs hP hD hS hl
    refine lv_aload_n hx hb dX2_putOnTape_19 rfl (lv_at hl 1 rfl) ?_
    refine oh_get (v := .int (σ 16 (8 + n))) hC hP inX2_putOnTape_X2 (17 + n) (oh_gdv a k σ hn) rfl 8 (by decide) (by decide +kernel) rfl dX2_putOnTape_20 ?_
    refine lv_bipush (v := (100 : Int32)) hx hb dX2_putOnTape_23 (by decide) ?_
    refine lv_icmp_ge (tgt := 58) hx hb dX2_putOnTape_25 (by decide) (fun c3 => ?_) (fun c3 => ?_)
    · exact oh_retv (u := σ) hC hP hD hS (by subst hx2; exact (if_pos c3).symm) dX2_putOnTape_58
    · refine lv_iload_n hx hb dX2_putOnTape_28 rfl (lv_at hl 0 rfl) ?_
      refine lv_if_lt (tgt := 58) hx hb dX2_putOnTape_29 (by decide) (fun c4 => ?_) (fun c4 => ?_)
      · exact oh_retv (u := σ) hC hP hD hS (by subst hx2; exact ((if_neg c3).trans (if_pos c4)).symm) dX2_putOnTape_58
      · refine lv_iload_n hx hb dX2_putOnTape_32 rfl (lv_at hl 0 rfl) ?_
        refine lv_aload_n hx hb dX2_putOnTape_33 rfl (lv_at hl 1 rfl) ?_
        refine oh_get (v := .ref (a (21 + n))) hC hP inX2_putOnTape_X2 (17 + n) (oh_gdv a k σ hn) rfl 1 (by decide) (by decide +kernel) rfl dX2_putOnTape_34 ?_
        refine oh_alen (v := (100 : Int32)) hC hP (21 + n) 0 (oh_gtp a k σ hn) rfl rfl dX2_putOnTape_37 ?_
        refine lv_icmp_ge (tgt := 58) hx hb dX2_putOnTape_38 (by decide) (fun c5 => ?_) (fun c5 => ?_)
        · exact oh_retv (u := σ) hC hP hD hS (by subst hx2; exact (((if_neg c3).trans (if_neg c4)).trans (if_pos c5)).symm) dX2_putOnTape_58
        · refine lv_aload_n hx hb dX2_putOnTape_41 rfl (lv_at hl 1 rfl) ?_
          refine oh_get (v := .ref (a (21 + n))) hC hP inX2_putOnTape_X2 (17 + n) (oh_gdv a k σ hn) rfl 1 (by decide) (by decide +kernel) rfl dX2_putOnTape_42 ?_
          refine lv_iload_n hx hb dX2_putOnTape_45 rfl (lv_at hl 0 rfl) ?_
          refine lv_iload_n hx hb dX2_putOnTape_46 rfl (lv_at hl 2 rfl) ?_
          refine oh_iast (σ' := (oh_up σ (20 + n) x2.toNatClampNeg p1)) hC hP hD hS (21 + n) 0 (oh_gtp a k σ hn) rfl (oh_in c4 c5 rfl) (oh_stp a k σ hn _ _) dX2_putOnTape_47 (fun H locs hP hD hS => ?_)
          refine lv_aload_n hx hb dX2_putOnTape_48 rfl (lv_at hl 1 rfl) ?_
          refine lv_dup hx hb dX2_putOnTape_49 rfl ?_
          refine oh_get (v := .int ((oh_up σ (20 + n) x2.toNatClampNeg p1) 16 (8 + n))) hC hP inX2_putOnTape_X2 (17 + n) (oh_gdv a k (oh_up σ (20 + n) x2.toNatClampNeg p1) hn) rfl 8 (by decide) (by decide +kernel) rfl dX2_putOnTape_50 ?_
          refine lv_iconst (v := (1 : Int32)) hx hb dX2_putOnTape_53 (by decide) ?_
          refine lv_iadd hx hb dX2_putOnTape_54 ?_
          refine oh_put (σ' := (oh_up (oh_up σ (20 + n) x2.toNatClampNeg p1) 16 (8 + n) (((oh_up σ (20 + n) x2.toNatClampNeg p1) 16 (8 + n)) + (1 : Int32)))) (v := .int (((oh_up σ (20 + n) x2.toNatClampNeg p1) 16 (8 + n)) + (1 : Int32))) hC hP hD hS inX2_putOnTape_X2 tyX2 tyX2_ok nmX2 (17 + n) (oh_gdv a k (oh_up σ (20 + n) x2.toNatClampNeg p1) hn) rfl 8 (by decide) (by decide +kernel) rfl rfl rfl (by simp) (oh_sdv8 a k (oh_up σ (20 + n) x2.toNatClampNeg p1) hn _) dX2_putOnTape_55 (fun H locs hP hD hS => ?_)
          exact oh_retv (u := (oh_up (oh_up σ (20 + n) x2.toNatClampNeg p1) 16 (8 + n) (((oh_up σ (20 + n) x2.toNatClampNeg p1) 16 (8 + n)) + (1 : Int32)))) hC hP hD hS (by subst hx2; exact (((if_neg c3).trans (if_neg c4)).trans (if_neg c5)).symm) dX2_putOnTape_58
  refine lv_icmp_lt (tgt := 19) hx hb dX2_putOnTape_13 (by decide) (fun c1 => ?_) (fun c1 => ?_)
  · exact K6 _ (if_pos c1).symm ls _ _ hP hD hS (lv_sub hl [0, 1, 2] rfl)
  · refine lv_iinc (v := (((σ 18 (8 + n)) + (σ 16 (8 + n))) + (-100 : Int32))) (lv' := [(2, .int (((σ 18 (8 + n)) + (σ 16 (8 + n))) + (-100 : Int32))), (0, .ref (a (17 + n))), (1, .int p1)]) hx hb dX2_putOnTape_16 hl (k := 0) rfl (by first | rfl | decide) (by decide) rfl (fun ls hl => ?_)
    exact K6 _ (if_neg c1).symm ls _ _ hP hD hS (lv_sub hl [0, 1, 2] rfl)
-- OctalHouse$Device.takeFromTape
theorem inX2_takeFromTape_X2 : ∀ w ∈ u_ws RX2 TX2 10, w ∈ wsX2_takeFromTape := by decide +kernel
def spX2_takeFromTape (σ : oh_St) (n : Nat) : Int32 × oh_St := (if (σ 16 (8 + n)) = (0 : Int32) then ((0 : Int32), σ) else (if (σ 18 (8 + n)) < (0 : Int32) then ((0 : Int32), σ) else (if (σ 18 (8 + n)) < (100 : Int32) then (let x5 : Int32 := (if (100 : Int32) ≤ ((σ 18 (8 + n)) + (1 : Int32)) then (0 : Int32) else ((σ 18 (8 + n)) + (1 : Int32))); ((σ (20 + n) (σ 18 (8 + n)).toNatClampNeg), (oh_up (oh_up σ 18 (8 + n) x5) 16 (8 + n) ((σ 16 (8 + n)) - (1 : Int32))))) else ((0 : Int32), σ))))
set_option maxHeartbeats 8000000 in
set_option maxRecDepth 100000 in
theorem mtX2_takeFromTape (l : Launch) (a : Nat → Nat) (k : Nat → ClassId) (D : va_G) (σ : oh_St) {n : Nat} (hn : n < 4) : oh_Mi l yX2_takeFromTape wsX2_takeFromTape { frames := 0, cells := 0, slots := 0, locals := 0 } D (oh_ty k) (oh_W a k) [.ref (a (17 + n))] σ (fun r u => r = (spX2_takeFromTape σ n).1 ∧ u = (spX2_takeFromTape σ n).2) := by
  refine oh_ini (cc := cX2_takeFromTape) (nL := 2) (rt := some .int) (by decide) rfl (Nat.le_of_ble_eq_true rfl) ?_
  intro p e s m below meth c A ls hC hP hD hS hl
  obtain ⟨hx, hb, hml, hown, hts, hr, hlocks, hK, hN, hA⟩ := id hC
  have hl : lv_has ls 2 [(0, .ref (a (17 + n)))] := hl
  refine lv_aload_n hx hb dX2_takeFromTape_0 rfl (lv_at hl 0 rfl) ?_
  refine oh_get (v := .int (σ 16 (8 + n))) hC hP inX2_takeFromTape_X2 (17 + n) (oh_gdv a k σ hn) rfl 8 (by decide) (by decide +kernel) rfl dX2_takeFromTape_1 ?_
  refine lv_if_eq (tgt := 26) hx hb dX2_takeFromTape_4 (by decide) (fun c1 => ?_) (fun c1 => ?_)
  · refine lv_iconst (v := (0 : Int32)) hx hb dX2_takeFromTape_26 (by decide) ?_
    exact oh_reti (v := (0 : Int32)) (u := σ) hC hP hD hS (oh_pair (by exact (if_pos c1).symm)) dX2_takeFromTape_27
  · refine lv_aload_n hx hb dX2_takeFromTape_7 rfl (lv_at hl 0 rfl) ?_
    refine oh_get (v := .int (σ 18 (8 + n))) hC hP inX2_takeFromTape_X2 (17 + n) (oh_gdv a k σ hn) rfl 7 (by decide) (by decide +kernel) rfl dX2_takeFromTape_8 ?_
    refine lv_if_lt (tgt := 26) hx hb dX2_takeFromTape_11 (by decide) (fun c2 => ?_) (fun c2 => ?_)
    · refine lv_iconst (v := (0 : Int32)) hx hb dX2_takeFromTape_26 (by decide) ?_
      exact oh_reti (v := (0 : Int32)) (u := σ) hC hP hD hS (oh_pair (by exact ((if_neg c1).trans (if_pos c2)).symm)) dX2_takeFromTape_27
    · refine lv_aload_n hx hb dX2_takeFromTape_14 rfl (lv_at hl 0 rfl) ?_
      refine oh_get (v := .int (σ 18 (8 + n))) hC hP inX2_takeFromTape_X2 (17 + n) (oh_gdv a k σ hn) rfl 7 (by decide) (by decide +kernel) rfl dX2_takeFromTape_15 ?_
      refine lv_aload_n hx hb dX2_takeFromTape_18 rfl (lv_at hl 0 rfl) ?_
      refine oh_get (v := .ref (a (21 + n))) hC hP inX2_takeFromTape_X2 (17 + n) (oh_gdv a k σ hn) rfl 1 (by decide) (by decide +kernel) rfl dX2_takeFromTape_19 ?_
      refine oh_alen (v := (100 : Int32)) hC hP (21 + n) 0 (oh_gtp a k σ hn) rfl rfl dX2_takeFromTape_22 ?_
      refine lv_icmp_lt (tgt := 28) hx hb dX2_takeFromTape_23 (by decide) (fun c3 => ?_) (fun c3 => ?_)
      · refine lv_aload_n hx hb dX2_takeFromTape_28 rfl (lv_at hl 0 rfl) ?_
        refine oh_get (v := .ref (a (21 + n))) hC hP inX2_takeFromTape_X2 (17 + n) (oh_gdv a k σ hn) rfl 1 (by decide) (by decide +kernel) rfl dX2_takeFromTape_29 ?_
        refine lv_aload_n hx hb dX2_takeFromTape_32 rfl (lv_at hl 0 rfl) ?_
        refine oh_get (v := .int (σ 18 (8 + n))) hC hP inX2_takeFromTape_X2 (17 + n) (oh_gdv a k σ hn) rfl 7 (by decide) (by decide +kernel) rfl dX2_takeFromTape_33 ?_
        refine oh_iald hC hP (21 + n) 0 (oh_gtp a k σ hn) rfl (oh_in2 c2 c3 rfl) dX2_takeFromTape_36 ?_
        refine lv_istore_n (lv' := [(1, .int (σ (20 + n) (σ 18 (8 + n)).toNatClampNeg)), (0, .ref (a (17 + n)))]) hx hb dX2_takeFromTape_37 rfl hl (by decide) rfl (fun ls hl => ?_)
        refine lv_aload_n hx hb dX2_takeFromTape_38 rfl (lv_at hl 1 rfl) ?_
        refine lv_aload_n hx hb dX2_takeFromTape_39 rfl (lv_at hl 1 rfl) ?_
        refine oh_get (v := .int (σ 18 (8 + n))) hC hP inX2_takeFromTape_X2 (17 + n) (oh_gdv a k σ hn) rfl 7 (by decide) (by decide +kernel) rfl dX2_takeFromTape_40 ?_
        refine lv_iconst (v := (1 : Int32)) hx hb dX2_takeFromTape_43 (by decide) ?_
        refine lv_iadd hx hb dX2_takeFromTape_44 ?_
        refine lv_bipush (v := (100 : Int32)) hx hb dX2_takeFromTape_45 (by decide) ?_
        have K6 : ∀ x5 : Int32, x5 = (if (100 : Int32) ≤ ((σ 18 (8 + n)) + (1 : Int32)) then (0 : Int32) else ((σ 18 (8 + n)) + (1 : Int32))) → ∀ (ls : Array Slot) (H : Heap) (locs : List Loc), va_P D vwCl (oh_W a k σ) H → va_D A (oh_W a k σ) → va_S A s.heap H locs → lv_has ls 2 [(1, .int (σ (20 + n) (σ 18 (8 + n)).toNatClampNeg)), (0, .ref (a (17 + n)))] → W p l e ({ frames := 0, cells := 0, slots := 0, locals := 0 } : Room) s m (([.ref (a (17 + n))] : List Value).toArray) below meth c H locs 0 0 (oh_Ei below (fun r u => r = (spX2_takeFromTape σ n).1 ∧ u = (spX2_takeFromTape σ n).2) D (oh_W a k) A [.ref (a (17 + n))] s) (F0 m 60 ls [.int x5, .ref (a (17 + n))]) := by
          intro x5 hx5 ls H locs hP hD hS hl
          refine oh_put (σ' := (oh_up σ 18 (8 + n) x5)) (v := .int x5) hC hP hD hS inX2_takeFromTape_X2 tyX2 tyX2_ok nmX2 (17 + n) (oh_gdv a k σ hn) rfl 7 (by decide) (by decide +kernel) rfl rfl rfl (by simp) (oh_sdv7 a k σ hn _) dX2_takeFromTape_60 (fun H locs hP hD hS => ?_)
          refine lv_aload_n hx hb dX2_takeFromTape_63 rfl (lv_at hl 1 rfl) ?_
          refine lv_dup hx hb dX2_takeFromTape_64 rfl ?_
          refine oh_get (v := .int (σ 16 (8 + n))) hC hP inX2_takeFromTape_X2 (17 + n) (oh_gdv a k (oh_up σ 18 (8 + n) x5) hn) rfl 8 (by decide) (by decide +kernel) rfl dX2_takeFromTape_65 ?_
          refine lv_iconst (v := (1 : Int32)) hx hb dX2_takeFromTape_68 (by decide) ?_
          refine lv_isub hx hb dX2_takeFromTape_69 ?_
          refine oh_put (σ' := (oh_up (oh_up σ 18 (8 + n) x5) 16 (8 + n) ((σ 16 (8 + n)) - (1 : Int32)))) (v := .int ((σ 16 (8 + n)) - (1 : Int32))) hC hP hD hS inX2_takeFromTape_X2 tyX2 tyX2_ok nmX2 (17 + n) (oh_gdv a k (oh_up σ 18 (8 + n) x5) hn) rfl 8 (by decide) (by decide +kernel) rfl rfl rfl (by simp) (oh_sdv8 a k (oh_up σ 18 (8 + n) x5) hn _) dX2_takeFromTape_70 (fun H locs hP hD hS => ?_)
          refine lv_iload_n hx hb dX2_takeFromTape_73 rfl (lv_at hl 0 rfl) ?_
          exact oh_reti (v := (σ (20 + n) (σ 18 (8 + n)).toNatClampNeg)) (u := (oh_up (oh_up σ 18 (8 + n) x5) 16 (8 + n) ((σ 16 (8 + n)) - (1 : Int32)))) hC hP hD hS (oh_pair (by subst hx5; exact (((if_neg c1).trans (if_neg c2)).trans (if_pos c3)).symm)) dX2_takeFromTape_74
        refine lv_icmp_ge (tgt := 59) hx hb dX2_takeFromTape_47 (by decide) (fun c4 => ?_) (fun c4 => ?_)
        · refine lv_iconst (v := (0 : Int32)) hx hb dX2_takeFromTape_59 (by decide) ?_
          exact K6 _ (if_pos c4).symm ls _ _ hP hD hS (lv_sub hl [0, 1] rfl)
        · refine lv_aload_n hx hb dX2_takeFromTape_50 rfl (lv_at hl 1 rfl) ?_
          refine oh_get (v := .int (σ 18 (8 + n))) hC hP inX2_takeFromTape_X2 (17 + n) (oh_gdv a k σ hn) rfl 7 (by decide) (by decide +kernel) rfl dX2_takeFromTape_51 ?_
          refine lv_iconst (v := (1 : Int32)) hx hb dX2_takeFromTape_54 (by decide) ?_
          refine lv_iadd hx hb dX2_takeFromTape_55 ?_
          refine lv_goto (tgt := 60) hx hb dX2_takeFromTape_56 (by decide) ?_
          exact K6 _ (if_neg c4).symm ls _ _ hP hD hS (lv_sub hl [0, 1] rfl)
      · refine lv_iconst (v := (0 : Int32)) hx hb dX2_takeFromTape_26 (by decide) ?_
        exact oh_reti (v := (0 : Int32)) (u := σ) hC hP hD hS (oh_pair (by exact (((if_neg c1).trans (if_neg c2)).trans (if_neg c3)).symm)) dX2_takeFromTape_27
-- OctalHouse$Device.putOut
theorem inX2_putOut_X2 : ∀ w ∈ u_ws RX2 TX2 10, w ∈ wsX2_putOut := by decide +kernel
def spX2_putOut (σ : oh_St) (n : Nat) (p1 : Int32) : oh_St := (let s3 : oh_St := (if (σ 17 (8 + n)) < (0 : Int32) then σ else (if (200 : Int32) ≤ (σ 17 (8 + n)) then σ else (oh_up σ (24 + n) (σ 17 (8 + n)).toNatClampNeg p1))); (oh_up s3 17 (8 + n) ((s3 17 (8 + n)) + (1 : Int32))))
set_option maxHeartbeats 8000000 in
set_option maxRecDepth 100000 in
theorem mtX2_putOut (l : Launch) (a : Nat → Nat) (k : Nat → ClassId) (D : va_G) (σ : oh_St) {n : Nat} (hn : n < 4) (p1 : Int32) : oh_Mv l yX2_putOut wsX2_putOut { frames := 0, cells := 0, slots := 0, locals := 0 } D (oh_ty k) (oh_W a k) [.ref (a (17 + n)), .int p1] σ (fun u => u = spX2_putOut σ n p1) := by
  refine oh_inv (cc := cX2_putOut) (nL := 2) (rt := none) (by decide) rfl (Nat.le_of_ble_eq_true rfl) ?_
  intro p e s m below meth c A ls hC hP hD hS hl
  obtain ⟨hx, hb, hml, hown, hts, hr, hlocks, hK, hN, hA⟩ := id hC
  have hl : lv_has ls 2 [(0, .ref (a (17 + n))), (1, .int p1)] := hl
  refine lv_aload_n hx hb dX2_putOut_0 rfl (lv_at hl 0 rfl) ?_
  refine oh_get (v := .int (σ 17 (8 + n))) hC hP inX2_putOut_X2 (17 + n) (oh_gdv a k σ hn) rfl 9 (by decide) (by decide +kernel) rfl dX2_putOut_1 ?_
  have K4 : ∀ s3 : oh_St, s3 = (if (σ 17 (8 + n)) < (0 : Int32) then σ else (if (200 : Int32) ≤ (σ 17 (8 + n)) then σ else (oh_up σ (24 + n) (σ 17 (8 + n)).toNatClampNeg p1))) → ∀ (ls : Array Slot) (H : Heap) (locs : List Loc), va_P D vwCl (oh_W a k s3) H → va_D A (oh_W a k s3) → va_S A s.heap H locs → lv_has ls 2 [(0, .ref (a (17 + n))), (1, .int p1)] → W p l e ({ frames := 0, cells := 0, slots := 0, locals := 0 } : Room) s m (([.ref (a (17 + n)), .int p1] : List Value).toArray) below meth c H locs 0 0 (oh_Ev below (fun u => u = spX2_putOut σ n p1) D (oh_W a k) A [.ref (a (17 + n)), .int p1] s) (F0 m 29 ls []) := by
    intro s3 hs3 ls H locs hP hD hS hl
    refine lv_aload_n hx hb dX2_putOut_29 rfl (lv_at hl 0 rfl) ?_
    refine lv_dup hx hb dX2_putOut_30 rfl ?_
    refine oh_get (v := .int (s3 17 (8 + n))) hC hP inX2_putOut_X2 (17 + n) (oh_gdv a k s3 hn) rfl 9 (by decide) (by decide +kernel) rfl dX2_putOut_31 ?_
    refine lv_iconst (v := (1 : Int32)) hx hb dX2_putOut_34 (by decide) ?_
    refine lv_iadd hx hb dX2_putOut_35 ?_
    refine oh_put (σ' := (oh_up s3 17 (8 + n) ((s3 17 (8 + n)) + (1 : Int32)))) (v := .int ((s3 17 (8 + n)) + (1 : Int32))) hC hP hD hS inX2_putOut_X2 tyX2 tyX2_ok nmX2 (17 + n) (oh_gdv a k s3 hn) rfl 9 (by decide) (by decide +kernel) rfl rfl rfl (by simp) (oh_sdv9 a k s3 hn _) dX2_putOut_36 (fun H locs hP hD hS => ?_)
    exact oh_retv (u := (oh_up s3 17 (8 + n) ((s3 17 (8 + n)) + (1 : Int32)))) hC hP hD hS (by subst hs3; exact rfl) dX2_putOut_39
  refine lv_if_lt (tgt := 29) hx hb dX2_putOut_4 (by decide) (fun c1 => ?_) (fun c1 => ?_)
  · exact K4 _ (if_pos c1).symm ls _ _ hP hD hS (lv_sub hl [0, 1] rfl)
  · refine lv_aload_n hx hb dX2_putOut_7 rfl (lv_at hl 0 rfl) ?_
    refine oh_get (v := .int (σ 17 (8 + n))) hC hP inX2_putOut_X2 (17 + n) (oh_gdv a k σ hn) rfl 9 (by decide) (by decide +kernel) rfl dX2_putOut_8 ?_
    refine lv_aload_n hx hb dX2_putOut_11 rfl (lv_at hl 0 rfl) ?_
    refine oh_get (v := .ref (a (25 + n))) hC hP inX2_putOut_X2 (17 + n) (oh_gdv a k σ hn) rfl 2 (by decide) (by decide +kernel) rfl dX2_putOut_12 ?_
    refine oh_alen (v := (200 : Int32)) hC hP (25 + n) 0 (oh_gkp a k σ hn) rfl rfl dX2_putOut_15 ?_
    refine lv_icmp_ge (tgt := 29) hx hb dX2_putOut_16 (by decide) (fun c2 => ?_) (fun c2 => ?_)
    · exact K4 _ ((if_neg c1).trans (if_pos c2)).symm ls _ _ hP hD hS (lv_sub hl [0, 1] rfl)
    · refine lv_aload_n hx hb dX2_putOut_19 rfl (lv_at hl 0 rfl) ?_
      refine oh_get (v := .ref (a (25 + n))) hC hP inX2_putOut_X2 (17 + n) (oh_gdv a k σ hn) rfl 2 (by decide) (by decide +kernel) rfl dX2_putOut_20 ?_
      refine lv_aload_n hx hb dX2_putOut_23 rfl (lv_at hl 0 rfl) ?_
      refine oh_get (v := .int (σ 17 (8 + n))) hC hP inX2_putOut_X2 (17 + n) (oh_gdv a k σ hn) rfl 9 (by decide) (by decide +kernel) rfl dX2_putOut_24 ?_
      refine lv_iload_n hx hb dX2_putOut_27 rfl (lv_at hl 1 rfl) ?_
      refine oh_iast (σ' := (oh_up σ (24 + n) (σ 17 (8 + n)).toNatClampNeg p1)) hC hP hD hS (25 + n) 0 (oh_gkp a k σ hn) rfl (oh_in c1 c2 rfl) (oh_skp a k σ hn _ _) dX2_putOut_28 (fun H locs hP hD hS => ?_)
      exact K4 _ ((if_neg c1).trans (if_neg c2)).symm ls _ _ hP hD hS (lv_sub hl [0, 1] rfl)
-- OctalHouse$Device.keptOut
theorem inX2_keptOut_X2 : ∀ w ∈ u_ws RX2 TX2 10, w ∈ wsX2_keptOut := by decide +kernel
def spX2_keptOut (σ : oh_St) (n : Nat) (p1 : Int32) : Int32 := (if p1 < (0 : Int32) then (-1 : Int32) else (if (σ 17 (8 + n)) ≤ p1 then (-1 : Int32) else (if (200 : Int32) ≤ p1 then (-1 : Int32) else (σ (24 + n) p1.toNatClampNeg))))
set_option maxHeartbeats 8000000 in
set_option maxRecDepth 100000 in
theorem mtX2_keptOut (l : Launch) (a : Nat → Nat) (k : Nat → ClassId) (D : va_G) (σ : oh_St) {n : Nat} (hn : n < 4) (p1 : Int32) : oh_Mi l yX2_keptOut wsX2_keptOut { frames := 0, cells := 0, slots := 0, locals := 0 } D (oh_ty k) (oh_W a k) [.ref (a (17 + n)), .int p1] σ (fun r u => r = spX2_keptOut σ n p1 ∧ u = σ) := by
  refine oh_ini (cc := cX2_keptOut) (nL := 2) (rt := some .int) (by decide) rfl (Nat.le_of_ble_eq_true rfl) ?_
  intro p e s m below meth c A ls hC hP hD hS hl
  obtain ⟨hx, hb, hml, hown, hts, hr, hlocks, hK, hN, hA⟩ := id hC
  have hl : lv_has ls 2 [(0, .ref (a (17 + n))), (1, .int p1)] := hl
  refine lv_iload_n hx hb dX2_keptOut_0 rfl (lv_at hl 1 rfl) ?_
  refine lv_if_lt (tgt := 30) hx hb dX2_keptOut_1 (by decide) (fun c1 => ?_) (fun c1 => ?_)
  · refine lv_iconst (v := (-1 : Int32)) hx hb dX2_keptOut_30 (by decide) ?_
    exact oh_reti (v := (-1 : Int32)) (u := σ) hC hP hD hS ⟨(by exact (if_pos c1).symm), rfl⟩ dX2_keptOut_31
  · refine lv_iload_n hx hb dX2_keptOut_4 rfl (lv_at hl 1 rfl) ?_
    refine lv_aload_n hx hb dX2_keptOut_5 rfl (lv_at hl 0 rfl) ?_
    refine oh_get (v := .int (σ 17 (8 + n))) hC hP inX2_keptOut_X2 (17 + n) (oh_gdv a k σ hn) rfl 9 (by decide) (by decide +kernel) rfl dX2_keptOut_6 ?_
    refine lv_icmp_ge (tgt := 30) hx hb dX2_keptOut_9 (by decide) (fun c2 => ?_) (fun c2 => ?_)
    · refine lv_iconst (v := (-1 : Int32)) hx hb dX2_keptOut_30 (by decide) ?_
      exact oh_reti (v := (-1 : Int32)) (u := σ) hC hP hD hS ⟨(by exact ((if_neg c1).trans (if_pos c2)).symm), rfl⟩ dX2_keptOut_31
    · refine lv_iload_n hx hb dX2_keptOut_12 rfl (lv_at hl 1 rfl) ?_
      refine lv_aload_n hx hb dX2_keptOut_13 rfl (lv_at hl 0 rfl) ?_
      refine oh_get (v := .ref (a (25 + n))) hC hP inX2_keptOut_X2 (17 + n) (oh_gdv a k σ hn) rfl 2 (by decide) (by decide +kernel) rfl dX2_keptOut_14 ?_
      refine oh_alen (v := (200 : Int32)) hC hP (25 + n) 0 (oh_gkp a k σ hn) rfl rfl dX2_keptOut_17 ?_
      refine lv_icmp_ge (tgt := 30) hx hb dX2_keptOut_18 (by decide) (fun c3 => ?_) (fun c3 => ?_)
      · refine lv_iconst (v := (-1 : Int32)) hx hb dX2_keptOut_30 (by decide) ?_
        exact oh_reti (v := (-1 : Int32)) (u := σ) hC hP hD hS ⟨(by exact (((if_neg c1).trans (if_neg c2)).trans (if_pos c3)).symm), rfl⟩ dX2_keptOut_31
      · refine lv_aload_n hx hb dX2_keptOut_21 rfl (lv_at hl 0 rfl) ?_
        refine oh_get (v := .ref (a (25 + n))) hC hP inX2_keptOut_X2 (17 + n) (oh_gdv a k σ hn) rfl 2 (by decide) (by decide +kernel) rfl dX2_keptOut_22 ?_
        refine lv_iload_n hx hb dX2_keptOut_25 rfl (lv_at hl 1 rfl) ?_
        refine oh_iald hC hP (25 + n) 0 (oh_gkp a k σ hn) rfl (oh_in c1 c3 rfl) dX2_keptOut_26 ?_
        refine lv_goto (tgt := 31) hx hb dX2_keptOut_27 (by decide) ?_
        exact oh_reti (v := (σ (24 + n) p1.toNatClampNeg)) (u := σ) hC hP hD hS ⟨(by exact (((if_neg c1).trans (if_neg c2)).trans (if_neg c3)).symm), rfl⟩ dX2_keptOut_31
-- OctalHouse$Device.tellPart
theorem inX2_tellPart_X2 : ∀ w ∈ u_ws RX2 TX2 10, w ∈ wsX2_tellPart := by decide +kernel
def spX2_tellPart (σ : oh_St) (n : Nat) (p1 : Int32) : Int32 := (let y1 : Int32 := p1; (if y1 = (3 : Int32) then (σ 15 (8 + n)) else (if y1 = (4 : Int32) then (σ 14 (8 + n)) else (if y1 = (5 : Int32) then (σ 16 (8 + n)) else (if y1 = (6 : Int32) then (let r6 : Int32 := (spX7_bit (σ 12 (8 + n))); r6) else (if y1 = (7 : Int32) then (σ 13 (8 + n)) else (if y1 = (8 : Int32) then (σ 17 (8 + n)) else (-1 : Int32))))))))
set_option maxHeartbeats 8000000 in
set_option maxRecDepth 100000 in
theorem mtX2_tellPart (l : Launch) (a : Nat → Nat) (k : Nat → ClassId) (D : va_G) (σ : oh_St) {n : Nat} (hn : n < 4) (p1 : Int32) : oh_Mi l yX2_tellPart wsX2_tellPart { frames := 1, cells := 0, slots := 0, locals := 20 } D (oh_ty k) (oh_W a k) [.ref (a (17 + n)), .int p1] σ (fun r u => r = spX2_tellPart σ n p1 ∧ u = σ) := by
  refine oh_ini (cc := cX2_tellPart) (nL := 2) (rt := some .int) (by decide) rfl (Nat.le_of_ble_eq_true rfl) ?_
  intro p e s m below meth c A ls hC hP hD hS hl
  obtain ⟨hx, hb, hml, hown, hts, hr, hlocks, hK, hN, hA⟩ := id hC
  have hl : lv_has ls 2 [(0, .ref (a (17 + n))), (1, .int p1)] := hl
  refine lv_iload_n hx hb dX2_tellPart_0 rfl (lv_at hl 1 rfl) ?_
  refine lv_topi (fun y1 hy1 => ?_)
  by_cases c2 : y1 = (3 : Int32)
  · refine lv_tableIn (tgt := 40) hx hb dX2_tellPart_1 (by rw [c2]; decide) (by rw [c2]; decide) (by rw [c2]; rfl) (by decide) ?_
    refine lv_aload_n hx hb dX2_tellPart_40 rfl (lv_at hl 0 rfl) ?_
    refine oh_get (v := .int (σ 15 (8 + n))) hC hP inX2_tellPart_X2 (17 + n) (oh_gdv a k σ hn) rfl 6 (by decide) (by decide +kernel) rfl dX2_tellPart_41 ?_
    exact oh_reti (v := (σ 15 (8 + n))) (u := σ) hC hP hD hS ⟨(by subst hy1; exact (if_pos c2).symm), rfl⟩ dX2_tellPart_44
  by_cases c3 : y1 = (4 : Int32)
  · refine lv_tableIn (tgt := 45) hx hb dX2_tellPart_1 (by rw [c3]; decide) (by rw [c3]; decide) (by rw [c3]; rfl) (by decide) ?_
    refine lv_aload_n hx hb dX2_tellPart_45 rfl (lv_at hl 0 rfl) ?_
    refine oh_get (v := .int (σ 14 (8 + n))) hC hP inX2_tellPart_X2 (17 + n) (oh_gdv a k σ hn) rfl 5 (by decide) (by decide +kernel) rfl dX2_tellPart_46 ?_
    exact oh_reti (v := (σ 14 (8 + n))) (u := σ) hC hP hD hS ⟨(by subst hy1; exact ((if_neg c2).trans (if_pos c3)).symm), rfl⟩ dX2_tellPart_49
  by_cases c4 : y1 = (5 : Int32)
  · refine lv_tableIn (tgt := 50) hx hb dX2_tellPart_1 (by rw [c4]; decide) (by rw [c4]; decide) (by rw [c4]; rfl) (by decide) ?_
    refine lv_aload_n hx hb dX2_tellPart_50 rfl (lv_at hl 0 rfl) ?_
    refine oh_get (v := .int (σ 16 (8 + n))) hC hP inX2_tellPart_X2 (17 + n) (oh_gdv a k σ hn) rfl 8 (by decide) (by decide +kernel) rfl dX2_tellPart_51 ?_
    exact oh_reti (v := (σ 16 (8 + n))) (u := σ) hC hP hD hS ⟨(by subst hy1; exact (((if_neg c2).trans (if_neg c3)).trans (if_pos c4)).symm), rfl⟩ dX2_tellPart_54
  by_cases c5 : y1 = (6 : Int32)
  · refine lv_tableIn (tgt := 55) hx hb dX2_tellPart_1 (by rw [c5]; decide) (by rw [c5]; decide) (by rw [c5]; rfl) (by decide) ?_
    refine lv_aload_n hx hb dX2_tellPart_55 rfl (lv_at hl 0 rfl) ?_
    refine oh_get (v := .int (σ 12 (8 + n))) hC hP inX2_tellPart_X2 (17 + n) (oh_gdv a k σ hn) rfl 3 (by decide) (by decide +kernel) rfl dX2_tellPart_56 ?_
    refine oh_csnp (As := [.int (σ 12 (8 + n))]) (rest := []) hC hP hD hS (mtX7_bit l a k D σ (σ 12 (8 + n))) ⟨va_cnB 1 hts gX2_tellPart_X7_bit_n60 rfl rfl rfl (oh_nM hN (by decide +kernel)) (hts (.initialized RX7) (by decide +kernel)) (by decide +kernel) ⟨Nat.le_of_ble_eq_true rfl, Nat.le_of_ble_eq_true rfl⟩, hts (.static yX7_bit) (by decide +kernel), trivial⟩ rfl hl.1 rfl (Nat.le_of_ble_eq_true rfl) dX2_tellPart_59 (fun r6 H locs hr6 hP hD hS => ?_)
    exact oh_reti (v := r6) (u := σ) hC hP hD hS ⟨(by subst hr6 hy1; exact ((((if_neg c2).trans (if_neg c3)).trans (if_neg c4)).trans (if_pos c5)).symm), rfl⟩ dX2_tellPart_62
  by_cases c7 : y1 = (7 : Int32)
  · refine lv_tableIn (tgt := 63) hx hb dX2_tellPart_1 (by rw [c7]; decide) (by rw [c7]; decide) (by rw [c7]; rfl) (by decide) ?_
    refine lv_aload_n hx hb dX2_tellPart_63 rfl (lv_at hl 0 rfl) ?_
    refine oh_get (v := .int (σ 13 (8 + n))) hC hP inX2_tellPart_X2 (17 + n) (oh_gdv a k σ hn) rfl 4 (by decide) (by decide +kernel) rfl dX2_tellPart_64 ?_
    exact oh_reti (v := (σ 13 (8 + n))) (u := σ) hC hP hD hS ⟨(by subst hy1; exact (((((if_neg c2).trans (if_neg c3)).trans (if_neg c4)).trans (if_neg c5)).trans (if_pos c7)).symm), rfl⟩ dX2_tellPart_67
  by_cases c8 : y1 = (8 : Int32)
  · refine lv_tableIn (tgt := 68) hx hb dX2_tellPart_1 (by rw [c8]; decide) (by rw [c8]; decide) (by rw [c8]; rfl) (by decide) ?_
    refine lv_aload_n hx hb dX2_tellPart_68 rfl (lv_at hl 0 rfl) ?_
    refine oh_get (v := .int (σ 17 (8 + n))) hC hP inX2_tellPart_X2 (17 + n) (oh_gdv a k σ hn) rfl 9 (by decide) (by decide +kernel) rfl dX2_tellPart_69 ?_
    exact oh_reti (v := (σ 17 (8 + n))) (u := σ) hC hP hD hS ⟨(by subst hy1; exact ((((((if_neg c2).trans (if_neg c3)).trans (if_neg c4)).trans (if_neg c5)).trans (if_neg c7)).trans (if_pos c8)).symm), rfl⟩ dX2_tellPart_72
  refine lv_tableOut (tgt := 73) hx hb dX2_tellPart_1 (by have hh := True.intro; have : (∀ z : Int32, y1.toInt = z.toInt → y1 = z) := fun z e => Int32.toInt_inj.mp e; have hc2 : y1.toInt ≠ 3 := oh_ne c2; have hc3 : y1.toInt ≠ 4 := oh_ne c3; have hc4 : y1.toInt ≠ 5 := oh_ne c4; have hc5 : y1.toInt ≠ 6 := oh_ne c5; have hc7 : y1.toInt ≠ 7 := oh_ne c7; have hc8 : y1.toInt ≠ 8 := oh_ne c8; omega) (by decide) ?_
  refine lv_iconst (v := (-1 : Int32)) hx hb dX2_tellPart_73 (by decide) ?_
  exact oh_reti (v := (-1 : Int32)) (u := σ) hC hP hD hS ⟨(by subst hy1; exact ((((((if_neg c2).trans (if_neg c3)).trans (if_neg c4)).trans (if_neg c5)).trans (if_neg c7)).trans (if_neg c8)).symm), rfl⟩ dX2_tellPart_74
-- OctalHouse$Device.advance
theorem inX2_advance_X2 : ∀ w ∈ u_ws RX2 TX2 10, w ∈ wsX2_advance := by decide +kernel
def spX2_advance (σ : oh_St) (n : Nat) : oh_St := (if (σ 15 (8 + n)) = (0 : Int32) then σ else (if ((oh_up σ 15 (8 + n) ((σ 15 (8 + n)) - (1 : Int32))) 15 (8 + n)) ≤ (0 : Int32) then (let s7 : oh_St := (if (σ 12 (8 + n)) = (0 : Int32) then (let s4 : oh_St := (spX2_putOut (oh_up σ 15 (8 + n) ((σ 15 (8 + n)) - (1 : Int32))) n (σ 14 (8 + n))); s4) else (let r5 : Int32 := (spX2_takeFromTape (oh_up σ 15 (8 + n) ((σ 15 (8 + n)) - (1 : Int32))) n).1; (let s6 : oh_St := (spX2_takeFromTape (oh_up σ 15 (8 + n) ((σ 15 (8 + n)) - (1 : Int32))) n).2; (oh_up s6 14 (8 + n) r5)))); (let s8 : oh_St := (spX3_putFlag s7 ((2 + n)) (1 : Int32)); s8)) else (oh_up σ 15 (8 + n) ((σ 15 (8 + n)) - (1 : Int32)))))
set_option maxHeartbeats 8000000 in
set_option maxRecDepth 100000 in
theorem mtX2_advance (l : Launch) (a : Nat → Nat) (k : Nat → ClassId) (D : va_G) (σ : oh_St) {n : Nat} (hn : n < 4) : oh_Mv l yX2_advance wsX2_advance { frames := 1, cells := 0, slots := 0, locals := 21 } D (oh_ty k) (oh_W a k) [.ref (a (17 + n))] σ (fun u => u = spX2_advance σ n) := by
  refine oh_inv (cc := cX2_advance) (nL := 1) (rt := none) (by decide) rfl (Nat.le_of_ble_eq_true rfl) ?_
  intro p e s m below meth c A ls hC hP hD hS hl
  obtain ⟨hx, hb, hml, hown, hts, hr, hlocks, hK, hN, hA⟩ := id hC
  have hl : lv_has ls 1 [(0, .ref (a (17 + n)))] := hl
  refine lv_aload_n hx hb dX2_advance_0 rfl (lv_at hl 0 rfl) ?_
  refine oh_get (v := .int (σ 15 (8 + n))) hC hP inX2_advance_X2 (17 + n) (oh_gdv a k σ hn) rfl 6 (by decide) (by decide +kernel) rfl dX2_advance_1 ?_
  refine lv_if_ne (tgt := 8) hx hb dX2_advance_4 (by decide) (fun c1 => ?_) (fun c1 => ?_)
  · refine lv_aload_n hx hb dX2_advance_8 rfl (lv_at hl 0 rfl) ?_
    refine lv_dup hx hb dX2_advance_9 rfl ?_
    refine oh_get (v := .int (σ 15 (8 + n))) hC hP inX2_advance_X2 (17 + n) (oh_gdv a k σ hn) rfl 6 (by decide) (by decide +kernel) rfl dX2_advance_10 ?_
    refine lv_iconst (v := (1 : Int32)) hx hb dX2_advance_13 (by decide) ?_
    refine lv_isub hx hb dX2_advance_14 ?_
    refine oh_put (σ' := (oh_up σ 15 (8 + n) ((σ 15 (8 + n)) - (1 : Int32)))) (v := .int ((σ 15 (8 + n)) - (1 : Int32))) hC hP hD hS inX2_advance_X2 tyX2 tyX2_ok nmX2 (17 + n) (oh_gdv a k σ hn) rfl 6 (by decide) (by decide +kernel) rfl rfl rfl (by simp) (oh_sdv6 a k σ hn _) dX2_advance_15 (fun H locs hP hD hS => ?_)
    refine lv_aload_n hx hb dX2_advance_18 rfl (lv_at hl 0 rfl) ?_
    refine oh_get (v := .int ((oh_up σ 15 (8 + n) ((σ 15 (8 + n)) - (1 : Int32))) 15 (8 + n))) hC hP inX2_advance_X2 (17 + n) (oh_gdv a k (oh_up σ 15 (8 + n) ((σ 15 (8 + n)) - (1 : Int32))) hn) rfl 6 (by decide) (by decide +kernel) rfl dX2_advance_19 ?_
    refine lv_if_le (tgt := 26) hx hb dX2_advance_22 (by decide) (fun c2 => ?_) (fun c2 => ?_)
    · refine lv_aload_n hx hb dX2_advance_26 rfl (lv_at hl 0 rfl) ?_
      refine oh_get (v := .int (σ 12 (8 + n))) hC hP inX2_advance_X2 (17 + n) (oh_gdv a k (oh_up σ 15 (8 + n) ((σ 15 (8 + n)) - (1 : Int32))) hn) rfl 3 (by decide) (by decide +kernel) rfl dX2_advance_27 ?_
      have K9 : ∀ s7 : oh_St, s7 = (if (σ 12 (8 + n)) = (0 : Int32) then (let s4 : oh_St := (spX2_putOut (oh_up σ 15 (8 + n) ((σ 15 (8 + n)) - (1 : Int32))) n (σ 14 (8 + n))); s4) else (let r5 : Int32 := (spX2_takeFromTape (oh_up σ 15 (8 + n) ((σ 15 (8 + n)) - (1 : Int32))) n).1; (let s6 : oh_St := (spX2_takeFromTape (oh_up σ 15 (8 + n) ((σ 15 (8 + n)) - (1 : Int32))) n).2; (oh_up s6 14 (8 + n) r5)))) → ∀ (ls : Array Slot) (H : Heap) (locs : List Loc), va_P D vwCl (oh_W a k s7) H → va_D A (oh_W a k s7) → va_S A s.heap H locs → lv_has ls 1 [(0, .ref (a (17 + n)))] → W p l e ({ frames := 1, cells := 0, slots := 0, locals := 21 } : Room) s m (([.ref (a (17 + n))] : List Value).toArray) below meth c H locs 0 0 (oh_Ev below (fun u => u = spX2_advance σ n) D (oh_W a k) A [.ref (a (17 + n))] s) (F0 m 52 ls []) := by
        intro s7 hs7 ls H locs hP hD hS hl
        refine lv_aload_n hx hb dX2_advance_52 rfl (lv_at hl 0 rfl) ?_
        refine oh_get (v := .ref (a (9 + (2 + n)))) hC hP inX2_advance_X2 (17 + n) (oh_gdv a k s7 hn) rfl 0 (by decide) (by decide +kernel) rfl dX2_advance_53 ?_
        refine lv_iconst (v := (1 : Int32)) hx hb dX2_advance_56 (by decide) ?_
        refine oh_cvv (As := [.int (1 : Int32)]) (rest := []) hC hP hD hS (mtX3_putFlag l a k D s7 (oh_l2 hn) (1 : Int32) (by decide)) (cwV 1 hts gX2_advance_X3_putFlag rfl rfl rfl (by decide +kernel) ⟨Nat.le_of_ble_eq_true rfl, Nat.le_of_ble_eq_true rfl⟩) (9 + (2 + n)) 3 (oh_gln a k s7 (oh_l2 hn)) rfl rfl hl.1 rfl (Nat.le_of_ble_eq_true rfl) dX2_advance_57 (fun s8 H locs hs8 hP hD hS => ?_)
        exact oh_retv (u := s8) hC hP hD hS (by subst hs8 hs7; exact ((if_neg c1).trans (if_pos c2)).symm) dX2_advance_60
      refine lv_if_eq (tgt := 44) hx hb dX2_advance_30 (by decide) (fun c3 => ?_) (fun c3 => ?_)
      · refine lv_aload_n hx hb dX2_advance_44 rfl (lv_at hl 0 rfl) ?_
        refine lv_aload_n hx hb dX2_advance_45 rfl (lv_at hl 0 rfl) ?_
        refine oh_get (v := .int (σ 14 (8 + n))) hC hP inX2_advance_X2 (17 + n) (oh_gdv a k (oh_up σ 15 (8 + n) ((σ 15 (8 + n)) - (1 : Int32))) hn) rfl 5 (by decide) (by decide +kernel) rfl dX2_advance_46 ?_
        refine oh_cvv (As := [.int (σ 14 (8 + n))]) (rest := []) hC hP hD hS (mtX2_putOut l a k D (oh_up σ 15 (8 + n) ((σ 15 (8 + n)) - (1 : Int32))) hn (σ 14 (8 + n))) (cwV 1 hts gX2_advance_X2_putOut rfl rfl rfl (by decide +kernel) ⟨Nat.le_of_ble_eq_true rfl, Nat.le_of_ble_eq_true rfl⟩) (17 + n) 2 (oh_gdv a k (oh_up σ 15 (8 + n) ((σ 15 (8 + n)) - (1 : Int32))) hn) rfl rfl hl.1 rfl (Nat.le_of_ble_eq_true rfl) dX2_advance_49 (fun s4 H locs hs4 hP hD hS => ?_)
        exact K9 _ (by subst hs4; exact (if_pos c3).symm) ls _ _ hP hD hS (lv_sub hl [0] rfl)
      · refine lv_aload_n hx hb dX2_advance_33 rfl (lv_at hl 0 rfl) ?_
        refine lv_aload_n hx hb dX2_advance_34 rfl (lv_at hl 0 rfl) ?_
        refine oh_cvi (As := []) (rest := [.ref (a (17 + n))]) hC hP hD hS (mtX2_takeFromTape l a k D (oh_up σ 15 (8 + n) ((σ 15 (8 + n)) - (1 : Int32))) hn) (cwV 0 hts gX2_advance_X2_takeFromTape rfl rfl rfl (by decide +kernel) ⟨Nat.le_of_ble_eq_true rfl, Nat.le_of_ble_eq_true rfl⟩) (17 + n) 2 (oh_gdv a k (oh_up σ 15 (8 + n) ((σ 15 (8 + n)) - (1 : Int32))) hn) rfl rfl hl.1 rfl (Nat.le_of_ble_eq_true rfl) dX2_advance_35 (fun r5 s6 H locs hw hP hD hS => ?_)
        obtain ⟨hr5, hs6⟩ := hw
        refine oh_put (σ' := (oh_up s6 14 (8 + n) r5)) (v := .int r5) hC hP hD hS inX2_advance_X2 tyX2 tyX2_ok nmX2 (17 + n) (oh_gdv a k s6 hn) rfl 5 (by decide) (by decide +kernel) rfl rfl rfl (by simp) (oh_sdv5 a k s6 hn _) dX2_advance_38 (fun H locs hP hD hS => ?_)
        refine lv_goto (tgt := 52) hx hb dX2_advance_41 (by decide) ?_
        exact K9 _ (by subst hs6 hr5; exact (if_neg c3).symm) ls _ _ hP hD hS (lv_sub hl [0] rfl)
    · exact oh_retv (u := (oh_up σ 15 (8 + n) ((σ 15 (8 + n)) - (1 : Int32)))) hC hP hD hS (by exact ((if_neg c1).trans (if_neg c2)).symm) dX2_advance_25
  · exact oh_retv (u := σ) hC hP hD hS (by exact (if_pos c1).symm) dX2_advance_7
