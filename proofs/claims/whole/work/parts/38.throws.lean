-- OctalHouse.word
theorem inX7_word_X7 : ∀ w ∈ u_ws RX7 TX7 7, w ∈ wsX7_word := by decide +kernel
def spX7_word (σ : oh_St) (p1 : Int32) : Int32 × Int32 × oh_St := (let k5 : Int32 × Int32 × oh_St := ((1 : Int32), (0 : Int32), σ); (if p1 < (0 : Int32) then k5 else (if p1 < (4096 : Int32) then (let r3 : Int32 := (spX4_read σ p1); ((0 : Int32), r3, σ)) else k5)))
set_option maxHeartbeats 8000000 in
set_option maxRecDepth 100000 in
theorem mtX7_word (l : Launch) (a : Nat → Nat) (k : Nat → ClassId) (D : va_G) (σ : oh_St) (hst : l.stackTraces = false) (p1 : Int32) : oh_Xi l yX7_word wsX7_word { frames := 6, cells := 1, slots := 6, locals := 82 } D (oh_ty k) (oh_W a k) [.ref (a 0), .int p1] σ (fun r u => ((0 : Int32), r, u) = spX7_word σ p1) (fun E => (E = "java/lang/IndexOutOfBoundsException" ∧ ((1 : Int32), (0 : Int32), σ) = spX7_word σ p1)) := by
  refine oh_inxi (cc := cX7_word) (nL := 2) (rt := some .int) (by decide) rfl (Nat.le_of_ble_eq_true rfl) ?_
  intro p e s m below meth c A ls hC hX hP hD hS hl
  obtain ⟨hx, hb, hml, hown, hts, hr, hlocks, hK, hN, hA⟩ := id hC
  have hl : lv_has ls 2 [(0, .ref (a 0)), (1, .int p1)] := hl
  refine lv_iload_n hx hb dX7_word_0 rfl (lv_at hl 1 rfl) ?_
  have K4 : ((1 : Int32), (0 : Int32), σ) = spX7_word σ p1 → ∀ (ls : Array Slot) (H : Heap) (locs : List Loc), va_P D vwCl (oh_W a k σ) H → va_D A (oh_W a k σ) → va_S A s.heap H locs → lv_has ls 2 [(0, .ref (a 0)), (1, .int p1)] → W p l e ({ frames := 6, cells := 1, slots := 6, locals := 82 } : Room) s m (([.ref (a 0), .int p1] : List Value).toArray) below meth c H locs 0 0 (oh_Exi below (fun r u => ((0 : Int32), r, u) = spX7_word σ p1) (fun E => (E = "java/lang/IndexOutOfBoundsException" ∧ ((1 : Int32), (0 : Int32), σ) = spX7_word σ p1)) σ D (oh_W a k) A [.ref (a 0), .int p1] s) (F0 m 11 ls []) := by
    intro hK4 ls H locs hP hD hS hl
    obtain ⟨sa, hsa⟩ := hX.2.2.1.2.1
    exact oh_thr (cls := "java/lang/IndexOutOfBoundsException") (ik := 65) (is := 67) (ic := 69) hst hC hX hP hD hS hl.1 (by decide +kernel) (by decide +kernel) (by decide +kernel) hsa (fun w h => List.mem_cons_of_mem _ (List.mem_append_right _ h)) (by decide +kernel) hX.2.2.2.2.1 (by decide +kernel) dX7_word_11 dX7_word_14 dX7_word_15 dX7_word_17 dX7_word_20 (by decide) (by decide) (by decide) (by decide) ⟨rfl, (by exact hK4)⟩
  refine lv_if_lt (tgt := 11) hx hb dX7_word_1 (by decide) (fun c1 => ?_) (fun c1 => ?_)
  · exact K4 ((if_pos c1).symm) ls _ _ hP hD hS (lv_sub hl [0, 1] rfl)
  · refine lv_iload_n hx hb dX7_word_4 rfl (lv_at hl 1 rfl) ?_
    refine lv_sipush (v := (4096 : Int32)) hx hb dX7_word_5 (by decide) ?_
    refine lv_icmp_lt (tgt := 21) hx hb dX7_word_8 (by decide) (fun c2 => ?_) (fun c2 => ?_)
    · refine lv_aload_n hx hb dX7_word_21 rfl (lv_at hl 0 rfl) ?_
      refine oh_get (v := .ref (a 1)) hC hP inX7_word_X7 0 rfl rfl 0 (by decide) (by decide +kernel) rfl dX7_word_22 ?_
      refine lv_iload_n hx hb dX7_word_25 rfl (lv_at hl 1 rfl) ?_
      refine oh_cvp (As := [.int p1]) (rest := []) hC hP hD hS (mtX4_read l a k D σ p1) (cwV 1 hts gX7_word_X4_read rfl rfl rfl (by decide +kernel) ⟨Nat.le_of_ble_eq_true rfl, Nat.le_of_ble_eq_true rfl⟩) 1 4 rfl rfl rfl hl.1 rfl (Nat.le_of_ble_eq_true rfl) dX7_word_26 (fun r3 H locs hr3 hP hD hS => ?_)
      exact oh_retxi (v := r3) (u := σ) hC hP hD hS (by subst hr3; exact ((if_neg c1).trans (if_pos c2)).symm) dX7_word_29
    · exact K4 (((if_neg c1).trans (if_neg c2)).symm) ls _ _ hP hD hS (lv_sub hl [0, 1] rfl)
-- OctalHouse.set
theorem inX7_set_X7 : ∀ w ∈ u_ws RX7 TX7 7, w ∈ wsX7_set := by decide +kernel
def spX7_set (σ : oh_St) (p1 : Int32) (p2 : Int32) : Int32 × oh_St := (let k5 : Int32 × oh_St := ((1 : Int32), σ); (if p1 < (0 : Int32) then k5 else (if p1 < (4096 : Int32) then (let s3 : oh_St := (spX4_write σ p1 p2); ((0 : Int32), s3)) else k5)))
set_option maxHeartbeats 8000000 in
set_option maxRecDepth 100000 in
theorem mtX7_set (l : Launch) (a : Nat → Nat) (k : Nat → ClassId) (D : va_G) (σ : oh_St) (hst : l.stackTraces = false) (p1 : Int32) (p2 : Int32) : oh_Xv l yX7_set wsX7_set { frames := 6, cells := 1, slots := 6, locals := 82 } D (oh_ty k) (oh_W a k) [.ref (a 0), .int p1, .int p2] σ (fun u => ((0 : Int32), u) = spX7_set σ p1 p2) (fun E => (E = "java/lang/IndexOutOfBoundsException" ∧ ((1 : Int32), σ) = spX7_set σ p1 p2)) := by
  refine oh_inxv (cc := cX7_set) (nL := 3) (rt := none) (by decide) rfl (Nat.le_of_ble_eq_true rfl) ?_
  intro p e s m below meth c A ls hC hX hP hD hS hl
  obtain ⟨hx, hb, hml, hown, hts, hr, hlocks, hK, hN, hA⟩ := id hC
  have hl : lv_has ls 3 [(0, .ref (a 0)), (1, .int p1), (2, .int p2)] := hl
  refine lv_iload_n hx hb dX7_set_0 rfl (lv_at hl 1 rfl) ?_
  have K4 : ((1 : Int32), σ) = spX7_set σ p1 p2 → ∀ (ls : Array Slot) (H : Heap) (locs : List Loc), va_P D vwCl (oh_W a k σ) H → va_D A (oh_W a k σ) → va_S A s.heap H locs → lv_has ls 3 [(0, .ref (a 0)), (1, .int p1), (2, .int p2)] → W p l e ({ frames := 6, cells := 1, slots := 6, locals := 82 } : Room) s m (([.ref (a 0), .int p1, .int p2] : List Value).toArray) below meth c H locs 0 0 (oh_Exv below (fun u => ((0 : Int32), u) = spX7_set σ p1 p2) (fun E => (E = "java/lang/IndexOutOfBoundsException" ∧ ((1 : Int32), σ) = spX7_set σ p1 p2)) σ D (oh_W a k) A [.ref (a 0), .int p1, .int p2] s) (F0 m 11 ls []) := by
    intro hK4 ls H locs hP hD hS hl
    obtain ⟨sa, hsa⟩ := hX.2.2.1.2.1
    exact oh_thr (cls := "java/lang/IndexOutOfBoundsException") (ik := 65) (is := 67) (ic := 69) hst hC hX hP hD hS hl.1 (by decide +kernel) (by decide +kernel) (by decide +kernel) hsa (fun w h => List.mem_cons_of_mem _ (List.mem_append_right _ h)) (by decide +kernel) hX.2.2.2.2.1 (by decide +kernel) dX7_set_11 dX7_set_14 dX7_set_15 dX7_set_17 dX7_set_20 (by decide) (by decide) (by decide) (by decide) ⟨rfl, (by exact hK4)⟩
  refine lv_if_lt (tgt := 11) hx hb dX7_set_1 (by decide) (fun c1 => ?_) (fun c1 => ?_)
  · exact K4 ((if_pos c1).symm) ls _ _ hP hD hS (lv_sub hl [0, 1, 2] rfl)
  · refine lv_iload_n hx hb dX7_set_4 rfl (lv_at hl 1 rfl) ?_
    refine lv_sipush (v := (4096 : Int32)) hx hb dX7_set_5 (by decide) ?_
    refine lv_icmp_lt (tgt := 21) hx hb dX7_set_8 (by decide) (fun c2 => ?_) (fun c2 => ?_)
    · refine lv_aload_n hx hb dX7_set_21 rfl (lv_at hl 0 rfl) ?_
      refine oh_get (v := .ref (a 1)) hC hP inX7_set_X7 0 rfl rfl 0 (by decide) (by decide +kernel) rfl dX7_set_22 ?_
      refine lv_iload_n hx hb dX7_set_25 rfl (lv_at hl 1 rfl) ?_
      refine lv_iload_n hx hb dX7_set_26 rfl (lv_at hl 2 rfl) ?_
      refine oh_cvv (As := [.int p1, .int p2]) (rest := []) hC hP hD hS (mtX4_write l a k D σ p1 p2) (cwV 2 hts gX7_set_X4_write rfl rfl rfl (by decide +kernel) ⟨Nat.le_of_ble_eq_true rfl, Nat.le_of_ble_eq_true rfl⟩) 1 4 rfl rfl rfl hl.1 rfl (Nat.le_of_ble_eq_true rfl) dX7_set_27 (fun s3 H locs hs3 hP hD hS => ?_)
      exact oh_retxv (u := s3) hC hP hD hS (by subst hs3; exact ((if_neg c1).trans (if_pos c2)).symm) dX7_set_30
    · exact K4 (((if_neg c1).trans (if_neg c2)).symm) ls _ _ hP hD hS (lv_sub hl [0, 1, 2] rfl)
-- OctalHouse.device
theorem inX7_device_X7 : ∀ w ∈ u_ws RX7 TX7 7, w ∈ wsX7_device := by decide +kernel
def spX7_device (σ : oh_St) (p1 : Int32) (p2 : Int32) (p3 : Int32) : Int32 × oh_St := (if oh_ix p1 4 then (let k6 : Int32 × oh_St := ((2 : Int32), σ); (if p3 < (1 : Int32) then k6 else (if p3 ≤ (100 : Int32) then (let s4 : oh_St := (spX2_equip σ (p1.toNatClampNeg) p2 p3); ((0 : Int32), s4)) else k6))) else ((1 : Int32), σ))
set_option maxHeartbeats 8000000 in
set_option maxRecDepth 100000 in
theorem mtX7_device (l : Launch) (a : Nat → Nat) (k : Nat → ClassId) (D : va_G) (σ : oh_St) (hst : l.stackTraces = false) (p1 : Int32) (p2 : Int32) (p3 : Int32) (hbp2 : p2 = 0 ∨ p2 = 1) : oh_Xv l yX7_device wsX7_device { frames := 6, cells := 1, slots := 6, locals := 82 } D (oh_ty k) (oh_W a k) [.ref (a 0), .int p1, .int p2, .int p3] σ (fun u => ((0 : Int32), u) = spX7_device σ p1 p2 p3) (fun E => (E = "java/lang/IndexOutOfBoundsException" ∧ ((1 : Int32), σ) = spX7_device σ p1 p2 p3) ∨ (E = "java/lang/IllegalArgumentException" ∧ ((2 : Int32), σ) = spX7_device σ p1 p2 p3)) := by
  refine oh_inxv (cc := cX7_device) (nL := 5) (rt := none) (by decide) rfl (Nat.le_of_ble_eq_true rfl) ?_
  intro p e s m below meth c A ls hC hX hP hD hS hl
  obtain ⟨hx, hb, hml, hown, hts, hr, hlocks, hK, hN, hA⟩ := id hC
  have hl : lv_has ls 5 [(0, .ref (a 0)), (1, .int p1), (2, .int p2), (3, .int p3)] := hl
  refine lv_aload_n hx hb dX7_device_0 rfl (lv_at hl 0 rfl) ?_
  refine oh_get (v := .ref (a 4)) hC hP inX7_device_X7 0 rfl rfl 2 (by decide) (by decide +kernel) rfl dX7_device_1 ?_
  refine lv_iload_n hx hb dX7_device_4 rfl (lv_at hl 1 rfl) ?_
  refine oh_cvqp (As := [.int p1]) (rest := []) hC hP hD hS (mtX0_deviceAt_ l a k D σ p1) (cwV 1 hts gX7_device_X0_deviceAt rfl rfl rfl (by decide +kernel) ⟨Nat.le_of_ble_eq_true rfl, Nat.le_of_ble_eq_true rfl⟩) 4 0 rfl rfl rfl hl.1 rfl (Nat.le_of_ble_eq_true rfl) dX7_device_5 (fun H locs hP hD hS => ?_)
  by_cases c1 : oh_ix p1 4
  · rw [if_pos c1]
    refine W.eq (g2 := F0 m 8 ls ([.ref (a (17 + p1.toNatClampNeg))])) rfl ?_
    refine lv_astore (lv' := [(4, .ref (a (17 + p1.toNatClampNeg))), (0, .ref (a 0)), (1, .int p1), (2, .int p2), (3, .int p3)]) hx hb dX7_device_8 hl (by decide) rfl (fun ls hl => ?_)
    refine lv_aload hx hb dX7_device_10 (lv_at hl 0 rfl) ?_
    refine lv_ifnonnull (tgt := 25) hx hb dX7_device_12 (by decide) ?_
    refine lv_iload_n hx hb dX7_device_25 rfl (lv_at hl 4 rfl) ?_
    refine lv_iconst (v := (1 : Int32)) hx hb dX7_device_26 (by decide) ?_
    have K5 : ((2 : Int32), σ) = spX7_device σ p1 p2 p3 → ∀ (ls : Array Slot) (H : Heap) (locs : List Loc), va_P D vwCl (oh_W a k σ) H → va_D A (oh_W a k σ) → va_S A s.heap H locs → lv_has ls 5 [(4, .ref (a (17 + p1.toNatClampNeg))), (0, .ref (a 0)), (1, .int p1), (2, .int p2), (3, .int p3)] → W p l e ({ frames := 6, cells := 1, slots := 6, locals := 82 } : Room) s m (([.ref (a 0), .int p1, .int p2, .int p3] : List Value).toArray) below meth c H locs 0 0 (oh_Exv below (fun u => ((0 : Int32), u) = spX7_device σ p1 p2 p3) (fun E => (E = "java/lang/IndexOutOfBoundsException" ∧ ((1 : Int32), σ) = spX7_device σ p1 p2 p3) ∨ (E = "java/lang/IllegalArgumentException" ∧ ((2 : Int32), σ) = spX7_device σ p1 p2 p3)) σ D (oh_W a k) A [.ref (a 0), .int p1, .int p2, .int p3] s) (F0 m 36 ls []) := by
      intro hK5 ls H locs hP hD hS hl
      obtain ⟨sa, hsa⟩ := hX.2.2.1.2.2.2.1
      exact oh_thr (cls := "java/lang/IllegalArgumentException") (ik := 45) (is := 113) (ic := 49) hst hC hX hP hD hS hl.1 (by decide +kernel) (by decide +kernel) (by decide +kernel) hsa (fun w h => List.mem_cons_of_mem _ (List.mem_append_right _ h)) (by decide +kernel) hX.2.2.2.1 (by decide +kernel) dX7_device_36 dX7_device_39 dX7_device_40 dX7_device_42 dX7_device_45 (by decide) (by decide) (by decide) (by decide) (Or.inr ⟨rfl, (by exact hK5)⟩)
    refine lv_icmp_lt (tgt := 36) hx hb dX7_device_27 (by decide) (fun c2 => ?_) (fun c2 => ?_)
    · exact K5 (((if_pos c1).trans (if_pos c2)).symm) ls _ _ hP hD hS (lv_sub hl [0, 1, 2, 3, 4] rfl)
    · refine lv_iload_n hx hb dX7_device_30 rfl (lv_at hl 4 rfl) ?_
      refine lv_bipush (v := (100 : Int32)) hx hb dX7_device_31 (by decide) ?_
      refine lv_icmp_le (tgt := 46) hx hb dX7_device_33 (by decide) (fun c3 => ?_) (fun c3 => ?_)
      · refine lv_aload hx hb dX7_device_46 (lv_at hl 0 rfl) ?_
        refine lv_iload_n hx hb dX7_device_48 rfl (lv_at hl 3 rfl) ?_
        refine lv_iload_n hx hb dX7_device_49 rfl (lv_at hl 4 rfl) ?_
        refine oh_cvv (As := [.int p2, .int p3]) (rest := []) hC hP hD hS (mtX2_equip l a k D σ (oh_ixN c1) p2 p3 hbp2) (cwV 2 hts gX7_device_X2_equip rfl rfl rfl (by decide +kernel) ⟨Nat.le_of_ble_eq_true rfl, Nat.le_of_ble_eq_true rfl⟩) (17 + p1.toNatClampNeg) 2 (oh_gdv a k σ (oh_ixN c1)) rfl rfl hl.1 rfl (Nat.le_of_ble_eq_true rfl) dX7_device_50 (fun s4 H locs hs4 hP hD hS => ?_)
        exact oh_retxv (u := s4) hC hP hD hS (by subst hs4; exact (((if_pos c1).trans (if_neg c2)).trans (if_pos c3)).symm) dX7_device_53
      · exact K5 ((((if_pos c1).trans (if_neg c2)).trans (if_neg c3)).symm) ls _ _ hP hD hS (lv_sub hl [0, 1, 2, 3, 4] rfl)
  · rw [if_neg c1]
    refine W.eq (g2 := F0 m 8 ls ([.null])) rfl ?_
    refine lv_astoreN (lv' := [(4, .null), (0, .ref (a 0)), (1, .int p1), (2, .int p2), (3, .int p3)]) hx hb dX7_device_8 hl (by decide) rfl (fun ls hl => ?_)
    refine lv_aloadN hx hb dX7_device_10 (lv_at hl 0 rfl) ?_
    refine lv_ifnonnullN hx hb dX7_device_12 ?_
    obtain ⟨sa, hsa⟩ := hX.2.2.1.2.2.1
    exact oh_thr (cls := "java/lang/IndexOutOfBoundsException") (ik := 65) (is := 111) (ic := 69) hst hC hX hP hD hS hl.1 (by decide +kernel) (by decide +kernel) (by decide +kernel) hsa (fun w h => List.mem_cons_of_mem _ (List.mem_append_left _ (List.mem_append_right _ h))) (by decide +kernel) hX.2.2.2.2.1 (by decide +kernel) dX7_device_15 dX7_device_18 dX7_device_19 dX7_device_21 dX7_device_24 (by decide) (by decide) (by decide) (by decide) (Or.inl ⟨rfl, (by exact (if_neg c1).symm)⟩)
-- OctalHouse.give
theorem inX7_give_X2 : ∀ w ∈ u_ws RX2 TX2 10, w ∈ wsX7_give := by decide +kernel
theorem inX7_give_X7 : ∀ w ∈ u_ws RX7 TX7 7, w ∈ wsX7_give := by decide +kernel
def spX7_give (σ : oh_St) (p1 : Int32) (p2 : Int32) : Int32 × Int32 × oh_St := (if oh_ix p1 4 then (if (σ 16 (8 + p1.toNatClampNeg)) < (100 : Int32) then (let s3 : oh_St := (spX2_putOnTape σ (p1.toNatClampNeg) (p2 &&& (65535 : Int32))); ((0 : Int32), (s3 16 (8 + p1.toNatClampNeg)), s3)) else ((2 : Int32), (0 : Int32), σ)) else ((1 : Int32), (0 : Int32), σ))
set_option maxHeartbeats 8000000 in
set_option maxRecDepth 100000 in
theorem mtX7_give (l : Launch) (a : Nat → Nat) (k : Nat → ClassId) (D : va_G) (σ : oh_St) (hst : l.stackTraces = false) (p1 : Int32) (p2 : Int32) : oh_Xi l yX7_give wsX7_give { frames := 6, cells := 1, slots := 6, locals := 82 } D (oh_ty k) (oh_W a k) [.ref (a 0), .int p1, .int p2] σ (fun r u => ((0 : Int32), r, u) = spX7_give σ p1 p2) (fun E => (E = "java/lang/IndexOutOfBoundsException" ∧ ((1 : Int32), (0 : Int32), σ) = spX7_give σ p1 p2) ∨ (E = "java/lang/IllegalStateException" ∧ ((2 : Int32), (0 : Int32), σ) = spX7_give σ p1 p2)) := by
  refine oh_inxi (cc := cX7_give) (nL := 4) (rt := some .int) (by decide) rfl (Nat.le_of_ble_eq_true rfl) ?_
  intro p e s m below meth c A ls hC hX hP hD hS hl
  obtain ⟨hx, hb, hml, hown, hts, hr, hlocks, hK, hN, hA⟩ := id hC
  have hl : lv_has ls 4 [(0, .ref (a 0)), (1, .int p1), (2, .int p2)] := hl
  refine lv_aload_n hx hb dX7_give_0 rfl (lv_at hl 0 rfl) ?_
  refine oh_get (v := .ref (a 4)) hC hP inX7_give_X7 0 rfl rfl 2 (by decide) (by decide +kernel) rfl dX7_give_1 ?_
  refine lv_iload_n hx hb dX7_give_4 rfl (lv_at hl 1 rfl) ?_
  refine oh_cvqp (As := [.int p1]) (rest := []) hC hP hD hS (mtX0_deviceAt_ l a k D σ p1) (cwV 1 hts gX7_give_X0_deviceAt rfl rfl rfl (by decide +kernel) ⟨Nat.le_of_ble_eq_true rfl, Nat.le_of_ble_eq_true rfl⟩) 4 0 rfl rfl rfl hl.1 rfl (Nat.le_of_ble_eq_true rfl) dX7_give_5 (fun H locs hP hD hS => ?_)
  by_cases c1 : oh_ix p1 4
  · rw [if_pos c1]
    refine W.eq (g2 := F0 m 8 ls ([.ref (a (17 + p1.toNatClampNeg))])) rfl ?_
    refine lv_astore_n (lv' := [(3, .ref (a (17 + p1.toNatClampNeg))), (0, .ref (a 0)), (1, .int p1), (2, .int p2)]) hx hb dX7_give_8 rfl hl (by decide) rfl (fun ls hl => ?_)
    refine lv_aload_n hx hb dX7_give_9 rfl (lv_at hl 0 rfl) ?_
    refine lv_ifnonnull (tgt := 23) hx hb dX7_give_10 (by decide) ?_
    refine lv_aload_n hx hb dX7_give_23 rfl (lv_at hl 0 rfl) ?_
    refine oh_getN (v := .int (σ 16 (8 + p1.toNatClampNeg))) hC hP inX7_give_X2 (17 + p1.toNatClampNeg) (oh_gdv a k σ (oh_ixN c1)) rfl 8 (by decide) (by decide +kernel) rfl dX7_give_24 ?_
    refine lv_bipush (v := (100 : Int32)) hx hb dX7_give_27 (by decide) ?_
    refine lv_icmp_lt (tgt := 42) hx hb dX7_give_29 (by decide) (fun c2 => ?_) (fun c2 => ?_)
    · refine lv_aload_n hx hb dX7_give_42 rfl (lv_at hl 0 rfl) ?_
      refine lv_iload_n hx hb dX7_give_43 rfl (lv_at hl 3 rfl) ?_
      refine lv_ldc (v := (65535 : Int32)) hx hb hown (hts (.constant RX7 103 (65535)) (by decide +kernel)) dX7_give_44 ?_
      refine lv_iand hx hb dX7_give_46 ?_
      refine oh_cvv (As := [.int (p2 &&& (65535 : Int32))]) (rest := []) hC hP hD hS (mtX2_putOnTape l a k D σ (oh_ixN c1) (p2 &&& (65535 : Int32))) (cwV 1 hts gX7_give_X2_putOnTape rfl rfl rfl (by decide +kernel) ⟨Nat.le_of_ble_eq_true rfl, Nat.le_of_ble_eq_true rfl⟩) (17 + p1.toNatClampNeg) 2 (oh_gdv a k σ (oh_ixN c1)) rfl rfl hl.1 rfl (Nat.le_of_ble_eq_true rfl) dX7_give_47 (fun s3 H locs hs3 hP hD hS => ?_)
      refine lv_aload_n hx hb dX7_give_50 rfl (lv_at hl 0 rfl) ?_
      refine oh_getN (v := .int (s3 16 (8 + p1.toNatClampNeg))) hC hP inX7_give_X2 (17 + p1.toNatClampNeg) (oh_gdv a k s3 (oh_ixN c1)) rfl 8 (by decide) (by decide +kernel) rfl dX7_give_51 ?_
      exact oh_retxi (v := (s3 16 (8 + p1.toNatClampNeg))) (u := s3) hC hP hD hS (by subst hs3; exact ((if_pos c1).trans (if_pos c2)).symm) dX7_give_54
    · obtain ⟨sa, hsa⟩ := hX.2.2.1.2.2.2.2
      exact oh_thr (cls := "java/lang/IllegalStateException") (ik := 124) (is := 126) (ic := 128) hst hC hX hP hD hS hl.1 (by decide +kernel) (by decide +kernel) (by decide +kernel) hsa (fun w h => List.mem_cons_of_mem _ (List.mem_append_right _ h)) (by decide +kernel) hX.2.2.2.2.2.1 (by decide +kernel) dX7_give_32 dX7_give_35 dX7_give_36 dX7_give_38 dX7_give_41 (by decide) (by decide) (by decide) (by decide) (Or.inr ⟨rfl, (by exact ((if_pos c1).trans (if_neg c2)).symm)⟩)
  · rw [if_neg c1]
    refine W.eq (g2 := F0 m 8 ls ([.null])) rfl ?_
    refine lv_astore_nN (lv' := [(3, .null), (0, .ref (a 0)), (1, .int p1), (2, .int p2)]) hx hb dX7_give_8 rfl hl (by decide) rfl (fun ls hl => ?_)
    refine lv_aload_nN hx hb dX7_give_9 rfl (lv_at hl 0 rfl) ?_
    refine lv_ifnonnullN hx hb dX7_give_10 ?_
    obtain ⟨sa, hsa⟩ := hX.2.2.1.2.2.1
    exact oh_thr (cls := "java/lang/IndexOutOfBoundsException") (ik := 65) (is := 111) (ic := 69) hst hC hX hP hD hS hl.1 (by decide +kernel) (by decide +kernel) (by decide +kernel) hsa (fun w h => List.mem_cons_of_mem _ (List.mem_append_left _ (List.mem_append_right _ h))) (by decide +kernel) hX.2.2.2.2.1 (by decide +kernel) dX7_give_13 dX7_give_16 dX7_give_17 dX7_give_19 dX7_give_22 (by decide) (by decide) (by decide) (by decide) (Or.inl ⟨rfl, (by exact (if_neg c1).symm)⟩)
-- OctalHouse.out
theorem inX7_out_X7 : ∀ w ∈ u_ws RX7 TX7 7, w ∈ wsX7_out := by decide +kernel
def spX7_out (σ : oh_St) (p1 : Int32) (p2 : Int32) : Int32 × Int32 × oh_St := (if oh_ix p1 4 then (let r2 : Int32 := (spX2_keptOut σ (p1.toNatClampNeg) p2); ((0 : Int32), r2, σ)) else ((1 : Int32), (0 : Int32), σ))
set_option maxHeartbeats 8000000 in
set_option maxRecDepth 100000 in
theorem mtX7_out (l : Launch) (a : Nat → Nat) (k : Nat → ClassId) (D : va_G) (σ : oh_St) (hst : l.stackTraces = false) (p1 : Int32) (p2 : Int32) : oh_Xi l yX7_out wsX7_out { frames := 6, cells := 1, slots := 6, locals := 82 } D (oh_ty k) (oh_W a k) [.ref (a 0), .int p1, .int p2] σ (fun r u => ((0 : Int32), r, u) = spX7_out σ p1 p2) (fun E => (E = "java/lang/IndexOutOfBoundsException" ∧ ((1 : Int32), (0 : Int32), σ) = spX7_out σ p1 p2)) := by
  refine oh_inxi (cc := cX7_out) (nL := 4) (rt := some .int) (by decide) rfl (Nat.le_of_ble_eq_true rfl) ?_
  intro p e s m below meth c A ls hC hX hP hD hS hl
  obtain ⟨hx, hb, hml, hown, hts, hr, hlocks, hK, hN, hA⟩ := id hC
  have hl : lv_has ls 4 [(0, .ref (a 0)), (1, .int p1), (2, .int p2)] := hl
  refine lv_aload_n hx hb dX7_out_0 rfl (lv_at hl 0 rfl) ?_
  refine oh_get (v := .ref (a 4)) hC hP inX7_out_X7 0 rfl rfl 2 (by decide) (by decide +kernel) rfl dX7_out_1 ?_
  refine lv_iload_n hx hb dX7_out_4 rfl (lv_at hl 1 rfl) ?_
  refine oh_cvqp (As := [.int p1]) (rest := []) hC hP hD hS (mtX0_deviceAt_ l a k D σ p1) (cwV 1 hts gX7_out_X0_deviceAt rfl rfl rfl (by decide +kernel) ⟨Nat.le_of_ble_eq_true rfl, Nat.le_of_ble_eq_true rfl⟩) 4 0 rfl rfl rfl hl.1 rfl (Nat.le_of_ble_eq_true rfl) dX7_out_5 (fun H locs hP hD hS => ?_)
  by_cases c1 : oh_ix p1 4
  · rw [if_pos c1]
    refine W.eq (g2 := F0 m 8 ls ([.ref (a (17 + p1.toNatClampNeg))])) rfl ?_
    refine lv_astore_n (lv' := [(3, .ref (a (17 + p1.toNatClampNeg))), (0, .ref (a 0)), (1, .int p1), (2, .int p2)]) hx hb dX7_out_8 rfl hl (by decide) rfl (fun ls hl => ?_)
    refine lv_aload_n hx hb dX7_out_9 rfl (lv_at hl 0 rfl) ?_
    refine lv_ifnonnull (tgt := 23) hx hb dX7_out_10 (by decide) ?_
    refine lv_aload_n hx hb dX7_out_23 rfl (lv_at hl 0 rfl) ?_
    refine lv_iload_n hx hb dX7_out_24 rfl (lv_at hl 3 rfl) ?_
    refine oh_cvp (As := [.int p2]) (rest := []) hC hP hD hS (mtX2_keptOut l a k D σ (oh_ixN c1) p2) (cwV 1 hts gX7_out_X2_keptOut rfl rfl rfl (by decide +kernel) ⟨Nat.le_of_ble_eq_true rfl, Nat.le_of_ble_eq_true rfl⟩) (17 + p1.toNatClampNeg) 2 (oh_gdv a k σ (oh_ixN c1)) rfl rfl hl.1 rfl (Nat.le_of_ble_eq_true rfl) dX7_out_25 (fun r2 H locs hr2 hP hD hS => ?_)
    exact oh_retxi (v := r2) (u := σ) hC hP hD hS (by subst hr2; exact (if_pos c1).symm) dX7_out_28
  · rw [if_neg c1]
    refine W.eq (g2 := F0 m 8 ls ([.null])) rfl ?_
    refine lv_astore_nN (lv' := [(3, .null), (0, .ref (a 0)), (1, .int p1), (2, .int p2)]) hx hb dX7_out_8 rfl hl (by decide) rfl (fun ls hl => ?_)
    refine lv_aload_nN hx hb dX7_out_9 rfl (lv_at hl 0 rfl) ?_
    refine lv_ifnonnullN hx hb dX7_out_10 ?_
    obtain ⟨sa, hsa⟩ := hX.2.2.1.2.2.1
    exact oh_thr (cls := "java/lang/IndexOutOfBoundsException") (ik := 65) (is := 111) (ic := 69) hst hC hX hP hD hS hl.1 (by decide +kernel) (by decide +kernel) (by decide +kernel) hsa (fun w h => List.mem_cons_of_mem _ (List.mem_append_right _ h)) (by decide +kernel) hX.2.2.2.2.1 (by decide +kernel) dX7_out_13 dX7_out_16 dX7_out_17 dX7_out_19 dX7_out_22 (by decide) (by decide) (by decide) (by decide) ⟨rfl, (by exact (if_neg c1).symm)⟩
