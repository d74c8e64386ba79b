-- OctalHouse$Bus.advanceDevices
def spX0_advanceDevices (σ : oh_St) : oh_St := (let s1 : oh_St := (spX2_advance σ 0); (let s2 : oh_St := (spX2_advance s1 1); (let s3 : oh_St := (spX2_advance s2 2); (let s4 : oh_St := (spX2_advance s3 3); s4))))
set_option maxHeartbeats 8000000 in
set_option maxRecDepth 100000 in
theorem mtX0_advanceDevices (l : Launch) (a : Nat → Nat) (k : Nat → ClassId) (D : va_G) (σ : oh_St)  : oh_Mv l yX0_advanceDevices wsX0_advanceDevices { frames := 2, cells := 0, slots := 0, locals := 41 } D (oh_ty k) (oh_W a k) [.ref (a 4)] σ (fun u => u = spX0_advanceDevices σ) := by
  refine oh_inv (cc := cX0_advanceDevices) (nL := 3) (rt := none) (by decide) rfl (Nat.le_of_ble_eq_true rfl) ?_
  intro p e s m below meth c A ls hC hP hD hS hl
  obtain ⟨hx, hb, hml, hown, hts, hr, hlocks, hK, hN, hA⟩ := id hC
  have hl : lv_has ls 3 [(0, .ref (a 4))] := hl
  refine lv_iconst (v := (0 : Int32)) hx hb dX0_advanceDevices_0 (by decide) ?_
  refine lv_istore_n (lv' := [(1, .int (0 : Int32)), (0, .ref (a 4))]) hx hb dX0_advanceDevices_1 rfl hl (by decide) rfl (fun ls hl => ?_)
  refine lv_iload_n hx hb dX0_advanceDevices_2 rfl (lv_at hl 0 rfl) ?_
  refine lv_iconst (v := (4 : Int32)) hx hb dX0_advanceDevices_3 (by decide) ?_
  refine lv_icmp_ge (tgt := 27) hx hb dX0_advanceDevices_4 (by decide) (fun c0 => absurd c0 (by decide)) (fun _ => ?_)
  refine lv_aload_n hx hb dX0_advanceDevices_7 rfl (lv_at hl 1 rfl) ?_
  refine lv_iload_n hx hb dX0_advanceDevices_8 rfl (lv_at hl 0 rfl) ?_
  refine oh_cvqp (As := [.int (0 : Int32)]) (rest := []) hC hP hD hS (mtX0_deviceAt_ l a k D σ (0 : Int32)) (cwV 1 hts gX0_advanceDevices_X0_deviceAt rfl rfl rfl (by decide +kernel) ⟨Nat.le_of_ble_eq_true rfl, Nat.le_of_ble_eq_true rfl⟩) 4 0 rfl rfl rfl hl.1 rfl (Nat.le_of_ble_eq_true rfl) dX0_advanceDevices_9 (fun H locs hP hD hS => ?_)
  rw [if_pos (show oh_ix (0 : Int32) 4 by decide)]
  refine W.eq (g2 := F0 m 12 ls ([.ref (a (17 + 0))])) rfl ?_
  refine lv_astore_n (lv' := [(2, .ref (a (17 + 0))), (1, .int (0 : Int32)), (0, .ref (a 4))]) hx hb dX0_advanceDevices_12 rfl hl (by decide) rfl (fun ls hl => ?_)
  refine lv_aload_n hx hb dX0_advanceDevices_13 rfl (lv_at hl 0 rfl) ?_
  refine lv_ifnull hx hb dX0_advanceDevices_14 ?_
  refine lv_aload_n hx hb dX0_advanceDevices_17 rfl (lv_at hl 0 rfl) ?_
  refine oh_cvv (As := []) (rest := []) hC hP hD hS (mtX2_advance l a k D σ (show 0 < 4 by decide)) (cwV 0 hts gX0_advanceDevices_X2_advance rfl rfl rfl (by decide +kernel) ⟨Nat.le_of_ble_eq_true rfl, Nat.le_of_ble_eq_true rfl⟩) (17 + 0) 2 (oh_gdv a k σ (show 0 < 4 by decide)) rfl rfl hl.1 rfl (Nat.le_of_ble_eq_true rfl) dX0_advanceDevices_18 (fun s1 H locs hs1 hP hD hS => ?_)
  refine lv_iinc (v := (1 : Int32)) (lv' := [(1, .int (1 : Int32)), (2, .ref (a (17 + 0))), (0, .ref (a 4))]) hx hb dX0_advanceDevices_21 hl (k := 1) rfl (by first | rfl | decide) (by decide) rfl (fun ls hl => ?_)
  refine lv_goto (tgt := 2) hx hb dX0_advanceDevices_24 (by decide) ?_
  refine lv_iload_n hx hb dX0_advanceDevices_2 rfl (lv_at hl 0 rfl) ?_
  refine lv_iconst (v := (4 : Int32)) hx hb dX0_advanceDevices_3 (by decide) ?_
  refine lv_icmp_ge (tgt := 27) hx hb dX0_advanceDevices_4 (by decide) (fun c0 => absurd c0 (by decide)) (fun _ => ?_)
  refine lv_aload_n hx hb dX0_advanceDevices_7 rfl (lv_at hl 2 rfl) ?_
  refine lv_iload_n hx hb dX0_advanceDevices_8 rfl (lv_at hl 0 rfl) ?_
  refine oh_cvqp (As := [.int (1 : Int32)]) (rest := []) hC hP hD hS (mtX0_deviceAt_ l a k D s1 (1 : Int32)) (cwV 1 hts gX0_advanceDevices_X0_deviceAt rfl rfl rfl (by decide +kernel) ⟨Nat.le_of_ble_eq_true rfl, Nat.le_of_ble_eq_true rfl⟩) 4 0 rfl rfl rfl hl.1 rfl (Nat.le_of_ble_eq_true rfl) dX0_advanceDevices_9 (fun H locs hP hD hS => ?_)
  rw [if_pos (show oh_ix (1 : Int32) 4 by decide)]
  refine W.eq (g2 := F0 m 12 ls ([.ref (a (17 + 1))])) rfl ?_
  refine lv_astore_n (lv' := [(2, .ref (a (17 + 1))), (1, .int (1 : Int32)), (0, .ref (a 4))]) hx hb dX0_advanceDevices_12 rfl hl (by decide) rfl (fun ls hl => ?_)
  refine lv_aload_n hx hb dX0_advanceDevices_13 rfl (lv_at hl 0 rfl) ?_
  refine lv_ifnull hx hb dX0_advanceDevices_14 ?_
  refine lv_aload_n hx hb dX0_advanceDevices_17 rfl (lv_at hl 0 rfl) ?_
  refine oh_cvv (As := []) (rest := []) hC hP hD hS (mtX2_advance l a k D s1 (show 1 < 4 by decide)) (cwV 0 hts gX0_advanceDevices_X2_advance rfl rfl rfl (by decide +kernel) ⟨Nat.le_of_ble_eq_true rfl, Nat.le_of_ble_eq_true rfl⟩) (17 + 1) 2 (oh_gdv a k s1 (show 1 < 4 by decide)) rfl rfl hl.1 rfl (Nat.le_of_ble_eq_true rfl) dX0_advanceDevices_18 (fun s2 H locs hs2 hP hD hS => ?_)
  refine lv_iinc (v := (2 : Int32)) (lv' := [(1, .int (2 : Int32)), (2, .ref (a (17 + 1))), (0, .ref (a 4))]) hx hb dX0_advanceDevices_21 hl (k := 1) rfl (by first | rfl | decide) (by decide) rfl (fun ls hl => ?_)
  refine lv_goto (tgt := 2) hx hb dX0_advanceDevices_24 (by decide) ?_
  refine lv_iload_n hx hb dX0_advanceDevices_2 rfl (lv_at hl 0 rfl) ?_
  refine lv_iconst (v := (4 : Int32)) hx hb dX0_advanceDevices_3 (by decide) ?_
  refine lv_icmp_ge (tgt := 27) hx hb dX0_advanceDevices_4 (by decide) (fun c0 => absurd c0 (by decide)) (fun _ => ?_)
  refine lv_aload_n hx hb dX0_advanceDevices_7 rfl (lv_at hl 2 rfl) ?_
  refine lv_iload_n hx hb dX0_advanceDevices_8 rfl (lv_at hl 0 rfl) ?_
  refine oh_cvqp (As := [.int (2 : Int32)]) (rest := []) hC hP hD hS (mtX0_deviceAt_ l a k D s2 (2 : Int32)) (cwV 1 hts gX0_advanceDevices_X0_deviceAt rfl rfl rfl (by decide +kernel) ⟨Nat.le_of_ble_eq_true rfl, Nat.le_of_ble_eq_true rfl⟩) 4 0 rfl rfl rfl hl.1 rfl (Nat.le_of_ble_eq_true rfl) dX0_advanceDevices_9 (fun H locs hP hD hS => ?_)
  rw [if_pos (show oh_ix (2 : Int32) 4 by decide)]
  refine W.eq (g2 := F0 m 12 ls ([.ref (a (17 + 2))])) rfl ?_
  refine lv_astore_n (lv' := [(2, .ref (a (17 + 2))), (1, .int (2 : Int32)), (0, .ref (a 4))]) hx hb dX0_advanceDevices_12 rfl hl (by decide) rfl (fun ls hl => ?_)
  refine lv_aload_n hx hb dX0_advanceDevices_13 rfl (lv_at hl 0 rfl) ?_
  refine lv_ifnull hx hb dX0_advanceDevices_14 ?_
  refine lv_aload_n hx hb dX0_advanceDevices_17 rfl (lv_at hl 0 rfl) ?_
  refine oh_cvv (As := []) (rest := []) hC hP hD hS (mtX2_advance l a k D s2 (show 2 < 4 by decide)) (cwV 0 hts gX0_advanceDevices_X2_advance rfl rfl rfl (by decide +kernel) ⟨Nat.le_of_ble_eq_true rfl, Nat.le_of_ble_eq_true rfl⟩) (17 + 2) 2 (oh_gdv a k s2 (show 2 < 4 by decide)) rfl rfl hl.1 rfl (Nat.le_of_ble_eq_true rfl) dX0_advanceDevices_18 (fun s3 H locs hs3 hP hD hS => ?_)
  refine lv_iinc (v := (3 : Int32)) (lv' := [(1, .int (3 : Int32)), (2, .ref (a (17 + 2))), (0, .ref (a 4))]) hx hb dX0_advanceDevices_21 hl (k := 1) rfl (by first | rfl | decide) (by decide) rfl (fun ls hl => ?_)
  refine lv_goto (tgt := 2) hx hb dX0_advanceDevices_24 (by decide) ?_
  refine lv_iload_n hx hb dX0_advanceDevices_2 rfl (lv_at hl 0 rfl) ?_
  refine lv_iconst (v := (4 : Int32)) hx hb dX0_advanceDevices_3 (by decide) ?_
  refine lv_icmp_ge (tgt := 27) hx hb dX0_advanceDevices_4 (by decide) (fun c0 => absurd c0 (by decide)) (fun _ => ?_)
  refine lv_aload_n hx hb dX0_advanceDevices_7 rfl (lv_at hl 2 rfl) ?_
  refine lv_iload_n hx hb dX0_advanceDevices_8 rfl (lv_at hl 0 rfl) ?_
  refine oh_cvqp (As := [.int (3 : Int32)]) (rest := []) hC hP hD hS (mtX0_deviceAt_ l a k D s3 (3 : Int32)) (cwV 1 hts gX0_advanceDevices_X0_deviceAt rfl rfl rfl (by decide +kernel) ⟨Nat.le_of_ble_eq_true rfl, Nat.le_of_ble_eq_true rfl⟩) 4 0 rfl rfl rfl hl.1 rfl (Nat.le_of_ble_eq_true rfl) dX0_advanceDevices_9 (fun H locs hP hD hS => ?_)
  rw [if_pos (show oh_ix (3 : Int32) 4 by decide)]
  refine W.eq (g2 := F0 m 12 ls ([.ref (a (17 + 3))])) rfl ?_
  refine lv_astore_n (lv' := [(2, .ref (a (17 + 3))), (1, .int (3 : Int32)), (0, .ref (a 4))]) hx hb dX0_advanceDevices_12 rfl hl (by decide) rfl (fun ls hl => ?_)
  refine lv_aload_n hx hb dX0_advanceDevices_13 rfl (lv_at hl 0 rfl) ?_
  refine lv_ifnull hx hb dX0_advanceDevices_14 ?_
  refine lv_aload_n hx hb dX0_advanceDevices_17 rfl (lv_at hl 0 rfl) ?_
  refine oh_cvv (As := []) (rest := []) hC hP hD hS (mtX2_advance l a k D s3 (show 3 < 4 by decide)) (cwV 0 hts gX0_advanceDevices_X2_advance rfl rfl rfl (by decide +kernel) ⟨Nat.le_of_ble_eq_true rfl, Nat.le_of_ble_eq_true rfl⟩) (17 + 3) 2 (oh_gdv a k s3 (show 3 < 4 by decide)) rfl rfl hl.1 rfl (Nat.le_of_ble_eq_true rfl) dX0_advanceDevices_18 (fun s4 H locs hs4 hP hD hS => ?_)
  refine lv_iinc (v := (4 : Int32)) (lv' := [(1, .int (4 : Int32)), (2, .ref (a (17 + 3))), (0, .ref (a 4))]) hx hb dX0_advanceDevices_21 hl (k := 1) rfl (by first | rfl | decide) (by decide) rfl (fun ls hl => ?_)
  refine lv_goto (tgt := 2) hx hb dX0_advanceDevices_24 (by decide) ?_
  refine lv_iload_n hx hb dX0_advanceDevices_2 rfl (lv_at hl 0 rfl) ?_
  refine lv_iconst (v := (4 : Int32)) hx hb dX0_advanceDevices_3 (by decide) ?_
  refine lv_icmp_ge (tgt := 27) hx hb dX0_advanceDevices_4 (by decide) (fun _ => ?_) (fun c0 => absurd c0 (by decide))
  exact oh_retv (u := s4) hC hP hD hS (by subst hs4 hs3 hs2 hs1; exact rfl) dX0_advanceDevices_27
-- OctalHouse$Bus.advanceChannels
theorem inX0_advanceChannels_X1 : ∀ w ∈ u_ws RX1 TX1 8, w ∈ wsX0_advanceChannels := by decide +kernel
theorem inX0_advanceChannels_X2 : ∀ w ∈ u_ws RX2 TX2 10, w ∈ wsX0_advanceChannels := by decide +kernel
theorem inX0_advanceChannels_X3 : ∀ w ∈ u_ws RX3 TX3 3, w ∈ wsX0_advanceChannels := by decide +kernel
def spX0_advanceChannels (σ : oh_St) : oh_St := (let s5 : oh_St := (if (σ 5 (6 + 0)) = (0 : Int32) then σ else (if oh_ix (((σ 9 (6 + 0)) &&& (63 : Int32)) - (8 : Int32)) 4 then (if (σ 3 (6 + (2 + (((σ 9 (6 + 0)) &&& (63 : Int32)) - (8 : Int32)).toNatClampNeg))) = (0 : Int32) then σ else (let s4 : oh_St := (spX1_move σ 0 ((((σ 9 (6 + 0)) &&& (63 : Int32)) - (8 : Int32)).toNatClampNeg)); s4)) else σ)); (let s10 : oh_St := (if (s5 5 (6 + 1)) = (0 : Int32) then s5 else (if oh_ix (((s5 9 (6 + 1)) &&& (63 : Int32)) - (8 : Int32)) 4 then (if (s5 3 (6 + (2 + (((s5 9 (6 + 1)) &&& (63 : Int32)) - (8 : Int32)).toNatClampNeg))) = (0 : Int32) then s5 else (let s9 : oh_St := (spX1_move s5 1 ((((s5 9 (6 + 1)) &&& (63 : Int32)) - (8 : Int32)).toNatClampNeg)); s9)) else s5)); s10))
set_option maxHeartbeats 8000000 in
set_option maxRecDepth 100000 in
theorem mtX0_advanceChannels (l : Launch) (a : Nat → Nat) (k : Nat → ClassId) (D : va_G) (σ : oh_St)  : oh_Mv l yX0_advanceChannels wsX0_advanceChannels { frames := 3, cells := 0, slots := 0, locals := 64 } D (oh_ty k) (oh_W a k) [.ref (a 4), .ref (a 1)] σ (fun u => u = spX0_advanceChannels σ) := by
  refine oh_inv (cc := cX0_advanceChannels) (nL := 5) (rt := none) (by decide) rfl (Nat.le_of_ble_eq_true rfl) ?_
  intro p e s m below meth c A ls hC hP hD hS hl
  obtain ⟨hx, hb, hml, hown, hts, hr, hlocks, hK, hN, hA⟩ := id hC
  have hl : lv_has ls 5 [(0, .ref (a 4)), (1, .ref (a 1))] := hl
  refine lv_iconst (v := (0 : Int32)) hx hb dX0_advanceChannels_0 (by decide) ?_
  refine lv_istore_n (lv' := [(2, .int (0 : Int32)), (0, .ref (a 4)), (1, .ref (a 1))]) hx hb dX0_advanceChannels_1 rfl hl (by decide) rfl (fun ls hl => ?_)
  refine lv_iload_n hx hb dX0_advanceChannels_2 rfl (lv_at hl 0 rfl) ?_
  refine lv_iconst (v := (2 : Int32)) hx hb dX0_advanceChannels_3 (by decide) ?_
  refine lv_icmp_ge (tgt := 69) hx hb dX0_advanceChannels_4 (by decide) (fun c0 => absurd c0 (by decide)) (fun _ => ?_)
  refine lv_aload_n hx hb dX0_advanceChannels_7 rfl (lv_at hl 1 rfl) ?_
  refine lv_iload_n hx hb dX0_advanceChannels_8 rfl (lv_at hl 0 rfl) ?_
  refine oh_cvqp (As := [.int (0 : Int32)]) (rest := []) hC hP hD hS (mtX0_channelAt_ l a k D σ (0 : Int32)) (cwV 1 hts gX0_advanceChannels_X0_channelAt rfl rfl rfl (by decide +kernel) ⟨Nat.le_of_ble_eq_true rfl, Nat.le_of_ble_eq_true rfl⟩) 4 0 rfl rfl rfl hl.1 rfl (Nat.le_of_ble_eq_true rfl) dX0_advanceChannels_9 (fun H locs hP hD hS => ?_)
  rw [if_pos (show oh_ix (0 : Int32) 2 by decide)]
  refine W.eq (g2 := F0 m 12 ls ([.ref (a (15 + 0))])) rfl ?_
  refine lv_astore_n (lv' := [(3, .ref (a (15 + 0))), (2, .int (0 : Int32)), (0, .ref (a 4)), (1, .ref (a 1))]) hx hb dX0_advanceChannels_12 rfl hl (by decide) rfl (fun ls hl => ?_)
  refine lv_aload_n hx hb dX0_advanceChannels_13 rfl (lv_at hl 0 rfl) ?_
  refine lv_ifnull hx hb dX0_advanceChannels_14 ?_
  refine lv_aload_n hx hb dX0_advanceChannels_17 rfl (lv_at hl 0 rfl) ?_
  refine oh_getN (v := .int (σ 5 (6 + 0))) hC hP inX0_advanceChannels_X1 (15 + 0) (oh_gch a k σ (show 0 < 2 by decide)) rfl 1 (by decide) (by decide +kernel) rfl dX0_advanceChannels_18 ?_
  have K12 : ∀ s5 : oh_St, s5 = (if (σ 5 (6 + 0)) = (0 : Int32) then σ else (if oh_ix (((σ 9 (6 + 0)) &&& (63 : Int32)) - (8 : Int32)) 4 then (if (σ 3 (6 + (2 + (((σ 9 (6 + 0)) &&& (63 : Int32)) - (8 : Int32)).toNatClampNeg))) = (0 : Int32) then σ else (let s4 : oh_St := (spX1_move σ 0 ((((σ 9 (6 + 0)) &&& (63 : Int32)) - (8 : Int32)).toNatClampNeg)); s4)) else σ)) → ∀ (ls : Array Slot) (H : Heap) (locs : List Loc), va_P D vwCl (oh_W a k s5) H → va_D A (oh_W a k s5) → va_S A s.heap H locs → lv_has ls 5 [(3, .ref (a (15 + 0))), (2, .int (0 : Int32)), (0, .ref (a 4)), (1, .ref (a 1))] → W p l e ({ frames := 3, cells := 0, slots := 0, locals := 64 } : Room) s m (([.ref (a 4), .ref (a 1)] : List Value).toArray) below meth c H locs 0 0 (oh_Ev below (fun u => u = spX0_advanceChannels σ) D (oh_W a k) A [.ref (a 4), .ref (a 1)] s) (F0 m 63 ls []) := by
    intro s5 hs5 ls H locs hP hD hS hl
    refine lv_iinc (v := (1 : Int32)) (lv' := [(2, .int (1 : Int32)), (3, .ref (a (15 + 0))), (0, .ref (a 4)), (1, .ref (a 1))]) hx hb dX0_advanceChannels_63 hl (k := 1) rfl (by first | rfl | decide) (by decide) rfl (fun ls hl => ?_)
    refine lv_goto (tgt := 2) hx hb dX0_advanceChannels_66 (by decide) ?_
    refine lv_iload_n hx hb dX0_advanceChannels_2 rfl (lv_at hl 0 rfl) ?_
    refine lv_iconst (v := (2 : Int32)) hx hb dX0_advanceChannels_3 (by decide) ?_
    refine lv_icmp_ge (tgt := 69) hx hb dX0_advanceChannels_4 (by decide) (fun c0 => absurd c0 (by decide)) (fun _ => ?_)
    refine lv_aload_n hx hb dX0_advanceChannels_7 rfl (lv_at hl 2 rfl) ?_
    refine lv_iload_n hx hb dX0_advanceChannels_8 rfl (lv_at hl 0 rfl) ?_
    refine oh_cvqp (As := [.int (1 : Int32)]) (rest := []) hC hP hD hS (mtX0_channelAt_ l a k D s5 (1 : Int32)) (cwV 1 hts gX0_advanceChannels_X0_channelAt rfl rfl rfl (by decide +kernel) ⟨Nat.le_of_ble_eq_true rfl, Nat.le_of_ble_eq_true rfl⟩) 4 0 rfl rfl rfl hl.1 rfl (Nat.le_of_ble_eq_true rfl) dX0_advanceChannels_9 (fun H locs hP hD hS => ?_)
    rw [if_pos (show oh_ix (1 : Int32) 2 by decide)]
    refine W.eq (g2 := F0 m 12 ls ([.ref (a (15 + 1))])) rfl ?_
    refine lv_astore_n (lv' := [(3, .ref (a (15 + 1))), (2, .int (1 : Int32)), (0, .ref (a 4)), (1, .ref (a 1))]) hx hb dX0_advanceChannels_12 rfl hl (by decide) rfl (fun ls hl => ?_)
    refine lv_aload_n hx hb dX0_advanceChannels_13 rfl (lv_at hl 0 rfl) ?_
    refine lv_ifnull hx hb dX0_advanceChannels_14 ?_
    refine lv_aload_n hx hb dX0_advanceChannels_17 rfl (lv_at hl 0 rfl) ?_
    refine oh_getN (v := .int (s5 5 (6 + 1))) hC hP inX0_advanceChannels_X1 (15 + 1) (oh_gch a k s5 (show 1 < 2 by decide)) rfl 1 (by decide) (by decide +kernel) rfl dX0_advanceChannels_18 ?_
    have K11 : ∀ s10 : oh_St, s10 = (if (s5 5 (6 + 1)) = (0 : Int32) then s5 else (if oh_ix (((s5 9 (6 + 1)) &&& (63 : Int32)) - (8 : Int32)) 4 then (if (s5 3 (6 + (2 + (((s5 9 (6 + 1)) &&& (63 : Int32)) - (8 : Int32)).toNatClampNeg))) = (0 : Int32) then s5 else (let s9 : oh_St := (spX1_move s5 1 ((((s5 9 (6 + 1)) &&& (63 : Int32)) - (8 : Int32)).toNatClampNeg)); s9)) else s5)) → ∀ (ls : Array Slot) (H : Heap) (locs : List Loc), va_P D vwCl (oh_W a k s10) H → va_D A (oh_W a k s10) → va_S A s.heap H locs → lv_has ls 5 [(3, .ref (a (15 + 1))), (2, .int (1 : Int32)), (0, .ref (a 4)), (1, .ref (a 1))] → W p l e ({ frames := 3, cells := 0, slots := 0, locals := 64 } : Room) s m (([.ref (a 4), .ref (a 1)] : List Value).toArray) below meth c H locs 0 0 (oh_Ev below (fun u => u = spX0_advanceChannels σ) D (oh_W a k) A [.ref (a 4), .ref (a 1)] s) (F0 m 63 ls []) := by
      intro s10 hs10 ls H locs hP hD hS hl
      refine lv_iinc (v := (2 : Int32)) (lv' := [(2, .int (2 : Int32)), (3, .ref (a (15 + 1))), (0, .ref (a 4)), (1, .ref (a 1))]) hx hb dX0_advanceChannels_63 hl (k := 1) rfl (by first | rfl | decide) (by decide) rfl (fun ls hl => ?_)
      refine lv_goto (tgt := 2) hx hb dX0_advanceChannels_66 (by decide) ?_
      refine lv_iload_n hx hb dX0_advanceChannels_2 rfl (lv_at hl 0 rfl) ?_
      refine lv_iconst (v := (2 : Int32)) hx hb dX0_advanceChannels_3 (by decide) ?_
      refine lv_icmp_ge (tgt := 69) hx hb dX0_advanceChannels_4 (by decide) (fun _ => ?_) (fun c0 => absurd c0 (by decide))
      exact oh_retv (u := s10) hC hP hD hS (by subst hs10 hs5; exact rfl) dX0_advanceChannels_69
    refine lv_if_eq (tgt := 63) hx hb dX0_advanceChannels_21 (by decide) (fun c6 => ?_) (fun c6 => ?_)
    · exact K11 _ (if_pos c6).symm ls _ _ hP hD hS (lv_sub hl [0, 1, 2, 3] rfl)
    · refine lv_aload_n hx hb dX0_advanceChannels_24 rfl (lv_at hl 2 rfl) ?_
      refine lv_aload_n hx hb dX0_advanceChannels_25 rfl (lv_at hl 0 rfl) ?_
      refine oh_getN (v := .int (s5 9 (6 + 1))) hC hP inX0_advanceChannels_X1 (15 + 1) (oh_gch a k s5 (show 1 < 2 by decide)) rfl 5 (by decide) (by decide +kernel) rfl dX0_advanceChannels_26 ?_
      refine lv_bipush (v := (63 : Int32)) hx hb dX0_advanceChannels_29 (by decide) ?_
      refine lv_iand hx hb dX0_advanceChannels_31 ?_
      refine lv_bipush (v := (8 : Int32)) hx hb dX0_advanceChannels_32 (by decide) ?_
      refine lv_isub hx hb dX0_advanceChannels_34 ?_
      refine oh_cvqp (As := [.int (((s5 9 (6 + 1)) &&& (63 : Int32)) - (8 : Int32))]) (rest := []) hC hP hD hS (mtX0_deviceAt_ l a k D s5 (((s5 9 (6 + 1)) &&& (63 : Int32)) - (8 : Int32))) (cwV 1 hts gX0_advanceChannels_X0_deviceAt rfl rfl rfl (by decide +kernel) ⟨Nat.le_of_ble_eq_true rfl, Nat.le_of_ble_eq_true rfl⟩) 4 0 rfl rfl rfl hl.1 rfl (Nat.le_of_ble_eq_true rfl) dX0_advanceChannels_35 (fun H locs hP hD hS => ?_)
      by_cases c7 : oh_ix (((s5 9 (6 + 1)) &&& (63 : Int32)) - (8 : Int32)) 4
      · rw [if_pos c7]
        refine W.eq (g2 := F0 m 38 ls ([.ref (a (17 + (((s5 9 (6 + 1)) &&& (63 : Int32)) - (8 : Int32)).toNatClampNeg))])) rfl ?_
        refine lv_astore (lv' := [(4, .ref (a (17 + (((s5 9 (6 + 1)) &&& (63 : Int32)) - (8 : Int32)).toNatClampNeg))), (3, .ref (a (15 + 1))), (2, .int (1 : Int32)), (0, .ref (a 4)), (1, .ref (a 1))]) hx hb dX0_advanceChannels_38 hl (by decide) rfl (fun ls hl => ?_)
        refine lv_aload hx hb dX0_advanceChannels_40 (lv_at hl 0 rfl) ?_
        refine lv_ifnull hx hb dX0_advanceChannels_42 ?_
        refine lv_aload hx hb dX0_advanceChannels_45 (lv_at hl 0 rfl) ?_
        refine oh_getN (v := .ref (a (9 + (2 + (((s5 9 (6 + 1)) &&& (63 : Int32)) - (8 : Int32)).toNatClampNeg)))) hC hP inX0_advanceChannels_X2 (17 + (((s5 9 (6 + 1)) &&& (63 : Int32)) - (8 : Int32)).toNatClampNeg) (oh_gdv a k s5 (oh_ixN c7)) rfl 0 (by decide) (by decide +kernel) rfl dX0_advanceChannels_47 ?_
        refine oh_getN (v := .int (s5 3 (6 + (2 + (((s5 9 (6 + 1)) &&& (63 : Int32)) - (8 : Int32)).toNatClampNeg)))) hC hP inX0_advanceChannels_X3 (9 + (2 + (((s5 9 (6 + 1)) &&& (63 : Int32)) - (8 : Int32)).toNatClampNeg)) (oh_gln a k s5 (oh_l2 (oh_ixN c7))) rfl 1 (by decide) (by decide +kernel) rfl dX0_advanceChannels_50 ?_
        refine lv_if_eq (tgt := 63) hx hb dX0_advanceChannels_53 (by decide) (fun c8 => ?_) (fun c8 => ?_)
        · exact K11 _ (((if_neg c6).trans (if_pos c7)).trans (if_pos c8)).symm ls _ _ hP hD hS (lv_sub hl [1, 2, 3, 4] rfl)
        · refine lv_aload_n hx hb dX0_advanceChannels_56 rfl (lv_at hl 1 rfl) ?_
          refine lv_aload hx hb dX0_advanceChannels_57 (lv_at hl 0 rfl) ?_
          refine lv_aload_n hx hb dX0_advanceChannels_59 rfl (lv_at hl 4 rfl) ?_
          refine oh_cvv (As := [.ref (a (17 + (((s5 9 (6 + 1)) &&& (63 : Int32)) - (8 : Int32)).toNatClampNeg)), .ref (a 1)]) (rest := []) hC hP hD hS (mtX1_move l a k D s5 (show 1 < 2 by decide) (oh_ixN c7)) (cwV 2 hts gX0_advanceChannels_X1_move rfl rfl rfl (by decide +kernel) ⟨Nat.le_of_ble_eq_true rfl, Nat.le_of_ble_eq_true rfl⟩) (15 + 1) 1 (oh_gch a k s5 (show 1 < 2 by decide)) rfl rfl hl.1 rfl (Nat.le_of_ble_eq_true rfl) dX0_advanceChannels_60 (fun s9 H locs hs9 hP hD hS => ?_)
          exact K11 _ (by subst hs9; exact (((if_neg c6).trans (if_pos c7)).trans (if_neg c8)).symm) ls _ _ hP hD hS (lv_sub hl [1, 2, 3, 4] rfl)
      · rw [if_neg c7]
        refine W.eq (g2 := F0 m 38 ls ([.null])) rfl ?_
        refine lv_astoreN (lv' := [(4, .null), (3, .ref (a (15 + 1))), (2, .int (1 : Int32)), (0, .ref (a 4)), (1, .ref (a 1))]) hx hb dX0_advanceChannels_38 hl (by decide) rfl (fun ls hl => ?_)
        refine lv_aloadN hx hb dX0_advanceChannels_40 (lv_at hl 0 rfl) ?_
        refine lv_ifnullN (tgt := 63) hx hb dX0_advanceChannels_42 (by decide) ?_
        exact K11 _ ((if_neg c6).trans (if_neg c7)).symm ls _ _ hP hD hS (lv_sub hl [1, 2, 3, 4] rfl)
  refine lv_if_eq (tgt := 63) hx hb dX0_advanceChannels_21 (by decide) (fun c1 => ?_) (fun c1 => ?_)
  · exact K12 _ (if_pos c1).symm ls _ _ hP hD hS (lv_sub hl [0, 1, 2, 3] rfl)
  · refine lv_aload_n hx hb dX0_advanceChannels_24 rfl (lv_at hl 2 rfl) ?_
    refine lv_aload_n hx hb dX0_advanceChannels_25 rfl (lv_at hl 0 rfl) ?_
    refine oh_getN (v := .int (σ 9 (6 + 0))) hC hP inX0_advanceChannels_X1 (15 + 0) (oh_gch a k σ (show 0 < 2 by decide)) rfl 5 (by decide) (by decide +kernel) rfl dX0_advanceChannels_26 ?_
    refine lv_bipush (v := (63 : Int32)) hx hb dX0_advanceChannels_29 (by decide) ?_
    refine lv_iand hx hb dX0_advanceChannels_31 ?_
    refine lv_bipush (v := (8 : Int32)) hx hb dX0_advanceChannels_32 (by decide) ?_
    refine lv_isub hx hb dX0_advanceChannels_34 ?_
    refine oh_cvqp (As := [.int (((σ 9 (6 + 0)) &&& (63 : Int32)) - (8 : Int32))]) (rest := []) hC hP hD hS (mtX0_deviceAt_ l a k D σ (((σ 9 (6 + 0)) &&& (63 : Int32)) - (8 : Int32))) (cwV 1 hts gX0_advanceChannels_X0_deviceAt rfl rfl rfl (by decide +kernel) ⟨Nat.le_of_ble_eq_true rfl, Nat.le_of_ble_eq_true rfl⟩) 4 0 rfl rfl rfl hl.1 rfl (Nat.le_of_ble_eq_true rfl) dX0_advanceChannels_35 (fun H locs hP hD hS => ?_)
    by_cases c2 : oh_ix (((σ 9 (6 + 0)) &&& (63 : Int32)) - (8 : Int32)) 4
    · rw [if_pos c2]
      refine W.eq (g2 := F0 m 38 ls ([.ref (a (17 + (((σ 9 (6 + 0)) &&& (63 : Int32)) - (8 : Int32)).toNatClampNeg))])) rfl ?_
      refine lv_astore (lv' := [(4, .ref (a (17 + (((σ 9 (6 + 0)) &&& (63 : Int32)) - (8 : Int32)).toNatClampNeg))), (3, .ref (a (15 + 0))), (2, .int (0 : Int32)), (0, .ref (a 4)), (1, .ref (a 1))]) hx hb dX0_advanceChannels_38 hl (by decide) rfl (fun ls hl => ?_)
      refine lv_aload hx hb dX0_advanceChannels_40 (lv_at hl 0 rfl) ?_
      refine lv_ifnull hx hb dX0_advanceChannels_42 ?_
      refine lv_aload hx hb dX0_advanceChannels_45 (lv_at hl 0 rfl) ?_
      refine oh_getN (v := .ref (a (9 + (2 + (((σ 9 (6 + 0)) &&& (63 : Int32)) - (8 : Int32)).toNatClampNeg)))) hC hP inX0_advanceChannels_X2 (17 + (((σ 9 (6 + 0)) &&& (63 : Int32)) - (8 : Int32)).toNatClampNeg) (oh_gdv a k σ (oh_ixN c2)) rfl 0 (by decide) (by decide +kernel) rfl dX0_advanceChannels_47 ?_
      refine oh_getN (v := .int (σ 3 (6 + (2 + (((σ 9 (6 + 0)) &&& (63 : Int32)) - (8 : Int32)).toNatClampNeg)))) hC hP inX0_advanceChannels_X3 (9 + (2 + (((σ 9 (6 + 0)) &&& (63 : Int32)) - (8 : Int32)).toNatClampNeg)) (oh_gln a k σ (oh_l2 (oh_ixN c2))) rfl 1 (by decide) (by decide +kernel) rfl dX0_advanceChannels_50 ?_
      refine lv_if_eq (tgt := 63) hx hb dX0_advanceChannels_53 (by decide) (fun c3 => ?_) (fun c3 => ?_)
      · exact K12 _ (((if_neg c1).trans (if_pos c2)).trans (if_pos c3)).symm ls _ _ hP hD hS (lv_sub hl [1, 2, 3, 4] rfl)
      · refine lv_aload_n hx hb dX0_advanceChannels_56 rfl (lv_at hl 1 rfl) ?_
        refine lv_aload hx hb dX0_advanceChannels_57 (lv_at hl 0 rfl) ?_
        refine lv_aload_n hx hb dX0_advanceChannels_59 rfl (lv_at hl 4 rfl) ?_
        refine oh_cvv (As := [.ref (a (17 + (((σ 9 (6 + 0)) &&& (63 : Int32)) - (8 : Int32)).toNatClampNeg)), .ref (a 1)]) (rest := []) hC hP hD hS (mtX1_move l a k D σ (show 0 < 2 by decide) (oh_ixN c2)) (cwV 2 hts gX0_advanceChannels_X1_move rfl rfl rfl (by decide +kernel) ⟨Nat.le_of_ble_eq_true rfl, Nat.le_of_ble_eq_true rfl⟩) (15 + 0) 1 (oh_gch a k σ (show 0 < 2 by decide)) rfl rfl hl.1 rfl (Nat.le_of_ble_eq_true rfl) dX0_advanceChannels_60 (fun s4 H locs hs4 hP hD hS => ?_)
        exact K12 _ (by subst hs4; exact (((if_neg c1).trans (if_pos c2)).trans (if_neg c3)).symm) ls _ _ hP hD hS (lv_sub hl [1, 2, 3, 4] rfl)
    · rw [if_neg c2]
      refine W.eq (g2 := F0 m 38 ls ([.null])) rfl ?_
      refine lv_astoreN (lv' := [(4, .null), (3, .ref (a (15 + 0))), (2, .int (0 : Int32)), (0, .ref (a 4)), (1, .ref (a 1))]) hx hb dX0_advanceChannels_38 hl (by decide) rfl (fun ls hl => ?_)
      refine lv_aloadN hx hb dX0_advanceChannels_40 (lv_at hl 0 rfl) ?_
      refine lv_ifnullN (tgt := 63) hx hb dX0_advanceChannels_42 (by decide) ?_
      exact K12 _ ((if_neg c1).trans (if_neg c2)).symm ls _ _ hP hD hS (lv_sub hl [1, 2, 3, 4] rfl)
-- OctalHouse$Bus.takeInterrupt
theorem inX0_takeInterrupt_X3 : ∀ w ∈ u_ws RX3 TX3 3, w ∈ wsX0_takeInterrupt := by decide +kernel
def spX0_takeInterrupt (σ : oh_St) : Int32 × oh_St := (let k30 : Int32 × oh_St := (let k28 : Int32 × oh_St := (let k26 : Int32 × oh_St := (let k24 : Int32 × oh_St := (let k22 : Int32 × oh_St := (let k20 : Int32 × oh_St := ((-1 : Int32), σ); (if (σ 2 (6 + 5)) = (0 : Int32) then k20 else (if (σ 3 (6 + 5)) = (0 : Int32) then k20 else (if (σ 4 (6 + 5)) = (0 : Int32) then ((-1 : Int32), (oh_up σ 4 (6 + 5) (0 : Int32))) else ((11 : Int32), (oh_up σ 4 (6 + 5) (0 : Int32))))))); (if (σ 2 (6 + 4)) = (0 : Int32) then k22 else (if (σ 3 (6 + 4)) = (0 : Int32) then k22 else (if (σ 4 (6 + 4)) = (0 : Int32) then ((-1 : Int32), (oh_up σ 4 (6 + 4) (0 : Int32))) else ((10 : Int32), (oh_up σ 4 (6 + 4) (0 : Int32))))))); (if (σ 2 (6 + 3)) = (0 : Int32) then k24 else (if (σ 3 (6 + 3)) = (0 : Int32) then k24 else (if (σ 4 (6 + 3)) = (0 : Int32) then ((-1 : Int32), (oh_up σ 4 (6 + 3) (0 : Int32))) else ((9 : Int32), (oh_up σ 4 (6 + 3) (0 : Int32))))))); (if (σ 2 (6 + 2)) = (0 : Int32) then k26 else (if (σ 3 (6 + 2)) = (0 : Int32) then k26 else (if (σ 4 (6 + 2)) = (0 : Int32) then ((-1 : Int32), (oh_up σ 4 (6 + 2) (0 : Int32))) else ((8 : Int32), (oh_up σ 4 (6 + 2) (0 : Int32))))))); (if (σ 2 (6 + 1)) = (0 : Int32) then k28 else (if (σ 3 (6 + 1)) = (0 : Int32) then k28 else (if (σ 4 (6 + 1)) = (0 : Int32) then ((-1 : Int32), (oh_up σ 4 (6 + 1) (0 : Int32))) else ((7 : Int32), (oh_up σ 4 (6 + 1) (0 : Int32))))))); (if (σ 2 (6 + 0)) = (0 : Int32) then k30 else (if (σ 3 (6 + 0)) = (0 : Int32) then k30 else (if (σ 4 (6 + 0)) = (0 : Int32) then ((-1 : Int32), (oh_up σ 4 (6 + 0) (0 : Int32))) else ((6 : Int32), (oh_up σ 4 (6 + 0) (0 : Int32)))))))
set_option maxHeartbeats 8000000 in
set_option maxRecDepth 100000 in
theorem mtX0_takeInterrupt (l : Launch) (a : Nat → Nat) (k : Nat → ClassId) (D : va_G) (σ : oh_St)  : oh_Mi l yX0_takeInterrupt wsX0_takeInterrupt { frames := 1, cells := 0, slots := 0, locals := 22 } D (oh_ty k) (oh_W a k) [.ref (a 4)] σ (fun r u => r = (spX0_takeInterrupt σ).1 ∧ u = (spX0_takeInterrupt σ).2) := by
  refine oh_ini (cc := cX0_takeInterrupt) (nL := 4) (rt := some .int) (by decide) rfl (Nat.le_of_ble_eq_true rfl) ?_
  intro p e s m below meth c A ls hC hP hD hS hl
  obtain ⟨hx, hb, hml, hown, hts, hr, hlocks, hK, hN, hA⟩ := id hC
  have hl : lv_has ls 4 [(0, .ref (a 4))] := hl
  refine lv_bipush (v := (6 : Int32)) hx hb dX0_takeInterrupt_0 (by decide) ?_
  refine lv_istore_n (lv' := [(1, .int (6 : Int32)), (0, .ref (a 4))]) hx hb dX0_takeInterrupt_2 rfl hl (by decide) rfl (fun ls hl => ?_)
  refine lv_iload_n hx hb dX0_takeInterrupt_3 rfl (lv_at hl 0 rfl) ?_
  refine lv_bipush (v := (11 : Int32)) hx hb dX0_takeInterrupt_4 (by decide) ?_
  refine lv_icmp_gt (tgt := 59) hx hb dX0_takeInterrupt_6 (by decide) (fun c0 => absurd c0 (by decide)) (fun _ => ?_)
  refine lv_aload_n hx hb dX0_takeInterrupt_9 rfl (lv_at hl 1 rfl) ?_
  refine lv_iload_n hx hb dX0_takeInterrupt_10 rfl (lv_at hl 0 rfl) ?_
  refine oh_cvqp (As := [.int (6 : Int32)]) (rest := []) hC hP hD hS (mtX0_lineOf_ l a k D σ (6 : Int32)) (cwV 1 hts gX0_takeInterrupt_X0_lineOf rfl rfl rfl (by decide +kernel) ⟨Nat.le_of_ble_eq_true rfl, Nat.le_of_ble_eq_true rfl⟩) 4 0 rfl rfl rfl hl.1 rfl (Nat.le_of_ble_eq_true rfl) dX0_takeInterrupt_11 (fun H locs hP hD hS => ?_)
  rw [if_pos (show oh_ix ((6 : Int32) - (6 : Int32)) 6 by decide)]
  refine W.eq (g2 := F0 m 14 ls ([.ref (a (9 + 0))])) rfl ?_
  refine lv_astore_n (lv' := [(2, .ref (a (9 + 0))), (1, .int (6 : Int32)), (0, .ref (a 4))]) hx hb dX0_takeInterrupt_14 rfl hl (by decide) rfl (fun ls hl => ?_)
  refine lv_aload_n hx hb dX0_takeInterrupt_15 rfl (lv_at hl 0 rfl) ?_
  refine lv_ifnull hx hb dX0_takeInterrupt_16 ?_
  refine lv_aload_n hx hb dX0_takeInterrupt_19 rfl (lv_at hl 0 rfl) ?_
  refine oh_getN (v := .int (σ 2 (6 + 0))) hC hP inX0_takeInterrupt_X3 (9 + 0) (oh_gln a k σ (show 0 < 6 by decide)) rfl 0 (by decide) (by decide +kernel) rfl dX0_takeInterrupt_20 ?_
  have K29 : (let k28 : Int32 × oh_St := (let k26 : Int32 × oh_St := (let k24 : Int32 × oh_St := (let k22 : Int32 × oh_St := (let k20 : Int32 × oh_St := ((-1 : Int32), σ); (if (σ 2 (6 + 5)) = (0 : Int32) then k20 else (if (σ 3 (6 + 5)) = (0 : Int32) then k20 else (if (σ 4 (6 + 5)) = (0 : Int32) then ((-1 : Int32), (oh_up σ 4 (6 + 5) (0 : Int32))) else ((11 : Int32), (oh_up σ 4 (6 + 5) (0 : Int32))))))); (if (σ 2 (6 + 4)) = (0 : Int32) then k22 else (if (σ 3 (6 + 4)) = (0 : Int32) then k22 else (if (σ 4 (6 + 4)) = (0 : Int32) then ((-1 : Int32), (oh_up σ 4 (6 + 4) (0 : Int32))) else ((10 : Int32), (oh_up σ 4 (6 + 4) (0 : Int32))))))); (if (σ 2 (6 + 3)) = (0 : Int32) then k24 else (if (σ 3 (6 + 3)) = (0 : Int32) then k24 else (if (σ 4 (6 + 3)) = (0 : Int32) then ((-1 : Int32), (oh_up σ 4 (6 + 3) (0 : Int32))) else ((9 : Int32), (oh_up σ 4 (6 + 3) (0 : Int32))))))); (if (σ 2 (6 + 2)) = (0 : Int32) then k26 else (if (σ 3 (6 + 2)) = (0 : Int32) then k26 else (if (σ 4 (6 + 2)) = (0 : Int32) then ((-1 : Int32), (oh_up σ 4 (6 + 2) (0 : Int32))) else ((8 : Int32), (oh_up σ 4 (6 + 2) (0 : Int32))))))); (if (σ 2 (6 + 1)) = (0 : Int32) then k28 else (if (σ 3 (6 + 1)) = (0 : Int32) then k28 else (if (σ 4 (6 + 1)) = (0 : Int32) then ((-1 : Int32), (oh_up σ 4 (6 + 1) (0 : Int32))) else ((7 : Int32), (oh_up σ 4 (6 + 1) (0 : Int32))))))) = spX0_takeInterrupt σ → ∀ (ls : Array Slot) (H : Heap) (locs : List Loc), va_P D vwCl (oh_W a k σ) H → va_D A (oh_W a k σ) → va_S A s.heap H locs → lv_has ls 4 [(2, .ref (a (9 + 0))), (1, .int (6 : Int32)), (0, .ref (a 4))] → W p l e ({ frames := 1, cells := 0, slots := 0, locals := 22 } : Room) s m (([.ref (a 4)] : List Value).toArray) below meth c H locs 0 0 (oh_Ei below (fun r u => r = (spX0_takeInterrupt σ).1 ∧ u = (spX0_takeInterrupt σ).2) D (oh_W a k) A [.ref (a 4)] s) (F0 m 53 ls []) := by
    intro hK29 ls H locs hP hD hS hl
    refine lv_iinc (v := (7 : Int32)) (lv' := [(1, .int (7 : Int32)), (2, .ref (a (9 + 0))), (0, .ref (a 4))]) hx hb dX0_takeInterrupt_53 hl (k := 1) rfl (by first | rfl | decide) (by decide) rfl (fun ls hl => ?_)
    refine lv_goto (tgt := 3) hx hb dX0_takeInterrupt_56 (by decide) ?_
    refine lv_iload_n hx hb dX0_takeInterrupt_3 rfl (lv_at hl 0 rfl) ?_
    refine lv_bipush (v := (11 : Int32)) hx hb dX0_takeInterrupt_4 (by decide) ?_
    refine lv_icmp_gt (tgt := 59) hx hb dX0_takeInterrupt_6 (by decide) (fun c0 => absurd c0 (by decide)) (fun _ => ?_)
    refine lv_aload_n hx hb dX0_takeInterrupt_9 rfl (lv_at hl 2 rfl) ?_
    refine lv_iload_n hx hb dX0_takeInterrupt_10 rfl (lv_at hl 0 rfl) ?_
    refine oh_cvqp (As := [.int (7 : Int32)]) (rest := []) hC hP hD hS (mtX0_lineOf_ l a k D σ (7 : Int32)) (cwV 1 hts gX0_takeInterrupt_X0_lineOf rfl rfl rfl (by decide +kernel) ⟨Nat.le_of_ble_eq_true rfl, Nat.le_of_ble_eq_true rfl⟩) 4 0 rfl rfl rfl hl.1 rfl (Nat.le_of_ble_eq_true rfl) dX0_takeInterrupt_11 (fun H locs hP hD hS => ?_)
    rw [if_pos (show oh_ix ((7 : Int32) - (6 : Int32)) 6 by decide)]
    refine W.eq (g2 := F0 m 14 ls ([.ref (a (9 + 1))])) rfl ?_
    refine lv_astore_n (lv' := [(2, .ref (a (9 + 1))), (1, .int (7 : Int32)), (0, .ref (a 4))]) hx hb dX0_takeInterrupt_14 rfl hl (by decide) rfl (fun ls hl => ?_)
    refine lv_aload_n hx hb dX0_takeInterrupt_15 rfl (lv_at hl 0 rfl) ?_
    refine lv_ifnull hx hb dX0_takeInterrupt_16 ?_
    refine lv_aload_n hx hb dX0_takeInterrupt_19 rfl (lv_at hl 0 rfl) ?_
    refine oh_getN (v := .int (σ 2 (6 + 1))) hC hP inX0_takeInterrupt_X3 (9 + 1) (oh_gln a k σ (show 1 < 6 by decide)) rfl 0 (by decide) (by decide +kernel) rfl dX0_takeInterrupt_20 ?_
    have K27 : (let k26 : Int32 × oh_St := (let k24 : Int32 × oh_St := (let k22 : Int32 × oh_St := (let k20 : Int32 × oh_St := ((-1 : Int32), σ); (if (σ 2 (6 + 5)) = (0 : Int32) then k20 else (if (σ 3 (6 + 5)) = (0 : Int32) then k20 else (if (σ 4 (6 + 5)) = (0 : Int32) then ((-1 : Int32), (oh_up σ 4 (6 + 5) (0 : Int32))) else ((11 : Int32), (oh_up σ 4 (6 + 5) (0 : Int32))))))); (if (σ 2 (6 + 4)) = (0 : Int32) then k22 else (if (σ 3 (6 + 4)) = (0 : Int32) then k22 else (if (σ 4 (6 + 4)) = (0 : Int32) then ((-1 : Int32), (oh_up σ 4 (6 + 4) (0 : Int32))) else ((10 : Int32), (oh_up σ 4 (6 + 4) (0 : Int32))))))); (if (σ 2 (6 + 3)) = (0 : Int32) then k24 else (if (σ 3 (6 + 3)) = (0 : Int32) then k24 else (if (σ 4 (6 + 3)) = (0 : Int32) then ((-1 : Int32), (oh_up σ 4 (6 + 3) (0 : Int32))) else ((9 : Int32), (oh_up σ 4 (6 + 3) (0 : Int32))))))); (if (σ 2 (6 + 2)) = (0 : Int32) then k26 else (if (σ 3 (6 + 2)) = (0 : Int32) then k26 else (if (σ 4 (6 + 2)) = (0 : Int32) then ((-1 : Int32), (oh_up σ 4 (6 + 2) (0 : Int32))) else ((8 : Int32), (oh_up σ 4 (6 + 2) (0 : Int32))))))) = spX0_takeInterrupt σ → ∀ (ls : Array Slot) (H : Heap) (locs : List Loc), va_P D vwCl (oh_W a k σ) H → va_D A (oh_W a k σ) → va_S A s.heap H locs → lv_has ls 4 [(2, .ref (a (9 + 1))), (1, .int (7 : Int32)), (0, .ref (a 4))] → W p l e ({ frames := 1, cells := 0, slots := 0, locals := 22 } : Room) s m (([.ref (a 4)] : List Value).toArray) below meth c H locs 0 0 (oh_Ei below (fun r u => r = (spX0_takeInterrupt σ).1 ∧ u = (spX0_takeInterrupt σ).2) D (oh_W a k) A [.ref (a 4)] s) (F0 m 53 ls []) := by
      intro hK27 ls H locs hP hD hS hl
      refine lv_iinc (v := (8 : Int32)) (lv' := [(1, .int (8 : Int32)), (2, .ref (a (9 + 1))), (0, .ref (a 4))]) hx hb dX0_takeInterrupt_53 hl (k := 1) rfl (by first | rfl | decide) (by decide) rfl (fun ls hl => ?_)
      refine lv_goto (tgt := 3) hx hb dX0_takeInterrupt_56 (by decide) ?_
      refine lv_iload_n hx hb dX0_takeInterrupt_3 rfl (lv_at hl 0 rfl) ?_
      refine lv_bipush (v := (11 : Int32)) hx hb dX0_takeInterrupt_4 (by decide) ?_
      refine lv_icmp_gt (tgt := 59) hx hb dX0_takeInterrupt_6 (by decide) (fun c0 => absurd c0 (by decide)) (fun _ => ?_)
      refine lv_aload_n hx hb dX0_takeInterrupt_9 rfl (lv_at hl 2 rfl) ?_
      refine lv_iload_n hx hb dX0_takeInterrupt_10 rfl (lv_at hl 0 rfl) ?_
      refine oh_cvqp (As := [.int (8 : Int32)]) (rest := []) hC hP hD hS (mtX0_lineOf_ l a k D σ (8 : Int32)) (cwV 1 hts gX0_takeInterrupt_X0_lineOf rfl rfl rfl (by decide +kernel) ⟨Nat.le_of_ble_eq_true rfl, Nat.le_of_ble_eq_true rfl⟩) 4 0 rfl rfl rfl hl.1 rfl (Nat.le_of_ble_eq_true rfl) dX0_takeInterrupt_11 (fun H locs hP hD hS => ?_)
      rw [if_pos (show oh_ix ((8 : Int32) - (6 : Int32)) 6 by decide)]
      refine W.eq (g2 := F0 m 14 ls ([.ref (a (9 + 2))])) rfl ?_
      refine lv_astore_n (lv' := [(2, .ref (a (9 + 2))), (1, .int (8 : Int32)), (0, .ref (a 4))]) hx hb dX0_takeInterrupt_14 rfl hl (by decide) rfl (fun ls hl => ?_)
      refine lv_aload_n hx hb dX0_takeInterrupt_15 rfl (lv_at hl 0 rfl) ?_
      refine lv_ifnull hx hb dX0_takeInterrupt_16 ?_
      refine lv_aload_n hx hb dX0_takeInterrupt_19 rfl (lv_at hl 0 rfl) ?_
      refine oh_getN (v := .int (σ 2 (6 + 2))) hC hP inX0_takeInterrupt_X3 (9 + 2) (oh_gln a k σ (show 2 < 6 by decide)) rfl 0 (by decide) (by decide +kernel) rfl dX0_takeInterrupt_20 ?_
      have K25 : (let k24 : Int32 × oh_St := (let k22 : Int32 × oh_St := (let k20 : Int32 × oh_St := ((-1 : Int32), σ); (if (σ 2 (6 + 5)) = (0 : Int32) then k20 else (if (σ 3 (6 + 5)) = (0 : Int32) then k20 else (if (σ 4 (6 + 5)) = (0 : Int32) then ((-1 : Int32), (oh_up σ 4 (6 + 5) (0 : Int32))) else ((11 : Int32), (oh_up σ 4 (6 + 5) (0 : Int32))))))); (if (σ 2 (6 + 4)) = (0 : Int32) then k22 else (if (σ 3 (6 + 4)) = (0 : Int32) then k22 else (if (σ 4 (6 + 4)) = (0 : Int32) then ((-1 : Int32), (oh_up σ 4 (6 + 4) (0 : Int32))) else ((10 : Int32), (oh_up σ 4 (6 + 4) (0 : Int32))))))); (if (σ 2 (6 + 3)) = (0 : Int32) then k24 else (if (σ 3 (6 + 3)) = (0 : Int32) then k24 else (if (σ 4 (6 + 3)) = (0 : Int32) then ((-1 : Int32), (oh_up σ 4 (6 + 3) (0 : Int32))) else ((9 : Int32), (oh_up σ 4 (6 + 3) (0 : Int32))))))) = spX0_takeInterrupt σ → ∀ (ls : Array Slot) (H : Heap) (locs : List Loc), va_P D vwCl (oh_W a k σ) H → va_D A (oh_W a k σ) → va_S A s.heap H locs → lv_has ls 4 [(2, .ref (a (9 + 2))), (1, .int (8 : Int32)), (0, .ref (a 4))] → W p l e ({ frames := 1, cells := 0, slots := 0, locals := 22 } : Room) s m (([.ref (a 4)] : List Value).toArray) below meth c H locs 0 0 (oh_Ei below (fun r u => r = (spX0_takeInterrupt σ).1 ∧ u = (spX0_takeInterrupt σ).2) D (oh_W a k) A [.ref (a 4)] s) (F0 m 53 ls []) := by
        intro hK25 ls H locs hP hD hS hl
        refine lv_iinc (v := (9 : Int32)) (lv' := [(1, .int (9 : Int32)), (2, .ref (a (9 + 2))), (0, .ref (a 4))]) hx hb dX0_takeInterrupt_53 hl (k := 1) rfl (by first | rfl | decide) (by decide) rfl (fun ls hl => ?_)
        refine lv_goto (tgt := 3) hx hb dX0_takeInterrupt_56 (by decide) ?_
        refine lv_iload_n hx hb dX0_takeInterrupt_3 rfl (lv_at hl 0 rfl) ?_
        refine lv_bipush (v := (11 : Int32)) hx hb dX0_takeInterrupt_4 (by decide) ?_
        refine lv_icmp_gt (tgt := 59) hx hb dX0_takeInterrupt_6 (by decide) (fun c0 => absurd c0 (by decide)) (fun _ => ?_)
        refine lv_aload_n hx hb dX0_takeInterrupt_9 rfl (lv_at hl 2 rfl) ?_
        refine lv_iload_n hx hb dX0_takeInterrupt_10 rfl (lv_at hl 0 rfl) ?_
        refine oh_cvqp (As := [.int (9 : Int32)]) (rest := []) hC hP hD hS (mtX0_lineOf_ l a k D σ (9 : Int32)) (cwV 1 hts gX0_takeInterrupt_X0_lineOf rfl rfl rfl (by decide +kernel) ⟨Nat.le_of_ble_eq_true rfl, Nat.le_of_ble_eq_true rfl⟩) 4 0 rfl rfl rfl hl.1 rfl (Nat.le_of_ble_eq_true rfl) dX0_takeInterrupt_11 (fun H locs hP hD hS => ?_)
        rw [if_pos (show oh_ix ((9 : Int32) - (6 : Int32)) 6 by decide)]
        refine W.eq (g2 := F0 m 14 ls ([.ref (a (9 + 3))])) rfl ?_
        refine lv_astore_n (lv' := [(2, .ref (a (9 + 3))), (1, .int (9 : Int32)), (0, .ref (a 4))]) hx hb dX0_takeInterrupt_14 rfl hl (by decide) rfl (fun ls hl => ?_)
        refine lv_aload_n hx hb dX0_takeInterrupt_15 rfl (lv_at hl 0 rfl) ?_
        refine lv_ifnull hx hb dX0_takeInterrupt_16 ?_
        refine lv_aload_n hx hb dX0_takeInterrupt_19 rfl (lv_at hl 0 rfl) ?_
        refine oh_getN (v := .int (σ 2 (6 + 3))) hC hP inX0_takeInterrupt_X3 (9 + 3) (oh_gln a k σ (show 3 < 6 by decide)) rfl 0 (by decide) (by decide +kernel) rfl dX0_takeInterrupt_20 ?_
        have K23 : (let k22 : Int32 × oh_St := (let k20 : Int32 × oh_St := ((-1 : Int32), σ); (if (σ 2 (6 + 5)) = (0 : Int32) then k20 else (if (σ 3 (6 + 5)) = (0 : Int32) then k20 else (if (σ 4 (6 + 5)) = (0 : Int32) then ((-1 : Int32), (oh_up σ 4 (6 + 5) (0 : Int32))) else ((11 : Int32), (oh_up σ 4 (6 + 5) (0 : Int32))))))); (if (σ 2 (6 + 4)) = (0 : Int32) then k22 else (if (σ 3 (6 + 4)) = (0 : Int32) then k22 else (if (σ 4 (6 + 4)) = (0 : Int32) then ((-1 : Int32), (oh_up σ 4 (6 + 4) (0 : Int32))) else ((10 : Int32), (oh_up σ 4 (6 + 4) (0 : Int32))))))) = spX0_takeInterrupt σ → ∀ (ls : Array Slot) (H : Heap) (locs : List Loc), va_P D vwCl (oh_W a k σ) H → va_D A (oh_W a k σ) → va_S A s.heap H locs → lv_has ls 4 [(2, .ref (a (9 + 3))), (1, .int (9 : Int32)), (0, .ref (a 4))] → W p l e ({ frames := 1, cells := 0, slots := 0, locals := 22 } : Room) s m (([.ref (a 4)] : List Value).toArray) below meth c H locs 0 0 (oh_Ei below (fun r u => r = (spX0_takeInterrupt σ).1 ∧ u = (spX0_takeInterrupt σ).2) D (oh_W a k) A [.ref (a 4)] s) (F0 m 53 ls []) := by
          intro hK23 ls H locs hP hD hS hl
          refine lv_iinc (v := (10 : Int32)) (lv' := [(1, .int (10 : Int32)), (2, .ref (a (9 + 3))), (0, .ref (a 4))]) hx hb dX0_takeInterrupt_53 hl (k := 1) rfl (by first | rfl | decide) (by decide) rfl (fun ls hl => ?_)
          refine lv_goto (tgt := 3) hx hb dX0_takeInterrupt_56 (by decide) ?_
          refine lv_iload_n hx hb dX0_takeInterrupt_3 rfl (lv_at hl 0 rfl) ?_
          refine lv_bipush (v := (11 : Int32)) hx hb dX0_takeInterrupt_4 (by decide) ?_
          refine lv_icmp_gt (tgt := 59) hx hb dX0_takeInterrupt_6 (by decide) (fun c0 => absurd c0 (by decide)) (fun _ => ?_)
          refine lv_aload_n hx hb dX0_takeInterrupt_9 rfl (lv_at hl 2 rfl) ?_
          refine lv_iload_n hx hb dX0_takeInterrupt_10 rfl (lv_at hl 0 rfl) ?_
          refine oh_cvqp (As := [.int (10 : Int32)]) (rest := []) hC hP hD hS (mtX0_lineOf_ l a k D σ (10 : Int32)) (cwV 1 hts gX0_takeInterrupt_X0_lineOf rfl rfl rfl (by decide +kernel) ⟨Nat.le_of_ble_eq_true rfl, Nat.le_of_ble_eq_true rfl⟩) 4 0 rfl rfl rfl hl.1 rfl (Nat.le_of_ble_eq_true rfl) dX0_takeInterrupt_11 (fun H locs hP hD hS => ?_)
          rw [if_pos (show oh_ix ((10 : Int32) - (6 : Int32)) 6 by decide)]
          refine W.eq (g2 := F0 m 14 ls ([.ref (a (9 + 4))])) rfl ?_
          refine lv_astore_n (lv' := [(2, .ref (a (9 + 4))), (1, .int (10 : Int32)), (0, .ref (a 4))]) hx hb dX0_takeInterrupt_14 rfl hl (by decide) rfl (fun ls hl => ?_)
          refine lv_aload_n hx hb dX0_takeInterrupt_15 rfl (lv_at hl 0 rfl) ?_
          refine lv_ifnull hx hb dX0_takeInterrupt_16 ?_
          refine lv_aload_n hx hb dX0_takeInterrupt_19 rfl (lv_at hl 0 rfl) ?_
          refine oh_getN (v := .int (σ 2 (6 + 4))) hC hP inX0_takeInterrupt_X3 (9 + 4) (oh_gln a k σ (show 4 < 6 by decide)) rfl 0 (by decide) (by decide +kernel) rfl dX0_takeInterrupt_20 ?_
          have K21 : (let k20 : Int32 × oh_St := ((-1 : Int32), σ); (if (σ 2 (6 + 5)) = (0 : Int32) then k20 else (if (σ 3 (6 + 5)) = (0 : Int32) then k20 else (if (σ 4 (6 + 5)) = (0 : Int32) then ((-1 : Int32), (oh_up σ 4 (6 + 5) (0 : Int32))) else ((11 : Int32), (oh_up σ 4 (6 + 5) (0 : Int32))))))) = spX0_takeInterrupt σ → ∀ (ls : Array Slot) (H : Heap) (locs : List Loc), va_P D vwCl (oh_W a k σ) H → va_D A (oh_W a k σ) → va_S A s.heap H locs → lv_has ls 4 [(2, .ref (a (9 + 4))), (1, .int (10 : Int32)), (0, .ref (a 4))] → W p l e ({ frames := 1, cells := 0, slots := 0, locals := 22 } : Room) s m (([.ref (a 4)] : List Value).toArray) below meth c H locs 0 0 (oh_Ei below (fun r u => r = (spX0_takeInterrupt σ).1 ∧ u = (spX0_takeInterrupt σ).2) D (oh_W a k) A [.ref (a 4)] s) (F0 m 53 ls []) := by
            intro hK21 ls H locs hP hD hS hl
            refine lv_iinc (v := (11 : Int32)) (lv' := [(1, .int (11 : Int32)), (2, .ref (a (9 + 4))), (0, .ref (a 4))]) hx hb dX0_takeInterrupt_53 hl (k := 1) rfl (by first | rfl | decide) (by decide) rfl (fun ls hl => ?_)
            refine lv_goto (tgt := 3) hx hb dX0_takeInterrupt_56 (by decide) ?_
            refine lv_iload_n hx hb dX0_takeInterrupt_3 rfl (lv_at hl 0 rfl) ?_
            refine lv_bipush (v := (11 : Int32)) hx hb dX0_takeInterrupt_4 (by decide) ?_
            refine lv_icmp_gt (tgt := 59) hx hb dX0_takeInterrupt_6 (by decide) (fun c0 => absurd c0 (by decide)) (fun _ => ?_)
            refine lv_aload_n hx hb dX0_takeInterrupt_9 rfl (lv_at hl 2 rfl) ?_
            refine lv_iload_n hx hb dX0_takeInterrupt_10 rfl (lv_at hl 0 rfl) ?_
            refine oh_cvqp (As := [.int (11 : Int32)]) (rest := []) hC hP hD hS (mtX0_lineOf_ l a k D σ (11 : Int32)) (cwV 1 hts gX0_takeInterrupt_X0_lineOf rfl rfl rfl (by decide +kernel) ⟨Nat.le_of_ble_eq_true rfl, Nat.le_of_ble_eq_true rfl⟩) 4 0 rfl rfl rfl hl.1 rfl (Nat.le_of_ble_eq_true rfl) dX0_takeInterrupt_11 (fun H locs hP hD hS => ?_)
            rw [if_pos (show oh_ix ((11 : Int32) - (6 : Int32)) 6 by decide)]
            refine W.eq (g2 := F0 m 14 ls ([.ref (a (9 + 5))])) rfl ?_
            refine lv_astore_n (lv' := [(2, .ref (a (9 + 5))), (1, .int (11 : Int32)), (0, .ref (a 4))]) hx hb dX0_takeInterrupt_14 rfl hl (by decide) rfl (fun ls hl => ?_)
            refine lv_aload_n hx hb dX0_takeInterrupt_15 rfl (lv_at hl 0 rfl) ?_
            refine lv_ifnull hx hb dX0_takeInterrupt_16 ?_
            refine lv_aload_n hx hb dX0_takeInterrupt_19 rfl (lv_at hl 0 rfl) ?_
            refine oh_getN (v := .int (σ 2 (6 + 5))) hC hP inX0_takeInterrupt_X3 (9 + 5) (oh_gln a k σ (show 5 < 6 by decide)) rfl 0 (by decide) (by decide +kernel) rfl dX0_takeInterrupt_20 ?_
            have K19 : ((-1 : Int32), σ) = spX0_takeInterrupt σ → ∀ (ls : Array Slot) (H : Heap) (locs : List Loc), va_P D vwCl (oh_W a k σ) H → va_D A (oh_W a k σ) → va_S A s.heap H locs → lv_has ls 4 [(2, .ref (a (9 + 5))), (1, .int (11 : Int32)), (0, .ref (a 4))] → W p l e ({ frames := 1, cells := 0, slots := 0, locals := 22 } : Room) s m (([.ref (a 4)] : List Value).toArray) below meth c H locs 0 0 (oh_Ei below (fun r u => r = (spX0_takeInterrupt σ).1 ∧ u = (spX0_takeInterrupt σ).2) D (oh_W a k) A [.ref (a 4)] s) (F0 m 53 ls []) := by
              intro hK19 ls H locs hP hD hS hl
              refine lv_iinc (v := (12 : Int32)) (lv' := [(1, .int (12 : Int32)), (2, .ref (a (9 + 5))), (0, .ref (a 4))]) hx hb dX0_takeInterrupt_53 hl (k := 1) rfl (by first | rfl | decide) (by decide) rfl (fun ls hl => ?_)
              refine lv_goto (tgt := 3) hx hb dX0_takeInterrupt_56 (by decide) ?_
              refine lv_iload_n hx hb dX0_takeInterrupt_3 rfl (lv_at hl 0 rfl) ?_
              refine lv_bipush (v := (11 : Int32)) hx hb dX0_takeInterrupt_4 (by decide) ?_
              refine lv_icmp_gt (tgt := 59) hx hb dX0_takeInterrupt_6 (by decide) (fun _ => ?_) (fun c0 => absurd c0 (by decide))
              refine lv_iconst (v := (-1 : Int32)) hx hb dX0_takeInterrupt_59 (by decide) ?_
              exact oh_reti (v := (-1 : Int32)) (u := σ) hC hP hD hS (oh_pair (by exact hK19)) dX0_takeInterrupt_60
            refine lv_if_eq (tgt := 53) hx hb dX0_takeInterrupt_23 (by decide) (fun c16 => ?_) (fun c16 => ?_)
            · exact K19 (((if_pos c16).symm).trans hK21) ls _ _ hP hD hS (lv_sub hl [0, 1, 2] rfl)
            · refine lv_aload_n hx hb dX0_takeInterrupt_26 rfl (lv_at hl 0 rfl) ?_
              refine oh_getN (v := .int (σ 3 (6 + 5))) hC hP inX0_takeInterrupt_X3 (9 + 5) (oh_gln a k σ (show 5 < 6 by decide)) rfl 1 (by decide) (by decide +kernel) rfl dX0_takeInterrupt_27 ?_
              refine lv_if_eq (tgt := 53) hx hb dX0_takeInterrupt_30 (by decide) (fun c17 => ?_) (fun c17 => ?_)
              · exact K19 ((((if_neg c16).trans (if_pos c17)).symm).trans hK21) ls _ _ hP hD hS (lv_sub hl [0, 1, 2] rfl)
              · refine lv_aload_n hx hb dX0_takeInterrupt_33 rfl (lv_at hl 0 rfl) ?_
                refine oh_getN (v := .int (σ 4 (6 + 5))) hC hP inX0_takeInterrupt_X3 (9 + 5) (oh_gln a k σ (show 5 < 6 by decide)) rfl 2 (by decide) (by decide +kernel) rfl dX0_takeInterrupt_34 ?_
                refine lv_istore_n (lv' := [(3, .int (σ 4 (6 + 5))), (2, .ref (a (9 + 5))), (1, .int (11 : Int32)), (0, .ref (a 4))]) hx hb dX0_takeInterrupt_37 rfl hl (by decide) rfl (fun ls hl => ?_)
                refine lv_aload_n hx hb dX0_takeInterrupt_38 rfl (lv_at hl 1 rfl) ?_
                refine lv_iconst (v := (0 : Int32)) hx hb dX0_takeInterrupt_39 (by decide) ?_
                refine oh_putN (σ' := (oh_up σ 4 (6 + 5) (0 : Int32))) (v := .int (0 : Int32)) hC hP hD hS inX0_takeInterrupt_X3 tyX3 tyX3_ok nmX3 (9 + 5) (oh_gln a k σ (show 5 < 6 by decide)) rfl 2 (by decide) (by decide +kernel) rfl (oh_nb (by decide)) (oh_fb (by decide)) (by simp) (oh_sln2 a k σ (show 5 < 6 by decide) _) dX0_takeInterrupt_40 (fun H locs hP hD hS => ?_)
                refine lv_iload_n hx hb dX0_takeInterrupt_43 rfl (lv_at hl 0 rfl) ?_
                refine lv_if_eq (tgt := 51) hx hb dX0_takeInterrupt_44 (by decide) (fun c18 => ?_) (fun c18 => ?_)
                · refine lv_iconst (v := (-1 : Int32)) hx hb dX0_takeInterrupt_51 (by decide) ?_
                  exact oh_reti (v := (-1 : Int32)) (u := (oh_up σ 4 (6 + 5) (0 : Int32))) hC hP hD hS (oh_pair (by exact ((((if_neg c16).trans (if_neg c17)).trans (if_pos c18)).symm).trans hK21)) dX0_takeInterrupt_52
                · refine lv_iload_n hx hb dX0_takeInterrupt_47 rfl (lv_at hl 2 rfl) ?_
                  refine lv_goto (tgt := 52) hx hb dX0_takeInterrupt_48 (by decide) ?_
                  exact oh_reti (v := (11 : Int32)) (u := (oh_up σ 4 (6 + 5) (0 : Int32))) hC hP hD hS (oh_pair (by exact ((((if_neg c16).trans (if_neg c17)).trans (if_neg c18)).symm).trans hK21)) dX0_takeInterrupt_52
          refine lv_if_eq (tgt := 53) hx hb dX0_takeInterrupt_23 (by decide) (fun c13 => ?_) (fun c13 => ?_)
          · exact K21 (((if_pos c13).symm).trans hK23) ls _ _ hP hD hS (lv_sub hl [0, 1, 2] rfl)
          · refine lv_aload_n hx hb dX0_takeInterrupt_26 rfl (lv_at hl 0 rfl) ?_
            refine oh_getN (v := .int (σ 3 (6 + 4))) hC hP inX0_takeInterrupt_X3 (9 + 4) (oh_gln a k σ (show 4 < 6 by decide)) rfl 1 (by decide) (by decide +kernel) rfl dX0_takeInterrupt_27 ?_
            refine lv_if_eq (tgt := 53) hx hb dX0_takeInterrupt_30 (by decide) (fun c14 => ?_) (fun c14 => ?_)
            · exact K21 ((((if_neg c13).trans (if_pos c14)).symm).trans hK23) ls _ _ hP hD hS (lv_sub hl [0, 1, 2] rfl)
            · refine lv_aload_n hx hb dX0_takeInterrupt_33 rfl (lv_at hl 0 rfl) ?_
              refine oh_getN (v := .int (σ 4 (6 + 4))) hC hP inX0_takeInterrupt_X3 (9 + 4) (oh_gln a k σ (show 4 < 6 by decide)) rfl 2 (by decide) (by decide +kernel) rfl dX0_takeInterrupt_34 ?_
              refine lv_istore_n (lv' := [(3, .int (σ 4 (6 + 4))), (2, .ref (a (9 + 4))), (1, .int (10 : Int32)), (0, .ref (a 4))]) hx hb dX0_takeInterrupt_37 rfl hl (by decide) rfl (fun ls hl => ?_)
              refine lv_aload_n hx hb dX0_takeInterrupt_38 rfl (lv_at hl 1 rfl) ?_
              refine lv_iconst (v := (0 : Int32)) hx hb dX0_takeInterrupt_39 (by decide) ?_
              refine oh_putN (σ' := (oh_up σ 4 (6 + 4) (0 : Int32))) (v := .int (0 : Int32)) hC hP hD hS inX0_takeInterrupt_X3 tyX3 tyX3_ok nmX3 (9 + 4) (oh_gln a k σ (show 4 < 6 by decide)) rfl 2 (by decide) (by decide +kernel) rfl (oh_nb (by decide)) (oh_fb (by decide)) (by simp) (oh_sln2 a k σ (show 4 < 6 by decide) _) dX0_takeInterrupt_40 (fun H locs hP hD hS => ?_)
              refine lv_iload_n hx hb dX0_takeInterrupt_43 rfl (lv_at hl 0 rfl) ?_
              refine lv_if_eq (tgt := 51) hx hb dX0_takeInterrupt_44 (by decide) (fun c15 => ?_) (fun c15 => ?_)
              · refine lv_iconst (v := (-1 : Int32)) hx hb dX0_takeInterrupt_51 (by decide) ?_
                exact oh_reti (v := (-1 : Int32)) (u := (oh_up σ 4 (6 + 4) (0 : Int32))) hC hP hD hS (oh_pair (by exact ((((if_neg c13).trans (if_neg c14)).trans (if_pos c15)).symm).trans hK23)) dX0_takeInterrupt_52
              · refine lv_iload_n hx hb dX0_takeInterrupt_47 rfl (lv_at hl 2 rfl) ?_
                refine lv_goto (tgt := 52) hx hb dX0_takeInterrupt_48 (by decide) ?_
                exact oh_reti (v := (10 : Int32)) (u := (oh_up σ 4 (6 + 4) (0 : Int32))) hC hP hD hS (oh_pair (by exact ((((if_neg c13).trans (if_neg c14)).trans (if_neg c15)).symm).trans hK23)) dX0_takeInterrupt_52
        refine lv_if_eq (tgt := 53) hx hb dX0_takeInterrupt_23 (by decide) (fun c10 => ?_) (fun c10 => ?_)
        · exact K23 (((if_pos c10).symm).trans hK25) ls _ _ hP hD hS (lv_sub hl [0, 1, 2] rfl)
        · refine lv_aload_n hx hb dX0_takeInterrupt_26 rfl (lv_at hl 0 rfl) ?_
          refine oh_getN (v := .int (σ 3 (6 + 3))) hC hP inX0_takeInterrupt_X3 (9 + 3) (oh_gln a k σ (show 3 < 6 by decide)) rfl 1 (by decide) (by decide +kernel) rfl dX0_takeInterrupt_27 ?_
          refine lv_if_eq (tgt := 53) hx hb dX0_takeInterrupt_30 (by decide) (fun c11 => ?_) (fun c11 => ?_)
          · exact K23 ((((if_neg c10).trans (if_pos c11)).symm).trans hK25) ls _ _ hP hD hS (lv_sub hl [0, 1, 2] rfl)
          · refine lv_aload_n hx hb dX0_takeInterrupt_33 rfl (lv_at hl 0 rfl) ?_
            refine oh_getN (v := .int (σ 4 (6 + 3))) hC hP inX0_takeInterrupt_X3 (9 + 3) (oh_gln a k σ (show 3 < 6 by decide)) rfl 2 (by decide) (by decide +kernel) rfl dX0_takeInterrupt_34 ?_
            refine lv_istore_n (lv' := [(3, .int (σ 4 (6 + 3))), (2, .ref (a (9 + 3))), (1, .int (9 : Int32)), (0, .ref (a 4))]) hx hb dX0_takeInterrupt_37 rfl hl (by decide) rfl (fun ls hl => ?_)
            refine lv_aload_n hx hb dX0_takeInterrupt_38 rfl (lv_at hl 1 rfl) ?_
            refine lv_iconst (v := (0 : Int32)) hx hb dX0_takeInterrupt_39 (by decide) ?_
            refine oh_putN (σ' := (oh_up σ 4 (6 + 3) (0 : Int32))) (v := .int (0 : Int32)) hC hP hD hS inX0_takeInterrupt_X3 tyX3 tyX3_ok nmX3 (9 + 3) (oh_gln a k σ (show 3 < 6 by decide)) rfl 2 (by decide) (by decide +kernel) rfl (oh_nb (by decide)) (oh_fb (by decide)) (by simp) (oh_sln2 a k σ (show 3 < 6 by decide) _) dX0_takeInterrupt_40 (fun H locs hP hD hS => ?_)
            refine lv_iload_n hx hb dX0_takeInterrupt_43 rfl (lv_at hl 0 rfl) ?_
            refine lv_if_eq (tgt := 51) hx hb dX0_takeInterrupt_44 (by decide) (fun c12 => ?_) (fun c12 => ?_)
            · refine lv_iconst (v := (-1 : Int32)) hx hb dX0_takeInterrupt_51 (by decide) ?_
              exact oh_reti (v := (-1 : Int32)) (u := (oh_up σ 4 (6 + 3) (0 : Int32))) hC hP hD hS (oh_pair (by exact ((((if_neg c10).trans (if_neg c11)).trans (if_pos c12)).symm).trans hK25)) dX0_takeInterrupt_52
            · refine lv_iload_n hx hb dX0_takeInterrupt_47 rfl (lv_at hl 2 rfl) ?_
              refine lv_goto (tgt := 52) hx hb dX0_takeInterrupt_48 (by decide) ?_
              exact oh_reti (v := (9 : Int32)) (u := (oh_up σ 4 (6 + 3) (0 : Int32))) hC hP hD hS (oh_pair (by exact ((((if_neg c10).trans (if_neg c11)).trans (if_neg c12)).symm).trans hK25)) dX0_takeInterrupt_52
      refine lv_if_eq (tgt := 53) hx hb dX0_takeInterrupt_23 (by decide) (fun c7 => ?_) (fun c7 => ?_)
      · exact K25 (((if_pos c7).symm).trans hK27) ls _ _ hP hD hS (lv_sub hl [0, 1, 2] rfl)
      · refine lv_aload_n hx hb dX0_takeInterrupt_26 rfl (lv_at hl 0 rfl) ?_
        refine oh_getN (v := .int (σ 3 (6 + 2))) hC hP inX0_takeInterrupt_X3 (9 + 2) (oh_gln a k σ (show 2 < 6 by decide)) rfl 1 (by decide) (by decide +kernel) rfl dX0_takeInterrupt_27 ?_
        refine lv_if_eq (tgt := 53) hx hb dX0_takeInterrupt_30 (by decide) (fun c8 => ?_) (fun c8 => ?_)
        · exact K25 ((((if_neg c7).trans (if_pos c8)).symm).trans hK27) ls _ _ hP hD hS (lv_sub hl [0, 1, 2] rfl)
        · refine lv_aload_n hx hb dX0_takeInterrupt_33 rfl (lv_at hl 0 rfl) ?_
          refine oh_getN (v := .int (σ 4 (6 + 2))) hC hP inX0_takeInterrupt_X3 (9 + 2) (oh_gln a k σ (show 2 < 6 by decide)) rfl 2 (by decide) (by decide +kernel) rfl dX0_takeInterrupt_34 ?_
          refine lv_istore_n (lv' := [(3, .int (σ 4 (6 + 2))), (2, .ref (a (9 + 2))), (1, .int (8 : Int32)), (0, .ref (a 4))]) hx hb dX0_takeInterrupt_37 rfl hl (by decide) rfl (fun ls hl => ?_)
          refine lv_aload_n hx hb dX0_takeInterrupt_38 rfl (lv_at hl 1 rfl) ?_
          refine lv_iconst (v := (0 : Int32)) hx hb dX0_takeInterrupt_39 (by decide) ?_
          refine oh_putN (σ' := (oh_up σ 4 (6 + 2) (0 : Int32))) (v := .int (0 : Int32)) hC hP hD hS inX0_takeInterrupt_X3 tyX3 tyX3_ok nmX3 (9 + 2) (oh_gln a k σ (show 2 < 6 by decide)) rfl 2 (by decide) (by decide +kernel) rfl (oh_nb (by decide)) (oh_fb (by decide)) (by simp) (oh_sln2 a k σ (show 2 < 6 by decide) _) dX0_takeInterrupt_40 (fun H locs hP hD hS => ?_)
          refine lv_iload_n hx hb dX0_takeInterrupt_43 rfl (lv_at hl 0 rfl) ?_
          refine lv_if_eq (tgt := 51) hx hb dX0_takeInterrupt_44 (by decide) (fun c9 => ?_) (fun c9 => ?_)
          · refine lv_iconst (v := (-1 : Int32)) hx hb dX0_takeInterrupt_51 (by decide) ?_
            exact oh_reti (v := (-1 : Int32)) (u := (oh_up σ 4 (6 + 2) (0 : Int32))) hC hP hD hS (oh_pair (by exact ((((if_neg c7).trans (if_neg c8)).trans (if_pos c9)).symm).trans hK27)) dX0_takeInterrupt_52
          · refine lv_iload_n hx hb dX0_takeInterrupt_47 rfl (lv_at hl 2 rfl) ?_
            refine lv_goto (tgt := 52) hx hb dX0_takeInterrupt_48 (by decide) ?_
            exact oh_reti (v := (8 : Int32)) (u := (oh_up σ 4 (6 + 2) (0 : Int32))) hC hP hD hS (oh_pair (by exact ((((if_neg c7).trans (if_neg c8)).trans (if_neg c9)).symm).trans hK27)) dX0_takeInterrupt_52
    refine lv_if_eq (tgt := 53) hx hb dX0_takeInterrupt_23 (by decide) (fun c4 => ?_) (fun c4 => ?_)
    · exact K27 (((if_pos c4).symm).trans hK29) ls _ _ hP hD hS (lv_sub hl [0, 1, 2] rfl)
    · refine lv_aload_n hx hb dX0_takeInterrupt_26 rfl (lv_at hl 0 rfl) ?_
      refine oh_getN (v := .int (σ 3 (6 + 1))) hC hP inX0_takeInterrupt_X3 (9 + 1) (oh_gln a k σ (show 1 < 6 by decide)) rfl 1 (by decide) (by decide +kernel) rfl dX0_takeInterrupt_27 ?_
      refine lv_if_eq (tgt := 53) hx hb dX0_takeInterrupt_30 (by decide) (fun c5 => ?_) (fun c5 => ?_)
      · exact K27 ((((if_neg c4).trans (if_pos c5)).symm).trans hK29) ls _ _ hP hD hS (lv_sub hl [0, 1, 2] rfl)
      · refine lv_aload_n hx hb dX0_takeInterrupt_33 rfl (lv_at hl 0 rfl) ?_
        refine oh_getN (v := .int (σ 4 (6 + 1))) hC hP inX0_takeInterrupt_X3 (9 + 1) (oh_gln a k σ (show 1 < 6 by decide)) rfl 2 (by decide) (by decide +kernel) rfl dX0_takeInterrupt_34 ?_
        refine lv_istore_n (lv' := [(3, .int (σ 4 (6 + 1))), (2, .ref (a (9 + 1))), (1, .int (7 : Int32)), (0, .ref (a 4))]) hx hb dX0_takeInterrupt_37 rfl hl (by decide) rfl (fun ls hl => ?_)
        refine lv_aload_n hx hb dX0_takeInterrupt_38 rfl (lv_at hl 1 rfl) ?_
        refine lv_iconst (v := (0 : Int32)) hx hb dX0_takeInterrupt_39 (by decide) ?_
        refine oh_putN (σ' := (oh_up σ 4 (6 + 1) (0 : Int32))) (v := .int (0 : Int32)) hC hP hD hS inX0_takeInterrupt_X3 tyX3 tyX3_ok nmX3 (9 + 1) (oh_gln a k σ (show 1 < 6 by decide)) rfl 2 (by decide) (by decide +kernel) rfl (oh_nb (by decide)) (oh_fb (by decide)) (by simp) (oh_sln2 a k σ (show 1 < 6 by decide) _) dX0_takeInterrupt_40 (fun H locs hP hD hS => ?_)
        refine lv_iload_n hx hb dX0_takeInterrupt_43 rfl (lv_at hl 0 rfl) ?_
        refine lv_if_eq (tgt := 51) hx hb dX0_takeInterrupt_44 (by decide) (fun c6 => ?_) (fun c6 => ?_)
        · refine lv_iconst (v := (-1 : Int32)) hx hb dX0_takeInterrupt_51 (by decide) ?_
          exact oh_reti (v := (-1 : Int32)) (u := (oh_up σ 4 (6 + 1) (0 : Int32))) hC hP hD hS (oh_pair (by exact ((((if_neg c4).trans (if_neg c5)).trans (if_pos c6)).symm).trans hK29)) dX0_takeInterrupt_52
        · refine lv_iload_n hx hb dX0_takeInterrupt_47 rfl (lv_at hl 2 rfl) ?_
          refine lv_goto (tgt := 52) hx hb dX0_takeInterrupt_48 (by decide) ?_
          exact oh_reti (v := (7 : Int32)) (u := (oh_up σ 4 (6 + 1) (0 : Int32))) hC hP hD hS (oh_pair (by exact ((((if_neg c4).trans (if_neg c5)).trans (if_neg c6)).symm).trans hK29)) dX0_takeInterrupt_52
  refine lv_if_eq (tgt := 53) hx hb dX0_takeInterrupt_23 (by decide) (fun c1 => ?_) (fun c1 => ?_)
  · exact K29 ((if_pos c1).symm) ls _ _ hP hD hS (lv_sub hl [0, 1, 2] rfl)
  · refine lv_aload_n hx hb dX0_takeInterrupt_26 rfl (lv_at hl 0 rfl) ?_
    refine oh_getN (v := .int (σ 3 (6 + 0))) hC hP inX0_takeInterrupt_X3 (9 + 0) (oh_gln a k σ (show 0 < 6 by decide)) rfl 1 (by decide) (by decide +kernel) rfl dX0_takeInterrupt_27 ?_
    refine lv_if_eq (tgt := 53) hx hb dX0_takeInterrupt_30 (by decide) (fun c2 => ?_) (fun c2 => ?_)
    · exact K29 (((if_neg c1).trans (if_pos c2)).symm) ls _ _ hP hD hS (lv_sub hl [0, 1, 2] rfl)
    · refine lv_aload_n hx hb dX0_takeInterrupt_33 rfl (lv_at hl 0 rfl) ?_
      refine oh_getN (v := .int (σ 4 (6 + 0))) hC hP inX0_takeInterrupt_X3 (9 + 0) (oh_gln a k σ (show 0 < 6 by decide)) rfl 2 (by decide) (by decide +kernel) rfl dX0_takeInterrupt_34 ?_
      refine lv_istore_n (lv' := [(3, .int (σ 4 (6 + 0))), (2, .ref (a (9 + 0))), (1, .int (6 : Int32)), (0, .ref (a 4))]) hx hb dX0_takeInterrupt_37 rfl hl (by decide) rfl (fun ls hl => ?_)
      refine lv_aload_n hx hb dX0_takeInterrupt_38 rfl (lv_at hl 1 rfl) ?_
      refine lv_iconst (v := (0 : Int32)) hx hb dX0_takeInterrupt_39 (by decide) ?_
      refine oh_putN (σ' := (oh_up σ 4 (6 + 0) (0 : Int32))) (v := .int (0 : Int32)) hC hP hD hS inX0_takeInterrupt_X3 tyX3 tyX3_ok nmX3 (9 + 0) (oh_gln a k σ (show 0 < 6 by decide)) rfl 2 (by decide) (by decide +kernel) rfl (oh_nb (by decide)) (oh_fb (by decide)) (by simp) (oh_sln2 a k σ (show 0 < 6 by decide) _) dX0_takeInterrupt_40 (fun H locs hP hD hS => ?_)
      refine lv_iload_n hx hb dX0_takeInterrupt_43 rfl (lv_at hl 0 rfl) ?_
      refine lv_if_eq (tgt := 51) hx hb dX0_takeInterrupt_44 (by decide) (fun c3 => ?_) (fun c3 => ?_)
      · refine lv_iconst (v := (-1 : Int32)) hx hb dX0_takeInterrupt_51 (by decide) ?_
        exact oh_reti (v := (-1 : Int32)) (u := (oh_up σ 4 (6 + 0) (0 : Int32))) hC hP hD hS (oh_pair (by exact (((if_neg c1).trans (if_neg c2)).trans (if_pos c3)).symm)) dX0_takeInterrupt_52
      · refine lv_iload_n hx hb dX0_takeInterrupt_47 rfl (lv_at hl 2 rfl) ?_
        refine lv_goto (tgt := 52) hx hb dX0_takeInterrupt_48 (by decide) ?_
        exact oh_reti (v := (6 : Int32)) (u := (oh_up σ 4 (6 + 0) (0 : Int32))) hC hP hD hS (oh_pair (by exact (((if_neg c1).trans (if_neg c2)).trans (if_neg c3)).symm)) dX0_takeInterrupt_52
-- OctalHouse$Bus.flagOf
theorem inX0_flagOf_X0 : ∀ w ∈ u_ws RX0 TX0 7, w ∈ wsX0_flagOf := by decide +kernel
theorem inX0_flagOf_X3 : ∀ w ∈ u_ws RX3 TX3 3, w ∈ wsX0_flagOf := by decide +kernel
theorem inX0_flagOf_X6 : ∀ w ∈ u_ws RX6 TX6 6, w ∈ wsX0_flagOf := by decide +kernel
def spX0_flagOf (σ : oh_St) (p1 : Int32) : Int32 := (if p1 = (0 : Int32) then (σ 0 9) else (if p1 = (1 : Int32) then (if (σ 0 5) = (0 : Int32) then (0 : Int32) else (1 : Int32)) else (if oh_ix (p1 - (6 : Int32)) 6 then (if (σ 3 (6 + (p1 - (6 : Int32)).toNatClampNeg)) = (0 : Int32) then (0 : Int32) else (1 : Int32)) else (0 : Int32))))
set_option maxHeartbeats 8000000 in
set_option maxRecDepth 100000 in
theorem mtX0_flagOf (l : Launch) (a : Nat → Nat) (k : Nat → ClassId) (D : va_G) (σ : oh_St) (p1 : Int32) (h9 : σ 0 9 = 0 ∨ σ 0 9 = 1) : oh_Mi l yX0_flagOf wsX0_flagOf { frames := 1, cells := 0, slots := 0, locals := 22 } D (oh_ty k) (oh_W a k) [.ref (a 4), .int p1] σ (fun r u => r = spX0_flagOf σ p1 ∧ u = σ) := by
  refine oh_ini (cc := cX0_flagOf) (nL := 3) (rt := some .boolean) (by decide) rfl (Nat.le_of_ble_eq_true rfl) ?_
  intro p e s m below meth c A ls hC hP hD hS hl
  obtain ⟨hx, hb, hml, hown, hts, hr, hlocks, hK, hN, hA⟩ := id hC
  have hl : lv_has ls 3 [(0, .ref (a 4)), (1, .int p1)] := hl
  refine lv_iload_n hx hb dX0_flagOf_0 rfl (lv_at hl 1 rfl) ?_
  refine lv_if_ne (tgt := 9) hx hb dX0_flagOf_1 (by decide) (fun c1 => ?_) (fun c1 => ?_)
  · refine lv_iload_n hx hb dX0_flagOf_9 rfl (lv_at hl 1 rfl) ?_
    refine lv_iconst (v := (1 : Int32)) hx hb dX0_flagOf_10 (by decide) ?_
    refine lv_icmp_ne (tgt := 30) hx hb dX0_flagOf_11 (by decide) (fun c2 => ?_) (fun c2 => ?_)
    · refine lv_aload_n hx hb dX0_flagOf_30 rfl (lv_at hl 0 rfl) ?_
      refine lv_iload_n hx hb dX0_flagOf_31 rfl (lv_at hl 1 rfl) ?_
      refine oh_cvqp (As := [.int p1]) (rest := []) hC hP hD hS (mtX0_lineOf_ l a k D σ p1) (cwV 1 hts gX0_flagOf_X0_lineOf rfl rfl rfl (by decide +kernel) ⟨Nat.le_of_ble_eq_true rfl, Nat.le_of_ble_eq_true rfl⟩) 4 0 rfl rfl rfl hl.1 rfl (Nat.le_of_ble_eq_true rfl) dX0_flagOf_32 (fun H locs hP hD hS => ?_)
      by_cases c3 : oh_ix (p1 - (6 : Int32)) 6
      · rw [if_pos c3]
        refine W.eq (g2 := F0 m 35 ls ([.ref (a (9 + (p1 - (6 : Int32)).toNatClampNeg))])) rfl ?_
        refine lv_astore_n (lv' := [(2, .ref (a (9 + (p1 - (6 : Int32)).toNatClampNeg))), (0, .ref (a 4)), (1, .int p1)]) hx hb dX0_flagOf_35 rfl hl (by decide) rfl (fun ls hl => ?_)
        refine lv_aload_n hx hb dX0_flagOf_36 rfl (lv_at hl 0 rfl) ?_
        refine lv_ifnull hx hb dX0_flagOf_37 ?_
        refine lv_aload_n hx hb dX0_flagOf_40 rfl (lv_at hl 0 rfl) ?_
        refine oh_getN (v := .int (σ 3 (6 + (p1 - (6 : Int32)).toNatClampNeg))) hC hP inX0_flagOf_X3 (9 + (p1 - (6 : Int32)).toNatClampNeg) (oh_gln a k σ (oh_ixN c3)) rfl 1 (by decide) (by decide +kernel) rfl dX0_flagOf_41 ?_
        refine lv_if_eq (tgt := 51) hx hb dX0_flagOf_44 (by decide) (fun c4 => ?_) (fun c4 => ?_)
        · refine lv_iconst (v := (0 : Int32)) hx hb dX0_flagOf_51 (by decide) ?_
          exact oh_retz (v := (0 : Int32)) (u := σ) hC (oh_nb (by decide)) hP hD hS ⟨(by exact ((((if_neg c1).trans (if_neg c2)).trans (if_pos c3)).trans (if_pos c4)).symm), rfl⟩ dX0_flagOf_52
        · refine lv_iconst (v := (1 : Int32)) hx hb dX0_flagOf_47 (by decide) ?_
          refine lv_goto (tgt := 52) hx hb dX0_flagOf_48 (by decide) ?_
          exact oh_retz (v := (1 : Int32)) (u := σ) hC (oh_nb (by decide)) hP hD hS ⟨(by exact ((((if_neg c1).trans (if_neg c2)).trans (if_pos c3)).trans (if_neg c4)).symm), rfl⟩ dX0_flagOf_52
      · rw [if_neg c3]
        refine W.eq (g2 := F0 m 35 ls ([.null])) rfl ?_
        refine lv_astore_nN (lv' := [(2, .null), (0, .ref (a 4)), (1, .int p1)]) hx hb dX0_flagOf_35 rfl hl (by decide) rfl (fun ls hl => ?_)
        refine lv_aload_nN hx hb dX0_flagOf_36 rfl (lv_at hl 0 rfl) ?_
        refine lv_ifnullN (tgt := 51) hx hb dX0_flagOf_37 (by decide) ?_
        refine lv_iconst (v := (0 : Int32)) hx hb dX0_flagOf_51 (by decide) ?_
        exact oh_retz (v := (0 : Int32)) (u := σ) hC (oh_nb (by decide)) hP hD hS ⟨(by exact (((if_neg c1).trans (if_neg c2)).trans (if_neg c3)).symm), rfl⟩ dX0_flagOf_52
    · refine lv_aload_n hx hb dX0_flagOf_14 rfl (lv_at hl 0 rfl) ?_
      refine oh_get (v := .ref (a 3)) hC hP inX0_flagOf_X0 4 rfl rfl 0 (by decide) (by decide +kernel) rfl dX0_flagOf_15 ?_
      refine oh_getN (v := .int (σ 0 5)) hC hP inX0_flagOf_X6 3 rfl rfl 2 (by decide) (by decide +kernel) rfl dX0_flagOf_18 ?_
      refine lv_if_eq (tgt := 28) hx hb dX0_flagOf_21 (by decide) (fun c5 => ?_) (fun c5 => ?_)
      · refine lv_iconst (v := (0 : Int32)) hx hb dX0_flagOf_28 (by decide) ?_
        exact oh_retz (v := (0 : Int32)) (u := σ) hC (oh_nb (by decide)) hP hD hS ⟨(by exact (((if_neg c1).trans (if_pos c2)).trans (if_pos c5)).symm), rfl⟩ dX0_flagOf_29
      · refine lv_iconst (v := (1 : Int32)) hx hb dX0_flagOf_24 (by decide) ?_
        refine lv_goto (tgt := 29) hx hb dX0_flagOf_25 (by decide) ?_
        exact oh_retz (v := (1 : Int32)) (u := σ) hC (oh_nb (by decide)) hP hD hS ⟨(by exact (((if_neg c1).trans (if_pos c2)).trans (if_neg c5)).symm), rfl⟩ dX0_flagOf_29
  · refine lv_aload_n hx hb dX0_flagOf_4 rfl (lv_at hl 0 rfl) ?_
    refine oh_get (v := .int (σ 0 9)) hC hP inX0_flagOf_X0 4 rfl rfl 4 (by decide) (by decide +kernel) rfl dX0_flagOf_5 ?_
    exact oh_retz (v := (σ 0 9)) (u := σ) hC (oh_nb h9) hP hD hS ⟨(by exact (if_pos c1).symm), rfl⟩ dX0_flagOf_8
theorem b01X0_flagOf (σ : oh_St) (p1 : Int32) (h9 : σ 0 9 = 0 ∨ σ 0 9 = 1) : spX0_flagOf σ p1 = 0 ∨ spX0_flagOf σ p1 = 1 := by
  unfold spX0_flagOf
  (try dsimp only)
  (repeat' split) <;> first | exact Or.inl rfl | exact Or.inr rfl | exact h9
-- OctalHouse$Bus.putFlag
theorem inX0_putFlag_X0 : ∀ w ∈ u_ws RX0 TX0 7, w ∈ wsX0_putFlag := by decide +kernel
theorem inX0_putFlag_X6 : ∀ w ∈ u_ws RX6 TX6 6, w ∈ wsX0_putFlag := by decide +kernel
def spX0_putFlag (σ : oh_St) (p1 : Int32) (p2 : Int32) : oh_St := (if p1 = (0 : Int32) then (oh_up σ 0 9 p2) else (if p1 = (1 : Int32) then (let r5 : Int32 := (spX7_bit p2); (oh_up σ 0 5 r5)) else (if oh_ix (p1 - (6 : Int32)) 6 then (let s4 : oh_St := (spX3_putFlag σ ((p1 - (6 : Int32)).toNatClampNeg) p2); s4) else σ)))
set_option maxHeartbeats 8000000 in
set_option maxRecDepth 100000 in
theorem mtX0_putFlag (l : Launch) (a : Nat → Nat) (k : Nat → ClassId) (D : va_G) (σ : oh_St) (p1 : Int32) (p2 : Int32) (hbp2 : p2 = 0 ∨ p2 = 1) : oh_Mv l yX0_putFlag wsX0_putFlag { frames := 1, cells := 0, slots := 0, locals := 22 } D (oh_ty k) (oh_W a k) [.ref (a 4), .int p1, .int p2] σ (fun u => u = spX0_putFlag σ p1 p2) := by
  refine oh_inv (cc := cX0_putFlag) (nL := 4) (rt := none) (by decide) rfl (Nat.le_of_ble_eq_true rfl) ?_
  intro p e s m below meth c A ls hC hP hD hS hl
  obtain ⟨hx, hb, hml, hown, hts, hr, hlocks, hK, hN, hA⟩ := id hC
  have hl : lv_has ls 4 [(0, .ref (a 4)), (1, .int p1), (2, .int p2)] := hl
  refine lv_iload_n hx hb dX0_putFlag_0 rfl (lv_at hl 1 rfl) ?_
  refine lv_if_ne (tgt := 10) hx hb dX0_putFlag_1 (by decide) (fun c1 => ?_) (fun c1 => ?_)
  · refine lv_iload_n hx hb dX0_putFlag_10 rfl (lv_at hl 1 rfl) ?_
    refine lv_iconst (v := (1 : Int32)) hx hb dX0_putFlag_11 (by decide) ?_
    refine lv_icmp_ne (tgt := 27) hx hb dX0_putFlag_12 (by decide) (fun c2 => ?_) (fun c2 => ?_)
    · refine lv_aload_n hx hb dX0_putFlag_27 rfl (lv_at hl 0 rfl) ?_
      refine lv_iload_n hx hb dX0_putFlag_28 rfl (lv_at hl 1 rfl) ?_
      refine oh_cvqp (As := [.int p1]) (rest := []) hC hP hD hS (mtX0_lineOf_ l a k D σ p1) (cwV 1 hts gX0_putFlag_X0_lineOf rfl rfl rfl (by decide +kernel) ⟨Nat.le_of_ble_eq_true rfl, Nat.le_of_ble_eq_true rfl⟩) 4 0 rfl rfl rfl hl.1 rfl (Nat.le_of_ble_eq_true rfl) dX0_putFlag_29 (fun H locs hP hD hS => ?_)
      by_cases c3 : oh_ix (p1 - (6 : Int32)) 6
      · rw [if_pos c3]
        refine W.eq (g2 := F0 m 32 ls ([.ref (a (9 + (p1 - (6 : Int32)).toNatClampNeg))])) rfl ?_
        refine lv_astore_n (lv' := [(3, .ref (a (9 + (p1 - (6 : Int32)).toNatClampNeg))), (0, .ref (a 4)), (1, .int p1), (2, .int p2)]) hx hb dX0_putFlag_32 rfl hl (by decide) rfl (fun ls hl => ?_)
        refine lv_aload_n hx hb dX0_putFlag_33 rfl (lv_at hl 0 rfl) ?_
        refine lv_ifnull hx hb dX0_putFlag_34 ?_
        refine lv_aload_n hx hb dX0_putFlag_37 rfl (lv_at hl 0 rfl) ?_
        refine lv_iload_n hx hb dX0_putFlag_38 rfl (lv_at hl 3 rfl) ?_
        refine oh_cvv (As := [.int p2]) (rest := []) hC hP hD hS (mtX3_putFlag l a k D σ (oh_ixN c3) p2 hbp2) (cwV 1 hts gX0_putFlag_X3_putFlag rfl rfl rfl (by decide +kernel) ⟨Nat.le_of_ble_eq_true rfl, Nat.le_of_ble_eq_true rfl⟩) (9 + (p1 - (6 : Int32)).toNatClampNeg) 3 (oh_gln a k σ (oh_ixN c3)) rfl rfl hl.1 rfl (Nat.le_of_ble_eq_true rfl) dX0_putFlag_39 (fun s4 H locs hs4 hP hD hS => ?_)
        exact oh_retv (u := s4) hC hP hD hS (by subst hs4; exact (((if_neg c1).trans (if_neg c2)).trans (if_pos c3)).symm) dX0_putFlag_42
      · rw [if_neg c3]
        refine W.eq (g2 := F0 m 32 ls ([.null])) rfl ?_
        refine lv_astore_nN (lv' := [(3, .null), (0, .ref (a 4)), (1, .int p1), (2, .int p2)]) hx hb dX0_putFlag_32 rfl hl (by decide) rfl (fun ls hl => ?_)
        refine lv_aload_nN hx hb dX0_putFlag_33 rfl (lv_at hl 0 rfl) ?_
        refine lv_ifnullN (tgt := 42) hx hb dX0_putFlag_34 (by decide) ?_
        exact oh_retv (u := σ) hC hP hD hS (by exact (((if_neg c1).trans (if_neg c2)).trans (if_neg c3)).symm) dX0_putFlag_42
    · refine lv_aload_n hx hb dX0_putFlag_15 rfl (lv_at hl 0 rfl) ?_
      refine oh_get (v := .ref (a 3)) hC hP inX0_putFlag_X0 4 rfl rfl 0 (by decide) (by decide +kernel) rfl dX0_putFlag_16 ?_
      refine lv_iload_n hx hb dX0_putFlag_19 rfl (lv_at hl 2 rfl) ?_
      refine oh_csnp (As := [.int p2]) (rest := [.ref (a 3)]) hC hP hD hS (mtX7_bit l a k D σ p2) ⟨va_cnB 1 hts gX0_putFlag_X7_bit_n84 rfl rfl rfl (oh_nM hN (by decide +kernel)) (hts (.initialized RX7) (by decide +kernel)) (by decide +kernel) ⟨Nat.le_of_ble_eq_true rfl, Nat.le_of_ble_eq_true rfl⟩, hts (.static yX7_bit) (by decide +kernel), trivial⟩ rfl hl.1 rfl (Nat.le_of_ble_eq_true rfl) dX0_putFlag_20 (fun r5 H locs hr5 hP hD hS => ?_)
      refine oh_putN (σ' := (oh_up σ 0 5 r5)) (v := .int r5) hC hP hD hS inX0_putFlag_X6 tyX6 tyX6_ok nmX6 3 rfl rfl 2 (by decide) (by decide +kernel) rfl rfl rfl (by simp) rfl dX0_putFlag_23 (fun H locs hP hD hS => ?_)
      exact oh_retv (u := (oh_up σ 0 5 r5)) hC hP hD hS (by subst hr5; exact ((if_neg c1).trans (if_pos c2)).symm) dX0_putFlag_26
  · refine lv_aload_n hx hb dX0_putFlag_4 rfl (lv_at hl 0 rfl) ?_
    refine lv_iload_n hx hb dX0_putFlag_5 rfl (lv_at hl 2 rfl) ?_
    refine oh_put (σ' := (oh_up σ 0 9 p2)) (v := .int p2) hC hP hD hS inX0_putFlag_X0 tyX0 tyX0_ok nmX0 4 rfl rfl 4 (by decide) (by decide +kernel) rfl (oh_nb hbp2) (oh_fb hbp2) (by simp) rfl dX0_putFlag_6 (fun H locs hP hD hS => ?_)
    exact oh_retv (u := (oh_up σ 0 9 p2)) hC hP hD hS (by exact (if_pos c1).symm) dX0_putFlag_9
-- OctalHouse$Bus.tell
theorem inX0_tell_X0 : ∀ w ∈ u_ws RX0 TX0 7, w ∈ wsX0_tell := by decide +kernel
theorem inX0_tell_X1 : ∀ w ∈ u_ws RX1 TX1 8, w ∈ wsX0_tell := by decide +kernel
theorem inX0_tell_X2 : ∀ w ∈ u_ws RX2 TX2 10, w ∈ wsX0_tell := by decide +kernel
def spX0_tell (σ : oh_St) (p1 : Int32) : Int32 := (if p1 = (1 : Int32) then (σ 0 10) else (if oh_ix (p1 - (2 : Int32)) 2 then (σ 7 (6 + (p1 - (2 : Int32)).toNatClampNeg)) else (if oh_ix (p1 - (8 : Int32)) 4 then (σ 14 (8 + (p1 - (8 : Int32)).toNatClampNeg)) else (0 : Int32))))
set_option maxHeartbeats 8000000 in
set_option maxRecDepth 100000 in
theorem mtX0_tell (l : Launch) (a : Nat → Nat) (k : Nat → ClassId) (D : va_G) (σ : oh_St) (p1 : Int32) : oh_Mi l yX0_tell wsX0_tell { frames := 1, cells := 0, slots := 0, locals := 21 } D (oh_ty k) (oh_W a k) [.ref (a 4), .int p1] σ (fun r u => r = spX0_tell σ p1 ∧ u = σ) := by
  refine oh_ini (cc := cX0_tell) (nL := 4) (rt := some .int) (by decide) rfl (Nat.le_of_ble_eq_true rfl) ?_
  intro p e s m below meth c A ls hC hP hD hS hl
  obtain ⟨hx, hb, hml, hown, hts, hr, hlocks, hK, hN, hA⟩ := id hC
  have hl : lv_has ls 4 [(0, .ref (a 4)), (1, .int p1)] := hl
  refine lv_iload_n hx hb dX0_tell_0 rfl (lv_at hl 1 rfl) ?_
  refine lv_iconst (v := (1 : Int32)) hx hb dX0_tell_1 (by decide) ?_
  refine lv_icmp_ne (tgt := 10) hx hb dX0_tell_2 (by decide) (fun c1 => ?_) (fun c1 => ?_)
  · refine lv_aload_n hx hb dX0_tell_10 rfl (lv_at hl 0 rfl) ?_
    refine lv_iload_n hx hb dX0_tell_11 rfl (lv_at hl 1 rfl) ?_
    refine lv_iconst (v := (2 : Int32)) hx hb dX0_tell_12 (by decide) ?_
    refine lv_isub hx hb dX0_tell_13 ?_
    refine oh_cvqp (As := [.int (p1 - (2 : Int32))]) (rest := []) hC hP hD hS (mtX0_channelAt_ l a k D σ (p1 - (2 : Int32))) (cwV 1 hts gX0_tell_X0_channelAt rfl rfl rfl (by decide +kernel) ⟨Nat.le_of_ble_eq_true rfl, Nat.le_of_ble_eq_true rfl⟩) 4 0 rfl rfl rfl hl.1 rfl (Nat.le_of_ble_eq_true rfl) dX0_tell_14 (fun H locs hP hD hS => ?_)
    by_cases c2 : oh_ix (p1 - (2 : Int32)) 2
    · rw [if_pos c2]
      refine W.eq (g2 := F0 m 17 ls ([.ref (a (15 + (p1 - (2 : Int32)).toNatClampNeg))])) rfl ?_
      refine lv_astore_n (lv' := [(2, .ref (a (15 + (p1 - (2 : Int32)).toNatClampNeg))), (0, .ref (a 4)), (1, .int p1)]) hx hb dX0_tell_17 rfl hl (by decide) rfl (fun ls hl => ?_)
      refine lv_aload_n hx hb dX0_tell_18 rfl (lv_at hl 0 rfl) ?_
      refine lv_ifnull hx hb dX0_tell_19 ?_
      refine lv_aload_n hx hb dX0_tell_22 rfl (lv_at hl 0 rfl) ?_
      refine oh_getN (v := .int (σ 7 (6 + (p1 - (2 : Int32)).toNatClampNeg))) hC hP inX0_tell_X1 (15 + (p1 - (2 : Int32)).toNatClampNeg) (oh_gch a k σ (oh_ixN c2)) rfl 3 (by decide) (by decide +kernel) rfl dX0_tell_23 ?_
      exact oh_reti (v := (σ 7 (6 + (p1 - (2 : Int32)).toNatClampNeg))) (u := σ) hC hP hD hS ⟨(by exact ((if_neg c1).trans (if_pos c2)).symm), rfl⟩ dX0_tell_26
    · rw [if_neg c2]
      refine W.eq (g2 := F0 m 17 ls ([.null])) rfl ?_
      refine lv_astore_nN (lv' := [(2, .null), (0, .ref (a 4)), (1, .int p1)]) hx hb dX0_tell_17 rfl hl (by decide) rfl (fun ls hl => ?_)
      refine lv_aload_nN hx hb dX0_tell_18 rfl (lv_at hl 0 rfl) ?_
      refine lv_ifnullN (tgt := 27) hx hb dX0_tell_19 (by decide) ?_
      refine lv_aload_n hx hb dX0_tell_27 rfl (lv_at hl 1 rfl) ?_
      refine lv_iload_n hx hb dX0_tell_28 rfl (lv_at hl 2 rfl) ?_
      refine lv_bipush (v := (8 : Int32)) hx hb dX0_tell_29 (by decide) ?_
      refine lv_isub hx hb dX0_tell_31 ?_
      refine oh_cvqp (As := [.int (p1 - (8 : Int32))]) (rest := []) hC hP hD hS (mtX0_deviceAt_ l a k D σ (p1 - (8 : Int32))) (cwV 1 hts gX0_tell_X0_deviceAt rfl rfl rfl (by decide +kernel) ⟨Nat.le_of_ble_eq_true rfl, Nat.le_of_ble_eq_true rfl⟩) 4 0 rfl rfl rfl hl.1 rfl (Nat.le_of_ble_eq_true rfl) dX0_tell_32 (fun H locs hP hD hS => ?_)
      by_cases c3 : oh_ix (p1 - (8 : Int32)) 4
      · rw [if_pos c3]
        refine W.eq (g2 := F0 m 35 ls ([.ref (a (17 + (p1 - (8 : Int32)).toNatClampNeg))])) rfl ?_
        refine lv_astore_n (lv' := [(3, .ref (a (17 + (p1 - (8 : Int32)).toNatClampNeg))), (2, .null), (0, .ref (a 4)), (1, .int p1)]) hx hb dX0_tell_35 rfl hl (by decide) rfl (fun ls hl => ?_)
        refine lv_aload_n hx hb dX0_tell_36 rfl (lv_at hl 0 rfl) ?_
        refine lv_ifnonnull (tgt := 44) hx hb dX0_tell_37 (by decide) ?_
        refine lv_aload_n hx hb dX0_tell_44 rfl (lv_at hl 0 rfl) ?_
        refine oh_getN (v := .int (σ 14 (8 + (p1 - (8 : Int32)).toNatClampNeg))) hC hP inX0_tell_X2 (17 + (p1 - (8 : Int32)).toNatClampNeg) (oh_gdv a k σ (oh_ixN c3)) rfl 5 (by decide) (by decide +kernel) rfl dX0_tell_45 ?_
        exact oh_reti (v := (σ 14 (8 + (p1 - (8 : Int32)).toNatClampNeg))) (u := σ) hC hP hD hS ⟨(by exact (((if_neg c1).trans (if_neg c2)).trans (if_pos c3)).symm), rfl⟩ dX0_tell_48
      · rw [if_neg c3]
        refine W.eq (g2 := F0 m 35 ls ([.null])) rfl ?_
        refine lv_astore_nN (lv' := [(3, .null), (2, .null), (0, .ref (a 4)), (1, .int p1)]) hx hb dX0_tell_35 rfl hl (by decide) rfl (fun ls hl => ?_)
        refine lv_aload_nN hx hb dX0_tell_36 rfl (lv_at hl 0 rfl) ?_
        refine lv_ifnonnullN hx hb dX0_tell_37 ?_
        refine lv_iconst (v := (0 : Int32)) hx hb dX0_tell_40 (by decide) ?_
        refine lv_goto (tgt := 48) hx hb dX0_tell_41 (by decide) ?_
        exact oh_reti (v := (0 : Int32)) (u := σ) hC hP hD hS ⟨(by exact (((if_neg c1).trans (if_neg c2)).trans (if_neg c3)).symm), rfl⟩ dX0_tell_48
  · refine lv_aload_n hx hb dX0_tell_5 rfl (lv_at hl 0 rfl) ?_
    refine oh_get (v := .int (σ 0 10)) hC hP inX0_tell_X0 4 rfl rfl 5 (by decide) (by decide +kernel) rfl dX0_tell_6 ?_
    exact oh_reti (v := (σ 0 10)) (u := σ) hC hP hD hS ⟨(by exact (if_pos c1).symm), rfl⟩ dX0_tell_9
-- OctalHouse$Bus.take
theorem inX0_take_X0 : ∀ w ∈ u_ws RX0 TX0 7, w ∈ wsX0_take := by decide +kernel
theorem inX0_take_X1 : ∀ w ∈ u_ws RX1 TX1 8, w ∈ wsX0_take := by decide +kernel
theorem inX0_take_X2 : ∀ w ∈ u_ws RX2 TX2 10, w ∈ wsX0_take := by decide +kernel
def spX0_take (σ : oh_St) (p1 : Int32) (p2 : Int32) : oh_St := (if p1 = (1 : Int32) then (oh_up σ 0 11 p2) else (if oh_ix (p1 - (2 : Int32)) 2 then (let s3 : oh_St := (spX1_takeRegister σ ((p1 - (2 : Int32)).toNatClampNeg) p2); s3) else (if oh_ix (p1 - (6 : Int32)) 2 then (oh_up σ 9 (6 + (p1 - (6 : Int32)).toNatClampNeg) p2) else (if oh_ix (p1 - (8 : Int32)) 4 then (oh_up σ 14 (8 + (p1 - (8 : Int32)).toNatClampNeg) p2) else σ))))
set_option maxHeartbeats 8000000 in
set_option maxRecDepth 100000 in
theorem mtX0_take (l : Launch) (a : Nat → Nat) (k : Nat → ClassId) (D : va_G) (σ : oh_St) (p1 : Int32) (p2 : Int32) : oh_Mv l yX0_take wsX0_take { frames := 1, cells := 0, slots := 0, locals := 21 } D (oh_ty k) (oh_W a k) [.ref (a 4), .int p1, .int p2] σ (fun u => u = spX0_take σ p1 p2) := by
  refine oh_inv (cc := cX0_take) (nL := 6) (rt := none) (by decide) rfl (Nat.le_of_ble_eq_true rfl) ?_
  intro p e s m below meth c A ls hC hP hD hS hl
  obtain ⟨hx, hb, hml, hown, hts, hr, hlocks, hK, hN, hA⟩ := id hC
  have hl : lv_has ls 6 [(0, .ref (a 4)), (1, .int p1), (2, .int p2)] := hl
  refine lv_iload_n hx hb dX0_take_0 rfl (lv_at hl 1 rfl) ?_
  refine lv_iconst (v := (1 : Int32)) hx hb dX0_take_1 (by decide) ?_
  refine lv_icmp_ne (tgt := 11) hx hb dX0_take_2 (by decide) (fun c1 => ?_) (fun c1 => ?_)
  · refine lv_aload_n hx hb dX0_take_11 rfl (lv_at hl 0 rfl) ?_
    refine lv_iload_n hx hb dX0_take_12 rfl (lv_at hl 1 rfl) ?_
    refine lv_iconst (v := (2 : Int32)) hx hb dX0_take_13 (by decide) ?_
    refine lv_isub hx hb dX0_take_14 ?_
    refine oh_cvqp (As := [.int (p1 - (2 : Int32))]) (rest := []) hC hP hD hS (mtX0_channelAt_ l a k D σ (p1 - (2 : Int32))) (cwV 1 hts gX0_take_X0_channelAt rfl rfl rfl (by decide +kernel) ⟨Nat.le_of_ble_eq_true rfl, Nat.le_of_ble_eq_true rfl⟩) 4 0 rfl rfl rfl hl.1 rfl (Nat.le_of_ble_eq_true rfl) dX0_take_15 (fun H locs hP hD hS => ?_)
    by_cases c2 : oh_ix (p1 - (2 : Int32)) 2
    · rw [if_pos c2]
      refine W.eq (g2 := F0 m 18 ls ([.ref (a (15 + (p1 - (2 : Int32)).toNatClampNeg))])) rfl ?_
      refine lv_astore_n (lv' := [(3, .ref (a (15 + (p1 - (2 : Int32)).toNatClampNeg))), (0, .ref (a 4)), (1, .int p1), (2, .int p2)]) hx hb dX0_take_18 rfl hl (by decide) rfl (fun ls hl => ?_)
      refine lv_aload_n hx hb dX0_take_19 rfl (lv_at hl 0 rfl) ?_
      refine lv_ifnull hx hb dX0_take_20 ?_
      refine lv_aload_n hx hb dX0_take_23 rfl (lv_at hl 0 rfl) ?_
      refine lv_iload_n hx hb dX0_take_24 rfl (lv_at hl 3 rfl) ?_
      refine oh_cvv (As := [.int p2]) (rest := []) hC hP hD hS (mtX1_takeRegister l a k D σ (oh_ixN c2) p2) (cwV 1 hts gX0_take_X1_takeRegister rfl rfl rfl (by decide +kernel) ⟨Nat.le_of_ble_eq_true rfl, Nat.le_of_ble_eq_true rfl⟩) (15 + (p1 - (2 : Int32)).toNatClampNeg) 1 (oh_gch a k σ (oh_ixN c2)) rfl rfl hl.1 rfl (Nat.le_of_ble_eq_true rfl) dX0_take_25 (fun s3 H locs hs3 hP hD hS => ?_)
      exact oh_retv (u := s3) hC hP hD hS (by subst hs3; exact ((if_neg c1).trans (if_pos c2)).symm) dX0_take_28
    · rw [if_neg c2]
      refine W.eq (g2 := F0 m 18 ls ([.null])) rfl ?_
      refine lv_astore_nN (lv' := [(3, .null), (0, .ref (a 4)), (1, .int p1), (2, .int p2)]) hx hb dX0_take_18 rfl hl (by decide) rfl (fun ls hl => ?_)
      refine lv_aload_nN hx hb dX0_take_19 rfl (lv_at hl 0 rfl) ?_
      refine lv_ifnullN (tgt := 29) hx hb dX0_take_20 (by decide) ?_
      refine lv_aload_n hx hb dX0_take_29 rfl (lv_at hl 1 rfl) ?_
      refine lv_iload_n hx hb dX0_take_30 rfl (lv_at hl 2 rfl) ?_
      refine lv_bipush (v := (6 : Int32)) hx hb dX0_take_31 (by decide) ?_
      refine lv_isub hx hb dX0_take_33 ?_
      refine oh_cvqp (As := [.int (p1 - (6 : Int32))]) (rest := []) hC hP hD hS (mtX0_channelAt_ l a k D σ (p1 - (6 : Int32))) (cwV 1 hts gX0_take_X0_channelAt rfl rfl rfl (by decide +kernel) ⟨Nat.le_of_ble_eq_true rfl, Nat.le_of_ble_eq_true rfl⟩) 4 0 rfl rfl rfl hl.1 rfl (Nat.le_of_ble_eq_true rfl) dX0_take_34 (fun H locs hP hD hS => ?_)
      by_cases c4 : oh_ix (p1 - (6 : Int32)) 2
      · rw [if_pos c4]
        refine W.eq (g2 := F0 m 37 ls ([.ref (a (15 + (p1 - (6 : Int32)).toNatClampNeg))])) rfl ?_
        refine lv_astore (lv' := [(4, .ref (a (15 + (p1 - (6 : Int32)).toNatClampNeg))), (3, .null), (0, .ref (a 4)), (1, .int p1), (2, .int p2)]) hx hb dX0_take_37 hl (by decide) rfl (fun ls hl => ?_)
        refine lv_aload hx hb dX0_take_39 (lv_at hl 0 rfl) ?_
        refine lv_ifnull hx hb dX0_take_41 ?_
        refine lv_aload hx hb dX0_take_44 (lv_at hl 0 rfl) ?_
        refine lv_iload_n hx hb dX0_take_46 rfl (lv_at hl 4 rfl) ?_
        refine oh_putN (σ' := (oh_up σ 9 (6 + (p1 - (6 : Int32)).toNatClampNeg) p2)) (v := .int p2) hC hP hD hS inX0_take_X1 tyX1 tyX1_ok nmX1 (15 + (p1 - (6 : Int32)).toNatClampNeg) (oh_gch a k σ (oh_ixN c4)) rfl 5 (by decide) (by decide +kernel) rfl rfl rfl (by simp) (oh_sch5 a k σ (oh_ixN c4) _) dX0_take_47 (fun H locs hP hD hS => ?_)
        exact oh_retv (u := (oh_up σ 9 (6 + (p1 - (6 : Int32)).toNatClampNeg) p2)) hC hP hD hS (by exact (((if_neg c1).trans (if_neg c2)).trans (if_pos c4)).symm) dX0_take_50
      · rw [if_neg c4]
        refine W.eq (g2 := F0 m 37 ls ([.null])) rfl ?_
        refine lv_astoreN (lv' := [(4, .null), (3, .null), (0, .ref (a 4)), (1, .int p1), (2, .int p2)]) hx hb dX0_take_37 hl (by decide) rfl (fun ls hl => ?_)
        refine lv_aloadN hx hb dX0_take_39 (lv_at hl 0 rfl) ?_
        refine lv_ifnullN (tgt := 51) hx hb dX0_take_41 (by decide) ?_
        refine lv_aload_n hx hb dX0_take_51 rfl (lv_at hl 2 rfl) ?_
        refine lv_iload_n hx hb dX0_take_52 rfl (lv_at hl 3 rfl) ?_
        refine lv_bipush (v := (8 : Int32)) hx hb dX0_take_53 (by decide) ?_
        refine lv_isub hx hb dX0_take_55 ?_
        refine oh_cvqp (As := [.int (p1 - (8 : Int32))]) (rest := []) hC hP hD hS (mtX0_deviceAt_ l a k D σ (p1 - (8 : Int32))) (cwV 1 hts gX0_take_X0_deviceAt rfl rfl rfl (by decide +kernel) ⟨Nat.le_of_ble_eq_true rfl, Nat.le_of_ble_eq_true rfl⟩) 4 0 rfl rfl rfl hl.1 rfl (Nat.le_of_ble_eq_true rfl) dX0_take_56 (fun H locs hP hD hS => ?_)
        by_cases c5 : oh_ix (p1 - (8 : Int32)) 4
        · rw [if_pos c5]
          refine W.eq (g2 := F0 m 59 ls ([.ref (a (17 + (p1 - (8 : Int32)).toNatClampNeg))])) rfl ?_
          refine lv_astore (lv' := [(5, .ref (a (17 + (p1 - (8 : Int32)).toNatClampNeg))), (4, .null), (3, .null), (0, .ref (a 4)), (1, .int p1), (2, .int p2)]) hx hb dX0_take_59 hl (by decide) rfl (fun ls hl => ?_)
          refine lv_aload hx hb dX0_take_61 (lv_at hl 0 rfl) ?_
          refine lv_ifnull hx hb dX0_take_63 ?_
          refine lv_aload hx hb dX0_take_66 (lv_at hl 0 rfl) ?_
          refine lv_iload_n hx hb dX0_take_68 rfl (lv_at hl 5 rfl) ?_
          refine oh_putN (σ' := (oh_up σ 14 (8 + (p1 - (8 : Int32)).toNatClampNeg) p2)) (v := .int p2) hC hP hD hS inX0_take_X2 tyX2 tyX2_ok nmX2 (17 + (p1 - (8 : Int32)).toNatClampNeg) (oh_gdv a k σ (oh_ixN c5)) rfl 5 (by decide) (by decide +kernel) rfl rfl rfl (by simp) (oh_sdv5 a k σ (oh_ixN c5) _) dX0_take_69 (fun H locs hP hD hS => ?_)
          exact oh_retv (u := (oh_up σ 14 (8 + (p1 - (8 : Int32)).toNatClampNeg) p2)) hC hP hD hS (by exact ((((if_neg c1).trans (if_neg c2)).trans (if_neg c4)).trans (if_pos c5)).symm) dX0_take_72
        · rw [if_neg c5]
          refine W.eq (g2 := F0 m 59 ls ([.null])) rfl ?_
          refine lv_astoreN (lv' := [(5, .null), (4, .null), (3, .null), (0, .ref (a 4)), (1, .int p1), (2, .int p2)]) hx hb dX0_take_59 hl (by decide) rfl (fun ls hl => ?_)
          refine lv_aloadN hx hb dX0_take_61 (lv_at hl 0 rfl) ?_
          refine lv_ifnullN (tgt := 72) hx hb dX0_take_63 (by decide) ?_
          exact oh_retv (u := σ) hC hP hD hS (by exact ((((if_neg c1).trans (if_neg c2)).trans (if_neg c4)).trans (if_neg c5)).symm) dX0_take_72
  · refine lv_aload_n hx hb dX0_take_5 rfl (lv_at hl 0 rfl) ?_
    refine lv_iload_n hx hb dX0_take_6 rfl (lv_at hl 2 rfl) ?_
    refine oh_put (σ' := (oh_up σ 0 11 p2)) (v := .int p2) hC hP hD hS inX0_take_X0 tyX0 tyX0_ok nmX0 4 rfl rfl 6 (by decide) (by decide +kernel) rfl rfl rfl (by simp) rfl dX0_take_7 (fun H locs hP hD hS => ?_)
    exact oh_retv (u := (oh_up σ 0 11 p2)) hC hP hD hS (by exact (if_pos c1).symm) dX0_take_10
-- OctalHouse$Bus.resetAllControls
theorem inX0_resetAllControls_X1 : ∀ w ∈ u_ws RX1 TX1 8, w ∈ wsX0_resetAllControls := by decide +kernel
theorem inX0_resetAllControls_X3 : ∀ w ∈ u_ws RX3 TX3 3, w ∈ wsX0_resetAllControls := by decide +kernel
def spX0_resetAllControls (σ : oh_St) : oh_St := (oh_up (oh_up (oh_up (oh_up (oh_up (oh_up (oh_up (oh_up σ 2 (6 + 0) (0 : Int32)) 2 (6 + 1) (0 : Int32)) 2 (6 + 2) (0 : Int32)) 2 (6 + 3) (0 : Int32)) 2 (6 + 4) (0 : Int32)) 2 (6 + 5) (0 : Int32)) 5 (6 + 0) (0 : Int32)) 5 (6 + 1) (0 : Int32))
set_option maxHeartbeats 8000000 in
set_option maxRecDepth 100000 in
theorem mtX0_resetAllControls (l : Launch) (a : Nat → Nat) (k : Nat → ClassId) (D : va_G) (σ : oh_St)  : oh_Mv l yX0_resetAllControls wsX0_resetAllControls { frames := 1, cells := 0, slots := 0, locals := 22 } D (oh_ty k) (oh_W a k) [.ref (a 4)] σ (fun u => u = spX0_resetAllControls σ) := by
  refine oh_inv (cc := cX0_resetAllControls) (nL := 3) (rt := none) (by decide) rfl (Nat.le_of_ble_eq_true rfl) ?_
  intro p e s m below meth c A ls hC hP hD hS hl
  obtain ⟨hx, hb, hml, hown, hts, hr, hlocks, hK, hN, hA⟩ := id hC
  have hl : lv_has ls 3 [(0, .ref (a 4))] := hl
  refine lv_bipush (v := (6 : Int32)) hx hb dX0_resetAllControls_0 (by decide) ?_
  refine lv_istore_n (lv' := [(1, .int (6 : Int32)), (0, .ref (a 4))]) hx hb dX0_resetAllControls_2 rfl hl (by decide) rfl (fun ls hl => ?_)
  refine lv_iload_n hx hb dX0_resetAllControls_3 rfl (lv_at hl 0 rfl) ?_
  refine lv_bipush (v := (11 : Int32)) hx hb dX0_resetAllControls_4 (by decide) ?_
  refine lv_icmp_gt (tgt := 30) hx hb dX0_resetAllControls_6 (by decide) (fun c0 => absurd c0 (by decide)) (fun _ => ?_)
  refine lv_aload_n hx hb dX0_resetAllControls_9 rfl (lv_at hl 1 rfl) ?_
  refine lv_iload_n hx hb dX0_resetAllControls_10 rfl (lv_at hl 0 rfl) ?_
  refine oh_cvqp (As := [.int (6 : Int32)]) (rest := []) hC hP hD hS (mtX0_lineOf_ l a k D σ (6 : Int32)) (cwV 1 hts gX0_resetAllControls_X0_lineOf rfl rfl rfl (by decide +kernel) ⟨Nat.le_of_ble_eq_true rfl, Nat.le_of_ble_eq_true rfl⟩) 4 0 rfl rfl rfl hl.1 rfl (Nat.le_of_ble_eq_true rfl) dX0_resetAllControls_11 (fun H locs hP hD hS => ?_)
  rw [if_pos (show oh_ix ((6 : Int32) - (6 : Int32)) 6 by decide)]
  refine W.eq (g2 := F0 m 14 ls ([.ref (a (9 + 0))])) rfl ?_
  refine lv_astore_n (lv' := [(2, .ref (a (9 + 0))), (1, .int (6 : Int32)), (0, .ref (a 4))]) hx hb dX0_resetAllControls_14 rfl hl (by decide) rfl (fun ls hl => ?_)
  refine lv_aload_n hx hb dX0_resetAllControls_15 rfl (lv_at hl 0 rfl) ?_
  refine lv_ifnull hx hb dX0_resetAllControls_16 ?_
  refine lv_aload_n hx hb dX0_resetAllControls_19 rfl (lv_at hl 0 rfl) ?_
  refine lv_iconst (v := (0 : Int32)) hx hb dX0_resetAllControls_20 (by decide) ?_
  refine oh_putN (σ' := (oh_up σ 2 (6 + 0) (0 : Int32))) (v := .int (0 : Int32)) hC hP hD hS inX0_resetAllControls_X3 tyX3 tyX3_ok nmX3 (9 + 0) (oh_gln a k σ (show 0 < 6 by decide)) rfl 0 (by decide) (by decide +kernel) rfl (oh_nb (by decide)) (oh_fb (by decide)) (by simp) (oh_sln0 a k σ (show 0 < 6 by decide) _) dX0_resetAllControls_21 (fun H locs hP hD hS => ?_)
  refine lv_iinc (v := (7 : Int32)) (lv' := [(1, .int (7 : Int32)), (2, .ref (a (9 + 0))), (0, .ref (a 4))]) hx hb dX0_resetAllControls_24 hl (k := 1) rfl (by first | rfl | decide) (by decide) rfl (fun ls hl => ?_)
  refine lv_goto (tgt := 3) hx hb dX0_resetAllControls_27 (by decide) ?_
  refine lv_iload_n hx hb dX0_resetAllControls_3 rfl (lv_at hl 0 rfl) ?_
  refine lv_bipush (v := (11 : Int32)) hx hb dX0_resetAllControls_4 (by decide) ?_
  refine lv_icmp_gt (tgt := 30) hx hb dX0_resetAllControls_6 (by decide) (fun c0 => absurd c0 (by decide)) (fun _ => ?_)
  refine lv_aload_n hx hb dX0_resetAllControls_9 rfl (lv_at hl 2 rfl) ?_
  refine lv_iload_n hx hb dX0_resetAllControls_10 rfl (lv_at hl 0 rfl) ?_
  refine oh_cvqp (As := [.int (7 : Int32)]) (rest := []) hC hP hD hS (mtX0_lineOf_ l a k D (oh_up σ 2 (6 + 0) (0 : Int32)) (7 : Int32)) (cwV 1 hts gX0_resetAllControls_X0_lineOf rfl rfl rfl (by decide +kernel) ⟨Nat.le_of_ble_eq_true rfl, Nat.le_of_ble_eq_true rfl⟩) 4 0 rfl rfl rfl hl.1 rfl (Nat.le_of_ble_eq_true rfl) dX0_resetAllControls_11 (fun H locs hP hD hS => ?_)
  rw [if_pos (show oh_ix ((7 : Int32) - (6 : Int32)) 6 by decide)]
  refine W.eq (g2 := F0 m 14 ls ([.ref (a (9 + 1))])) rfl ?_
  refine lv_astore_n (lv' := [(2, .ref (a (9 + 1))), (1, .int (7 : Int32)), (0, .ref (a 4))]) hx hb dX0_resetAllControls_14 rfl hl (by decide) rfl (fun ls hl => ?_)
  refine lv_aload_n hx hb dX0_resetAllControls_15 rfl (lv_at hl 0 rfl) ?_
  refine lv_ifnull hx hb dX0_resetAllControls_16 ?_
  refine lv_aload_n hx hb dX0_resetAllControls_19 rfl (lv_at hl 0 rfl) ?_
  refine lv_iconst (v := (0 : Int32)) hx hb dX0_resetAllControls_20 (by decide) ?_
  refine oh_putN (σ' := (oh_up (oh_up σ 2 (6 + 0) (0 : Int32)) 2 (6 + 1) (0 : Int32))) (v := .int (0 : Int32)) hC hP hD hS inX0_resetAllControls_X3 tyX3 tyX3_ok nmX3 (9 + 1) (oh_gln a k (oh_up σ 2 (6 + 0) (0 : Int32)) (show 1 < 6 by decide)) rfl 0 (by decide) (by decide +kernel) rfl (oh_nb (by decide)) (oh_fb (by decide)) (by simp) (oh_sln0 a k (oh_up σ 2 (6 + 0) (0 : Int32)) (show 1 < 6 by decide) _) dX0_resetAllControls_21 (fun H locs hP hD hS => ?_)
  refine lv_iinc (v := (8 : Int32)) (lv' := [(1, .int (8 : Int32)), (2, .ref (a (9 + 1))), (0, .ref (a 4))]) hx hb dX0_resetAllControls_24 hl (k := 1) rfl (by first | rfl | decide) (by decide) rfl (fun ls hl => ?_)
  refine lv_goto (tgt := 3) hx hb dX0_resetAllControls_27 (by decide) ?_
  refine lv_iload_n hx hb dX0_resetAllControls_3 rfl (lv_at hl 0 rfl) ?_
  refine lv_bipush (v := (11 : Int32)) hx hb dX0_resetAllControls_4 (by decide) ?_
  refine lv_icmp_gt (tgt := 30) hx hb dX0_resetAllControls_6 (by decide) (fun c0 => absurd c0 (by decide)) (fun _ => ?_)
  refine lv_aload_n hx hb dX0_resetAllControls_9 rfl (lv_at hl 2 rfl) ?_
  refine lv_iload_n hx hb dX0_resetAllControls_10 rfl (lv_at hl 0 rfl) ?_
  refine oh_cvqp (As := [.int (8 : Int32)]) (rest := []) hC hP hD hS (mtX0_lineOf_ l a k D (oh_up (oh_up σ 2 (6 + 0) (0 : Int32)) 2 (6 + 1) (0 : Int32)) (8 : Int32)) (cwV 1 hts gX0_resetAllControls_X0_lineOf rfl rfl rfl (by decide +kernel) ⟨Nat.le_of_ble_eq_true rfl, Nat.le_of_ble_eq_true rfl⟩) 4 0 rfl rfl rfl hl.1 rfl (Nat.le_of_ble_eq_true rfl) dX0_resetAllControls_11 (fun H locs hP hD hS => ?_)
  rw [if_pos (show oh_ix ((8 : Int32) - (6 : Int32)) 6 by decide)]
  refine W.eq (g2 := F0 m 14 ls ([.ref (a (9 + 2))])) rfl ?_
  refine lv_astore_n (lv' := [(2, .ref (a (9 + 2))), (1, .int (8 : Int32)), (0, .ref (a 4))]) hx hb dX0_resetAllControls_14 rfl hl (by decide) rfl (fun ls hl => ?_)
  refine lv_aload_n hx hb dX0_resetAllControls_15 rfl (lv_at hl 0 rfl) ?_
  refine lv_ifnull hx hb dX0_resetAllControls_16 ?_
  refine lv_aload_n hx hb dX0_resetAllControls_19 rfl (lv_at hl 0 rfl) ?_
  refine lv_iconst (v := (0 : Int32)) hx hb dX0_resetAllControls_20 (by decide) ?_
  refine oh_putN (σ' := (oh_up (oh_up (oh_up σ 2 (6 + 0) (0 : Int32)) 2 (6 + 1) (0 : Int32)) 2 (6 + 2) (0 : Int32))) (v := .int (0 : Int32)) hC hP hD hS inX0_resetAllControls_X3 tyX3 tyX3_ok nmX3 (9 + 2) (oh_gln a k (oh_up (oh_up σ 2 (6 + 0) (0 : Int32)) 2 (6 + 1) (0 : Int32)) (show 2 < 6 by decide)) rfl 0 (by decide) (by decide +kernel) rfl (oh_nb (by decide)) (oh_fb (by decide)) (by simp) (oh_sln0 a k (oh_up (oh_up σ 2 (6 + 0) (0 : Int32)) 2 (6 + 1) (0 : Int32)) (show 2 < 6 by decide) _) dX0_resetAllControls_21 (fun H locs hP hD hS => ?_)
  refine lv_iinc (v := (9 : Int32)) (lv' := [(1, .int (9 : Int32)), (2, .ref (a (9 + 2))), (0, .ref (a 4))]) hx hb dX0_resetAllControls_24 hl (k := 1) rfl (by first | rfl | decide) (by decide) rfl (fun ls hl => ?_)
  refine lv_goto (tgt := 3) hx hb dX0_resetAllControls_27 (by decide) ?_
  refine lv_iload_n hx hb dX0_resetAllControls_3 rfl (lv_at hl 0 rfl) ?_
  refine lv_bipush (v := (11 : Int32)) hx hb dX0_resetAllControls_4 (by decide) ?_
  refine lv_icmp_gt (tgt := 30) hx hb dX0_resetAllControls_6 (by decide) (fun c0 => absurd c0 (by decide)) (fun _ => ?_)
  refine lv_aload_n hx hb dX0_resetAllControls_9 rfl (lv_at hl 2 rfl) ?_
  refine lv_iload_n hx hb dX0_resetAllControls_10 rfl (lv_at hl 0 rfl) ?_
  refine oh_cvqp (As := [.int (9 : Int32)]) (rest := []) hC hP hD hS (mtX0_lineOf_ l a k D (oh_up (oh_up (oh_up σ 2 (6 + 0) (0 : Int32)) 2 (6 + 1) (0 : Int32)) 2 (6 + 2) (0 : Int32)) (9 : Int32)) (cwV 1 hts gX0_resetAllControls_X0_lineOf rfl rfl rfl (by decide +kernel) ⟨Nat.le_of_ble_eq_true rfl, Nat.le_of_ble_eq_true rfl⟩) 4 0 rfl rfl rfl hl.1 rfl (Nat.le_of_ble_eq_true rfl) dX0_resetAllControls_11 (fun H locs hP hD hS => ?_)
  rw [if_pos (show oh_ix ((9 : Int32) - (6 : Int32)) 6 by decide)]
  refine W.eq (g2 := F0 m 14 ls ([.ref (a (9 + 3))])) rfl ?_
  refine lv_astore_n (lv' := [(2, .ref (a (9 + 3))), (1, .int (9 : Int32)), (0, .ref (a 4))]) hx hb dX0_resetAllControls_14 rfl hl (by decide) rfl (fun ls hl => ?_)
  refine lv_aload_n hx hb dX0_resetAllControls_15 rfl (lv_at hl 0 rfl) ?_
  refine lv_ifnull hx hb dX0_resetAllControls_16 ?_
  refine lv_aload_n hx hb dX0_resetAllControls_19 rfl (lv_at hl 0 rfl) ?_
  refine lv_iconst (v := (0 : Int32)) hx hb dX0_resetAllControls_20 (by decide) ?_
  refine oh_putN (σ' := (oh_up (oh_up (oh_up (oh_up σ 2 (6 + 0) (0 : Int32)) 2 (6 + 1) (0 : Int32)) 2 (6 + 2) (0 : Int32)) 2 (6 + 3) (0 : Int32))) (v := .int (0 : Int32)) hC hP hD hS inX0_resetAllControls_X3 tyX3 tyX3_ok nmX3 (9 + 3) (oh_gln a k (oh_up (oh_up (oh_up σ 2 (6 + 0) (0 : Int32)) 2 (6 + 1) (0 : Int32)) 2 (6 + 2) (0 : Int32)) (show 3 < 6 by decide)) rfl 0 (by decide) (by decide +kernel) rfl (oh_nb (by decide)) (oh_fb (by decide)) (by simp) (oh_sln0 a k (oh_up (oh_up (oh_up σ 2 (6 + 0) (0 : Int32)) 2 (6 + 1) (0 : Int32)) 2 (6 + 2) (0 : Int32)) (show 3 < 6 by decide) _) dX0_resetAllControls_21 (fun H locs hP hD hS => ?_)
  refine lv_iinc (v := (10 : Int32)) (lv' := [(1, .int (10 : Int32)), (2, .ref (a (9 + 3))), (0, .ref (a 4))]) hx hb dX0_resetAllControls_24 hl (k := 1) rfl (by first | rfl | decide) (by decide) rfl (fun ls hl => ?_)
  refine lv_goto (tgt := 3) hx hb dX0_resetAllControls_27 (by decide) ?_
  refine lv_iload_n hx hb dX0_resetAllControls_3 rfl (lv_at hl 0 rfl) ?_
  refine lv_bipush (v := (11 : Int32)) hx hb dX0_resetAllControls_4 (by decide) ?_
  refine lv_icmp_gt (tgt := 30) hx hb dX0_resetAllControls_6 (by decide) (fun c0 => absurd c0 (by decide)) (fun _ => ?_)
  refine lv_aload_n hx hb dX0_resetAllControls_9 rfl (lv_at hl 2 rfl) ?_
  refine lv_iload_n hx hb dX0_resetAllControls_10 rfl (lv_at hl 0 rfl) ?_
  refine oh_cvqp (As := [.int (10 : Int32)]) (rest := []) hC hP hD hS (mtX0_lineOf_ l a k D (oh_up (oh_up (oh_up (oh_up σ 2 (6 + 0) (0 : Int32)) 2 (6 + 1) (0 : Int32)) 2 (6 + 2) (0 : Int32)) 2 (6 + 3) (0 : Int32)) (10 : Int32)) (cwV 1 hts gX0_resetAllControls_X0_lineOf rfl rfl rfl (by decide +kernel) ⟨Nat.le_of_ble_eq_true rfl, Nat.le_of_ble_eq_true rfl⟩) 4 0 rfl rfl rfl hl.1 rfl (Nat.le_of_ble_eq_true rfl) dX0_resetAllControls_11 (fun H locs hP hD hS => ?_)
  rw [if_pos (show oh_ix ((10 : Int32) - (6 : Int32)) 6 by decide)]
  refine W.eq (g2 := F0 m 14 ls ([.ref (a (9 + 4))])) rfl ?_
  refine lv_astore_n (lv' := [(2, .ref (a (9 + 4))), (1, .int (10 : Int32)), (0, .ref (a 4))]) hx hb dX0_resetAllControls_14 rfl hl (by decide) rfl (fun ls hl => ?_)
  refine lv_aload_n hx hb dX0_resetAllControls_15 rfl (lv_at hl 0 rfl) ?_
  refine lv_ifnull hx hb dX0_resetAllControls_16 ?_
  refine lv_aload_n hx hb dX0_resetAllControls_19 rfl (lv_at hl 0 rfl) ?_
  refine lv_iconst (v := (0 : Int32)) hx hb dX0_resetAllControls_20 (by decide) ?_
  refine oh_putN (σ' := (oh_up (oh_up (oh_up (oh_up (oh_up σ 2 (6 + 0) (0 : Int32)) 2 (6 + 1) (0 : Int32)) 2 (6 + 2) (0 : Int32)) 2 (6 + 3) (0 : Int32)) 2 (6 + 4) (0 : Int32))) (v := .int (0 : Int32)) hC hP hD hS inX0_resetAllControls_X3 tyX3 tyX3_ok nmX3 (9 + 4) (oh_gln a k (oh_up (oh_up (oh_up (oh_up σ 2 (6 + 0) (0 : Int32)) 2 (6 + 1) (0 : Int32)) 2 (6 + 2) (0 : Int32)) 2 (6 + 3) (0 : Int32)) (show 4 < 6 by decide)) rfl 0 (by decide) (by decide +kernel) rfl (oh_nb (by decide)) (oh_fb (by decide)) (by simp) (oh_sln0 a k (oh_up (oh_up (oh_up (oh_up σ 2 (6 + 0) (0 : Int32)) 2 (6 + 1) (0 : Int32)) 2 (6 + 2) (0 : Int32)) 2 (6 + 3) (0 : Int32)) (show 4 < 6 by decide) _) dX0_resetAllControls_21 (fun H locs hP hD hS => ?_)
  refine lv_iinc (v := (11 : Int32)) (lv' := [(1, .int (11 : Int32)), (2, .ref (a (9 + 4))), (0, .ref (a 4))]) hx hb dX0_resetAllControls_24 hl (k := 1) rfl (by first | rfl | decide) (by decide) rfl (fun ls hl => ?_)
  refine lv_goto (tgt := 3) hx hb dX0_resetAllControls_27 (by decide) ?_
  refine lv_iload_n hx hb dX0_resetAllControls_3 rfl (lv_at hl 0 rfl) ?_
  refine lv_bipush (v := (11 : Int32)) hx hb dX0_resetAllControls_4 (by decide) ?_
  refine lv_icmp_gt (tgt := 30) hx hb dX0_resetAllControls_6 (by decide) (fun c0 => absurd c0 (by decide)) (fun _ => ?_)
  refine lv_aload_n hx hb dX0_resetAllControls_9 rfl (lv_at hl 2 rfl) ?_
  refine lv_iload_n hx hb dX0_resetAllControls_10 rfl (lv_at hl 0 rfl) ?_
  refine oh_cvqp (As := [.int (11 : Int32)]) (rest := []) hC hP hD hS (mtX0_lineOf_ l a k D (oh_up (oh_up (oh_up (oh_up (oh_up σ 2 (6 + 0) (0 : Int32)) 2 (6 + 1) (0 : Int32)) 2 (6 + 2) (0 : Int32)) 2 (6 + 3) (0 : Int32)) 2 (6 + 4) (0 : Int32)) (11 : Int32)) (cwV 1 hts gX0_resetAllControls_X0_lineOf rfl rfl rfl (by decide +kernel) ⟨Nat.le_of_ble_eq_true rfl, Nat.le_of_ble_eq_true rfl⟩) 4 0 rfl rfl rfl hl.1 rfl (Nat.le_of_ble_eq_true rfl) dX0_resetAllControls_11 (fun H locs hP hD hS => ?_)
  rw [if_pos (show oh_ix ((11 : Int32) - (6 : Int32)) 6 by decide)]
  refine W.eq (g2 := F0 m 14 ls ([.ref (a (9 + 5))])) rfl ?_
  refine lv_astore_n (lv' := [(2, .ref (a (9 + 5))), (1, .int (11 : Int32)), (0, .ref (a 4))]) hx hb dX0_resetAllControls_14 rfl hl (by decide) rfl (fun ls hl => ?_)
  refine lv_aload_n hx hb dX0_resetAllControls_15 rfl (lv_at hl 0 rfl) ?_
  refine lv_ifnull hx hb dX0_resetAllControls_16 ?_
  refine lv_aload_n hx hb dX0_resetAllControls_19 rfl (lv_at hl 0 rfl) ?_
  refine lv_iconst (v := (0 : Int32)) hx hb dX0_resetAllControls_20 (by decide) ?_
  refine oh_putN (σ' := (oh_up (oh_up (oh_up (oh_up (oh_up (oh_up σ 2 (6 + 0) (0 : Int32)) 2 (6 + 1) (0 : Int32)) 2 (6 + 2) (0 : Int32)) 2 (6 + 3) (0 : Int32)) 2 (6 + 4) (0 : Int32)) 2 (6 + 5) (0 : Int32))) (v := .int (0 : Int32)) hC hP hD hS inX0_resetAllControls_X3 tyX3 tyX3_ok nmX3 (9 + 5) (oh_gln a k (oh_up (oh_up (oh_up (oh_up (oh_up σ 2 (6 + 0) (0 : Int32)) 2 (6 + 1) (0 : Int32)) 2 (6 + 2) (0 : Int32)) 2 (6 + 3) (0 : Int32)) 2 (6 + 4) (0 : Int32)) (show 5 < 6 by decide)) rfl 0 (by decide) (by decide +kernel) rfl (oh_nb (by decide)) (oh_fb (by decide)) (by simp) (oh_sln0 a k (oh_up (oh_up (oh_up (oh_up (oh_up σ 2 (6 + 0) (0 : Int32)) 2 (6 + 1) (0 : Int32)) 2 (6 + 2) (0 : Int32)) 2 (6 + 3) (0 : Int32)) 2 (6 + 4) (0 : Int32)) (show 5 < 6 by decide) _) dX0_resetAllControls_21 (fun H locs hP hD hS => ?_)
  refine lv_iinc (v := (12 : Int32)) (lv' := [(1, .int (12 : Int32)), (2, .ref (a (9 + 5))), (0, .ref (a 4))]) hx hb dX0_resetAllControls_24 hl (k := 1) rfl (by first | rfl | decide) (by decide) rfl (fun ls hl => ?_)
  refine lv_goto (tgt := 3) hx hb dX0_resetAllControls_27 (by decide) ?_
  refine lv_iload_n hx hb dX0_resetAllControls_3 rfl (lv_at hl 0 rfl) ?_
  refine lv_bipush (v := (11 : Int32)) hx hb dX0_resetAllControls_4 (by decide) ?_
  refine lv_icmp_gt (tgt := 30) hx hb dX0_resetAllControls_6 (by decide) (fun _ => ?_) (fun c0 => absurd c0 (by decide))
  refine lv_iconst (v := (0 : Int32)) hx hb dX0_resetAllControls_30 (by decide) ?_
  refine lv_istore_n (lv' := [(1, .int (0 : Int32)), (2, .ref (a (9 + 5))), (0, .ref (a 4))]) hx hb dX0_resetAllControls_31 rfl hl (by decide) rfl (fun ls hl => ?_)
  refine lv_iload_n hx hb dX0_resetAllControls_32 rfl (lv_at hl 0 rfl) ?_
  refine lv_iconst (v := (2 : Int32)) hx hb dX0_resetAllControls_33 (by decide) ?_
  refine lv_icmp_ge (tgt := 58) hx hb dX0_resetAllControls_34 (by decide) (fun c0 => absurd c0 (by decide)) (fun _ => ?_)
  refine lv_aload_n hx hb dX0_resetAllControls_37 rfl (lv_at hl 2 rfl) ?_
  refine lv_iload_n hx hb dX0_resetAllControls_38 rfl (lv_at hl 0 rfl) ?_
  refine oh_cvqp (As := [.int (0 : Int32)]) (rest := []) hC hP hD hS (mtX0_channelAt_ l a k D (oh_up (oh_up (oh_up (oh_up (oh_up (oh_up σ 2 (6 + 0) (0 : Int32)) 2 (6 + 1) (0 : Int32)) 2 (6 + 2) (0 : Int32)) 2 (6 + 3) (0 : Int32)) 2 (6 + 4) (0 : Int32)) 2 (6 + 5) (0 : Int32)) (0 : Int32)) (cwV 1 hts gX0_resetAllControls_X0_channelAt rfl rfl rfl (by decide +kernel) ⟨Nat.le_of_ble_eq_true rfl, Nat.le_of_ble_eq_true rfl⟩) 4 0 rfl rfl rfl hl.1 rfl (Nat.le_of_ble_eq_true rfl) dX0_resetAllControls_39 (fun H locs hP hD hS => ?_)
  rw [if_pos (show oh_ix (0 : Int32) 2 by decide)]
  refine W.eq (g2 := F0 m 42 ls ([.ref (a (15 + 0))])) rfl ?_
  refine lv_astore_n (lv' := [(2, .ref (a (15 + 0))), (1, .int (0 : Int32)), (0, .ref (a 4))]) hx hb dX0_resetAllControls_42 rfl hl (by decide) rfl (fun ls hl => ?_)
  refine lv_aload_n hx hb dX0_resetAllControls_43 rfl (lv_at hl 0 rfl) ?_
  refine lv_ifnull hx hb dX0_resetAllControls_44 ?_
  refine lv_aload_n hx hb dX0_resetAllControls_47 rfl (lv_at hl 0 rfl) ?_
  refine lv_iconst (v := (0 : Int32)) hx hb dX0_resetAllControls_48 (by decide) ?_
  refine oh_putN (σ' := (oh_up (oh_up (oh_up (oh_up (oh_up (oh_up (oh_up σ 2 (6 + 0) (0 : Int32)) 2 (6 + 1) (0 : Int32)) 2 (6 + 2) (0 : Int32)) 2 (6 + 3) (0 : Int32)) 2 (6 + 4) (0 : Int32)) 2 (6 + 5) (0 : Int32)) 5 (6 + 0) (0 : Int32))) (v := .int (0 : Int32)) hC hP hD hS inX0_resetAllControls_X1 tyX1 tyX1_ok nmX1 (15 + 0) (oh_gch a k (oh_up (oh_up (oh_up (oh_up (oh_up (oh_up σ 2 (6 + 0) (0 : Int32)) 2 (6 + 1) (0 : Int32)) 2 (6 + 2) (0 : Int32)) 2 (6 + 3) (0 : Int32)) 2 (6 + 4) (0 : Int32)) 2 (6 + 5) (0 : Int32)) (show 0 < 2 by decide)) rfl 1 (by decide) (by decide +kernel) rfl (oh_nb (by decide)) (oh_fb (by decide)) (by simp) (oh_sch1 a k (oh_up (oh_up (oh_up (oh_up (oh_up (oh_up σ 2 (6 + 0) (0 : Int32)) 2 (6 + 1) (0 : Int32)) 2 (6 + 2) (0 : Int32)) 2 (6 + 3) (0 : Int32)) 2 (6 + 4) (0 : Int32)) 2 (6 + 5) (0 : Int32)) (show 0 < 2 by decide) _) dX0_resetAllControls_49 (fun H locs hP hD hS => ?_)
  refine lv_iinc (v := (1 : Int32)) (lv' := [(1, .int (1 : Int32)), (2, .ref (a (15 + 0))), (0, .ref (a 4))]) hx hb dX0_resetAllControls_52 hl (k := 1) rfl (by first | rfl | decide) (by decide) rfl (fun ls hl => ?_)
  refine lv_goto (tgt := 32) hx hb dX0_resetAllControls_55 (by decide) ?_
  refine lv_iload_n hx hb dX0_resetAllControls_32 rfl (lv_at hl 0 rfl) ?_
  refine lv_iconst (v := (2 : Int32)) hx hb dX0_resetAllControls_33 (by decide) ?_
  refine lv_icmp_ge (tgt := 58) hx hb dX0_resetAllControls_34 (by decide) (fun c0 => absurd c0 (by decide)) (fun _ => ?_)
  refine lv_aload_n hx hb dX0_resetAllControls_37 rfl (lv_at hl 2 rfl) ?_
  refine lv_iload_n hx hb dX0_resetAllControls_38 rfl (lv_at hl 0 rfl) ?_
  refine oh_cvqp (As := [.int (1 : Int32)]) (rest := []) hC hP hD hS (mtX0_channelAt_ l a k D (oh_up (oh_up (oh_up (oh_up (oh_up (oh_up (oh_up σ 2 (6 + 0) (0 : Int32)) 2 (6 + 1) (0 : Int32)) 2 (6 + 2) (0 : Int32)) 2 (6 + 3) (0 : Int32)) 2 (6 + 4) (0 : Int32)) 2 (6 + 5) (0 : Int32)) 5 (6 + 0) (0 : Int32)) (1 : Int32)) (cwV 1 hts gX0_resetAllControls_X0_channelAt rfl rfl rfl (by decide +kernel) ⟨Nat.le_of_ble_eq_true rfl, Nat.le_of_ble_eq_true rfl⟩) 4 0 rfl rfl rfl hl.1 rfl (Nat.le_of_ble_eq_true rfl) dX0_resetAllControls_39 (fun H locs hP hD hS => ?_)
  rw [if_pos (show oh_ix (1 : Int32) 2 by decide)]
  refine W.eq (g2 := F0 m 42 ls ([.ref (a (15 + 1))])) rfl ?_
  refine lv_astore_n (lv' := [(2, .ref (a (15 + 1))), (1, .int (1 : Int32)), (0, .ref (a 4))]) hx hb dX0_resetAllControls_42 rfl hl (by decide) rfl (fun ls hl => ?_)
  refine lv_aload_n hx hb dX0_resetAllControls_43 rfl (lv_at hl 0 rfl) ?_
  refine lv_ifnull hx hb dX0_resetAllControls_44 ?_
  refine lv_aload_n hx hb dX0_resetAllControls_47 rfl (lv_at hl 0 rfl) ?_
  refine lv_iconst (v := (0 : Int32)) hx hb dX0_resetAllControls_48 (by decide) ?_
  refine oh_putN (σ' := (oh_up (oh_up (oh_up (oh_up (oh_up (oh_up (oh_up (oh_up σ 2 (6 + 0) (0 : Int32)) 2 (6 + 1) (0 : Int32)) 2 (6 + 2) (0 : Int32)) 2 (6 + 3) (0 : Int32)) 2 (6 + 4) (0 : Int32)) 2 (6 + 5) (0 : Int32)) 5 (6 + 0) (0 : Int32)) 5 (6 + 1) (0 : Int32))) (v := .int (0 : Int32)) hC hP hD hS inX0_resetAllControls_X1 tyX1 tyX1_ok nmX1 (15 + 1) (oh_gch a k (oh_up (oh_up (oh_up (oh_up (oh_up (oh_up (oh_up σ 2 (6 + 0) (0 : Int32)) 2 (6 + 1) (0 : Int32)) 2 (6 + 2) (0 : Int32)) 2 (6 + 3) (0 : Int32)) 2 (6 + 4) (0 : Int32)) 2 (6 + 5) (0 : Int32)) 5 (6 + 0) (0 : Int32)) (show 1 < 2 by decide)) rfl 1 (by decide) (by decide +kernel) rfl (oh_nb (by decide)) (oh_fb (by decide)) (by simp) (oh_sch1 a k (oh_up (oh_up (oh_up (oh_up (oh_up (oh_up (oh_up σ 2 (6 + 0) (0 : Int32)) 2 (6 + 1) (0 : Int32)) 2 (6 + 2) (0 : Int32)) 2 (6 + 3) (0 : Int32)) 2 (6 + 4) (0 : Int32)) 2 (6 + 5) (0 : Int32)) 5 (6 + 0) (0 : Int32)) (show 1 < 2 by decide) _) dX0_resetAllControls_49 (fun H locs hP hD hS => ?_)
  refine lv_iinc (v := (2 : Int32)) (lv' := [(1, .int (2 : Int32)), (2, .ref (a (15 + 1))), (0, .ref (a 4))]) hx hb dX0_resetAllControls_52 hl (k := 1) rfl (by first | rfl | decide) (by decide) rfl (fun ls hl => ?_)
  refine lv_goto (tgt := 32) hx hb dX0_resetAllControls_55 (by decide) ?_
  refine lv_iload_n hx hb dX0_resetAllControls_32 rfl (lv_at hl 0 rfl) ?_
  refine lv_iconst (v := (2 : Int32)) hx hb dX0_resetAllControls_33 (by decide) ?_
  refine lv_icmp_ge (tgt := 58) hx hb dX0_resetAllControls_34 (by decide) (fun _ => ?_) (fun c0 => absurd c0 (by decide))
  exact oh_retv (u := (oh_up (oh_up (oh_up (oh_up (oh_up (oh_up (oh_up (oh_up σ 2 (6 + 0) (0 : Int32)) 2 (6 + 1) (0 : Int32)) 2 (6 + 2) (0 : Int32)) 2 (6 + 3) (0 : Int32)) 2 (6 + 4) (0 : Int32)) 2 (6 + 5) (0 : Int32)) 5 (6 + 0) (0 : Int32)) 5 (6 + 1) (0 : Int32))) hC hP hD hS (by exact rfl) dX0_resetAllControls_58
-- OctalHouse$Bus.putLineControl
theorem inX0_putLineControl_X1 : ∀ w ∈ u_ws RX1 TX1 8, w ∈ wsX0_putLineControl := by decide +kernel
theorem inX0_putLineControl_X3 : ∀ w ∈ u_ws RX3 TX3 3, w ∈ wsX0_putLineControl := by decide +kernel
def spX0_putLineControl (σ : oh_St) (p1 : Int32) (p2 : Int32) : oh_St := (if oh_ix (p1 - (6 : Int32)) 6 then (let s3 : oh_St := (if oh_ix (p1 - (6 : Int32)) 2 then (oh_up (oh_up σ 2 (6 + (p1 - (6 : Int32)).toNatClampNeg) p2) 5 (6 + (p1 - (6 : Int32)).toNatClampNeg) p2) else (oh_up σ 2 (6 + (p1 - (6 : Int32)).toNatClampNeg) p2)); (if oh_ix (p1 - (8 : Int32)) 4 then (if p2 = (0 : Int32) then s3 else (let s6 : oh_St := (spX2_start s3 ((p1 - (8 : Int32)).toNatClampNeg)); s6)) else s3)) else σ)
set_option maxHeartbeats 8000000 in
set_option maxRecDepth 100000 in
theorem mtX0_putLineControl (l : Launch) (a : Nat → Nat) (k : Nat → ClassId) (D : va_G) (σ : oh_St) (p1 : Int32) (p2 : Int32) (hbp2 : p2 = 0 ∨ p2 = 1) : oh_Mv l yX0_putLineControl wsX0_putLineControl { frames := 1, cells := 0, slots := 0, locals := 22 } D (oh_ty k) (oh_W a k) [.ref (a 4), .int p1, .int p2] σ (fun u => u = spX0_putLineControl σ p1 p2) := by
  refine oh_inv (cc := cX0_putLineControl) (nL := 6) (rt := none) (by decide) rfl (Nat.le_of_ble_eq_true rfl) ?_
  intro p e s m below meth c A ls hC hP hD hS hl
  obtain ⟨hx, hb, hml, hown, hts, hr, hlocks, hK, hN, hA⟩ := id hC
  have hl : lv_has ls 6 [(0, .ref (a 4)), (1, .int p1), (2, .int p2)] := hl
  refine lv_aload_n hx hb dX0_putLineControl_0 rfl (lv_at hl 0 rfl) ?_
  refine lv_iload_n hx hb dX0_putLineControl_1 rfl (lv_at hl 1 rfl) ?_
  refine oh_cvqp (As := [.int p1]) (rest := []) hC hP hD hS (mtX0_lineOf_ l a k D σ p1) (cwV 1 hts gX0_putLineControl_X0_lineOf rfl rfl rfl (by decide +kernel) ⟨Nat.le_of_ble_eq_true rfl, Nat.le_of_ble_eq_true rfl⟩) 4 0 rfl rfl rfl hl.1 rfl (Nat.le_of_ble_eq_true rfl) dX0_putLineControl_2 (fun H locs hP hD hS => ?_)
  by_cases c1 : oh_ix (p1 - (6 : Int32)) 6
  · rw [if_pos c1]
    refine W.eq (g2 := F0 m 5 ls ([.ref (a (9 + (p1 - (6 : Int32)).toNatClampNeg))])) rfl ?_
    refine lv_astore_n (lv' := [(3, .ref (a (9 + (p1 - (6 : Int32)).toNatClampNeg))), (0, .ref (a 4)), (1, .int p1), (2, .int p2)]) hx hb dX0_putLineControl_5 rfl hl (by decide) rfl (fun ls hl => ?_)
    refine lv_aload_n hx hb dX0_putLineControl_6 rfl (lv_at hl 0 rfl) ?_
    refine lv_ifnonnull (tgt := 11) hx hb dX0_putLineControl_7 (by decide) ?_
    refine lv_aload_n hx hb dX0_putLineControl_11 rfl (lv_at hl 0 rfl) ?_
    refine lv_iload_n hx hb dX0_putLineControl_12 rfl (lv_at hl 3 rfl) ?_
    refine oh_putN (σ' := (oh_up σ 2 (6 + (p1 - (6 : Int32)).toNatClampNeg) p2)) (v := .int p2) hC hP hD hS inX0_putLineControl_X3 tyX3 tyX3_ok nmX3 (9 + (p1 - (6 : Int32)).toNatClampNeg) (oh_gln a k σ (oh_ixN c1)) rfl 0 (by decide) (by decide +kernel) rfl (oh_nb hbp2) (oh_fb hbp2) (by simp) (oh_sln0 a k σ (oh_ixN c1) _) dX0_putLineControl_13 (fun H locs hP hD hS => ?_)
    refine lv_aload_n hx hb dX0_putLineControl_16 rfl (lv_at hl 1 rfl) ?_
    refine lv_iload_n hx hb dX0_putLineControl_17 rfl (lv_at hl 2 rfl) ?_
    refine lv_bipush (v := (6 : Int32)) hx hb dX0_putLineControl_18 (by decide) ?_
    refine lv_isub hx hb dX0_putLineControl_20 ?_
    have K7 : ∀ s3 : oh_St, s3 = (if oh_ix (p1 - (6 : Int32)) 2 then (oh_up (oh_up σ 2 (6 + (p1 - (6 : Int32)).toNatClampNeg) p2) 5 (6 + (p1 - (6 : Int32)).toNatClampNeg) p2) else (oh_up σ 2 (6 + (p1 - (6 : Int32)).toNatClampNeg) p2)) → ∀ (ls : Array Slot) (H : Heap) (locs : List Loc), va_P D vwCl (oh_W a k s3) H → va_D A (oh_W a k s3) → va_S A s.heap H locs → lv_has ls 6 [(3, .ref (a (9 + (p1 - (6 : Int32)).toNatClampNeg))), (0, .ref (a 4)), (1, .int p1), (2, .int p2)] → W p l e ({ frames := 1, cells := 0, slots := 0, locals := 22 } : Room) s m (([.ref (a 4), .int p1, .int p2] : List Value).toArray) below meth c H locs 0 0 (oh_Ev below (fun u => u = spX0_putLineControl σ p1 p2) D (oh_W a k) A [.ref (a 4), .int p1, .int p2] s) (F0 m 37 ls []) := by
      intro s3 hs3 ls H locs hP hD hS hl
      refine lv_aload_n hx hb dX0_putLineControl_37 rfl (lv_at hl 1 rfl) ?_
      refine lv_iload_n hx hb dX0_putLineControl_38 rfl (lv_at hl 2 rfl) ?_
      refine lv_bipush (v := (8 : Int32)) hx hb dX0_putLineControl_39 (by decide) ?_
      refine lv_isub hx hb dX0_putLineControl_41 ?_
      refine oh_cvqp (As := [.int (p1 - (8 : Int32))]) (rest := []) hC hP hD hS (mtX0_deviceAt_ l a k D s3 (p1 - (8 : Int32))) (cwV 1 hts gX0_putLineControl_X0_deviceAt rfl rfl rfl (by decide +kernel) ⟨Nat.le_of_ble_eq_true rfl, Nat.le_of_ble_eq_true rfl⟩) 4 0 rfl rfl rfl hl.1 rfl (Nat.le_of_ble_eq_true rfl) dX0_putLineControl_42 (fun H locs hP hD hS => ?_)
      by_cases c4 : oh_ix (p1 - (8 : Int32)) 4
      · rw [if_pos c4]
        refine W.eq (g2 := F0 m 45 ls ([.ref (a (17 + (p1 - (8 : Int32)).toNatClampNeg))])) rfl ?_
        refine lv_astore (lv' := [(5, .ref (a (17 + (p1 - (8 : Int32)).toNatClampNeg))), (3, .ref (a (9 + (p1 - (6 : Int32)).toNatClampNeg))), (0, .ref (a 4)), (1, .int p1), (2, .int p2)]) hx hb dX0_putLineControl_45 hl (by decide) rfl (fun ls hl => ?_)
        refine lv_aload hx hb dX0_putLineControl_47 (lv_at hl 0 rfl) ?_
        refine lv_ifnull hx hb dX0_putLineControl_49 ?_
        refine lv_iload_n hx hb dX0_putLineControl_52 rfl (lv_at hl 4 rfl) ?_
        refine lv_if_eq (tgt := 61) hx hb dX0_putLineControl_53 (by decide) (fun c5 => ?_) (fun c5 => ?_)
        · exact oh_retv (u := s3) hC hP hD hS (by subst hs3; exact (((if_pos c1).trans (if_pos c4)).trans (if_pos c5)).symm) dX0_putLineControl_61
        · refine lv_aload hx hb dX0_putLineControl_56 (lv_at hl 0 rfl) ?_
          refine oh_cvv (As := []) (rest := []) hC hP hD hS (mtX2_start l a k D s3 (oh_ixN c4)) (cwV 0 hts gX0_putLineControl_X2_start rfl rfl rfl (by decide +kernel) ⟨Nat.le_of_ble_eq_true rfl, Nat.le_of_ble_eq_true rfl⟩) (17 + (p1 - (8 : Int32)).toNatClampNeg) 2 (oh_gdv a k s3 (oh_ixN c4)) rfl rfl hl.1 rfl (Nat.le_of_ble_eq_true rfl) dX0_putLineControl_58 (fun s6 H locs hs6 hP hD hS => ?_)
          exact oh_retv (u := s6) hC hP hD hS (by subst hs6 hs3; exact (((if_pos c1).trans (if_pos c4)).trans (if_neg c5)).symm) dX0_putLineControl_61
      · rw [if_neg c4]
        refine W.eq (g2 := F0 m 45 ls ([.null])) rfl ?_
        refine lv_astoreN (lv' := [(5, .null), (3, .ref (a (9 + (p1 - (6 : Int32)).toNatClampNeg))), (0, .ref (a 4)), (1, .int p1), (2, .int p2)]) hx hb dX0_putLineControl_45 hl (by decide) rfl (fun ls hl => ?_)
        refine lv_aloadN hx hb dX0_putLineControl_47 (lv_at hl 0 rfl) ?_
        refine lv_ifnullN (tgt := 61) hx hb dX0_putLineControl_49 (by decide) ?_
        exact oh_retv (u := s3) hC hP hD hS (by subst hs3; exact ((if_pos c1).trans (if_neg c4)).symm) dX0_putLineControl_61
    refine oh_cvqp (As := [.int (p1 - (6 : Int32))]) (rest := []) hC hP hD hS (mtX0_channelAt_ l a k D (oh_up σ 2 (6 + (p1 - (6 : Int32)).toNatClampNeg) p2) (p1 - (6 : Int32))) (cwV 1 hts gX0_putLineControl_X0_channelAt rfl rfl rfl (by decide +kernel) ⟨Nat.le_of_ble_eq_true rfl, Nat.le_of_ble_eq_true rfl⟩) 4 0 rfl rfl rfl hl.1 rfl (Nat.le_of_ble_eq_true rfl) dX0_putLineControl_21 (fun H locs hP hD hS => ?_)
    by_cases c2 : oh_ix (p1 - (6 : Int32)) 2
    · rw [if_pos c2]
      refine W.eq (g2 := F0 m 24 ls ([.ref (a (15 + (p1 - (6 : Int32)).toNatClampNeg))])) rfl ?_
      refine lv_astore (lv' := [(4, .ref (a (15 + (p1 - (6 : Int32)).toNatClampNeg))), (3, .ref (a (9 + (p1 - (6 : Int32)).toNatClampNeg))), (0, .ref (a 4)), (1, .int p1), (2, .int p2)]) hx hb dX0_putLineControl_24 hl (by decide) rfl (fun ls hl => ?_)
      refine lv_aload hx hb dX0_putLineControl_26 (lv_at hl 0 rfl) ?_
      refine lv_ifnull hx hb dX0_putLineControl_28 ?_
      refine lv_aload hx hb dX0_putLineControl_31 (lv_at hl 0 rfl) ?_
      refine lv_iload_n hx hb dX0_putLineControl_33 rfl (lv_at hl 4 rfl) ?_
      refine oh_putN (σ' := (oh_up (oh_up σ 2 (6 + (p1 - (6 : Int32)).toNatClampNeg) p2) 5 (6 + (p1 - (6 : Int32)).toNatClampNeg) p2)) (v := .int p2) hC hP hD hS inX0_putLineControl_X1 tyX1 tyX1_ok nmX1 (15 + (p1 - (6 : Int32)).toNatClampNeg) (oh_gch a k (oh_up σ 2 (6 + (p1 - (6 : Int32)).toNatClampNeg) p2) (oh_ixN c2)) rfl 1 (by decide) (by decide +kernel) rfl (oh_nb hbp2) (oh_fb hbp2) (by simp) (oh_sch1 a k (oh_up σ 2 (6 + (p1 - (6 : Int32)).toNatClampNeg) p2) (oh_ixN c2) _) dX0_putLineControl_34 (fun H locs hP hD hS => ?_)
      exact K7 _ (if_pos c2).symm ls _ _ hP hD hS (lv_sub hl [1, 2, 3, 4] rfl)
    · rw [if_neg c2]
      refine W.eq (g2 := F0 m 24 ls ([.null])) rfl ?_
      refine lv_astoreN (lv' := [(4, .null), (3, .ref (a (9 + (p1 - (6 : Int32)).toNatClampNeg))), (0, .ref (a 4)), (1, .int p1), (2, .int p2)]) hx hb dX0_putLineControl_24 hl (by decide) rfl (fun ls hl => ?_)
      refine lv_aloadN hx hb dX0_putLineControl_26 (lv_at hl 0 rfl) ?_
      refine lv_ifnullN (tgt := 37) hx hb dX0_putLineControl_28 (by decide) ?_
      exact K7 _ (if_neg c2).symm ls _ _ hP hD hS (lv_sub hl [1, 2, 3, 4] rfl)
  · rw [if_neg c1]
    refine W.eq (g2 := F0 m 5 ls ([.null])) rfl ?_
    refine lv_astore_nN (lv' := [(3, .null), (0, .ref (a 4)), (1, .int p1), (2, .int p2)]) hx hb dX0_putLineControl_5 rfl hl (by decide) rfl (fun ls hl => ?_)
    refine lv_aload_nN hx hb dX0_putLineControl_6 rfl (lv_at hl 0 rfl) ?_
    refine lv_ifnonnullN hx hb dX0_putLineControl_7 ?_
    exact oh_retv (u := σ) hC hP hD hS (by exact (if_neg c1).symm) dX0_putLineControl_10
-- OctalHouse$Bus.putControl
theorem inX0_putControl_X1 : ∀ w ∈ u_ws RX1 TX1 8, w ∈ wsX0_putControl := by decide +kernel
def spX0_putControl (σ : oh_St) (p1 : Int32) (p2 : Int32) : oh_St := (let k7 : oh_St := (if oh_ix (p1 - (2 : Int32)) 2 then (oh_up σ 11 (6 + (p1 - (2 : Int32)).toNatClampNeg) p2) else (let s5 : oh_St := (spX0_putLineControl σ p1 p2); s5)); (if p1 = (0 : Int32) then (if p2 = (0 : Int32) then (let s3 : oh_St := (spX0_resetAllControls σ); s3) else k7) else k7))
set_option maxHeartbeats 8000000 in
set_option maxRecDepth 100000 in
theorem mtX0_putControl (l : Launch) (a : Nat → Nat) (k : Nat → ClassId) (D : va_G) (σ : oh_St) (p1 : Int32) (p2 : Int32) (hbp2 : p2 = 0 ∨ p2 = 1) : oh_Mv l yX0_putControl wsX0_putControl { frames := 2, cells := 0, slots := 0, locals := 47 } D (oh_ty k) (oh_W a k) [.ref (a 4), .int p1, .int p2] σ (fun u => u = spX0_putControl σ p1 p2) := by
  refine oh_inv (cc := cX0_putControl) (nL := 4) (rt := none) (by decide) rfl (Nat.le_of_ble_eq_true rfl) ?_
  intro p e s m below meth c A ls hC hP hD hS hl
  obtain ⟨hx, hb, hml, hown, hts, hr, hlocks, hK, hN, hA⟩ := id hC
  have hl : lv_has ls 4 [(0, .ref (a 4)), (1, .int p1), (2, .int p2)] := hl
  refine lv_iload_n hx hb dX0_putControl_0 rfl (lv_at hl 1 rfl) ?_
  have K6 : (if oh_ix (p1 - (2 : Int32)) 2 then (oh_up σ 11 (6 + (p1 - (2 : Int32)).toNatClampNeg) p2) else (let s5 : oh_St := (spX0_putLineControl σ p1 p2); s5)) = spX0_putControl σ p1 p2 → ∀ (ls : Array Slot) (H : Heap) (locs : List Loc), va_P D vwCl (oh_W a k σ) H → va_D A (oh_W a k σ) → va_S A s.heap H locs → lv_has ls 4 [(0, .ref (a 4)), (1, .int p1), (2, .int p2)] → W p l e ({ frames := 2, cells := 0, slots := 0, locals := 47 } : Room) s m (([.ref (a 4), .int p1, .int p2] : List Value).toArray) below meth c H locs 0 0 (oh_Ev below (fun u => u = spX0_putControl σ p1 p2) D (oh_W a k) A [.ref (a 4), .int p1, .int p2] s) (F0 m 13 ls []) := by
    intro hK6 ls H locs hP hD hS hl
    refine lv_aload_n hx hb dX0_putControl_13 rfl (lv_at hl 0 rfl) ?_
    refine lv_iload_n hx hb dX0_putControl_14 rfl (lv_at hl 1 rfl) ?_
    refine lv_iconst (v := (2 : Int32)) hx hb dX0_putControl_15 (by decide) ?_
    refine lv_isub hx hb dX0_putControl_16 ?_
    refine oh_cvqp (As := [.int (p1 - (2 : Int32))]) (rest := []) hC hP hD hS (mtX0_channelAt_ l a k D σ (p1 - (2 : Int32))) (cwV 1 hts gX0_putControl_X0_channelAt rfl rfl rfl (by decide +kernel) ⟨Nat.le_of_ble_eq_true rfl, Nat.le_of_ble_eq_true rfl⟩) 4 0 rfl rfl rfl hl.1 rfl (Nat.le_of_ble_eq_true rfl) dX0_putControl_17 (fun H locs hP hD hS => ?_)
    by_cases c4 : oh_ix (p1 - (2 : Int32)) 2
    · rw [if_pos c4]
      refine W.eq (g2 := F0 m 20 ls ([.ref (a (15 + (p1 - (2 : Int32)).toNatClampNeg))])) rfl ?_
      refine lv_astore_n (lv' := [(3, .ref (a (15 + (p1 - (2 : Int32)).toNatClampNeg))), (0, .ref (a 4)), (1, .int p1), (2, .int p2)]) hx hb dX0_putControl_20 rfl hl (by decide) rfl (fun ls hl => ?_)
      refine lv_aload_n hx hb dX0_putControl_21 rfl (lv_at hl 0 rfl) ?_
      refine lv_ifnull hx hb dX0_putControl_22 ?_
      refine lv_aload_n hx hb dX0_putControl_25 rfl (lv_at hl 0 rfl) ?_
      refine lv_iload_n hx hb dX0_putControl_26 rfl (lv_at hl 3 rfl) ?_
      refine oh_putN (σ' := (oh_up σ 11 (6 + (p1 - (2 : Int32)).toNatClampNeg) p2)) (v := .int p2) hC hP hD hS inX0_putControl_X1 tyX1 tyX1_ok nmX1 (15 + (p1 - (2 : Int32)).toNatClampNeg) (oh_gch a k σ (oh_ixN c4)) rfl 7 (by decide) (by decide +kernel) rfl (oh_nb hbp2) (oh_fb hbp2) (by simp) (oh_sch7 a k σ (oh_ixN c4) _) dX0_putControl_27 (fun H locs hP hD hS => ?_)
      exact oh_retv (u := (oh_up σ 11 (6 + (p1 - (2 : Int32)).toNatClampNeg) p2)) hC hP hD hS (by exact ((if_pos c4).symm).trans hK6) dX0_putControl_30
    · rw [if_neg c4]
      refine W.eq (g2 := F0 m 20 ls ([.null])) rfl ?_
      refine lv_astore_nN (lv' := [(3, .null), (0, .ref (a 4)), (1, .int p1), (2, .int p2)]) hx hb dX0_putControl_20 rfl hl (by decide) rfl (fun ls hl => ?_)
      refine lv_aload_nN hx hb dX0_putControl_21 rfl (lv_at hl 0 rfl) ?_
      refine lv_ifnullN (tgt := 31) hx hb dX0_putControl_22 (by decide) ?_
      refine lv_aload_n hx hb dX0_putControl_31 rfl (lv_at hl 1 rfl) ?_
      refine lv_iload_n hx hb dX0_putControl_32 rfl (lv_at hl 2 rfl) ?_
      refine lv_iload_n hx hb dX0_putControl_33 rfl (lv_at hl 3 rfl) ?_
      refine oh_cvv (As := [.int p1, .int p2]) (rest := []) hC hP hD hS (mtX0_putLineControl l a k D σ p1 p2 hbp2) (cwV 2 hts gX0_putControl_X0_putLineControl rfl rfl rfl (by decide +kernel) ⟨Nat.le_of_ble_eq_true rfl, Nat.le_of_ble_eq_true rfl⟩) 4 0 rfl rfl rfl hl.1 rfl (Nat.le_of_ble_eq_true rfl) dX0_putControl_34 (fun s5 H locs hs5 hP hD hS => ?_)
      exact oh_retv (u := s5) hC hP hD hS (by subst hs5; exact ((if_neg c4).symm).trans hK6) dX0_putControl_37
  refine lv_if_ne (tgt := 13) hx hb dX0_putControl_1 (by decide) (fun c1 => ?_) (fun c1 => ?_)
  · exact K6 ((if_neg c1).symm) ls _ _ hP hD hS (lv_sub hl [0, 1, 2] rfl)
  · refine lv_iload_n hx hb dX0_putControl_4 rfl (lv_at hl 2 rfl) ?_
    refine lv_if_ne (tgt := 13) hx hb dX0_putControl_5 (by decide) (fun c2 => ?_) (fun c2 => ?_)
    · exact K6 (((if_pos c1).trans (if_neg c2)).symm) ls _ _ hP hD hS (lv_sub hl [0, 1, 2] rfl)
    · refine lv_aload_n hx hb dX0_putControl_8 rfl (lv_at hl 0 rfl) ?_
      refine oh_cvv (As := []) (rest := []) hC hP hD hS (mtX0_resetAllControls l a k D σ) (cwV 0 hts gX0_putControl_X0_resetAllControls rfl rfl rfl (by decide +kernel) ⟨Nat.le_of_ble_eq_true rfl, Nat.le_of_ble_eq_true rfl⟩) 4 0 rfl rfl rfl hl.1 rfl (Nat.le_of_ble_eq_true rfl) dX0_putControl_9 (fun s3 H locs hs3 hP hD hS => ?_)
      exact oh_retv (u := s3) hC hP hD hS (by subst hs3; exact ((if_pos c1).trans (if_pos c2)).symm) dX0_putControl_12
