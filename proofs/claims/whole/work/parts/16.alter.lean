-- OctalHouse$Processor.alterAndSkip
theorem inX5_alterAndSkip_X5 : ∀ w ∈ u_ws RX5 TX5 3, w ∈ wsX5_alterAndSkip := by decide +kernel
theorem inX5_alterAndSkip_X6 : ∀ w ∈ u_ws RX6 TX6 6, w ∈ wsX5_alterAndSkip := by decide +kernel
def spX5_alterAndSkip (σ : oh_St) (p1 : Int32) : oh_St := (let r1 : Int32 := (spX5_registerOf p1); (let r2 : Int32 := (spX4_read σ r1); (let r3 : Int32 := (spX5_altered r2 ((p1 >>> ((8 : Int32) &&& 31)) &&& (3 : Int32))); (let x5 : Int32 := (if (p1 &&& (32 : Int32)) = (0 : Int32) then (0 : Int32) else (1 : Int32)); (let x7 : Int32 := (if (p1 &&& (16 : Int32)) = (0 : Int32) then (0 : Int32) else (1 : Int32)); (let x9 : Int32 := (if (p1 &&& (8 : Int32)) = (0 : Int32) then (0 : Int32) else (1 : Int32)); (let x11 : Int32 := (if (p1 &&& (2 : Int32)) = (0 : Int32) then (0 : Int32) else (1 : Int32)); (let x13 : Int32 := (if (σ 0 4) = (0 : Int32) then (0 : Int32) else (1 : Int32)); (let x15 : Int32 := (if (r3 &&& (32768 : Int32)) = (0 : Int32) then (0 : Int32) else (1 : Int32)); (let x17 : Int32 := (if (r3 &&& (1 : Int32)) = (0 : Int32) then (0 : Int32) else (1 : Int32)); (let r18 : Int32 := (spX5_alteredE (σ 0 4) ((p1 >>> ((6 : Int32) &&& 31)) &&& (3 : Int32))); (let x22 : Int32 := (if (p1 &&& (4 : Int32)) = (0 : Int32) then r3 else (let r20 : Int32 := (spX5_incremented (oh_up σ 0 4 r18) r3).1; (let s21 : oh_St := (spX5_incremented (oh_up σ 0 4 r18) r3).2; r20))); (let s23 : oh_St := (if (p1 &&& (4 : Int32)) = (0 : Int32) then (oh_up σ 0 4 r18) else (let r20 : Int32 := (spX5_incremented (oh_up σ 0 4 r18) r3).1; (let s21 : oh_St := (spX5_incremented (oh_up σ 0 4 r18) r3).2; s21))); (let s24 : oh_St := (spX4_write s23 r1 x22); (let x26 : Int32 := (if x22 = (0 : Int32) then (0 : Int32) else (1 : Int32)); (if (p1 &&& (1 : Int32)) = (0 : Int32) then (let x85 : Int32 := (if x5 = (0 : Int32) then (if x7 = (0 : Int32) then (if x9 = (0 : Int32) then (if x11 = (0 : Int32) then (0 : Int32) else (if x26 = (0 : Int32) then (1 : Int32) else (0 : Int32))) else (if x17 = (0 : Int32) then (1 : Int32) else (if x11 = (0 : Int32) then (0 : Int32) else (if x26 = (0 : Int32) then (1 : Int32) else (0 : Int32))))) else (if x15 = (0 : Int32) then (1 : Int32) else (if x9 = (0 : Int32) then (if x11 = (0 : Int32) then (0 : Int32) else (if x26 = (0 : Int32) then (1 : Int32) else (0 : Int32))) else (if x17 = (0 : Int32) then (1 : Int32) else (if x11 = (0 : Int32) then (0 : Int32) else (if x26 = (0 : Int32) then (1 : Int32) else (0 : Int32))))))) else (if x13 = (0 : Int32) then (1 : Int32) else (if x7 = (0 : Int32) then (if x9 = (0 : Int32) then (if x11 = (0 : Int32) then (0 : Int32) else (if x26 = (0 : Int32) then (1 : Int32) else (0 : Int32))) else (if x17 = (0 : Int32) then (1 : Int32) else (if x11 = (0 : Int32) then (0 : Int32) else (if x26 = (0 : Int32) then (1 : Int32) else (0 : Int32))))) else (if x15 = (0 : Int32) then (1 : Int32) else (if x9 = (0 : Int32) then (if x11 = (0 : Int32) then (0 : Int32) else (if x26 = (0 : Int32) then (1 : Int32) else (0 : Int32))) else (if x17 = (0 : Int32) then (1 : Int32) else (if x11 = (0 : Int32) then (0 : Int32) else (if x26 = (0 : Int32) then (1 : Int32) else (0 : Int32))))))))); (let s86 : oh_St := (spX5_skipIf s24 x85); s86)) else (let x32 : Int32 := (if x5 = (0 : Int32) then (if x7 = (0 : Int32) then (if x9 = (0 : Int32) then (if x11 = (0 : Int32) then (1 : Int32) else (0 : Int32)) else (0 : Int32)) else (0 : Int32)) else (0 : Int32)); (let x40 : Int32 := (if x7 = (0 : Int32) then (if x9 = (0 : Int32) then (0 : Int32) else (if x17 = (0 : Int32) then (0 : Int32) else (1 : Int32))) else (if x9 = (0 : Int32) then (if x15 = (0 : Int32) then (0 : Int32) else (1 : Int32)) else (if x15 = (0 : Int32) then (0 : Int32) else (if x17 = (0 : Int32) then (0 : Int32) else (1 : Int32))))); (let x50 : Int32 := (if x32 = (0 : Int32) then (if x5 = (0 : Int32) then (if x40 = (0 : Int32) then (if x11 = (0 : Int32) then (0 : Int32) else (if x26 = (0 : Int32) then (0 : Int32) else (1 : Int32))) else (1 : Int32)) else (if x13 = (0 : Int32) then (if x40 = (0 : Int32) then (if x11 = (0 : Int32) then (0 : Int32) else (if x26 = (0 : Int32) then (0 : Int32) else (1 : Int32))) else (1 : Int32)) else (1 : Int32))) else (1 : Int32)); (let s51 : oh_St := (spX5_skipIf s24 x50); s51))))))))))))))))))))
set_option maxHeartbeats 8000000 in
set_option maxRecDepth 100000 in
theorem mtX5_alterAndSkip (l : Launch) (a : Nat → Nat) (k : Nat → ClassId) (D : va_G) (σ : oh_St) (p1 : Int32) : oh_Mv l yX5_alterAndSkip wsX5_alterAndSkip { frames := 2, cells := 0, slots := 0, locals := 41 } D (oh_ty k) (oh_W a k) [.ref (a 8), .int p1] σ (fun u => u = spX5_alterAndSkip σ p1) := by
  refine oh_inv (cc := cX5_alterAndSkip) (nL := 14) (rt := none) (by decide) rfl (Nat.le_of_ble_eq_true rfl) ?_
  intro p e s m below meth c A ls hC hP hD hS hl
  obtain ⟨hx, hb, hml, hown, hts, hr, hlocks, hK, hN, hA⟩ := id hC
  have hl : lv_has ls 14 [(0, .ref (a 8)), (1, .int p1)] := hl
  refine lv_iload_n hx hb dX5_alterAndSkip_0 rfl (lv_at hl 1 rfl) ?_
  refine oh_csp (As := [.int p1]) (rest := []) hC hP hD hS (mtX5_registerOf l a k D σ p1) (va_cwS 1 hts gX5_alterAndSkip_X5_registerOf rfl rfl rfl (by decide +kernel) ⟨Nat.le_of_ble_eq_true rfl, Nat.le_of_ble_eq_true rfl⟩) rfl hl.1 rfl (Nat.le_of_ble_eq_true rfl) dX5_alterAndSkip_1 (fun r1 H locs hr1 hP hD hS => ?_)
  refine lv_istore_n (lv' := [(2, .int r1), (0, .ref (a 8)), (1, .int p1)]) hx hb dX5_alterAndSkip_4 rfl hl (by decide) rfl (fun ls hl => ?_)
  refine lv_aload_n hx hb dX5_alterAndSkip_5 rfl (lv_at hl 1 rfl) ?_
  refine oh_get (v := .ref (a 1)) hC hP inX5_alterAndSkip_X5 8 rfl rfl 0 (by decide) (by decide +kernel) rfl dX5_alterAndSkip_6 ?_
  refine lv_iload_n hx hb dX5_alterAndSkip_9 rfl (lv_at hl 0 rfl) ?_
  refine oh_cvp (As := [.int r1]) (rest := []) hC hP hD hS (mtX4_read l a k D σ r1) (cwV 1 hts gX5_alterAndSkip_X4_read rfl rfl rfl (by decide +kernel) ⟨Nat.le_of_ble_eq_true rfl, Nat.le_of_ble_eq_true rfl⟩) 1 4 rfl rfl rfl hl.1 rfl (Nat.le_of_ble_eq_true rfl) dX5_alterAndSkip_10 (fun r2 H locs hr2 hP hD hS => ?_)
  refine lv_iload_n hx hb dX5_alterAndSkip_13 rfl (lv_at hl 2 rfl) ?_
  refine lv_bipush (v := (8 : Int32)) hx hb dX5_alterAndSkip_14 (by decide) ?_
  refine lv_ishr hx hb dX5_alterAndSkip_16 ?_
  refine lv_iconst (v := (3 : Int32)) hx hb dX5_alterAndSkip_17 (by decide) ?_
  refine lv_iand hx hb dX5_alterAndSkip_18 ?_
  refine oh_csp (As := [.int r2, .int ((p1 >>> ((8 : Int32) &&& 31)) &&& (3 : Int32))]) (rest := []) hC hP hD hS (mtX5_altered l a k D σ r2 ((p1 >>> ((8 : Int32) &&& 31)) &&& (3 : Int32))) (va_cwS 2 hts gX5_alterAndSkip_X5_altered rfl rfl rfl (by decide +kernel) ⟨Nat.le_of_ble_eq_true rfl, Nat.le_of_ble_eq_true rfl⟩) rfl hl.1 rfl (Nat.le_of_ble_eq_true rfl) dX5_alterAndSkip_19 (fun r3 H locs hr3 hP hD hS => ?_)
  refine lv_istore_n (lv' := [(3, .int r3), (2, .int r1), (0, .ref (a 8)), (1, .int p1)]) hx hb dX5_alterAndSkip_22 rfl hl (by decide) rfl (fun ls hl => ?_)
  refine lv_iload_n hx hb dX5_alterAndSkip_23 rfl (lv_at hl 3 rfl) ?_
  refine lv_bipush (v := (32 : Int32)) hx hb dX5_alterAndSkip_24 (by decide) ?_
  refine lv_iand hx hb dX5_alterAndSkip_26 ?_
  have K96 : ∀ x5 : Int32, x5 = (if (p1 &&& (32 : Int32)) = (0 : Int32) then (0 : Int32) else (1 : Int32)) → ∀ (ls : Array Slot) (H : Heap) (locs : List Loc), va_P D vwCl (oh_W a k σ) H → va_D A (oh_W a k σ) → va_S A s.heap H locs → lv_has ls 14 [(3, .int r3), (2, .int r1), (0, .ref (a 8)), (1, .int p1)] → W p l e ({ frames := 2, cells := 0, slots := 0, locals := 41 } : Room) s m (([.ref (a 8), .int p1] : List Value).toArray) below meth c H locs 0 0 (oh_Ev below (fun u => u = spX5_alterAndSkip σ p1) D (oh_W a k) A [.ref (a 8), .int p1] s) (F0 m 35 ls [.int x5]) := by
    intro x5 hx5 ls H locs hP hD hS hl
    refine lv_istore (lv' := [(4, .int x5), (3, .int r3), (2, .int r1), (0, .ref (a 8)), (1, .int p1)]) hx hb dX5_alterAndSkip_35 hl (by decide) rfl (fun ls hl => ?_)
    refine lv_iload_n hx hb dX5_alterAndSkip_37 rfl (lv_at hl 4 rfl) ?_
    refine lv_bipush (v := (16 : Int32)) hx hb dX5_alterAndSkip_38 (by decide) ?_
    refine lv_iand hx hb dX5_alterAndSkip_40 ?_
    have K95 : ∀ x7 : Int32, x7 = (if (p1 &&& (16 : Int32)) = (0 : Int32) then (0 : Int32) else (1 : Int32)) → ∀ (ls : Array Slot) (H : Heap) (locs : List Loc), va_P D vwCl (oh_W a k σ) H → va_D A (oh_W a k σ) → va_S A s.heap H locs → lv_has ls 14 [(4, .int x5), (3, .int r3), (2, .int r1), (0, .ref (a 8)), (1, .int p1)] → W p l e ({ frames := 2, cells := 0, slots := 0, locals := 41 } : Room) s m (([.ref (a 8), .int p1] : List Value).toArray) below meth c H locs 0 0 (oh_Ev below (fun u => u = spX5_alterAndSkip σ p1) D (oh_W a k) A [.ref (a 8), .int p1] s) (F0 m 49 ls [.int x7]) := by
      intro x7 hx7 ls H locs hP hD hS hl
      refine lv_istore (lv' := [(5, .int x7), (4, .int x5), (3, .int r3), (2, .int r1), (0, .ref (a 8)), (1, .int p1)]) hx hb dX5_alterAndSkip_49 hl (by decide) rfl (fun ls hl => ?_)
      refine lv_iload_n hx hb dX5_alterAndSkip_51 rfl (lv_at hl 5 rfl) ?_
      refine lv_bipush (v := (8 : Int32)) hx hb dX5_alterAndSkip_52 (by decide) ?_
      refine lv_iand hx hb dX5_alterAndSkip_54 ?_
      have K94 : ∀ x9 : Int32, x9 = (if (p1 &&& (8 : Int32)) = (0 : Int32) then (0 : Int32) else (1 : Int32)) → ∀ (ls : Array Slot) (H : Heap) (locs : List Loc), va_P D vwCl (oh_W a k σ) H → va_D A (oh_W a k σ) → va_S A s.heap H locs → lv_has ls 14 [(5, .int x7), (4, .int x5), (3, .int r3), (2, .int r1), (0, .ref (a 8)), (1, .int p1)] → W p l e ({ frames := 2, cells := 0, slots := 0, locals := 41 } : Room) s m (([.ref (a 8), .int p1] : List Value).toArray) below meth c H locs 0 0 (oh_Ev below (fun u => u = spX5_alterAndSkip σ p1) D (oh_W a k) A [.ref (a 8), .int p1] s) (F0 m 63 ls [.int x9]) := by
        intro x9 hx9 ls H locs hP hD hS hl
        refine lv_istore (lv' := [(6, .int x9), (5, .int x7), (4, .int x5), (3, .int r3), (2, .int r1), (0, .ref (a 8)), (1, .int p1)]) hx hb dX5_alterAndSkip_63 hl (by decide) rfl (fun ls hl => ?_)
        refine lv_iload_n hx hb dX5_alterAndSkip_65 rfl (lv_at hl 6 rfl) ?_
        refine lv_iconst (v := (2 : Int32)) hx hb dX5_alterAndSkip_66 (by decide) ?_
        refine lv_iand hx hb dX5_alterAndSkip_67 ?_
        have K93 : ∀ x11 : Int32, x11 = (if (p1 &&& (2 : Int32)) = (0 : Int32) then (0 : Int32) else (1 : Int32)) → ∀ (ls : Array Slot) (H : Heap) (locs : List Loc), va_P D vwCl (oh_W a k σ) H → va_D A (oh_W a k σ) → va_S A s.heap H locs → lv_has ls 14 [(6, .int x9), (5, .int x7), (4, .int x5), (3, .int r3), (2, .int r1), (0, .ref (a 8)), (1, .int p1)] → W p l e ({ frames := 2, cells := 0, slots := 0, locals := 41 } : Room) s m (([.ref (a 8), .int p1] : List Value).toArray) below meth c H locs 0 0 (oh_Ev below (fun u => u = spX5_alterAndSkip σ p1) D (oh_W a k) A [.ref (a 8), .int p1] s) (F0 m 76 ls [.int x11]) := by
          intro x11 hx11 ls H locs hP hD hS hl
          refine lv_istore (lv' := [(7, .int x11), (6, .int x9), (5, .int x7), (4, .int x5), (3, .int r3), (2, .int r1), (0, .ref (a 8)), (1, .int p1)]) hx hb dX5_alterAndSkip_76 hl (by decide) rfl (fun ls hl => ?_)
          refine lv_aload_n hx hb dX5_alterAndSkip_78 rfl (lv_at hl 6 rfl) ?_
          refine oh_get (v := .ref (a 3)) hC hP inX5_alterAndSkip_X5 8 rfl rfl 1 (by decide) (by decide +kernel) rfl dX5_alterAndSkip_79 ?_
          refine oh_getN (v := .int (σ 0 4)) hC hP inX5_alterAndSkip_X6 3 rfl rfl 1 (by decide) (by decide +kernel) rfl dX5_alterAndSkip_82 ?_
          have K92 : ∀ x13 : Int32, x13 = (if (σ 0 4) = (0 : Int32) then (0 : Int32) else (1 : Int32)) → ∀ (ls : Array Slot) (H : Heap) (locs : List Loc), va_P D vwCl (oh_W a k σ) H → va_D A (oh_W a k σ) → va_S A s.heap H locs → lv_has ls 14 [(7, .int x11), (6, .int x9), (5, .int x7), (4, .int x5), (3, .int r3), (2, .int r1), (0, .ref (a 8)), (1, .int p1)] → W p l e ({ frames := 2, cells := 0, slots := 0, locals := 41 } : Room) s m (([.ref (a 8), .int p1] : List Value).toArray) below meth c H locs 0 0 (oh_Ev below (fun u => u = spX5_alterAndSkip σ p1) D (oh_W a k) A [.ref (a 8), .int p1] s) (F0 m 93 ls [.int x13]) := by
            intro x13 hx13 ls H locs hP hD hS hl
            refine lv_istore (lv' := [(8, .int x13), (7, .int x11), (6, .int x9), (5, .int x7), (4, .int x5), (3, .int r3), (2, .int r1), (0, .ref (a 8)), (1, .int p1)]) hx hb dX5_alterAndSkip_93 hl (by decide) rfl (fun ls hl => ?_)
            refine lv_iload_n hx hb dX5_alterAndSkip_95 rfl (lv_at hl 5 rfl) ?_
            refine lv_ldc (v := (32768 : Int32)) hx hb hown (hts (.constant RX5 38 (32768)) (by decide +kernel)) dX5_alterAndSkip_96 ?_
            refine lv_iand hx hb dX5_alterAndSkip_98 ?_
            have K91 : ∀ x15 : Int32, x15 = (if (r3 &&& (32768 : Int32)) = (0 : Int32) then (0 : Int32) else (1 : Int32)) → ∀ (ls : Array Slot) (H : Heap) (locs : List Loc), va_P D vwCl (oh_W a k σ) H → va_D A (oh_W a k σ) → va_S A s.heap H locs → lv_has ls 14 [(8, .int x13), (7, .int x11), (6, .int x9), (5, .int x7), (4, .int x5), (3, .int r3), (2, .int r1), (0, .ref (a 8)), (1, .int p1)] → W p l e ({ frames := 2, cells := 0, slots := 0, locals := 41 } : Room) s m (([.ref (a 8), .int p1] : List Value).toArray) below meth c H locs 0 0 (oh_Ev below (fun u => u = spX5_alterAndSkip σ p1) D (oh_W a k) A [.ref (a 8), .int p1] s) (F0 m 107 ls [.int x15]) := by
              intro x15 hx15 ls H locs hP hD hS hl
              refine lv_istore (lv' := [(9, .int x15), (8, .int x13), (7, .int x11), (6, .int x9), (5, .int x7), (4, .int x5), (3, .int r3), (2, .int r1), (0, .ref (a 8)), (1, .int p1)]) hx hb dX5_alterAndSkip_107 hl (by decide) rfl (fun ls hl => ?_)
              refine lv_iload_n hx hb dX5_alterAndSkip_109 rfl (lv_at hl 6 rfl) ?_
              refine lv_iconst (v := (1 : Int32)) hx hb dX5_alterAndSkip_110 (by decide) ?_
              refine lv_iand hx hb dX5_alterAndSkip_111 ?_
              have K90 : ∀ x17 : Int32, x17 = (if (r3 &&& (1 : Int32)) = (0 : Int32) then (0 : Int32) else (1 : Int32)) → ∀ (ls : Array Slot) (H : Heap) (locs : List Loc), va_P D vwCl (oh_W a k σ) H → va_D A (oh_W a k σ) → va_S A s.heap H locs → lv_has ls 14 [(9, .int x15), (8, .int x13), (7, .int x11), (6, .int x9), (5, .int x7), (4, .int x5), (3, .int r3), (2, .int r1), (0, .ref (a 8)), (1, .int p1)] → W p l e ({ frames := 2, cells := 0, slots := 0, locals := 41 } : Room) s m (([.ref (a 8), .int p1] : List Value).toArray) below meth c H locs 0 0 (oh_Ev below (fun u => u = spX5_alterAndSkip σ p1) D (oh_W a k) A [.ref (a 8), .int p1] s) (F0 m 120 ls [.int x17]) := by
                intro x17 hx17 ls H locs hP hD hS hl
                refine lv_istore (lv' := [(10, .int x17), (9, .int x15), (8, .int x13), (7, .int x11), (6, .int x9), (5, .int x7), (4, .int x5), (3, .int r3), (2, .int r1), (0, .ref (a 8)), (1, .int p1)]) hx hb dX5_alterAndSkip_120 hl (by decide) rfl (fun ls hl => ?_)
                refine lv_aload_n hx hb dX5_alterAndSkip_122 rfl (lv_at hl 9 rfl) ?_
                refine oh_get (v := .ref (a 3)) hC hP inX5_alterAndSkip_X5 8 rfl rfl 1 (by decide) (by decide +kernel) rfl dX5_alterAndSkip_123 ?_
                refine lv_aload_n hx hb dX5_alterAndSkip_126 rfl (lv_at hl 9 rfl) ?_
                refine oh_get (v := .ref (a 3)) hC hP inX5_alterAndSkip_X5 8 rfl rfl 1 (by decide) (by decide +kernel) rfl dX5_alterAndSkip_127 ?_
                refine oh_getN (v := .int (σ 0 4)) hC hP inX5_alterAndSkip_X6 3 rfl rfl 1 (by decide) (by decide +kernel) rfl dX5_alterAndSkip_130 ?_
                refine lv_iload_n hx hb dX5_alterAndSkip_133 rfl (lv_at hl 10 rfl) ?_
                refine lv_bipush (v := (6 : Int32)) hx hb dX5_alterAndSkip_134 (by decide) ?_
                refine lv_ishr hx hb dX5_alterAndSkip_136 ?_
                refine lv_iconst (v := (3 : Int32)) hx hb dX5_alterAndSkip_137 (by decide) ?_
                refine lv_iand hx hb dX5_alterAndSkip_138 ?_
                refine oh_csp (As := [.int (σ 0 4), .int ((p1 >>> ((6 : Int32) &&& 31)) &&& (3 : Int32))]) (rest := [.ref (a 3)]) hC hP hD hS (mtX5_alteredE l a k D σ (σ 0 4) ((p1 >>> ((6 : Int32) &&& 31)) &&& (3 : Int32))) (va_cwS 2 hts gX5_alterAndSkip_X5_alteredE rfl rfl rfl (by decide +kernel) ⟨Nat.le_of_ble_eq_true rfl, Nat.le_of_ble_eq_true rfl⟩) rfl hl.1 rfl (Nat.le_of_ble_eq_true rfl) dX5_alterAndSkip_139 (fun r18 H locs hr18 hP hD hS => ?_)
                refine oh_putN (σ' := (oh_up σ 0 4 r18)) (v := .int r18) hC hP hD hS inX5_alterAndSkip_X6 tyX6 tyX6_ok nmX6 3 rfl rfl 1 (by decide) (by decide +kernel) rfl rfl rfl (by simp) rfl dX5_alterAndSkip_142 (fun H locs hP hD hS => ?_)
                refine lv_iload_n hx hb dX5_alterAndSkip_145 rfl (lv_at hl 10 rfl) ?_
                refine lv_iconst (v := (4 : Int32)) hx hb dX5_alterAndSkip_146 (by decide) ?_
                refine lv_iand hx hb dX5_alterAndSkip_147 ?_
                have K89 : ∀ x22 : Int32, x22 = (if (p1 &&& (4 : Int32)) = (0 : Int32) then r3 else (let r20 : Int32 := (spX5_incremented (oh_up σ 0 4 r18) r3).1; (let s21 : oh_St := (spX5_incremented (oh_up σ 0 4 r18) r3).2; r20))) → ∀ s23 : oh_St, s23 = (if (p1 &&& (4 : Int32)) = (0 : Int32) then (oh_up σ 0 4 r18) else (let r20 : Int32 := (spX5_incremented (oh_up σ 0 4 r18) r3).1; (let s21 : oh_St := (spX5_incremented (oh_up σ 0 4 r18) r3).2; s21))) → ∀ (ls : Array Slot) (H : Heap) (locs : List Loc), va_P D vwCl (oh_W a k s23) H → va_D A (oh_W a k s23) → va_S A s.heap H locs → lv_has ls 14 [(10, .int x17), (9, .int x15), (8, .int x13), (7, .int x11), (6, .int x9), (5, .int x7), (4, .int x5), (3, .int x22), (2, .int r1), (0, .ref (a 8)), (1, .int p1)] → W p l e ({ frames := 2, cells := 0, slots := 0, locals := 41 } : Room) s m (([.ref (a 8), .int p1] : List Value).toArray) below meth c H locs 0 0 (oh_Ev below (fun u => u = spX5_alterAndSkip σ p1) D (oh_W a k) A [.ref (a 8), .int p1] s) (F0 m 157 ls []) := by
                  intro x22 hx22 s23 hs23 ls H locs hP hD hS hl
                  refine lv_aload_n hx hb dX5_alterAndSkip_157 rfl (lv_at hl 9 rfl) ?_
                  refine oh_get (v := .ref (a 1)) hC hP inX5_alterAndSkip_X5 8 rfl rfl 0 (by decide) (by decide +kernel) rfl dX5_alterAndSkip_158 ?_
                  refine lv_iload_n hx hb dX5_alterAndSkip_161 rfl (lv_at hl 8 rfl) ?_
                  refine lv_iload_n hx hb dX5_alterAndSkip_162 rfl (lv_at hl 7 rfl) ?_
                  refine oh_cvv (As := [.int r1, .int x22]) (rest := []) hC hP hD hS (mtX4_write l a k D s23 r1 x22) (cwV 2 hts gX5_alterAndSkip_X4_write rfl rfl rfl (by decide +kernel) ⟨Nat.le_of_ble_eq_true rfl, Nat.le_of_ble_eq_true rfl⟩) 1 4 rfl rfl rfl hl.1 rfl (Nat.le_of_ble_eq_true rfl) dX5_alterAndSkip_163 (fun s24 H locs hs24 hP hD hS => ?_)
                  refine lv_iload_n hx hb dX5_alterAndSkip_166 rfl (lv_at hl 7 rfl) ?_
                  have K88 : ∀ x26 : Int32, x26 = (if x22 = (0 : Int32) then (0 : Int32) else (1 : Int32)) → ∀ (ls : Array Slot) (H : Heap) (locs : List Loc), va_P D vwCl (oh_W a k s24) H → va_D A (oh_W a k s24) → va_S A s.heap H locs → lv_has ls 14 [(10, .int x17), (9, .int x15), (8, .int x13), (7, .int x11), (6, .int x9), (5, .int x7), (4, .int x5), (3, .int x22), (2, .int r1), (0, .ref (a 8)), (1, .int p1)] → W p l e ({ frames := 2, cells := 0, slots := 0, locals := 41 } : Room) s m (([.ref (a 8), .int p1] : List Value).toArray) below meth c H locs 0 0 (oh_Ev below (fun u => u = spX5_alterAndSkip σ p1) D (oh_W a k) A [.ref (a 8), .int p1] s) (F0 m 175 ls [.int x26]) := by
                    intro x26 hx26 ls H locs hP hD hS hl
                    refine lv_istore (lv' := [(11, .int x26), (10, .int x17), (9, .int x15), (8, .int x13), (7, .int x11), (6, .int x9), (5, .int x7), (4, .int x5), (3, .int x22), (2, .int r1), (0, .ref (a 8)), (1, .int p1)]) hx hb dX5_alterAndSkip_175 hl (by decide) rfl (fun ls hl => ?_)
                    refine lv_iload_n hx hb dX5_alterAndSkip_177 rfl (lv_at hl 11 rfl) ?_
                    refine lv_iconst (v := (1 : Int32)) hx hb dX5_alterAndSkip_178 (by decide) ?_
                    refine lv_iand hx hb dX5_alterAndSkip_179 ?_
                    refine lv_if_ne (tgt := 233) hx hb dX5_alterAndSkip_180 (by decide) (fun c27 => ?_) (fun c27 => ?_)
                    · refine lv_iload hx hb dX5_alterAndSkip_233 (lv_at hl 7 rfl) ?_
                      have K54 : ∀ x32 : Int32, x32 = (if x5 = (0 : Int32) then (if x7 = (0 : Int32) then (if x9 = (0 : Int32) then (if x11 = (0 : Int32) then (1 : Int32) else (0 : Int32)) else (0 : Int32)) else (0 : Int32)) else (0 : Int32)) → ∀ (ls : Array Slot) (H : Heap) (locs : List Loc), va_P D vwCl (oh_W a k s24) H → va_D A (oh_W a k s24) → va_S A s.heap H locs → lv_has ls 14 [(11, .int x26), (10, .int x17), (9, .int x15), (8, .int x13), (7, .int x11), (6, .int x9), (5, .int x7), (4, .int x5), (3, .int x22), (2, .int r1), (0, .ref (a 8)), (1, .int p1)] → W p l e ({ frames := 2, cells := 0, slots := 0, locals := 41 } : Room) s m (([.ref (a 8), .int p1] : List Value).toArray) below meth c H locs 0 0 (oh_Ev below (fun u => u = spX5_alterAndSkip σ p1) D (oh_W a k) A [.ref (a 8), .int p1] s) (F0 m 258 ls [.int x32]) := by
                        intro x32 hx32 ls H locs hP hD hS hl
                        refine lv_istore (lv' := [(12, .int x32), (11, .int x26), (10, .int x17), (9, .int x15), (8, .int x13), (7, .int x11), (6, .int x9), (5, .int x7), (4, .int x5), (3, .int x22), (2, .int r1), (0, .ref (a 8)), (1, .int p1)]) hx hb dX5_alterAndSkip_258 hl (by decide) rfl (fun ls hl => ?_)
                        refine lv_iload hx hb dX5_alterAndSkip_260 (lv_at hl 7 rfl) ?_
                        have K53 : ∀ x40 : Int32, x40 = (if x7 = (0 : Int32) then (if x9 = (0 : Int32) then (0 : Int32) else (if x17 = (0 : Int32) then (0 : Int32) else (1 : Int32))) else (if x9 = (0 : Int32) then (if x15 = (0 : Int32) then (0 : Int32) else (1 : Int32)) else (if x15 = (0 : Int32) then (0 : Int32) else (if x17 = (0 : Int32) then (0 : Int32) else (1 : Int32))))) → ∀ (ls : Array Slot) (H : Heap) (locs : List Loc), va_P D vwCl (oh_W a k s24) H → va_D A (oh_W a k s24) → va_S A s.heap H locs → lv_has ls 14 [(12, .int x32), (11, .int x26), (10, .int x17), (9, .int x15), (8, .int x13), (7, .int x11), (6, .int x9), (5, .int x7), (4, .int x5), (3, .int x22), (2, .int r1), (0, .ref (a 8)), (1, .int p1)] → W p l e ({ frames := 2, cells := 0, slots := 0, locals := 41 } : Room) s m (([.ref (a 8), .int p1] : List Value).toArray) below meth c H locs 0 0 (oh_Ev below (fun u => u = spX5_alterAndSkip σ p1) D (oh_W a k) A [.ref (a 8), .int p1] s) (F0 m 313 ls [.int x40]) := by
                          intro x40 hx40 ls H locs hP hD hS hl
                          refine lv_istore (lv' := [(13, .int x40), (12, .int x32), (11, .int x26), (10, .int x17), (9, .int x15), (8, .int x13), (7, .int x11), (6, .int x9), (5, .int x7), (4, .int x5), (3, .int x22), (2, .int r1), (0, .ref (a 8)), (1, .int p1)]) hx hb dX5_alterAndSkip_313 hl (by decide) rfl (fun ls hl => ?_)
                          refine lv_aload_n hx hb dX5_alterAndSkip_315 rfl (lv_at hl 12 rfl) ?_
                          refine lv_iload hx hb dX5_alterAndSkip_316 (lv_at hl 1 rfl) ?_
                          have K52 : ∀ x50 : Int32, x50 = (if x32 = (0 : Int32) then (if x5 = (0 : Int32) then (if x40 = (0 : Int32) then (if x11 = (0 : Int32) then (0 : Int32) else (if x26 = (0 : Int32) then (0 : Int32) else (1 : Int32))) else (1 : Int32)) else (if x13 = (0 : Int32) then (if x40 = (0 : Int32) then (if x11 = (0 : Int32) then (0 : Int32) else (if x26 = (0 : Int32) then (0 : Int32) else (1 : Int32))) else (1 : Int32)) else (1 : Int32))) else (1 : Int32)) → ∀ (ls : Array Slot) (H : Heap) (locs : List Loc), va_P D vwCl (oh_W a k s24) H → va_D A (oh_W a k s24) → va_S A s.heap H locs → lv_has ls 14 [(13, .int x40), (12, .int x32), (11, .int x26), (10, .int x17), (9, .int x15), (8, .int x13), (7, .int x11), (6, .int x9), (5, .int x7), (4, .int x5), (3, .int x22), (2, .int r1), (0, .ref (a 8)), (1, .int p1)] → W p l e ({ frames := 2, cells := 0, slots := 0, locals := 41 } : Room) s m (([.ref (a 8), .int p1] : List Value).toArray) below meth c H locs 0 0 (oh_Ev below (fun u => u = spX5_alterAndSkip σ p1) D (oh_W a k) A [.ref (a 8), .int p1] s) (F0 m 351 ls [.int x50, .ref (a 8)]) := by
                            intro x50 hx50 ls H locs hP hD hS hl
                            refine oh_cvv (As := [.int x50]) (rest := []) hC hP hD hS (mtX5_skipIf l a k D s24 x50) (cwV 1 hts gX5_alterAndSkip_X5_skipIf rfl rfl rfl (by decide +kernel) ⟨Nat.le_of_ble_eq_true rfl, Nat.le_of_ble_eq_true rfl⟩) 8 5 rfl rfl rfl hl.1 rfl (Nat.le_of_ble_eq_true rfl) dX5_alterAndSkip_351 (fun s51 H locs hs51 hP hD hS => ?_)
                            exact oh_retv (u := s51) hC hP hD hS (by subst hs51 hx50 hx40 hx32 hx26 hs24 hs23 hx22 hr18 hx17 hx15 hx13 hx11 hx9 hx7 hx5 hr3 hr2 hr1; exact (if_neg c27).symm) dX5_alterAndSkip_354
                          refine lv_if_ne (tgt := 346) hx hb dX5_alterAndSkip_318 (by decide) (fun c41 => ?_) (fun c41 => ?_)
                          · refine lv_iconst (v := (1 : Int32)) hx hb dX5_alterAndSkip_346 (by decide) ?_
                            refine lv_goto (tgt := 351) hx hb dX5_alterAndSkip_347 (by decide) ?_
                            exact K52 _ (if_neg c41).symm ls _ _ hP hD hS (lv_sub hl [0, 1, 2, 3, 4, 5, 6, 7, 8, 9, 10, 11, 12, 13] rfl)
                          · refine lv_iload hx hb dX5_alterAndSkip_321 (lv_at hl 9 rfl) ?_
                            refine lv_if_eq (tgt := 331) hx hb dX5_alterAndSkip_323 (by decide) (fun c42 => ?_) (fun c42 => ?_)
                            · refine lv_iload hx hb dX5_alterAndSkip_331 (lv_at hl 0 rfl) ?_
                              refine lv_if_ne (tgt := 346) hx hb dX5_alterAndSkip_333 (by decide) (fun c43 => ?_) (fun c43 => ?_)
                              · refine lv_iconst (v := (1 : Int32)) hx hb dX5_alterAndSkip_346 (by decide) ?_
                                refine lv_goto (tgt := 351) hx hb dX5_alterAndSkip_347 (by decide) ?_
                                exact K52 _ (((if_pos c41).trans (if_pos c42)).trans (if_neg c43)).symm ls _ _ hP hD hS (lv_sub hl [0, 1, 2, 3, 4, 5, 6, 7, 8, 9, 10, 11, 12, 13] rfl)
                              · refine lv_iload hx hb dX5_alterAndSkip_336 (lv_at hl 6 rfl) ?_
                                refine lv_if_eq (tgt := 350) hx hb dX5_alterAndSkip_338 (by decide) (fun c44 => ?_) (fun c44 => ?_)
                                · refine lv_iconst (v := (0 : Int32)) hx hb dX5_alterAndSkip_350 (by decide) ?_
                                  exact K52 _ ((((if_pos c41).trans (if_pos c42)).trans (if_pos c43)).trans (if_pos c44)).symm ls _ _ hP hD hS (lv_sub hl [0, 1, 2, 3, 4, 5, 6, 7, 8, 9, 10, 11, 12, 13] rfl)
                                · refine lv_iload hx hb dX5_alterAndSkip_341 (lv_at hl 2 rfl) ?_
                                  refine lv_if_eq (tgt := 350) hx hb dX5_alterAndSkip_343 (by decide) (fun c45 => ?_) (fun c45 => ?_)
                                  · refine lv_iconst (v := (0 : Int32)) hx hb dX5_alterAndSkip_350 (by decide) ?_
                                    exact K52 _ (((((if_pos c41).trans (if_pos c42)).trans (if_pos c43)).trans (if_neg c44)).trans (if_pos c45)).symm ls _ _ hP hD hS (lv_sub hl [0, 1, 2, 3, 4, 5, 6, 7, 8, 9, 10, 11, 12, 13] rfl)
                                  · refine lv_iconst (v := (1 : Int32)) hx hb dX5_alterAndSkip_346 (by decide) ?_
                                    refine lv_goto (tgt := 351) hx hb dX5_alterAndSkip_347 (by decide) ?_
                                    exact K52 _ (((((if_pos c41).trans (if_pos c42)).trans (if_pos c43)).trans (if_neg c44)).trans (if_neg c45)).symm ls _ _ hP hD hS (lv_sub hl [0, 1, 2, 3, 4, 5, 6, 7, 8, 9, 10, 11, 12, 13] rfl)
                            · refine lv_iload hx hb dX5_alterAndSkip_326 (lv_at hl 5 rfl) ?_
                              refine lv_if_ne (tgt := 346) hx hb dX5_alterAndSkip_328 (by decide) (fun c46 => ?_) (fun c46 => ?_)
                              · refine lv_iconst (v := (1 : Int32)) hx hb dX5_alterAndSkip_346 (by decide) ?_
                                refine lv_goto (tgt := 351) hx hb dX5_alterAndSkip_347 (by decide) ?_
                                exact K52 _ (((if_pos c41).trans (if_neg c42)).trans (if_neg c46)).symm ls _ _ hP hD hS (lv_sub hl [0, 1, 2, 3, 4, 5, 6, 7, 8, 9, 10, 11, 12, 13] rfl)
                              · refine lv_iload hx hb dX5_alterAndSkip_331 (lv_at hl 0 rfl) ?_
                                refine lv_if_ne (tgt := 346) hx hb dX5_alterAndSkip_333 (by decide) (fun c47 => ?_) (fun c47 => ?_)
                                · refine lv_iconst (v := (1 : Int32)) hx hb dX5_alterAndSkip_346 (by decide) ?_
                                  refine lv_goto (tgt := 351) hx hb dX5_alterAndSkip_347 (by decide) ?_
                                  exact K52 _ ((((if_pos c41).trans (if_neg c42)).trans (if_pos c46)).trans (if_neg c47)).symm ls _ _ hP hD hS (lv_sub hl [0, 1, 2, 3, 4, 5, 6, 7, 8, 9, 10, 11, 12, 13] rfl)
                                · refine lv_iload hx hb dX5_alterAndSkip_336 (lv_at hl 6 rfl) ?_
                                  refine lv_if_eq (tgt := 350) hx hb dX5_alterAndSkip_338 (by decide) (fun c48 => ?_) (fun c48 => ?_)
                                  · refine lv_iconst (v := (0 : Int32)) hx hb dX5_alterAndSkip_350 (by decide) ?_
                                    exact K52 _ (((((if_pos c41).trans (if_neg c42)).trans (if_pos c46)).trans (if_pos c47)).trans (if_pos c48)).symm ls _ _ hP hD hS (lv_sub hl [0, 1, 2, 3, 4, 5, 6, 7, 8, 9, 10, 11, 12, 13] rfl)
                                  · refine lv_iload hx hb dX5_alterAndSkip_341 (lv_at hl 2 rfl) ?_
                                    refine lv_if_eq (tgt := 350) hx hb dX5_alterAndSkip_343 (by decide) (fun c49 => ?_) (fun c49 => ?_)
                                    · refine lv_iconst (v := (0 : Int32)) hx hb dX5_alterAndSkip_350 (by decide) ?_
                                      exact K52 _ ((((((if_pos c41).trans (if_neg c42)).trans (if_pos c46)).trans (if_pos c47)).trans (if_neg c48)).trans (if_pos c49)).symm ls _ _ hP hD hS (lv_sub hl [0, 1, 2, 3, 4, 5, 6, 7, 8, 9, 10, 11, 12, 13] rfl)
                                    · refine lv_iconst (v := (1 : Int32)) hx hb dX5_alterAndSkip_346 (by decide) ?_
                                      refine lv_goto (tgt := 351) hx hb dX5_alterAndSkip_347 (by decide) ?_
                                      exact K52 _ ((((((if_pos c41).trans (if_neg c42)).trans (if_pos c46)).trans (if_pos c47)).trans (if_neg c48)).trans (if_neg c49)).symm ls _ _ hP hD hS (lv_sub hl [0, 1, 2, 3, 4, 5, 6, 7, 8, 9, 10, 11, 12, 13] rfl)
                        refine lv_if_eq (tgt := 288) hx hb dX5_alterAndSkip_262 (by decide) (fun c33 => ?_) (fun c33 => ?_)
                        · refine lv_iload hx hb dX5_alterAndSkip_288 (lv_at hl 7 rfl) ?_
                          refine lv_if_eq (tgt := 298) hx hb dX5_alterAndSkip_290 (by decide) (fun _ => ?_) (fun c0 => absurd c33 c0)
                          refine lv_iload hx hb dX5_alterAndSkip_298 (lv_at hl 6 rfl) ?_
                          refine lv_if_eq (tgt := 312) hx hb dX5_alterAndSkip_300 (by decide) (fun c34 => ?_) (fun c34 => ?_)
                          · refine lv_iconst (v := (0 : Int32)) hx hb dX5_alterAndSkip_312 (by decide) ?_
                            exact K53 _ ((if_pos c33).trans (if_pos c34)).symm ls _ _ hP hD hS (lv_sub hl [0, 1, 2, 3, 4, 5, 6, 7, 8, 9, 10, 11, 12] rfl)
                          · refine lv_iload hx hb dX5_alterAndSkip_303 (lv_at hl 2 rfl) ?_
                            refine lv_if_eq (tgt := 312) hx hb dX5_alterAndSkip_305 (by decide) (fun c35 => ?_) (fun c35 => ?_)
                            · refine lv_iconst (v := (0 : Int32)) hx hb dX5_alterAndSkip_312 (by decide) ?_
                              exact K53 _ (((if_pos c33).trans (if_neg c34)).trans (if_pos c35)).symm ls _ _ hP hD hS (lv_sub hl [0, 1, 2, 3, 4, 5, 6, 7, 8, 9, 10, 11, 12] rfl)
                            · refine lv_iconst (v := (1 : Int32)) hx hb dX5_alterAndSkip_308 (by decide) ?_
                              refine lv_goto (tgt := 313) hx hb dX5_alterAndSkip_309 (by decide) ?_
                              exact K53 _ (((if_pos c33).trans (if_neg c34)).trans (if_neg c35)).symm ls _ _ hP hD hS (lv_sub hl [0, 1, 2, 3, 4, 5, 6, 7, 8, 9, 10, 11, 12] rfl)
                        · refine lv_iload hx hb dX5_alterAndSkip_265 (lv_at hl 6 rfl) ?_
                          refine lv_if_eq (tgt := 288) hx hb dX5_alterAndSkip_267 (by decide) (fun c36 => ?_) (fun c36 => ?_)
                          · refine lv_iload hx hb dX5_alterAndSkip_288 (lv_at hl 7 rfl) ?_
                            refine lv_if_eq (tgt := 298) hx hb dX5_alterAndSkip_290 (by decide) (fun c0 => absurd c0 c33) (fun _ => ?_)
                            refine lv_iload hx hb dX5_alterAndSkip_293 (lv_at hl 3 rfl) ?_
                            refine lv_if_ne (tgt := 308) hx hb dX5_alterAndSkip_295 (by decide) (fun c37 => ?_) (fun c37 => ?_)
                            · refine lv_iconst (v := (1 : Int32)) hx hb dX5_alterAndSkip_308 (by decide) ?_
                              refine lv_goto (tgt := 313) hx hb dX5_alterAndSkip_309 (by decide) ?_
                              exact K53 _ (((if_neg c33).trans (if_pos c36)).trans (if_neg c37)).symm ls _ _ hP hD hS (lv_sub hl [0, 1, 2, 3, 4, 5, 6, 7, 8, 9, 10, 11, 12] rfl)
                            · refine lv_iload hx hb dX5_alterAndSkip_298 (lv_at hl 6 rfl) ?_
                              refine lv_if_eq (tgt := 312) hx hb dX5_alterAndSkip_300 (by decide) (fun _ => ?_) (fun c0 => absurd c36 c0)
                              refine lv_iconst (v := (0 : Int32)) hx hb dX5_alterAndSkip_312 (by decide) ?_
                              exact K53 _ (((if_neg c33).trans (if_pos c36)).trans (if_pos c37)).symm ls _ _ hP hD hS (lv_sub hl [0, 1, 2, 3, 4, 5, 6, 7, 8, 9, 10, 11, 12] rfl)
                          · refine lv_iload hx hb dX5_alterAndSkip_270 (lv_at hl 3 rfl) ?_
                            refine lv_if_eq (tgt := 284) hx hb dX5_alterAndSkip_272 (by decide) (fun c38 => ?_) (fun c38 => ?_)
                            · refine lv_iconst (v := (0 : Int32)) hx hb dX5_alterAndSkip_284 (by decide) ?_
                              refine lv_goto (tgt := 313) hx hb dX5_alterAndSkip_285 (by decide) ?_
                              exact K53 _ (((if_neg c33).trans (if_neg c36)).trans (if_pos c38)).symm ls _ _ hP hD hS (lv_sub hl [0, 1, 2, 3, 4, 5, 6, 7, 8, 9, 10, 11, 12] rfl)
                            · refine lv_iload hx hb dX5_alterAndSkip_275 (lv_at hl 2 rfl) ?_
                              refine lv_if_eq (tgt := 284) hx hb dX5_alterAndSkip_277 (by decide) (fun c39 => ?_) (fun c39 => ?_)
                              · refine lv_iconst (v := (0 : Int32)) hx hb dX5_alterAndSkip_284 (by decide) ?_
                                refine lv_goto (tgt := 313) hx hb dX5_alterAndSkip_285 (by decide) ?_
                                exact K53 _ ((((if_neg c33).trans (if_neg c36)).trans (if_neg c38)).trans (if_pos c39)).symm ls _ _ hP hD hS (lv_sub hl [0, 1, 2, 3, 4, 5, 6, 7, 8, 9, 10, 11, 12] rfl)
                              · refine lv_iconst (v := (1 : Int32)) hx hb dX5_alterAndSkip_280 (by decide) ?_
                                refine lv_goto (tgt := 313) hx hb dX5_alterAndSkip_281 (by decide) ?_
                                exact K53 _ ((((if_neg c33).trans (if_neg c36)).trans (if_neg c38)).trans (if_neg c39)).symm ls _ _ hP hD hS (lv_sub hl [0, 1, 2, 3, 4, 5, 6, 7, 8, 9, 10, 11, 12] rfl)
                      refine lv_if_ne (tgt := 257) hx hb dX5_alterAndSkip_235 (by decide) (fun c28 => ?_) (fun c28 => ?_)
                      · refine lv_iconst (v := (0 : Int32)) hx hb dX5_alterAndSkip_257 (by decide) ?_
                        exact K54 _ (if_neg c28).symm ls _ _ hP hD hS (lv_sub hl [0, 1, 2, 3, 4, 5, 6, 7, 8, 9, 10, 11] rfl)
                      · refine lv_iload hx hb dX5_alterAndSkip_238 (lv_at hl 6 rfl) ?_
                        refine lv_if_ne (tgt := 257) hx hb dX5_alterAndSkip_240 (by decide) (fun c29 => ?_) (fun c29 => ?_)
                        · refine lv_iconst (v := (0 : Int32)) hx hb dX5_alterAndSkip_257 (by decide) ?_
                          exact K54 _ ((if_pos c28).trans (if_neg c29)).symm ls _ _ hP hD hS (lv_sub hl [0, 1, 2, 3, 4, 5, 6, 7, 8, 9, 10, 11] rfl)
                        · refine lv_iload hx hb dX5_alterAndSkip_243 (lv_at hl 5 rfl) ?_
                          refine lv_if_ne (tgt := 257) hx hb dX5_alterAndSkip_245 (by decide) (fun c30 => ?_) (fun c30 => ?_)
                          · refine lv_iconst (v := (0 : Int32)) hx hb dX5_alterAndSkip_257 (by decide) ?_
                            exact K54 _ (((if_pos c28).trans (if_pos c29)).trans (if_neg c30)).symm ls _ _ hP hD hS (lv_sub hl [0, 1, 2, 3, 4, 5, 6, 7, 8, 9, 10, 11] rfl)
                          · refine lv_iload hx hb dX5_alterAndSkip_248 (lv_at hl 4 rfl) ?_
                            refine lv_if_ne (tgt := 257) hx hb dX5_alterAndSkip_250 (by decide) (fun c31 => ?_) (fun c31 => ?_)
                            · refine lv_iconst (v := (0 : Int32)) hx hb dX5_alterAndSkip_257 (by decide) ?_
                              exact K54 _ ((((if_pos c28).trans (if_pos c29)).trans (if_pos c30)).trans (if_neg c31)).symm ls _ _ hP hD hS (lv_sub hl [0, 1, 2, 3, 4, 5, 6, 7, 8, 9, 10, 11] rfl)
                            · refine lv_iconst (v := (1 : Int32)) hx hb dX5_alterAndSkip_253 (by decide) ?_
                              refine lv_goto (tgt := 258) hx hb dX5_alterAndSkip_254 (by decide) ?_
                              exact K54 _ ((((if_pos c28).trans (if_pos c29)).trans (if_pos c30)).trans (if_pos c31)).symm ls _ _ hP hD hS (lv_sub hl [0, 1, 2, 3, 4, 5, 6, 7, 8, 9, 10, 11] rfl)
                    · refine lv_aload_n hx hb dX5_alterAndSkip_183 rfl (lv_at hl 10 rfl) ?_
                      refine lv_iload hx hb dX5_alterAndSkip_184 (lv_at hl 7 rfl) ?_
                      have K87 : ∀ x85 : Int32, x85 = (if x5 = (0 : Int32) then (if x7 = (0 : Int32) then (if x9 = (0 : Int32) then (if x11 = (0 : Int32) then (0 : Int32) else (if x26 = (0 : Int32) then (1 : Int32) else (0 : Int32))) else (if x17 = (0 : Int32) then (1 : Int32) else (if x11 = (0 : Int32) then (0 : Int32) else (if x26 = (0 : Int32) then (1 : Int32) else (0 : Int32))))) else (if x15 = (0 : Int32) then (1 : Int32) else (if x9 = (0 : Int32) then (if x11 = (0 : Int32) then (0 : Int32) else (if x26 = (0 : Int32) then (1 : Int32) else (0 : Int32))) else (if x17 = (0 : Int32) then (1 : Int32) else (if x11 = (0 : Int32) then (0 : Int32) else (if x26 = (0 : Int32) then (1 : Int32) else (0 : Int32))))))) else (if x13 = (0 : Int32) then (1 : Int32) else (if x7 = (0 : Int32) then (if x9 = (0 : Int32) then (if x11 = (0 : Int32) then (0 : Int32) else (if x26 = (0 : Int32) then (1 : Int32) else (0 : Int32))) else (if x17 = (0 : Int32) then (1 : Int32) else (if x11 = (0 : Int32) then (0 : Int32) else (if x26 = (0 : Int32) then (1 : Int32) else (0 : Int32))))) else (if x15 = (0 : Int32) then (1 : Int32) else (if x9 = (0 : Int32) then (if x11 = (0 : Int32) then (0 : Int32) else (if x26 = (0 : Int32) then (1 : Int32) else (0 : Int32))) else (if x17 = (0 : Int32) then (1 : Int32) else (if x11 = (0 : Int32) then (0 : Int32) else (if x26 = (0 : Int32) then (1 : Int32) else (0 : Int32))))))))) → ∀ (ls : Array Slot) (H : Heap) (locs : List Loc), va_P D vwCl (oh_W a k s24) H → va_D A (oh_W a k s24) → va_S A s.heap H locs → lv_has ls 14 [(11, .int x26), (10, .int x17), (9, .int x15), (8, .int x13), (7, .int x11), (6, .int x9), (5, .int x7), (4, .int x5), (3, .int x22), (2, .int r1), (0, .ref (a 8)), (1, .int p1)] → W p l e ({ frames := 2, cells := 0, slots := 0, locals := 41 } : Room) s m (([.ref (a 8), .int p1] : List Value).toArray) below meth c H locs 0 0 (oh_Ev below (fun u => u = spX5_alterAndSkip σ p1) D (oh_W a k) A [.ref (a 8), .int p1] s) (F0 m 229 ls [.int x85, .ref (a 8)]) := by
                        intro x85 hx85 ls H locs hP hD hS hl
                        refine oh_cvv (As := [.int x85]) (rest := []) hC hP hD hS (mtX5_skipIf l a k D s24 x85) (cwV 1 hts gX5_alterAndSkip_X5_skipIf rfl rfl rfl (by decide +kernel) ⟨Nat.le_of_ble_eq_true rfl, Nat.le_of_ble_eq_true rfl⟩) 8 5 rfl rfl rfl hl.1 rfl (Nat.le_of_ble_eq_true rfl) dX5_alterAndSkip_229 (fun s86 H locs hs86 hP hD hS => ?_)
                        exact oh_retv (u := s86) hC hP hD hS (by subst hs86 hx85 hx26 hs24 hs23 hx22 hr18 hx17 hx15 hx13 hx11 hx9 hx7 hx5 hr3 hr2 hr1; exact (if_pos c27).symm) dX5_alterAndSkip_232
                      refine lv_if_eq (tgt := 194) hx hb dX5_alterAndSkip_186 (by decide) (fun c55 => ?_) (fun c55 => ?_)
                      · refine lv_iload hx hb dX5_alterAndSkip_194 (lv_at hl 6 rfl) ?_
                        refine lv_if_eq (tgt := 204) hx hb dX5_alterAndSkip_196 (by decide) (fun c56 => ?_) (fun c56 => ?_)
                        · refine lv_iload hx hb dX5_alterAndSkip_204 (lv_at hl 5 rfl) ?_
                          refine lv_if_eq (tgt := 214) hx hb dX5_alterAndSkip_206 (by decide) (fun c57 => ?_) (fun c57 => ?_)
                          · refine lv_iload hx hb dX5_alterAndSkip_214 (lv_at hl 4 rfl) ?_
                            refine lv_if_eq (tgt := 228) hx hb dX5_alterAndSkip_216 (by decide) (fun c58 => ?_) (fun c58 => ?_)
                            · refine lv_iconst (v := (0 : Int32)) hx hb dX5_alterAndSkip_228 (by decide) ?_
                              exact K87 _ ((((if_pos c55).trans (if_pos c56)).trans (if_pos c57)).trans (if_pos c58)).symm ls _ _ hP hD hS (lv_sub hl [0, 1, 2, 3, 4, 5, 6, 7, 8, 9, 10, 11] rfl)
                            · refine lv_iload hx hb dX5_alterAndSkip_219 (lv_at hl 0 rfl) ?_
                              refine lv_if_ne (tgt := 228) hx hb dX5_alterAndSkip_221 (by decide) (fun c59 => ?_) (fun c59 => ?_)
                              · refine lv_iconst (v := (0 : Int32)) hx hb dX5_alterAndSkip_228 (by decide) ?_
                                exact K87 _ (((((if_pos c55).trans (if_pos c56)).trans (if_pos c57)).trans (if_neg c58)).trans (if_neg c59)).symm ls _ _ hP hD hS (lv_sub hl [0, 1, 2, 3, 4, 5, 6, 7, 8, 9, 10, 11] rfl)
                              · refine lv_iconst (v := (1 : Int32)) hx hb dX5_alterAndSkip_224 (by decide) ?_
                                refine lv_goto (tgt := 229) hx hb dX5_alterAndSkip_225 (by decide) ?_
                                exact K87 _ (((((if_pos c55).trans (if_pos c56)).trans (if_pos c57)).trans (if_neg c58)).trans (if_pos c59)).symm ls _ _ hP hD hS (lv_sub hl [0, 1, 2, 3, 4, 5, 6, 7, 8, 9, 10, 11] rfl)
                          · refine lv_iload hx hb dX5_alterAndSkip_209 (lv_at hl 1 rfl) ?_
                            refine lv_if_eq (tgt := 224) hx hb dX5_alterAndSkip_211 (by decide) (fun c60 => ?_) (fun c60 => ?_)
                            · refine lv_iconst (v := (1 : Int32)) hx hb dX5_alterAndSkip_224 (by decide) ?_
                              refine lv_goto (tgt := 229) hx hb dX5_alterAndSkip_225 (by decide) ?_
                              exact K87 _ ((((if_pos c55).trans (if_pos c56)).trans (if_neg c57)).trans (if_pos c60)).symm ls _ _ hP hD hS (lv_sub hl [0, 1, 2, 3, 4, 5, 6, 7, 8, 9, 10, 11] rfl)
                            · refine lv_iload hx hb dX5_alterAndSkip_214 (lv_at hl 4 rfl) ?_
                              refine lv_if_eq (tgt := 228) hx hb dX5_alterAndSkip_216 (by decide) (fun c61 => ?_) (fun c61 => ?_)
                              · refine lv_iconst (v := (0 : Int32)) hx hb dX5_alterAndSkip_228 (by decide) ?_
                                exact K87 _ (((((if_pos c55).trans (if_pos c56)).trans (if_neg c57)).trans (if_neg c60)).trans (if_pos c61)).symm ls _ _ hP hD hS (lv_sub hl [0, 1, 2, 3, 4, 5, 6, 7, 8, 9, 10, 11] rfl)
                              · refine lv_iload hx hb dX5_alterAndSkip_219 (lv_at hl 0 rfl) ?_
                                refine lv_if_ne (tgt := 228) hx hb dX5_alterAndSkip_221 (by decide) (fun c62 => ?_) (fun c62 => ?_)
                                · refine lv_iconst (v := (0 : Int32)) hx hb dX5_alterAndSkip_228 (by decide) ?_
                                  exact K87 _ ((((((if_pos c55).trans (if_pos c56)).trans (if_neg c57)).trans (if_neg c60)).trans (if_neg c61)).trans (if_neg c62)).symm ls _ _ hP hD hS (lv_sub hl [0, 1, 2, 3, 4, 5, 6, 7, 8, 9, 10, 11] rfl)
                                · refine lv_iconst (v := (1 : Int32)) hx hb dX5_alterAndSkip_224 (by decide) ?_
                                  refine lv_goto (tgt := 229) hx hb dX5_alterAndSkip_225 (by decide) ?_
                                  exact K87 _ ((((((if_pos c55).trans (if_pos c56)).trans (if_neg c57)).trans (if_neg c60)).trans (if_neg c61)).trans (if_pos c62)).symm ls _ _ hP hD hS (lv_sub hl [0, 1, 2, 3, 4, 5, 6, 7, 8, 9, 10, 11] rfl)
                        · refine lv_iload hx hb dX5_alterAndSkip_199 (lv_at hl 2 rfl) ?_
                          refine lv_if_eq (tgt := 224) hx hb dX5_alterAndSkip_201 (by decide) (fun c63 => ?_) (fun c63 => ?_)
                          · refine lv_iconst (v := (1 : Int32)) hx hb dX5_alterAndSkip_224 (by decide) ?_
                            refine lv_goto (tgt := 229) hx hb dX5_alterAndSkip_225 (by decide) ?_
                            exact K87 _ (((if_pos c55).trans (if_neg c56)).trans (if_pos c63)).symm ls _ _ hP hD hS (lv_sub hl [0, 1, 2, 3, 4, 5, 6, 7, 8, 9, 10, 11] rfl)
                          · refine lv_iload hx hb dX5_alterAndSkip_204 (lv_at hl 5 rfl) ?_
                            refine lv_if_eq (tgt := 214) hx hb dX5_alterAndSkip_206 (by decide) (fun c64 => ?_) (fun c64 => ?_)
                            · refine lv_iload hx hb dX5_alterAndSkip_214 (lv_at hl 4 rfl) ?_
                              refine lv_if_eq (tgt := 228) hx hb dX5_alterAndSkip_216 (by decide) (fun c65 => ?_) (fun c65 => ?_)
                              · refine lv_iconst (v := (0 : Int32)) hx hb dX5_alterAndSkip_228 (by decide) ?_
                                exact K87 _ (((((if_pos c55).trans (if_neg c56)).trans (if_neg c63)).trans (if_pos c64)).trans (if_pos c65)).symm ls _ _ hP hD hS (lv_sub hl [0, 1, 2, 3, 4, 5, 6, 7, 8, 9, 10, 11] rfl)
                              · refine lv_iload hx hb dX5_alterAndSkip_219 (lv_at hl 0 rfl) ?_
                                refine lv_if_ne (tgt := 228) hx hb dX5_alterAndSkip_221 (by decide) (fun c66 => ?_) (fun c66 => ?_)
                                · refine lv_iconst (v := (0 : Int32)) hx hb dX5_alterAndSkip_228 (by decide) ?_
                                  exact K87 _ ((((((if_pos c55).trans (if_neg c56)).trans (if_neg c63)).trans (if_pos c64)).trans (if_neg c65)).trans (if_neg c66)).symm ls _ _ hP hD hS (lv_sub hl [0, 1, 2, 3, 4, 5, 6, 7, 8, 9, 10, 11] rfl)
                                · refine lv_iconst (v := (1 : Int32)) hx hb dX5_alterAndSkip_224 (by decide) ?_
                                  refine lv_goto (tgt := 229) hx hb dX5_alterAndSkip_225 (by decide) ?_
                                  exact K87 _ ((((((if_pos c55).trans (if_neg c56)).trans (if_neg c63)).trans (if_pos c64)).trans (if_neg c65)).trans (if_pos c66)).symm ls _ _ hP hD hS (lv_sub hl [0, 1, 2, 3, 4, 5, 6, 7, 8, 9, 10, 11] rfl)
                            · refine lv_iload hx hb dX5_alterAndSkip_209 (lv_at hl 1 rfl) ?_
                              refine lv_if_eq (tgt := 224) hx hb dX5_alterAndSkip_211 (by decide) (fun c67 => ?_) (fun c67 => ?_)
                              · refine lv_iconst (v := (1 : Int32)) hx hb dX5_alterAndSkip_224 (by decide) ?_
                                refine lv_goto (tgt := 229) hx hb dX5_alterAndSkip_225 (by decide) ?_
                                exact K87 _ (((((if_pos c55).trans (if_neg c56)).trans (if_neg c63)).trans (if_neg c64)).trans (if_pos c67)).symm ls _ _ hP hD hS (lv_sub hl [0, 1, 2, 3, 4, 5, 6, 7, 8, 9, 10, 11] rfl)
                              · refine lv_iload hx hb dX5_alterAndSkip_214 (lv_at hl 4 rfl) ?_
                                refine lv_if_eq (tgt := 228) hx hb dX5_alterAndSkip_216 (by decide) (fun c68 => ?_) (fun c68 => ?_)
                                · refine lv_iconst (v := (0 : Int32)) hx hb dX5_alterAndSkip_228 (by decide) ?_
                                  exact K87 _ ((((((if_pos c55).trans (if_neg c56)).trans (if_neg c63)).trans (if_neg c64)).trans (if_neg c67)).trans (if_pos c68)).symm ls _ _ hP hD hS (lv_sub hl [0, 1, 2, 3, 4, 5, 6, 7, 8, 9, 10, 11] rfl)
                                · refine lv_iload hx hb dX5_alterAndSkip_219 (lv_at hl 0 rfl) ?_
                                  refine lv_if_ne (tgt := 228) hx hb dX5_alterAndSkip_221 (by decide) (fun c69 => ?_) (fun c69 => ?_)
                                  · refine lv_iconst (v := (0 : Int32)) hx hb dX5_alterAndSkip_228 (by decide) ?_
                                    exact K87 _ (((((((if_pos c55).trans (if_neg c56)).trans (if_neg c63)).trans (if_neg c64)).trans (if_neg c67)).trans (if_neg c68)).trans (if_neg c69)).symm ls _ _ hP hD hS (lv_sub hl [0, 1, 2, 3, 4, 5, 6, 7, 8, 9, 10, 11] rfl)
                                  · refine lv_iconst (v := (1 : Int32)) hx hb dX5_alterAndSkip_224 (by decide) ?_
                                    refine lv_goto (tgt := 229) hx hb dX5_alterAndSkip_225 (by decide) ?_
                                    exact K87 _ (((((((if_pos c55).trans (if_neg c56)).trans (if_neg c63)).trans (if_neg c64)).trans (if_neg c67)).trans (if_neg c68)).trans (if_pos c69)).symm ls _ _ hP hD hS (lv_sub hl [0, 1, 2, 3, 4, 5, 6, 7, 8, 9, 10, 11] rfl)
                      · refine lv_iload hx hb dX5_alterAndSkip_189 (lv_at hl 3 rfl) ?_
                        refine lv_if_eq (tgt := 224) hx hb dX5_alterAndSkip_191 (by decide) (fun c70 => ?_) (fun c70 => ?_)
                        · refine lv_iconst (v := (1 : Int32)) hx hb dX5_alterAndSkip_224 (by decide) ?_
                          refine lv_goto (tgt := 229) hx hb dX5_alterAndSkip_225 (by decide) ?_
                          exact K87 _ ((if_neg c55).trans (if_pos c70)).symm ls _ _ hP hD hS (lv_sub hl [0, 1, 2, 3, 4, 5, 6, 7, 8, 9, 10, 11] rfl)
                        · refine lv_iload hx hb dX5_alterAndSkip_194 (lv_at hl 6 rfl) ?_
                          refine lv_if_eq (tgt := 204) hx hb dX5_alterAndSkip_196 (by decide) (fun c71 => ?_) (fun c71 => ?_)
                          · refine lv_iload hx hb dX5_alterAndSkip_204 (lv_at hl 5 rfl) ?_
                            refine lv_if_eq (tgt := 214) hx hb dX5_alterAndSkip_206 (by decide) (fun c72 => ?_) (fun c72 => ?_)
                            · refine lv_iload hx hb dX5_alterAndSkip_214 (lv_at hl 4 rfl) ?_
                              refine lv_if_eq (tgt := 228) hx hb dX5_alterAndSkip_216 (by decide) (fun c73 => ?_) (fun c73 => ?_)
                              · refine lv_iconst (v := (0 : Int32)) hx hb dX5_alterAndSkip_228 (by decide) ?_
                                exact K87 _ (((((if_neg c55).trans (if_neg c70)).trans (if_pos c71)).trans (if_pos c72)).trans (if_pos c73)).symm ls _ _ hP hD hS (lv_sub hl [0, 1, 2, 3, 4, 5, 6, 7, 8, 9, 10, 11] rfl)
                              · refine lv_iload hx hb dX5_alterAndSkip_219 (lv_at hl 0 rfl) ?_
                                refine lv_if_ne (tgt := 228) hx hb dX5_alterAndSkip_221 (by decide) (fun c74 => ?_) (fun c74 => ?_)
                                · refine lv_iconst (v := (0 : Int32)) hx hb dX5_alterAndSkip_228 (by decide) ?_
                                  exact K87 _ ((((((if_neg c55).trans (if_neg c70)).trans (if_pos c71)).trans (if_pos c72)).trans (if_neg c73)).trans (if_neg c74)).symm ls _ _ hP hD hS (lv_sub hl [0, 1, 2, 3, 4, 5, 6, 7, 8, 9, 10, 11] rfl)
                                · refine lv_iconst (v := (1 : Int32)) hx hb dX5_alterAndSkip_224 (by decide) ?_
                                  refine lv_goto (tgt := 229) hx hb dX5_alterAndSkip_225 (by decide) ?_
                                  exact K87 _ ((((((if_neg c55).trans (if_neg c70)).trans (if_pos c71)).trans (if_pos c72)).trans (if_neg c73)).trans (if_pos c74)).symm ls _ _ hP hD hS (lv_sub hl [0, 1, 2, 3, 4, 5, 6, 7, 8, 9, 10, 11] rfl)
                            · refine lv_iload hx hb dX5_alterAndSkip_209 (lv_at hl 1 rfl) ?_
                              refine lv_if_eq (tgt := 224) hx hb dX5_alterAndSkip_211 (by decide) (fun c75 => ?_) (fun c75 => ?_)
                              · refine lv_iconst (v := (1 : Int32)) hx hb dX5_alterAndSkip_224 (by decide) ?_
                                refine lv_goto (tgt := 229) hx hb dX5_alterAndSkip_225 (by decide) ?_
                                exact K87 _ (((((if_neg c55).trans (if_neg c70)).trans (if_pos c71)).trans (if_neg c72)).trans (if_pos c75)).symm ls _ _ hP hD hS (lv_sub hl [0, 1, 2, 3, 4, 5, 6, 7, 8, 9, 10, 11] rfl)
                              · refine lv_iload hx hb dX5_alterAndSkip_214 (lv_at hl 4 rfl) ?_
                                refine lv_if_eq (tgt := 228) hx hb dX5_alterAndSkip_216 (by decide) (fun c76 => ?_) (fun c76 => ?_)
                                · refine lv_iconst (v := (0 : Int32)) hx hb dX5_alterAndSkip_228 (by decide) ?_
                                  exact K87 _ ((((((if_neg c55).trans (if_neg c70)).trans (if_pos c71)).trans (if_neg c72)).trans (if_neg c75)).trans (if_pos c76)).symm ls _ _ hP hD hS (lv_sub hl [0, 1, 2, 3, 4, 5, 6, 7, 8, 9, 10, 11] rfl)
                                · refine lv_iload hx hb dX5_alterAndSkip_219 (lv_at hl 0 rfl) ?_
                                  refine lv_if_ne (tgt := 228) hx hb dX5_alterAndSkip_221 (by decide) (fun c77 => ?_) (fun c77 => ?_)
                                  · refine lv_iconst (v := (0 : Int32)) hx hb dX5_alterAndSkip_228 (by decide) ?_
                                    exact K87 _ (((((((if_neg c55).trans (if_neg c70)).trans (if_pos c71)).trans (if_neg c72)).trans (if_neg c75)).trans (if_neg c76)).trans (if_neg c77)).symm ls _ _ hP hD hS (lv_sub hl [0, 1, 2, 3, 4, 5, 6, 7, 8, 9, 10, 11] rfl)
                                  · refine lv_iconst (v := (1 : Int32)) hx hb dX5_alterAndSkip_224 (by decide) ?_
                                    refine lv_goto (tgt := 229) hx hb dX5_alterAndSkip_225 (by decide) ?_
                                    exact K87 _ (((((((if_neg c55).trans (if_neg c70)).trans (if_pos c71)).trans (if_neg c72)).trans (if_neg c75)).trans (if_neg c76)).trans (if_pos c77)).symm ls _ _ hP hD hS (lv_sub hl [0, 1, 2, 3, 4, 5, 6, 7, 8, 9, 10, 11] rfl)
                          · refine lv_iload hx hb dX5_alterAndSkip_199 (lv_at hl 2 rfl) ?_
                            refine lv_if_eq (tgt := 224) hx hb dX5_alterAndSkip_201 (by decide) (fun c78 => ?_) (fun c78 => ?_)
                            · refine lv_iconst (v := (1 : Int32)) hx hb dX5_alterAndSkip_224 (by decide) ?_
                              refine lv_goto (tgt := 229) hx hb dX5_alterAndSkip_225 (by decide) ?_
                              exact K87 _ ((((if_neg c55).trans (if_neg c70)).trans (if_neg c71)).trans (if_pos c78)).symm ls _ _ hP hD hS (lv_sub hl [0, 1, 2, 3, 4, 5, 6, 7, 8, 9, 10, 11] rfl)
                            · refine lv_iload hx hb dX5_alterAndSkip_204 (lv_at hl 5 rfl) ?_
                              refine lv_if_eq (tgt := 214) hx hb dX5_alterAndSkip_206 (by decide) (fun c79 => ?_) (fun c79 => ?_)
                              · refine lv_iload hx hb dX5_alterAndSkip_214 (lv_at hl 4 rfl) ?_
                                refine lv_if_eq (tgt := 228) hx hb dX5_alterAndSkip_216 (by decide) (fun c80 => ?_) (fun c80 => ?_)
                                · refine lv_iconst (v := (0 : Int32)) hx hb dX5_alterAndSkip_228 (by decide) ?_
                                  exact K87 _ ((((((if_neg c55).trans (if_neg c70)).trans (if_neg c71)).trans (if_neg c78)).trans (if_pos c79)).trans (if_pos c80)).symm ls _ _ hP hD hS (lv_sub hl [0, 1, 2, 3, 4, 5, 6, 7, 8, 9, 10, 11] rfl)
                                · refine lv_iload hx hb dX5_alterAndSkip_219 (lv_at hl 0 rfl) ?_
                                  refine lv_if_ne (tgt := 228) hx hb dX5_alterAndSkip_221 (by decide) (fun c81 => ?_) (fun c81 => ?_)
                                  · refine lv_iconst (v := (0 : Int32)) hx hb dX5_alterAndSkip_228 (by decide) ?_
                                    exact K87 _ (((((((if_neg c55).trans (if_neg c70)).trans (if_neg c71)).trans (if_neg c78)).trans (if_pos c79)).trans (if_neg c80)).trans (if_neg c81)).symm ls _ _ hP hD hS (lv_sub hl [0, 1, 2, 3, 4, 5, 6, 7, 8, 9, 10, 11] rfl)
                                  · refine lv_iconst (v := (1 : Int32)) hx hb dX5_alterAndSkip_224 (by decide) ?_
                                    refine lv_goto (tgt := 229) hx hb dX5_alterAndSkip_225 (by decide) ?_
                                    exact K87 _ (((((((if_neg c55).trans (if_neg c70)).trans (if_neg c71)).trans (if_neg c78)).trans (if_pos c79)).trans (if_neg c80)).trans (if_pos c81)).symm ls _ _ hP hD hS (lv_sub hl [0, 1, 2, 3, 4, 5, 6, 7, 8, 9, 10, 11] rfl)
                              · refine lv_iload hx hb dX5_alterAndSkip_209 (lv_at hl 1 rfl) ?_
                                refine lv_if_eq (tgt := 224) hx hb dX5_alterAndSkip_211 (by decide) (fun c82 => ?_) (fun c82 => ?_)
                                · refine lv_iconst (v := (1 : Int32)) hx hb dX5_alterAndSkip_224 (by decide) ?_
                                  refine lv_goto (tgt := 229) hx hb dX5_alterAndSkip_225 (by decide) ?_
                                  exact K87 _ ((((((if_neg c55).trans (if_neg c70)).trans (if_neg c71)).trans (if_neg c78)).trans (if_neg c79)).trans (if_pos c82)).symm ls _ _ hP hD hS (lv_sub hl [0, 1, 2, 3, 4, 5, 6, 7, 8, 9, 10, 11] rfl)
                                · refine lv_iload hx hb dX5_alterAndSkip_214 (lv_at hl 4 rfl) ?_
                                  refine lv_if_eq (tgt := 228) hx hb dX5_alterAndSkip_216 (by decide) (fun c83 => ?_) (fun c83 => ?_)
                                  · refine lv_iconst (v := (0 : Int32)) hx hb dX5_alterAndSkip_228 (by decide) ?_
                                    exact K87 _ (((((((if_neg c55).trans (if_neg c70)).trans (if_neg c71)).trans (if_neg c78)).trans (if_neg c79)).trans (if_neg c82)).trans (if_pos c83)).symm ls _ _ hP hD hS (lv_sub hl [0, 1, 2, 3, 4, 5, 6, 7, 8, 9, 10, 11] rfl)
                                  · refine lv_iload hx hb dX5_alterAndSkip_219 (lv_at hl 0 rfl) ?_
                                    refine lv_if_ne (tgt := 228) hx hb dX5_alterAndSkip_221 (by decide) (fun c84 => ?_) (fun c84 => ?_)
                                    · refine lv_iconst (v := (0 : Int32)) hx hb dX5_alterAndSkip_228 (by decide) ?_
                                      exact K87 _ ((((((((if_neg c55).trans (if_neg c70)).trans (if_neg c71)).trans (if_neg c78)).trans (if_neg c79)).trans (if_neg c82)).trans (if_neg c83)).trans (if_neg c84)).symm ls _ _ hP hD hS (lv_sub hl [0, 1, 2, 3, 4, 5, 6, 7, 8, 9, 10, 11] rfl)
                                    · refine lv_iconst (v := (1 : Int32)) hx hb dX5_alterAndSkip_224 (by decide) ?_
                                      refine lv_goto (tgt := 229) hx hb dX5_alterAndSkip_225 (by decide) ?_
                                      exact K87 _ ((((((((if_neg c55).trans (if_neg c70)).trans (if_neg c71)).trans (if_neg c78)).trans (if_neg c79)).trans (if_neg c82)).trans (if_neg c83)).trans (if_pos c84)).symm ls _ _ hP hD hS (lv_sub hl [0, 1, 2, 3, 4, 5, 6, 7, 8, 9, 10, 11] rfl)
                  refine lv_if_eq (tgt := 174) hx hb dX5_alterAndSkip_167 (by decide) (fun c25 => ?_) (fun c25 => ?_)
                  · refine lv_iconst (v := (0 : Int32)) hx hb dX5_alterAndSkip_174 (by decide) ?_
                    exact K88 _ (if_pos c25).symm ls _ _ hP hD hS (lv_sub hl [0, 1, 2, 3, 4, 5, 6, 7, 8, 9, 10] rfl)
                  · refine lv_iconst (v := (1 : Int32)) hx hb dX5_alterAndSkip_170 (by decide) ?_
                    refine lv_goto (tgt := 175) hx hb dX5_alterAndSkip_171 (by decide) ?_
                    exact K88 _ (if_neg c25).symm ls _ _ hP hD hS (lv_sub hl [0, 1, 2, 3, 4, 5, 6, 7, 8, 9, 10] rfl)
                refine lv_if_eq (tgt := 157) hx hb dX5_alterAndSkip_148 (by decide) (fun c19 => ?_) (fun c19 => ?_)
                · exact K89 _ (if_pos c19).symm _ (if_pos c19).symm ls _ _ hP hD hS (lv_sub hl [0, 1, 2, 3, 4, 5, 6, 7, 8, 9, 10] rfl)
                · refine lv_aload_n hx hb dX5_alterAndSkip_151 rfl (lv_at hl 9 rfl) ?_
                  refine lv_iload_n hx hb dX5_alterAndSkip_152 rfl (lv_at hl 7 rfl) ?_
                  refine oh_cvi (As := [.int r3]) (rest := []) hC hP hD hS (mtX5_incremented l a k D (oh_up σ 0 4 r18) r3) (cwV 1 hts gX5_alterAndSkip_X5_incremented rfl rfl rfl (by decide +kernel) ⟨Nat.le_of_ble_eq_true rfl, Nat.le_of_ble_eq_true rfl⟩) 8 5 rfl rfl rfl hl.1 rfl (Nat.le_of_ble_eq_true rfl) dX5_alterAndSkip_153 (fun r20 s21 H locs hw hP hD hS => ?_)
                  obtain ⟨hr20, hs21⟩ := hw
                  refine lv_istore_n (lv' := [(3, .int r20), (10, .int x17), (9, .int x15), (8, .int x13), (7, .int x11), (6, .int x9), (5, .int x7), (4, .int x5), (2, .int r1), (0, .ref (a 8)), (1, .int p1)]) hx hb dX5_alterAndSkip_156 rfl hl (by decide) rfl (fun ls hl => ?_)
                  exact K89 _ (by subst hs21 hr20; exact (if_neg c19).symm) _ (by subst hs21 hr20; exact (if_neg c19).symm) ls _ _ hP hD hS (lv_sub hl [1, 2, 3, 4, 5, 6, 7, 0, 8, 9, 10] rfl)
              refine lv_if_eq (tgt := 119) hx hb dX5_alterAndSkip_112 (by decide) (fun c16 => ?_) (fun c16 => ?_)
              · refine lv_iconst (v := (0 : Int32)) hx hb dX5_alterAndSkip_119 (by decide) ?_
                exact K90 _ (if_pos c16).symm ls _ _ hP hD hS (lv_sub hl [0, 1, 2, 3, 4, 5, 6, 7, 8, 9] rfl)
              · refine lv_iconst (v := (1 : Int32)) hx hb dX5_alterAndSkip_115 (by decide) ?_
                refine lv_goto (tgt := 120) hx hb dX5_alterAndSkip_116 (by decide) ?_
                exact K90 _ (if_neg c16).symm ls _ _ hP hD hS (lv_sub hl [0, 1, 2, 3, 4, 5, 6, 7, 8, 9] rfl)
            refine lv_if_eq (tgt := 106) hx hb dX5_alterAndSkip_99 (by decide) (fun c14 => ?_) (fun c14 => ?_)
            · refine lv_iconst (v := (0 : Int32)) hx hb dX5_alterAndSkip_106 (by decide) ?_
              exact K91 _ (if_pos c14).symm ls _ _ hP hD hS (lv_sub hl [0, 1, 2, 3, 4, 5, 6, 7, 8] rfl)
            · refine lv_iconst (v := (1 : Int32)) hx hb dX5_alterAndSkip_102 (by decide) ?_
              refine lv_goto (tgt := 107) hx hb dX5_alterAndSkip_103 (by decide) ?_
              exact K91 _ (if_neg c14).symm ls _ _ hP hD hS (lv_sub hl [0, 1, 2, 3, 4, 5, 6, 7, 8] rfl)
          refine lv_if_eq (tgt := 92) hx hb dX5_alterAndSkip_85 (by decide) (fun c12 => ?_) (fun c12 => ?_)
          · refine lv_iconst (v := (0 : Int32)) hx hb dX5_alterAndSkip_92 (by decide) ?_
            exact K92 _ (if_pos c12).symm ls _ _ hP hD hS (lv_sub hl [0, 1, 2, 3, 4, 5, 6, 7] rfl)
          · refine lv_iconst (v := (1 : Int32)) hx hb dX5_alterAndSkip_88 (by decide) ?_
            refine lv_goto (tgt := 93) hx hb dX5_alterAndSkip_89 (by decide) ?_
            exact K92 _ (if_neg c12).symm ls _ _ hP hD hS (lv_sub hl [0, 1, 2, 3, 4, 5, 6, 7] rfl)
        refine lv_if_eq (tgt := 75) hx hb dX5_alterAndSkip_68 (by decide) (fun c10 => ?_) (fun c10 => ?_)
        · refine lv_iconst (v := (0 : Int32)) hx hb dX5_alterAndSkip_75 (by decide) ?_
          exact K93 _ (if_pos c10).symm ls _ _ hP hD hS (lv_sub hl [0, 1, 2, 3, 4, 5, 6] rfl)
        · refine lv_iconst (v := (1 : Int32)) hx hb dX5_alterAndSkip_71 (by decide) ?_
          refine lv_goto (tgt := 76) hx hb dX5_alterAndSkip_72 (by decide) ?_
          exact K93 _ (if_neg c10).symm ls _ _ hP hD hS (lv_sub hl [0, 1, 2, 3, 4, 5, 6] rfl)
      refine lv_if_eq (tgt := 62) hx hb dX5_alterAndSkip_55 (by decide) (fun c8 => ?_) (fun c8 => ?_)
      · refine lv_iconst (v := (0 : Int32)) hx hb dX5_alterAndSkip_62 (by decide) ?_
        exact K94 _ (if_pos c8).symm ls _ _ hP hD hS (lv_sub hl [0, 1, 2, 3, 4, 5] rfl)
      · refine lv_iconst (v := (1 : Int32)) hx hb dX5_alterAndSkip_58 (by decide) ?_
        refine lv_goto (tgt := 63) hx hb dX5_alterAndSkip_59 (by decide) ?_
        exact K94 _ (if_neg c8).symm ls _ _ hP hD hS (lv_sub hl [0, 1, 2, 3, 4, 5] rfl)
    refine lv_if_eq (tgt := 48) hx hb dX5_alterAndSkip_41 (by decide) (fun c6 => ?_) (fun c6 => ?_)
    · refine lv_iconst (v := (0 : Int32)) hx hb dX5_alterAndSkip_48 (by decide) ?_
      exact K95 _ (if_pos c6).symm ls _ _ hP hD hS (lv_sub hl [0, 1, 2, 3, 4] rfl)
    · refine lv_iconst (v := (1 : Int32)) hx hb dX5_alterAndSkip_44 (by decide) ?_
      refine lv_goto (tgt := 49) hx hb dX5_alterAndSkip_45 (by decide) ?_
      exact K95 _ (if_neg c6).symm ls _ _ hP hD hS (lv_sub hl [0, 1, 2, 3, 4] rfl)
  refine lv_if_eq (tgt := 34) hx hb dX5_alterAndSkip_27 (by decide) (fun c4 => ?_) (fun c4 => ?_)
  · refine lv_iconst (v := (0 : Int32)) hx hb dX5_alterAndSkip_34 (by decide) ?_
    exact K96 _ (if_pos c4).symm ls _ _ hP hD hS (lv_sub hl [0, 1, 2, 3] rfl)
  · refine lv_iconst (v := (1 : Int32)) hx hb dX5_alterAndSkip_30 (by decide) ?_
    refine lv_goto (tgt := 35) hx hb dX5_alterAndSkip_31 (by decide) ?_
    exact K96 _ (if_neg c4).symm ls _ _ hP hD hS (lv_sub hl [0, 1, 2, 3] rfl)
