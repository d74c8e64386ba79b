-- OctalHouse$Processor.resolve
theorem inX5_resolve_X5 : ∀ w ∈ u_ws RX5 TX5 3, w ∈ wsX5_resolve := by decide +kernel
def lpX5_resolve (σ : oh_St) : Nat → Int32 → Int32 → Int32 × oh_St
  | 0, x, i => (x, σ)
  | f + 1, x, i => (let k7 : Int32 × oh_St := (if (x &&& (32768 : Int32)) = (0 : Int32) then (x, σ) else (let s5 : oh_St := (spX6_halt σ (64 : Int32)); ((-1 : Int32), s5))); (if (32 : Int32) ≤ i then k7 else (if (x &&& (32768 : Int32)) = (0 : Int32) then k7 else (let r3 : Int32 := (spX4_read σ (x &&& (32767 : Int32))); (lpX5_resolve σ f r3 (i + (1 : Int32)))))))
def spX5_resolve (σ : oh_St) (p1 : Int32) : Int32 × oh_St := (lpX5_resolve σ 33 p1 (0 : Int32))
set_option maxHeartbeats 8000000 in
set_option maxRecDepth 100000 in
theorem mtX5_resolve (l : Launch) (a : Nat → Nat) (k : Nat → ClassId) (D : va_G) (σ : oh_St) (p1 : Int32) : oh_Mi l yX5_resolve wsX5_resolve { frames := 1, cells := 0, slots := 0, locals := 21 } D (oh_ty k) (oh_W a k) [.ref (a 8), .int p1] σ (fun r u => r = (spX5_resolve σ p1).1 ∧ u = (spX5_resolve σ p1).2) := by
  refine oh_ini (cc := cX5_resolve) (nL := 4) (rt := some .int) (by decide) rfl (Nat.le_of_ble_eq_true rfl) ?_
  intro p e s m below meth c A ls hC hP hD hS hl
  obtain ⟨hx, hb, hml, hown, hts, hr, hlocks, hK, hN, hA⟩ := id hC
  have hl : lv_has ls 4 [(0, .ref (a 8)), (1, .int p1)] := hl
  refine lv_iload_n hx hb dX5_resolve_0 rfl (lv_at hl 1 rfl) ?_
  refine lv_istore_n (lv' := [(2, .int p1), (0, .ref (a 8)), (1, .int p1)]) hx hb dX5_resolve_1 rfl hl (by decide) rfl (fun ls hl => ?_)
  refine lv_iconst (v := (0 : Int32)) hx hb dX5_resolve_2 (by decide) ?_
  refine lv_istore_n (lv' := [(3, .int (0 : Int32)), (2, .int p1), (0, .ref (a 8)), (1, .int p1)]) hx hb dX5_resolve_3 rfl hl (by decide) rfl (fun ls hl => ?_)
  have LP : ∀ (f : Nat) (x : Int32) (i : Int32), (∃ j : Nat, i = nI j ∧ j + f = 32 + 1 ∧ j ≤ 32) → lpX5_resolve σ f x i = spX5_resolve σ p1 → ∀ (ls : Array Slot) (H : Heap) (locs : List Loc), va_P D vwCl (oh_W a k σ) H → va_D A (oh_W a k σ) → va_S A s.heap H locs → lv_has ls 4 [(3, .int i), (2, .int x), (0, .ref (a 8)), (1, .int p1)] → W p l e ({ frames := 1, cells := 0, slots := 0, locals := 21 } : Room) s m (([.ref (a 8), .int p1] : List Value).toArray) below meth c H locs 0 0 (oh_Ei below (fun r u => r = (spX5_resolve σ p1).1 ∧ u = (spX5_resolve σ p1).2) D (oh_W a k) A [.ref (a 8), .int p1] s) (F0 m 4 ls []) := by
    intro f
    induction f with
    | zero => intro x i hI; exact absurd hI (oh_cnt0)
    | succ f ih =>
      intro x i hI hk ls H locs hP hD hS hl
      refine lv_iload_n hx hb dX5_resolve_4 rfl (lv_at hl 0 rfl) ?_
      refine lv_bipush (v := (32 : Int32)) hx hb dX5_resolve_5 (by decide) ?_
      have K6 : (if (x &&& (32768 : Int32)) = (0 : Int32) then (x, σ) else (let s5 : oh_St := (spX6_halt σ (64 : Int32)); ((-1 : Int32), s5))) = spX5_resolve σ p1 → ∀ (ls : Array Slot) (H : Heap) (locs : List Loc), va_P D vwCl (oh_W a k σ) H → va_D A (oh_W a k σ) → va_S A s.heap H locs → lv_has ls 4 [(3, .int i), (2, .int x), (0, .ref (a 8)), (1, .int p1)] → W p l e ({ frames := 1, cells := 0, slots := 0, locals := 21 } : Room) s m (([.ref (a 8), .int p1] : List Value).toArray) below meth c H locs 0 0 (oh_Ei below (fun r u => r = (spX5_resolve σ p1).1 ∧ u = (spX5_resolve σ p1).2) D (oh_W a k) A [.ref (a 8), .int p1] s) (F0 m 36 ls []) := by
        intro hK6 ls H locs hP hD hS hl
        refine lv_iload_n hx hb dX5_resolve_36 rfl (lv_at hl 1 rfl) ?_
        refine lv_ldc (v := (32768 : Int32)) hx hb hown (hts (.constant RX5 38 (32768)) (by decide +kernel)) dX5_resolve_37 ?_
        refine lv_iand hx hb dX5_resolve_39 ?_
        refine lv_if_eq (tgt := 54) hx hb dX5_resolve_40 (by decide) (fun c4 => ?_) (fun c4 => ?_)
        · refine lv_iload_n hx hb dX5_resolve_54 rfl (lv_at hl 1 rfl) ?_
          exact oh_reti (v := x) (u := σ) hC hP hD hS (oh_pair (by exact ((if_pos c4).symm).trans hK6)) dX5_resolve_55
        · refine lv_aload_n hx hb dX5_resolve_43 rfl (lv_at hl 2 rfl) ?_
          refine oh_get (v := .ref (a 3)) hC hP inX5_resolve_X5 8 rfl rfl 1 (by decide) (by decide +kernel) rfl dX5_resolve_44 ?_
          refine lv_bipush (v := (64 : Int32)) hx hb dX5_resolve_47 (by decide) ?_
          refine oh_cvv (As := [.int (64 : Int32)]) (rest := []) hC hP hD hS (mtX6_halt l a k D σ (64 : Int32)) (cwV 1 hts gX5_resolve_X6_halt rfl rfl rfl (by decide +kernel) ⟨Nat.le_of_ble_eq_true rfl, Nat.le_of_ble_eq_true rfl⟩) 3 6 rfl rfl rfl hl.1 rfl (Nat.le_of_ble_eq_true rfl) dX5_resolve_49 (fun s5 H locs hs5 hP hD hS => ?_)
          refine lv_iconst (v := (-1 : Int32)) hx hb dX5_resolve_52 (by decide) ?_
          exact oh_reti (v := (-1 : Int32)) (u := s5) hC hP hD hS (oh_pair (by subst hs5; exact ((if_neg c4).symm).trans hK6)) dX5_resolve_53
      refine lv_icmp_ge (tgt := 36) hx hb dX5_resolve_7 (by decide) (fun c1 => ?_) (fun c1 => ?_)
      · exact K6 (((if_pos c1).symm).trans hk) ls _ _ hP hD hS (lv_sub hl [0, 1, 2, 3] rfl)
      · refine lv_iload_n hx hb dX5_resolve_10 rfl (lv_at hl 1 rfl) ?_
        refine lv_ldc (v := (32768 : Int32)) hx hb hown (hts (.constant RX5 38 (32768)) (by decide +kernel)) dX5_resolve_11 ?_
        refine lv_iand hx hb dX5_resolve_13 ?_
        refine lv_if_eq (tgt := 36) hx hb dX5_resolve_14 (by decide) (fun c2 => ?_) (fun c2 => ?_)
        · exact K6 ((((if_neg c1).trans (if_pos c2)).symm).trans hk) ls _ _ hP hD hS (lv_sub hl [0, 1, 2, 3] rfl)
        · refine lv_aload_n hx hb dX5_resolve_17 rfl (lv_at hl 2 rfl) ?_
          refine oh_get (v := .ref (a 1)) hC hP inX5_resolve_X5 8 rfl rfl 0 (by decide) (by decide +kernel) rfl dX5_resolve_18 ?_
          refine lv_iload_n hx hb dX5_resolve_21 rfl (lv_at hl 1 rfl) ?_
          refine lv_sipush (v := (32767 : Int32)) hx hb dX5_resolve_22 (by decide) ?_
          refine lv_iand hx hb dX5_resolve_25 ?_
          refine oh_cvp (As := [.int (x &&& (32767 : Int32))]) (rest := []) hC hP hD hS (mtX4_read l a k D σ (x &&& (32767 : Int32))) (cwV 1 hts gX5_resolve_X4_read rfl rfl rfl (by decide +kernel) ⟨Nat.le_of_ble_eq_true rfl, Nat.le_of_ble_eq_true rfl⟩) 1 4 rfl rfl rfl hl.1 rfl (Nat.le_of_ble_eq_true rfl) dX5_resolve_26 (fun r3 H locs hr3 hP hD hS => ?_)
          refine lv_istore_n (lv' := [(2, .int r3), (3, .int i), (0, .ref (a 8)), (1, .int p1)]) hx hb dX5_resolve_29 rfl hl (by decide) rfl (fun ls hl => ?_)
          refine lv_iinc (v := (i + (1 : Int32))) (lv' := [(3, .int (i + (1 : Int32))), (2, .int r3), (0, .ref (a 8)), (1, .int p1)]) hx hb dX5_resolve_30 hl (k := 1) rfl (by first | rfl | decide) (by decide) rfl (fun ls hl => ?_)
          refine lv_goto (tgt := 4) hx hb dX5_resolve_33 (by decide) ?_
          exact ih r3 (i + (1 : Int32)) (oh_cnt (M := 32) rfl (by decide) hI c1) ((by subst hr3; exact (((if_neg c1).trans (if_neg c2)).symm).trans hk)) ls _ _ hP hD hS (lv_sub hl [0, 1, 2, 3] rfl)
  exact LP 33 p1 (0 : Int32) ⟨0, rfl, rfl, by decide⟩ (rfl) ls _ _ hP hD hS (lv_sub hl [0, 1, 2, 3] rfl)
-- OctalHouse$Processor.inputOrOutput
theorem inX5_inputOrOutput_X5 : ∀ w ∈ u_ws RX5 TX5 3, w ∈ wsX5_inputOrOutput := by decide +kernel
theorem inX5_inputOrOutput_X6 : ∀ w ∈ u_ws RX6 TX6 6, w ∈ wsX5_inputOrOutput := by decide +kernel
def spX5_inputOrOutput (σ : oh_St) (p1 : Int32) : oh_St := (let r1 : Int32 := (spX5_registerOf p1); (let x3 : Int32 := (if (p1 &&& (512 : Int32)) = (0 : Int32) then (0 : Int32) else (1 : Int32)); (let y4 : Int32 := ((p1 >>> ((6 : Int32) &&& 31)) &&& (7 : Int32)); (if y4 = (0 : Int32) then (let s6 : oh_St := (spX6_halt σ (p1 &&& (63 : Int32))); (if x3 = (0 : Int32) then s6 else (let s8 : oh_St := (spX0_putFlag s6 (p1 &&& (63 : Int32)) (0 : Int32)); (oh_up s8 0 6 (1 : Int32))))) else (if y4 = (1 : Int32) then (let x11 : Int32 := (if x3 = (0 : Int32) then (1 : Int32) else (0 : Int32)); (let s12 : oh_St := (spX0_putFlag σ (p1 &&& (63 : Int32)) x11); (oh_up s12 0 6 (1 : Int32)))) else (if y4 = (2 : Int32) then (let r15 : Int32 := (spX0_flagOf σ (p1 &&& (63 : Int32))); (let x17 : Int32 := (if r15 = (0 : Int32) then (1 : Int32) else (0 : Int32)); (let s18 : oh_St := (spX5_skipIf σ x17); s18))) else (if y4 = (3 : Int32) then (let r21 : Int32 := (spX0_flagOf σ (p1 &&& (63 : Int32))); (let s22 : oh_St := (spX5_skipIf σ r21); s22)) else (if y4 = (4 : Int32) then (let r24 : Int32 := (spX4_read σ r1); (let r25 : Int32 := (spX0_tell σ (p1 &&& (63 : Int32))); (let s26 : oh_St := (spX4_write σ r1 (r24 ||| r25)); (if x3 = (0 : Int32) then s26 else (let s28 : oh_St := (spX0_putFlag s26 (p1 &&& (63 : Int32)) (0 : Int32)); (oh_up s28 0 6 (1 : Int32))))))) else (if y4 = (5 : Int32) then (let r30 : Int32 := (spX0_tell σ (p1 &&& (63 : Int32))); (let s31 : oh_St := (spX4_write σ r1 r30); (if x3 = (0 : Int32) then s31 else (let s33 : oh_St := (spX0_putFlag s31 (p1 &&& (63 : Int32)) (0 : Int32)); (oh_up s33 0 6 (1 : Int32)))))) else (if y4 = (6 : Int32) then (let r35 : Int32 := (spX4_read σ r1); (let s36 : oh_St := (spX0_take σ (p1 &&& (63 : Int32)) r35); (if x3 = (0 : Int32) then s36 else (let s38 : oh_St := (spX0_putFlag s36 (p1 &&& (63 : Int32)) (0 : Int32)); (oh_up s38 0 6 (1 : Int32)))))) else (let x40 : Int32 := (if r1 = (0 : Int32) then (1 : Int32) else (0 : Int32)); (let s41 : oh_St := (spX0_putControl σ (p1 &&& (63 : Int32)) x40); (if x3 = (0 : Int32) then (oh_up s41 0 6 (1 : Int32)) else (let s43 : oh_St := (spX0_putFlag (oh_up s41 0 6 (1 : Int32)) (p1 &&& (63 : Int32)) (0 : Int32)); (oh_up s43 0 6 (1 : Int32))))))))))))))))
set_option maxHeartbeats 8000000 in
set_option maxRecDepth 100000 in
theorem mtX5_inputOrOutput (l : Launch) (a : Nat → Nat) (k : Nat → ClassId) (D : va_G) (σ : oh_St) (p1 : Int32) (h9 : σ 0 9 = 0 ∨ σ 0 9 = 1) : oh_Mv l yX5_inputOrOutput wsX5_inputOrOutput { frames := 3, cells := 0, slots := 0, locals := 70 } D (oh_ty k) (oh_W a k) [.ref (a 8), .int p1] σ (fun u => u = spX5_inputOrOutput σ p1) := by
  refine oh_inv (cc := cX5_inputOrOutput) (nL := 5) (rt := none) (by decide) rfl (Nat.le_of_ble_eq_true rfl) ?_
  intro p e s m below meth c A ls hC hP hD hS hl
  obtain ⟨hx, hb, hml, hown, hts, hr, hlocks, hK, hN, hA⟩ := id hC
  have hl : lv_has ls 5 [(0, .ref (a 8)), (1, .int p1)] := hl
  refine lv_iload_n hx hb dX5_inputOrOutput_0 rfl (lv_at hl 1 rfl) ?_
  refine lv_bipush (v := (63 : Int32)) hx hb dX5_inputOrOutput_1 (by decide) ?_
  refine lv_iand hx hb dX5_inputOrOutput_3 ?_
  refine lv_istore_n (lv' := [(2, .int (p1 &&& (63 : Int32))), (0, .ref (a 8)), (1, .int p1)]) hx hb dX5_inputOrOutput_4 rfl hl (by decide) rfl (fun ls hl => ?_)
  refine lv_iload_n hx hb dX5_inputOrOutput_5 rfl (lv_at hl 2 rfl) ?_
  refine oh_csp (As := [.int p1]) (rest := []) hC hP hD hS (mtX5_registerOf l a k D σ p1) (va_cwS 1 hts gX5_inputOrOutput_X5_registerOf rfl rfl rfl (by decide +kernel) ⟨Nat.le_of_ble_eq_true rfl, Nat.le_of_ble_eq_true rfl⟩) rfl hl.1 rfl (Nat.le_of_ble_eq_true rfl) dX5_inputOrOutput_6 (fun r1 H locs hr1 hP hD hS => ?_)
  refine lv_istore_n (lv' := [(3, .int r1), (2, .int (p1 &&& (63 : Int32))), (0, .ref (a 8)), (1, .int p1)]) hx hb dX5_inputOrOutput_9 rfl hl (by decide) rfl (fun ls hl => ?_)
  refine lv_iload_n hx hb dX5_inputOrOutput_10 rfl (lv_at hl 3 rfl) ?_
  refine lv_sipush (v := (512 : Int32)) hx hb dX5_inputOrOutput_11 (by decide) ?_
  refine lv_iand hx hb dX5_inputOrOutput_14 ?_
  have K45 : ∀ x3 : Int32, x3 = (if (p1 &&& (512 : Int32)) = (0 : Int32) then (0 : Int32) else (1 : Int32)) → ∀ (ls : Array Slot) (H : Heap) (locs : List Loc), va_P D vwCl (oh_W a k σ) H → va_D A (oh_W a k σ) → va_S A s.heap H locs → lv_has ls 5 [(3, .int r1), (2, .int (p1 &&& (63 : Int32))), (0, .ref (a 8)), (1, .int p1)] → W p l e ({ frames := 3, cells := 0, slots := 0, locals := 70 } : Room) s m (([.ref (a 8), .int p1] : List Value).toArray) below meth c H locs 0 0 (oh_Ev below (fun u => u = spX5_inputOrOutput σ p1) D (oh_W a k) A [.ref (a 8), .int p1] s) (F0 m 23 ls [.int x3]) := by
    intro x3 hx3 ls H locs hP hD hS hl
    refine lv_istore (lv' := [(4, .int x3), (3, .int r1), (2, .int (p1 &&& (63 : Int32))), (0, .ref (a 8)), (1, .int p1)]) hx hb dX5_inputOrOutput_23 hl (by decide) rfl (fun ls hl => ?_)
    refine lv_iload_n hx hb dX5_inputOrOutput_25 rfl (lv_at hl 4 rfl) ?_
    refine lv_bipush (v := (6 : Int32)) hx hb dX5_inputOrOutput_26 (by decide) ?_
    refine lv_ishr hx hb dX5_inputOrOutput_28 ?_
    refine lv_bipush (v := (7 : Int32)) hx hb dX5_inputOrOutput_29 (by decide) ?_
    refine lv_iand hx hb dX5_inputOrOutput_31 ?_
    refine lv_topi (fun y4 hy4 => ?_)
    by_cases c5 : y4 = (0 : Int32)
    · refine lv_tableIn (tgt := 76) hx hb dX5_inputOrOutput_32 (by rw [c5]; decide) (by rw [c5]; decide) (by rw [c5]; rfl) (by decide) ?_
      refine lv_aload_n hx hb dX5_inputOrOutput_76 rfl (lv_at hl 3 rfl) ?_
      refine oh_get (v := .ref (a 3)) hC hP inX5_inputOrOutput_X5 8 rfl rfl 1 (by decide) (by decide +kernel) rfl dX5_inputOrOutput_77 ?_
      refine lv_iload_n hx hb dX5_inputOrOutput_80 rfl (lv_at hl 2 rfl) ?_
      refine oh_cvv (As := [.int (p1 &&& (63 : Int32))]) (rest := []) hC hP hD hS (mtX6_halt l a k D σ (p1 &&& (63 : Int32))) (cwV 1 hts gX5_inputOrOutput_X6_halt rfl rfl rfl (by decide +kernel) ⟨Nat.le_of_ble_eq_true rfl, Nat.le_of_ble_eq_true rfl⟩) 3 6 rfl rfl rfl hl.1 rfl (Nat.le_of_ble_eq_true rfl) dX5_inputOrOutput_81 (fun s6 H locs hs6 hP hD hS => ?_)
      refine lv_goto (tgt := 239) hx hb dX5_inputOrOutput_84 (by decide) ?_
      refine lv_iload hx hb dX5_inputOrOutput_239 (lv_at hl 0 rfl) ?_
      refine lv_if_eq (tgt := 261) hx hb dX5_inputOrOutput_241 (by decide) (fun c7 => ?_) (fun c7 => ?_)
      · exact oh_retv (u := s6) hC hP hD hS (by subst hs6 hy4 hx3 hr1; exact ((if_pos c5).trans (if_pos c7)).symm) dX5_inputOrOutput_261
      · refine lv_aload_n hx hb dX5_inputOrOutput_244 rfl (lv_at hl 3 rfl) ?_
        refine oh_get (v := .ref (a 4)) hC hP inX5_inputOrOutput_X5 8 rfl rfl 2 (by decide) (by decide +kernel) rfl dX5_inputOrOutput_245 ?_
        refine lv_iload_n hx hb dX5_inputOrOutput_248 rfl (lv_at hl 2 rfl) ?_
        refine lv_iconst (v := (0 : Int32)) hx hb dX5_inputOrOutput_249 (by decide) ?_
        refine oh_cvv (As := [.int (p1 &&& (63 : Int32)), .int (0 : Int32)]) (rest := []) hC hP hD hS (mtX0_putFlag l a k D s6 (p1 &&& (63 : Int32)) (0 : Int32) (by decide)) (cwV 2 hts gX5_inputOrOutput_X0_putFlag rfl rfl rfl (by decide +kernel) ⟨Nat.le_of_ble_eq_true rfl, Nat.le_of_ble_eq_true rfl⟩) 4 0 rfl rfl rfl hl.1 rfl (Nat.le_of_ble_eq_true rfl) dX5_inputOrOutput_250 (fun s8 H locs hs8 hP hD hS => ?_)
        refine lv_aload_n hx hb dX5_inputOrOutput_253 rfl (lv_at hl 3 rfl) ?_
        refine oh_get (v := .ref (a 3)) hC hP inX5_inputOrOutput_X5 8 rfl rfl 1 (by decide) (by decide +kernel) rfl dX5_inputOrOutput_254 ?_
        refine lv_iconst (v := (1 : Int32)) hx hb dX5_inputOrOutput_257 (by decide) ?_
        refine oh_putN (σ' := (oh_up s8 0 6 (1 : Int32))) (v := .int (1 : Int32)) hC hP hD hS inX5_inputOrOutput_X6 tyX6 tyX6_ok nmX6 3 rfl rfl 3 (by decide) (by decide +kernel) rfl (oh_nb (by decide)) (oh_fb (by decide)) (by simp) rfl dX5_inputOrOutput_258 (fun H locs hP hD hS => ?_)
        exact oh_retv (u := (oh_up s8 0 6 (1 : Int32))) hC hP hD hS (by subst hs8 hs6 hy4 hx3 hr1; exact ((if_pos c5).trans (if_neg c7)).symm) dX5_inputOrOutput_261
    by_cases c9 : y4 = (1 : Int32)
    · refine lv_tableIn (tgt := 87) hx hb dX5_inputOrOutput_32 (by rw [c9]; decide) (by rw [c9]; decide) (by rw [c9]; rfl) (by decide) ?_
      refine lv_aload_n hx hb dX5_inputOrOutput_87 rfl (lv_at hl 3 rfl) ?_
      refine oh_get (v := .ref (a 4)) hC hP inX5_inputOrOutput_X5 8 rfl rfl 2 (by decide) (by decide +kernel) rfl dX5_inputOrOutput_88 ?_
      refine lv_iload_n hx hb dX5_inputOrOutput_91 rfl (lv_at hl 2 rfl) ?_
      refine lv_iload hx hb dX5_inputOrOutput_92 (lv_at hl 0 rfl) ?_
      have K13 : ∀ x11 : Int32, x11 = (if x3 = (0 : Int32) then (1 : Int32) else (0 : Int32)) → ∀ (ls : Array Slot) (H : Heap) (locs : List Loc), va_P D vwCl (oh_W a k σ) H → va_D A (oh_W a k σ) → va_S A s.heap H locs → lv_has ls 5 [(4, .int x3), (3, .int r1), (2, .int (p1 &&& (63 : Int32))), (0, .ref (a 8)), (1, .int p1)] → W p l e ({ frames := 3, cells := 0, slots := 0, locals := 70 } : Room) s m (([.ref (a 8), .int p1] : List Value).toArray) below meth c H locs 0 0 (oh_Ev below (fun u => u = spX5_inputOrOutput σ p1) D (oh_W a k) A [.ref (a 8), .int p1] s) (F0 m 102 ls [.int x11, .int (p1 &&& (63 : Int32)), .ref (a 4)]) := by
        intro x11 hx11 ls H locs hP hD hS hl
        refine oh_cvv (As := [.int (p1 &&& (63 : Int32)), .int x11]) (rest := []) hC hP hD hS (mtX0_putFlag l a k D σ (p1 &&& (63 : Int32)) x11 (by rw [hx11]; (repeat' split) <;> first | exact Or.inl rfl | exact Or.inr rfl)) (cwV 2 hts gX5_inputOrOutput_X0_putFlag rfl rfl rfl (by decide +kernel) ⟨Nat.le_of_ble_eq_true rfl, Nat.le_of_ble_eq_true rfl⟩) 4 0 rfl rfl rfl hl.1 rfl (Nat.le_of_ble_eq_true rfl) dX5_inputOrOutput_102 (fun s12 H locs hs12 hP hD hS => ?_)
        refine lv_aload_n hx hb dX5_inputOrOutput_105 rfl (lv_at hl 3 rfl) ?_
        refine oh_get (v := .ref (a 3)) hC hP inX5_inputOrOutput_X5 8 rfl rfl 1 (by decide) (by decide +kernel) rfl dX5_inputOrOutput_106 ?_
        refine lv_iconst (v := (1 : Int32)) hx hb dX5_inputOrOutput_109 (by decide) ?_
        refine oh_putN (σ' := (oh_up s12 0 6 (1 : Int32))) (v := .int (1 : Int32)) hC hP hD hS inX5_inputOrOutput_X6 tyX6 tyX6_ok nmX6 3 rfl rfl 3 (by decide) (by decide +kernel) rfl (oh_nb (by decide)) (oh_fb (by decide)) (by simp) rfl dX5_inputOrOutput_110 (fun H locs hP hD hS => ?_)
        exact oh_retv (u := (oh_up s12 0 6 (1 : Int32))) hC hP hD hS (by subst hs12 hx11 hy4 hx3 hr1; exact ((if_neg c5).trans (if_pos c9)).symm) dX5_inputOrOutput_113
      refine lv_if_ne (tgt := 101) hx hb dX5_inputOrOutput_94 (by decide) (fun c10 => ?_) (fun c10 => ?_)
      · refine lv_iconst (v := (0 : Int32)) hx hb dX5_inputOrOutput_101 (by decide) ?_
        exact K13 _ (if_neg c10).symm ls _ _ hP hD hS (lv_sub hl [0, 1, 2, 3, 4] rfl)
      · refine lv_iconst (v := (1 : Int32)) hx hb dX5_inputOrOutput_97 (by decide) ?_
        refine lv_goto (tgt := 102) hx hb dX5_inputOrOutput_98 (by decide) ?_
        exact K13 _ (if_pos c10).symm ls _ _ hP hD hS (lv_sub hl [0, 1, 2, 3, 4] rfl)
    by_cases c14 : y4 = (2 : Int32)
    · refine lv_tableIn (tgt := 114) hx hb dX5_inputOrOutput_32 (by rw [c14]; decide) (by rw [c14]; decide) (by rw [c14]; rfl) (by decide) ?_
      refine lv_aload_n hx hb dX5_inputOrOutput_114 rfl (lv_at hl 3 rfl) ?_
      refine lv_aload_n hx hb dX5_inputOrOutput_115 rfl (lv_at hl 3 rfl) ?_
      refine oh_get (v := .ref (a 4)) hC hP inX5_inputOrOutput_X5 8 rfl rfl 2 (by decide) (by decide +kernel) rfl dX5_inputOrOutput_116 ?_
      refine lv_iload_n hx hb dX5_inputOrOutput_119 rfl (lv_at hl 2 rfl) ?_
      refine oh_cvp (As := [.int (p1 &&& (63 : Int32))]) (rest := [.ref (a 8)]) hC hP hD hS (mtX0_flagOf l a k D σ (p1 &&& (63 : Int32)) h9) (cwV 1 hts gX5_inputOrOutput_X0_flagOf rfl rfl rfl (by decide +kernel) ⟨Nat.le_of_ble_eq_true rfl, Nat.le_of_ble_eq_true rfl⟩) 4 0 rfl rfl rfl hl.1 rfl (Nat.le_of_ble_eq_true rfl) dX5_inputOrOutput_120 (fun r15 H locs hr15 hP hD hS => ?_)
      have K19 : ∀ x17 : Int32, x17 = (if r15 = (0 : Int32) then (1 : Int32) else (0 : Int32)) → ∀ (ls : Array Slot) (H : Heap) (locs : List Loc), va_P D vwCl (oh_W a k σ) H → va_D A (oh_W a k σ) → va_S A s.heap H locs → lv_has ls 5 [(4, .int x3), (3, .int r1), (2, .int (p1 &&& (63 : Int32))), (0, .ref (a 8)), (1, .int p1)] → W p l e ({ frames := 3, cells := 0, slots := 0, locals := 70 } : Room) s m (([.ref (a 8), .int p1] : List Value).toArray) below meth c H locs 0 0 (oh_Ev below (fun u => u = spX5_inputOrOutput σ p1) D (oh_W a k) A [.ref (a 8), .int p1] s) (F0 m 131 ls [.int x17, .ref (a 8)]) := by
        intro x17 hx17 ls H locs hP hD hS hl
        refine oh_cvv (As := [.int x17]) (rest := []) hC hP hD hS (mtX5_skipIf l a k D σ x17) (cwV 1 hts gX5_inputOrOutput_X5_skipIf rfl rfl rfl (by decide +kernel) ⟨Nat.le_of_ble_eq_true rfl, Nat.le_of_ble_eq_true rfl⟩) 8 5 rfl rfl rfl hl.1 rfl (Nat.le_of_ble_eq_true rfl) dX5_inputOrOutput_131 (fun s18 H locs hs18 hP hD hS => ?_)
        exact oh_retv (u := s18) hC hP hD hS (by subst hs18 hx17 hr15 hy4 hx3 hr1; exact (((if_neg c5).trans (if_neg c9)).trans (if_pos c14)).symm) dX5_inputOrOutput_134
      refine lv_if_ne (tgt := 130) hx hb dX5_inputOrOutput_123 (by decide) (fun c16 => ?_) (fun c16 => ?_)
      · refine lv_iconst (v := (0 : Int32)) hx hb dX5_inputOrOutput_130 (by decide) ?_
        exact K19 _ (if_neg c16).symm ls _ _ hP hD hS (lv_sub hl [0, 1, 2, 3, 4] rfl)
      · refine lv_iconst (v := (1 : Int32)) hx hb dX5_inputOrOutput_126 (by decide) ?_
        refine lv_goto (tgt := 131) hx hb dX5_inputOrOutput_127 (by decide) ?_
        exact K19 _ (if_pos c16).symm ls _ _ hP hD hS (lv_sub hl [0, 1, 2, 3, 4] rfl)
    by_cases c20 : y4 = (3 : Int32)
    · refine lv_tableIn (tgt := 135) hx hb dX5_inputOrOutput_32 (by rw [c20]; decide) (by rw [c20]; decide) (by rw [c20]; rfl) (by decide) ?_
      refine lv_aload_n hx hb dX5_inputOrOutput_135 rfl (lv_at hl 3 rfl) ?_
      refine lv_aload_n hx hb dX5_inputOrOutput_136 rfl (lv_at hl 3 rfl) ?_
      refine oh_get (v := .ref (a 4)) hC hP inX5_inputOrOutput_X5 8 rfl rfl 2 (by decide) (by decide +kernel) rfl dX5_inputOrOutput_137 ?_
      refine lv_iload_n hx hb dX5_inputOrOutput_140 rfl (lv_at hl 2 rfl) ?_
      refine oh_cvp (As := [.int (p1 &&& (63 : Int32))]) (rest := [.ref (a 8)]) hC hP hD hS (mtX0_flagOf l a k D σ (p1 &&& (63 : Int32)) h9) (cwV 1 hts gX5_inputOrOutput_X0_flagOf rfl rfl rfl (by decide +kernel) ⟨Nat.le_of_ble_eq_true rfl, Nat.le_of_ble_eq_true rfl⟩) 4 0 rfl rfl rfl hl.1 rfl (Nat.le_of_ble_eq_true rfl) dX5_inputOrOutput_141 (fun r21 H locs hr21 hP hD hS => ?_)
      refine oh_cvv (As := [.int r21]) (rest := []) hC hP hD hS (mtX5_skipIf l a k D σ r21) (cwV 1 hts gX5_inputOrOutput_X5_skipIf rfl rfl rfl (by decide +kernel) ⟨Nat.le_of_ble_eq_true rfl, Nat.le_of_ble_eq_true rfl⟩) 8 5 rfl rfl rfl hl.1 rfl (Nat.le_of_ble_eq_true rfl) dX5_inputOrOutput_144 (fun s22 H locs hs22 hP hD hS => ?_)
      exact oh_retv (u := s22) hC hP hD hS (by subst hs22 hr21 hy4 hx3 hr1; exact ((((if_neg c5).trans (if_neg c9)).trans (if_neg c14)).trans (if_pos c20)).symm) dX5_inputOrOutput_147
    by_cases c23 : y4 = (4 : Int32)
    · refine lv_tableIn (tgt := 148) hx hb dX5_inputOrOutput_32 (by rw [c23]; decide) (by rw [c23]; decide) (by rw [c23]; rfl) (by decide) ?_
      refine lv_aload_n hx hb dX5_inputOrOutput_148 rfl (lv_at hl 3 rfl) ?_
      refine oh_get (v := .ref (a 1)) hC hP inX5_inputOrOutput_X5 8 rfl rfl 0 (by decide) (by decide +kernel) rfl dX5_inputOrOutput_149 ?_
      refine lv_iload_n hx hb dX5_inputOrOutput_152 rfl (lv_at hl 1 rfl) ?_
      refine lv_aload_n hx hb dX5_inputOrOutput_153 rfl (lv_at hl 3 rfl) ?_
      refine oh_get (v := .ref (a 1)) hC hP inX5_inputOrOutput_X5 8 rfl rfl 0 (by decide) (by decide +kernel) rfl dX5_inputOrOutput_154 ?_
      refine lv_iload_n hx hb dX5_inputOrOutput_157 rfl (lv_at hl 1 rfl) ?_
      refine oh_cvp (As := [.int r1]) (rest := [.int r1, .ref (a 1)]) hC hP hD hS (mtX4_read l a k D σ r1) (cwV 1 hts gX5_inputOrOutput_X4_read rfl rfl rfl (by decide +kernel) ⟨Nat.le_of_ble_eq_true rfl, Nat.le_of_ble_eq_true rfl⟩) 1 4 rfl rfl rfl hl.1 rfl (Nat.le_of_ble_eq_true rfl) dX5_inputOrOutput_158 (fun r24 H locs hr24 hP hD hS => ?_)
      refine lv_aload_n hx hb dX5_inputOrOutput_161 rfl (lv_at hl 3 rfl) ?_
      refine oh_get (v := .ref (a 4)) hC hP inX5_inputOrOutput_X5 8 rfl rfl 2 (by decide) (by decide +kernel) rfl dX5_inputOrOutput_162 ?_
      refine lv_iload_n hx hb dX5_inputOrOutput_165 rfl (lv_at hl 2 rfl) ?_
      refine oh_cvp (As := [.int (p1 &&& (63 : Int32))]) (rest := [.int r24, .int r1, .ref (a 1)]) hC hP hD hS (mtX0_tell l a k D σ (p1 &&& (63 : Int32))) (cwV 1 hts gX5_inputOrOutput_X0_tell rfl rfl rfl (by decide +kernel) ⟨Nat.le_of_ble_eq_true rfl, Nat.le_of_ble_eq_true rfl⟩) 4 0 rfl rfl rfl hl.1 rfl (Nat.le_of_ble_eq_true rfl) dX5_inputOrOutput_166 (fun r25 H locs hr25 hP hD hS => ?_)
      refine lv_ior hx hb dX5_inputOrOutput_169 ?_
      refine oh_cvv (As := [.int r1, .int (r24 ||| r25)]) (rest := []) hC hP hD hS (mtX4_write l a k D σ r1 (r24 ||| r25)) (cwV 2 hts gX5_inputOrOutput_X4_write rfl rfl rfl (by decide +kernel) ⟨Nat.le_of_ble_eq_true rfl, Nat.le_of_ble_eq_true rfl⟩) 1 4 rfl rfl rfl hl.1 rfl (Nat.le_of_ble_eq_true rfl) dX5_inputOrOutput_170 (fun s26 H locs hs26 hP hD hS => ?_)
      refine lv_goto (tgt := 239) hx hb dX5_inputOrOutput_173 (by decide) ?_
      refine lv_iload hx hb dX5_inputOrOutput_239 (lv_at hl 0 rfl) ?_
      refine lv_if_eq (tgt := 261) hx hb dX5_inputOrOutput_241 (by decide) (fun c27 => ?_) (fun c27 => ?_)
      · exact oh_retv (u := s26) hC hP hD hS (by subst hs26 hr25 hr24 hy4 hx3 hr1; exact ((((((if_neg c5).trans (if_neg c9)).trans (if_neg c14)).trans (if_neg c20)).trans (if_pos c23)).trans (if_pos c27)).symm) dX5_inputOrOutput_261
      · refine lv_aload_n hx hb dX5_inputOrOutput_244 rfl (lv_at hl 3 rfl) ?_
        refine oh_get (v := .ref (a 4)) hC hP inX5_inputOrOutput_X5 8 rfl rfl 2 (by decide) (by decide +kernel) rfl dX5_inputOrOutput_245 ?_
        refine lv_iload_n hx hb dX5_inputOrOutput_248 rfl (lv_at hl 2 rfl) ?_
        refine lv_iconst (v := (0 : Int32)) hx hb dX5_inputOrOutput_249 (by decide) ?_
        refine oh_cvv (As := [.int (p1 &&& (63 : Int32)), .int (0 : Int32)]) (rest := []) hC hP hD hS (mtX0_putFlag l a k D s26 (p1 &&& (63 : Int32)) (0 : Int32) (by decide)) (cwV 2 hts gX5_inputOrOutput_X0_putFlag rfl rfl rfl (by decide +kernel) ⟨Nat.le_of_ble_eq_true rfl, Nat.le_of_ble_eq_true rfl⟩) 4 0 rfl rfl rfl hl.1 rfl (Nat.le_of_ble_eq_true rfl) dX5_inputOrOutput_250 (fun s28 H locs hs28 hP hD hS => ?_)
        refine lv_aload_n hx hb dX5_inputOrOutput_253 rfl (lv_at hl 3 rfl) ?_
        refine oh_get (v := .ref (a 3)) hC hP inX5_inputOrOutput_X5 8 rfl rfl 1 (by decide) (by decide +kernel) rfl dX5_inputOrOutput_254 ?_
        refine lv_iconst (v := (1 : Int32)) hx hb dX5_inputOrOutput_257 (by decide) ?_
        refine oh_putN (σ' := (oh_up s28 0 6 (1 : Int32))) (v := .int (1 : Int32)) hC hP hD hS inX5_inputOrOutput_X6 tyX6 tyX6_ok nmX6 3 rfl rfl 3 (by decide) (by decide +kernel) rfl (oh_nb (by decide)) (oh_fb (by decide)) (by simp) rfl dX5_inputOrOutput_258 (fun H locs hP hD hS => ?_)
        exact oh_retv (u := (oh_up s28 0 6 (1 : Int32))) hC hP hD hS (by subst hs28 hs26 hr25 hr24 hy4 hx3 hr1; exact ((((((if_neg c5).trans (if_neg c9)).trans (if_neg c14)).trans (if_neg c20)).trans (if_pos c23)).trans (if_neg c27)).symm) dX5_inputOrOutput_261
    by_cases c29 : y4 = (5 : Int32)
    · refine lv_tableIn (tgt := 176) hx hb dX5_inputOrOutput_32 (by rw [c29]; decide) (by rw [c29]; decide) (by rw [c29]; rfl) (by decide) ?_
      refine lv_aload_n hx hb dX5_inputOrOutput_176 rfl (lv_at hl 3 rfl) ?_
      refine oh_get (v := .ref (a 1)) hC hP inX5_inputOrOutput_X5 8 rfl rfl 0 (by decide) (by decide +kernel) rfl dX5_inputOrOutput_177 ?_
      refine lv_iload_n hx hb dX5_inputOrOutput_180 rfl (lv_at hl 1 rfl) ?_
      refine lv_aload_n hx hb dX5_inputOrOutput_181 rfl (lv_at hl 3 rfl) ?_
      refine oh_get (v := .ref (a 4)) hC hP inX5_inputOrOutput_X5 8 rfl rfl 2 (by decide) (by decide +kernel) rfl dX5_inputOrOutput_182 ?_
      refine lv_iload_n hx hb dX5_inputOrOutput_185 rfl (lv_at hl 2 rfl) ?_
      refine oh_cvp (As := [.int (p1 &&& (63 : Int32))]) (rest := [.int r1, .ref (a 1)]) hC hP hD hS (mtX0_tell l a k D σ (p1 &&& (63 : Int32))) (cwV 1 hts gX5_inputOrOutput_X0_tell rfl rfl rfl (by decide +kernel) ⟨Nat.le_of_ble_eq_true rfl, Nat.le_of_ble_eq_true rfl⟩) 4 0 rfl rfl rfl hl.1 rfl (Nat.le_of_ble_eq_true rfl) dX5_inputOrOutput_186 (fun r30 H locs hr30 hP hD hS => ?_)
      refine oh_cvv (As := [.int r1, .int r30]) (rest := []) hC hP hD hS (mtX4_write l a k D σ r1 r30) (cwV 2 hts gX5_inputOrOutput_X4_write rfl rfl rfl (by decide +kernel) ⟨Nat.le_of_ble_eq_true rfl, Nat.le_of_ble_eq_true rfl⟩) 1 4 rfl rfl rfl hl.1 rfl (Nat.le_of_ble_eq_true rfl) dX5_inputOrOutput_189 (fun s31 H locs hs31 hP hD hS => ?_)
      refine lv_goto (tgt := 239) hx hb dX5_inputOrOutput_192 (by decide) ?_
      refine lv_iload hx hb dX5_inputOrOutput_239 (lv_at hl 0 rfl) ?_
      refine lv_if_eq (tgt := 261) hx hb dX5_inputOrOutput_241 (by decide) (fun c32 => ?_) (fun c32 => ?_)
      · exact oh_retv (u := s31) hC hP hD hS (by subst hs31 hr30 hy4 hx3 hr1; exact (((((((if_neg c5).trans (if_neg c9)).trans (if_neg c14)).trans (if_neg c20)).trans (if_neg c23)).trans (if_pos c29)).trans (if_pos c32)).symm) dX5_inputOrOutput_261
      · refine lv_aload_n hx hb dX5_inputOrOutput_244 rfl (lv_at hl 3 rfl) ?_
        refine oh_get (v := .ref (a 4)) hC hP inX5_inputOrOutput_X5 8 rfl rfl 2 (by decide) (by decide +kernel) rfl dX5_inputOrOutput_245 ?_
        refine lv_iload_n hx hb dX5_inputOrOutput_248 rfl (lv_at hl 2 rfl) ?_
        refine lv_iconst (v := (0 : Int32)) hx hb dX5_inputOrOutput_249 (by decide) ?_
        refine oh_cvv (As := [.int (p1 &&& (63 : Int32)), .int (0 : Int32)]) (rest := []) hC hP hD hS (mtX0_putFlag l a k D s31 (p1 &&& (63 : Int32)) (0 : Int32) (by decide)) (cwV 2 hts gX5_inputOrOutput_X0_putFlag rfl rfl rfl (by decide +kernel) ⟨Nat.le_of_ble_eq_true rfl, Nat.le_of_ble_eq_true rfl⟩) 4 0 rfl rfl rfl hl.1 rfl (Nat.le_of_ble_eq_true rfl) dX5_inputOrOutput_250 (fun s33 H locs hs33 hP hD hS => ?_)
        refine lv_aload_n hx hb dX5_inputOrOutput_253 rfl (lv_at hl 3 rfl) ?_
        refine oh_get (v := .ref (a 3)) hC hP inX5_inputOrOutput_X5 8 rfl rfl 1 (by decide) (by decide +kernel) rfl dX5_inputOrOutput_254 ?_
        refine lv_iconst (v := (1 : Int32)) hx hb dX5_inputOrOutput_257 (by decide) ?_
        refine oh_putN (σ' := (oh_up s33 0 6 (1 : Int32))) (v := .int (1 : Int32)) hC hP hD hS inX5_inputOrOutput_X6 tyX6 tyX6_ok nmX6 3 rfl rfl 3 (by decide) (by decide +kernel) rfl (oh_nb (by decide)) (oh_fb (by decide)) (by simp) rfl dX5_inputOrOutput_258 (fun H locs hP hD hS => ?_)
        exact oh_retv (u := (oh_up s33 0 6 (1 : Int32))) hC hP hD hS (by subst hs33 hs31 hr30 hy4 hx3 hr1; exact (((((((if_neg c5).trans (if_neg c9)).trans (if_neg c14)).trans (if_neg c20)).trans (if_neg c23)).trans (if_pos c29)).trans (if_neg c32)).symm) dX5_inputOrOutput_261
    by_cases c34 : y4 = (6 : Int32)
    · refine lv_tableIn (tgt := 195) hx hb dX5_inputOrOutput_32 (by rw [c34]; decide) (by rw [c34]; decide) (by rw [c34]; rfl) (by decide) ?_
      refine lv_aload_n hx hb dX5_inputOrOutput_195 rfl (lv_at hl 3 rfl) ?_
      refine oh_get (v := .ref (a 4)) hC hP inX5_inputOrOutput_X5 8 rfl rfl 2 (by decide) (by decide +kernel) rfl dX5_inputOrOutput_196 ?_
      refine lv_iload_n hx hb dX5_inputOrOutput_199 rfl (lv_at hl 2 rfl) ?_
      refine lv_aload_n hx hb dX5_inputOrOutput_200 rfl (lv_at hl 3 rfl) ?_
      refine oh_get (v := .ref (a 1)) hC hP inX5_inputOrOutput_X5 8 rfl rfl 0 (by decide) (by decide +kernel) rfl dX5_inputOrOutput_201 ?_
      refine lv_iload_n hx hb dX5_inputOrOutput_204 rfl (lv_at hl 1 rfl) ?_
      refine oh_cvp (As := [.int r1]) (rest := [.int (p1 &&& (63 : Int32)), .ref (a 4)]) hC hP hD hS (mtX4_read l a k D σ r1) (cwV 1 hts gX5_inputOrOutput_X4_read rfl rfl rfl (by decide +kernel) ⟨Nat.le_of_ble_eq_true rfl, Nat.le_of_ble_eq_true rfl⟩) 1 4 rfl rfl rfl hl.1 rfl (Nat.le_of_ble_eq_true rfl) dX5_inputOrOutput_205 (fun r35 H locs hr35 hP hD hS => ?_)
      refine oh_cvv (As := [.int (p1 &&& (63 : Int32)), .int r35]) (rest := []) hC hP hD hS (mtX0_take l a k D σ (p1 &&& (63 : Int32)) r35) (cwV 2 hts gX5_inputOrOutput_X0_take rfl rfl rfl (by decide +kernel) ⟨Nat.le_of_ble_eq_true rfl, Nat.le_of_ble_eq_true rfl⟩) 4 0 rfl rfl rfl hl.1 rfl (Nat.le_of_ble_eq_true rfl) dX5_inputOrOutput_208 (fun s36 H locs hs36 hP hD hS => ?_)
      refine lv_goto (tgt := 239) hx hb dX5_inputOrOutput_211 (by decide) ?_
      refine lv_iload hx hb dX5_inputOrOutput_239 (lv_at hl 0 rfl) ?_
      refine lv_if_eq (tgt := 261) hx hb dX5_inputOrOutput_241 (by decide) (fun c37 => ?_) (fun c37 => ?_)
      · exact oh_retv (u := s36) hC hP hD hS (by subst hs36 hr35 hy4 hx3 hr1; exact ((((((((if_neg c5).trans (if_neg c9)).trans (if_neg c14)).trans (if_neg c20)).trans (if_neg c23)).trans (if_neg c29)).trans (if_pos c34)).trans (if_pos c37)).symm) dX5_inputOrOutput_261
      · refine lv_aload_n hx hb dX5_inputOrOutput_244 rfl (lv_at hl 3 rfl) ?_
        refine oh_get (v := .ref (a 4)) hC hP inX5_inputOrOutput_X5 8 rfl rfl 2 (by decide) (by decide +kernel) rfl dX5_inputOrOutput_245 ?_
        refine lv_iload_n hx hb dX5_inputOrOutput_248 rfl (lv_at hl 2 rfl) ?_
        refine lv_iconst (v := (0 : Int32)) hx hb dX5_inputOrOutput_249 (by decide) ?_
        refine oh_cvv (As := [.int (p1 &&& (63 : Int32)), .int (0 : Int32)]) (rest := []) hC hP hD hS (mtX0_putFlag l a k D s36 (p1 &&& (63 : Int32)) (0 : Int32) (by decide)) (cwV 2 hts gX5_inputOrOutput_X0_putFlag rfl rfl rfl (by decide +kernel) ⟨Nat.le_of_ble_eq_true rfl, Nat.le_of_ble_eq_true rfl⟩) 4 0 rfl rfl rfl hl.1 rfl (Nat.le_of_ble_eq_true rfl) dX5_inputOrOutput_250 (fun s38 H locs hs38 hP hD hS => ?_)
        refine lv_aload_n hx hb dX5_inputOrOutput_253 rfl (lv_at hl 3 rfl) ?_
        refine oh_get (v := .ref (a 3)) hC hP inX5_inputOrOutput_X5 8 rfl rfl 1 (by decide) (by decide +kernel) rfl dX5_inputOrOutput_254 ?_
        refine lv_iconst (v := (1 : Int32)) hx hb dX5_inputOrOutput_257 (by decide) ?_
        refine oh_putN (σ' := (oh_up s38 0 6 (1 : Int32))) (v := .int (1 : Int32)) hC hP hD hS inX5_inputOrOutput_X6 tyX6 tyX6_ok nmX6 3 rfl rfl 3 (by decide) (by decide +kernel) rfl (oh_nb (by decide)) (oh_fb (by decide)) (by simp) rfl dX5_inputOrOutput_258 (fun H locs hP hD hS => ?_)
        exact oh_retv (u := (oh_up s38 0 6 (1 : Int32))) hC hP hD hS (by subst hs38 hs36 hr35 hy4 hx3 hr1; exact ((((((((if_neg c5).trans (if_neg c9)).trans (if_neg c14)).trans (if_neg c20)).trans (if_neg c23)).trans (if_neg c29)).trans (if_pos c34)).trans (if_neg c37)).symm) dX5_inputOrOutput_261
    refine lv_tableOut (tgt := 214) hx hb dX5_inputOrOutput_32 (by have hh := True.intro; have : (∀ z : Int32, y4.toInt = z.toInt → y4 = z) := fun z e => Int32.toInt_inj.mp e; have hc5 : y4.toInt ≠ 0 := oh_ne c5; have hc9 : y4.toInt ≠ 1 := oh_ne c9; have hc14 : y4.toInt ≠ 2 := oh_ne c14; have hc20 : y4.toInt ≠ 3 := oh_ne c20; have hc23 : y4.toInt ≠ 4 := oh_ne c23; have hc29 : y4.toInt ≠ 5 := oh_ne c29; have hc34 : y4.toInt ≠ 6 := oh_ne c34; omega) (by decide) ?_
    refine lv_aload_n hx hb dX5_inputOrOutput_214 rfl (lv_at hl 3 rfl) ?_
    refine oh_get (v := .ref (a 4)) hC hP inX5_inputOrOutput_X5 8 rfl rfl 2 (by decide) (by decide +kernel) rfl dX5_inputOrOutput_215 ?_
    refine lv_iload_n hx hb dX5_inputOrOutput_218 rfl (lv_at hl 2 rfl) ?_
    refine lv_iload_n hx hb dX5_inputOrOutput_219 rfl (lv_at hl 1 rfl) ?_
    have K44 : ∀ x40 : Int32, x40 = (if r1 = (0 : Int32) then (1 : Int32) else (0 : Int32)) → ∀ (ls : Array Slot) (H : Heap) (locs : List Loc), va_P D vwCl (oh_W a k σ) H → va_D A (oh_W a k σ) → va_S A s.heap H locs → lv_has ls 5 [(4, .int x3), (3, .int r1), (2, .int (p1 &&& (63 : Int32))), (0, .ref (a 8)), (1, .int p1)] → W p l e ({ frames := 3, cells := 0, slots := 0, locals := 70 } : Room) s m (([.ref (a 8), .int p1] : List Value).toArray) below meth c H locs 0 0 (oh_Ev below (fun u => u = spX5_inputOrOutput σ p1) D (oh_W a k) A [.ref (a 8), .int p1] s) (F0 m 228 ls [.int x40, .int (p1 &&& (63 : Int32)), .ref (a 4)]) := by
      intro x40 hx40 ls H locs hP hD hS hl
      refine oh_cvv (As := [.int (p1 &&& (63 : Int32)), .int x40]) (rest := []) hC hP hD hS (mtX0_putControl l a k D σ (p1 &&& (63 : Int32)) x40 (by rw [hx40]; (repeat' split) <;> first | exact Or.inl rfl | exact Or.inr rfl)) (cwV 2 hts gX5_inputOrOutput_X0_putControl rfl rfl rfl (by decide +kernel) ⟨Nat.le_of_ble_eq_true rfl, Nat.le_of_ble_eq_true rfl⟩) 4 0 rfl rfl rfl hl.1 rfl (Nat.le_of_ble_eq_true rfl) dX5_inputOrOutput_228 (fun s41 H locs hs41 hP hD hS => ?_)
      refine lv_aload_n hx hb dX5_inputOrOutput_231 rfl (lv_at hl 3 rfl) ?_
      refine oh_get (v := .ref (a 3)) hC hP inX5_inputOrOutput_X5 8 rfl rfl 1 (by decide) (by decide +kernel) rfl dX5_inputOrOutput_232 ?_
      refine lv_iconst (v := (1 : Int32)) hx hb dX5_inputOrOutput_235 (by decide) ?_
      refine oh_putN (σ' := (oh_up s41 0 6 (1 : Int32))) (v := .int (1 : Int32)) hC hP hD hS inX5_inputOrOutput_X6 tyX6 tyX6_ok nmX6 3 rfl rfl 3 (by decide) (by decide +kernel) rfl (oh_nb (by decide)) (oh_fb (by decide)) (by simp) rfl dX5_inputOrOutput_236 (fun H locs hP hD hS => ?_)
      refine lv_iload hx hb dX5_inputOrOutput_239 (lv_at hl 0 rfl) ?_
      refine lv_if_eq (tgt := 261) hx hb dX5_inputOrOutput_241 (by decide) (fun c42 => ?_) (fun c42 => ?_)
      · exact oh_retv (u := (oh_up s41 0 6 (1 : Int32))) hC hP hD hS (by subst hs41 hx40 hy4 hx3 hr1; exact ((((((((if_neg c5).trans (if_neg c9)).trans (if_neg c14)).trans (if_neg c20)).trans (if_neg c23)).trans (if_neg c29)).trans (if_neg c34)).trans (if_pos c42)).symm) dX5_inputOrOutput_261
      · refine lv_aload_n hx hb dX5_inputOrOutput_244 rfl (lv_at hl 3 rfl) ?_
        refine oh_get (v := .ref (a 4)) hC hP inX5_inputOrOutput_X5 8 rfl rfl 2 (by decide) (by decide +kernel) rfl dX5_inputOrOutput_245 ?_
        refine lv_iload_n hx hb dX5_inputOrOutput_248 rfl (lv_at hl 2 rfl) ?_
        refine lv_iconst (v := (0 : Int32)) hx hb dX5_inputOrOutput_249 (by decide) ?_
        refine oh_cvv (As := [.int (p1 &&& (63 : Int32)), .int (0 : Int32)]) (rest := []) hC hP hD hS (mtX0_putFlag l a k D (oh_up s41 0 6 (1 : Int32)) (p1 &&& (63 : Int32)) (0 : Int32) (by decide)) (cwV 2 hts gX5_inputOrOutput_X0_putFlag rfl rfl rfl (by decide +kernel) ⟨Nat.le_of_ble_eq_true rfl, Nat.le_of_ble_eq_true rfl⟩) 4 0 rfl rfl rfl hl.1 rfl (Nat.le_of_ble_eq_true rfl) dX5_inputOrOutput_250 (fun s43 H locs hs43 hP hD hS => ?_)
        refine lv_aload_n hx hb dX5_inputOrOutput_253 rfl (lv_at hl 3 rfl) ?_
        refine oh_get (v := .ref (a 3)) hC hP inX5_inputOrOutput_X5 8 rfl rfl 1 (by decide) (by decide +kernel) rfl dX5_inputOrOutput_254 ?_
        refine lv_iconst (v := (1 : Int32)) hx hb dX5_inputOrOutput_257 (by decide) ?_
        refine oh_putN (σ' := (oh_up s43 0 6 (1 : Int32))) (v := .int (1 : Int32)) hC hP hD hS inX5_inputOrOutput_X6 tyX6 tyX6_ok nmX6 3 rfl rfl 3 (by decide) (by decide +kernel) rfl (oh_nb (by decide)) (oh_fb (by decide)) (by simp) rfl dX5_inputOrOutput_258 (fun H locs hP hD hS => ?_)
        exact oh_retv (u := (oh_up s43 0 6 (1 : Int32))) hC hP hD hS (by subst hs43 hs41 hx40 hy4 hx3 hr1; exact ((((((((if_neg c5).trans (if_neg c9)).trans (if_neg c14)).trans (if_neg c20)).trans (if_neg c23)).trans (if_neg c29)).trans (if_neg c34)).trans (if_neg c42)).symm) dX5_inputOrOutput_261
    refine lv_if_ne (tgt := 227) hx hb dX5_inputOrOutput_220 (by decide) (fun c39 => ?_) (fun c39 => ?_)
    · refine lv_iconst (v := (0 : Int32)) hx hb dX5_inputOrOutput_227 (by decide) ?_
      exact K44 _ (if_neg c39).symm ls _ _ hP hD hS (lv_sub hl [0, 1, 2, 3, 4] rfl)
    · refine lv_iconst (v := (1 : Int32)) hx hb dX5_inputOrOutput_223 (by decide) ?_
      refine lv_goto (tgt := 228) hx hb dX5_inputOrOutput_224 (by decide) ?_
      exact K44 _ (if_pos c39).symm ls _ _ hP hD hS (lv_sub hl [0, 1, 2, 3, 4] rfl)
  refine lv_if_eq (tgt := 22) hx hb dX5_inputOrOutput_15 (by decide) (fun c2 => ?_) (fun c2 => ?_)
  · refine lv_iconst (v := (0 : Int32)) hx hb dX5_inputOrOutput_22 (by decide) ?_
    exact K45 _ (if_pos c2).symm ls _ _ hP hD hS (lv_sub hl [0, 1, 2, 3] rfl)
  · refine lv_iconst (v := (1 : Int32)) hx hb dX5_inputOrOutput_18 (by decide) ?_
    refine lv_goto (tgt := 23) hx hb dX5_inputOrOutput_19 (by decide) ?_
    exact K45 _ (if_neg c2).symm ls _ _ hP hD hS (lv_sub hl [0, 1, 2, 3] rfl)
-- OctalHouse$Processor.perform
def spX5_perform (σ : oh_St) (p1 : Int32) (p2 : Int32) : oh_St := (let x2 : Int32 := (if (p1 &&& (1024 : Int32)) = (0 : Int32) then (0 : Int32) else (1 : Int32)); (if (p1 &&& (28672 : Int32)) = (0 : Int32) then (if (p1 &&& (32768 : Int32)) = (0 : Int32) then (if x2 = (0 : Int32) then (let s16 : oh_St := (spX5_shiftAndSkip σ p1); s16) else (let s17 : oh_St := (spX5_alterAndSkip σ p1); s17)) else (if x2 = (0 : Int32) then (let r6 : Int32 := (spX5_hasAddressBehind p1); (if r6 = (0 : Int32) then (let s8 : oh_St := (spX5_longShift σ p1); s8) else (let r9 : Int32 := (spX5_nextWord σ).1; (let s10 : oh_St := (spX5_nextWord σ).2; (let r11 : Int32 := (spX5_resolve s10 r9).1; (let s12 : oh_St := (spX5_resolve s10 r9).2; (let s13 : oh_St := (spX5_doubleWord s12 p1 r11); s13))))))) else (let s14 : oh_St := (spX5_inputOrOutput σ p1); s14))) else (let x19 : Int32 := (if x2 = (0 : Int32) then (0 : Int32) else p2); (let r20 : Int32 := (spX5_resolve σ ((p1 &&& (32768 : Int32)) ||| (x19 ||| (p1 &&& (1023 : Int32))))).1; (let s21 : oh_St := (spX5_resolve σ ((p1 &&& (32768 : Int32)) ||| (x19 ||| (p1 &&& (1023 : Int32))))).2; (let s22 : oh_St := (spX5_referToMemory s21 p1 r20); s22))))))
set_option maxHeartbeats 8000000 in
set_option maxRecDepth 100000 in
theorem mtX5_perform (l : Launch) (a : Nat → Nat) (k : Nat → ClassId) (D : va_G) (σ : oh_St) (p1 : Int32) (p2 : Int32) (h9 : σ 0 9 = 0 ∨ σ 0 9 = 1) : oh_Mv l yX5_perform wsX5_perform { frames := 4, cells := 0, slots := 0, locals := 94 } D (oh_ty k) (oh_W a k) [.ref (a 8), .int p1, .int p2] σ (fun u => u = spX5_perform σ p1 p2) := by
  refine oh_inv (cc := cX5_perform) (nL := 5) (rt := none) (by decide) rfl (Nat.le_of_ble_eq_true rfl) ?_
  intro p e s m below meth c A ls hC hP hD hS hl
  obtain ⟨hx, hb, hml, hown, hts, hr, hlocks, hK, hN, hA⟩ := id hC
  have hl : lv_has ls 5 [(0, .ref (a 8)), (1, .int p1), (2, .int p2)] := hl
  refine lv_iload_n hx hb dX5_perform_0 rfl (lv_at hl 1 rfl) ?_
  refine lv_sipush (v := (1024 : Int32)) hx hb dX5_perform_1 (by decide) ?_
  refine lv_iand hx hb dX5_perform_4 ?_
  have K24 : ∀ x2 : Int32, x2 = (if (p1 &&& (1024 : Int32)) = (0 : Int32) then (0 : Int32) else (1 : Int32)) → ∀ (ls : Array Slot) (H : Heap) (locs : List Loc), va_P D vwCl (oh_W a k σ) H → va_D A (oh_W a k σ) → va_S A s.heap H locs → lv_has ls 5 [(0, .ref (a 8)), (1, .int p1), (2, .int p2)] → W p l e ({ frames := 4, cells := 0, slots := 0, locals := 94 } : Room) s m (([.ref (a 8), .int p1, .int p2] : List Value).toArray) below meth c H locs 0 0 (oh_Ev below (fun u => u = spX5_perform σ p1 p2) D (oh_W a k) A [.ref (a 8), .int p1, .int p2] s) (F0 m 13 ls [.int x2]) := by
    intro x2 hx2 ls H locs hP hD hS hl
    refine lv_istore_n (lv' := [(3, .int x2), (0, .ref (a 8)), (1, .int p1), (2, .int p2)]) hx hb dX5_perform_13 rfl hl (by decide) rfl (fun ls hl => ?_)
    refine lv_iload_n hx hb dX5_perform_14 rfl (lv_at hl 2 rfl) ?_
    refine lv_sipush (v := (28672 : Int32)) hx hb dX5_perform_15 (by decide) ?_
    refine lv_iand hx hb dX5_perform_18 ?_
    refine lv_if_eq (tgt := 58) hx hb dX5_perform_19 (by decide) (fun c3 => ?_) (fun c3 => ?_)
    · refine lv_iload_n hx hb dX5_perform_58 rfl (lv_at hl 2 rfl) ?_
      refine lv_ldc (v := (32768 : Int32)) hx hb hown (hts (.constant RX5 38 (32768)) (by decide +kernel)) dX5_perform_59 ?_
      refine lv_iand hx hb dX5_perform_61 ?_
      refine lv_if_ne (tgt := 85) hx hb dX5_perform_62 (by decide) (fun c4 => ?_) (fun c4 => ?_)
      · refine lv_iload_n hx hb dX5_perform_85 rfl (lv_at hl 0 rfl) ?_
        refine lv_if_eq (tgt := 97) hx hb dX5_perform_86 (by decide) (fun c5 => ?_) (fun c5 => ?_)
        · refine lv_iload_n hx hb dX5_perform_97 rfl (lv_at hl 2 rfl) ?_
          refine oh_csp (As := [.int p1]) (rest := []) hC hP hD hS (mtX5_hasAddressBehind l a k D σ p1) (va_cwS 1 hts gX5_perform_X5_hasAddressBehind rfl rfl rfl (by decide +kernel) ⟨Nat.le_of_ble_eq_true rfl, Nat.le_of_ble_eq_true rfl⟩) rfl hl.1 rfl (Nat.le_of_ble_eq_true rfl) dX5_perform_98 (fun r6 H locs hr6 hP hD hS => ?_)
          refine lv_if_eq (tgt := 120) hx hb dX5_perform_101 (by decide) (fun c7 => ?_) (fun c7 => ?_)
          · refine lv_aload_n hx hb dX5_perform_120 rfl (lv_at hl 1 rfl) ?_
            refine lv_iload_n hx hb dX5_perform_121 rfl (lv_at hl 2 rfl) ?_
            refine oh_cvv (As := [.int p1]) (rest := []) hC hP hD hS (mtX5_longShift l a k D σ p1) (cwV 1 hts gX5_perform_X5_longShift rfl rfl rfl (by decide +kernel) ⟨Nat.le_of_ble_eq_true rfl, Nat.le_of_ble_eq_true rfl⟩) 8 5 rfl rfl rfl hl.1 rfl (Nat.le_of_ble_eq_true rfl) dX5_perform_122 (fun s8 H locs hs8 hP hD hS => ?_)
            exact oh_retv (u := s8) hC hP hD hS (by subst hs8 hr6 hx2; exact ((((if_pos c3).trans (if_neg c4)).trans (if_pos c5)).trans (if_pos c7)).symm) dX5_perform_125
          · refine lv_aload_n hx hb dX5_perform_104 rfl (lv_at hl 1 rfl) ?_
            refine lv_iload_n hx hb dX5_perform_105 rfl (lv_at hl 2 rfl) ?_
            refine lv_aload_n hx hb dX5_perform_106 rfl (lv_at hl 1 rfl) ?_
            refine lv_aload_n hx hb dX5_perform_107 rfl (lv_at hl 1 rfl) ?_
            refine oh_cvi (As := []) (rest := [.ref (a 8), .int p1, .ref (a 8)]) hC hP hD hS (mtX5_nextWord l a k D σ) (cwV 0 hts gX5_perform_X5_nextWord rfl rfl rfl (by decide +kernel) ⟨Nat.le_of_ble_eq_true rfl, Nat.le_of_ble_eq_true rfl⟩) 8 5 rfl rfl rfl hl.1 rfl (Nat.le_of_ble_eq_true rfl) dX5_perform_108 (fun r9 s10 H locs hw hP hD hS => ?_)
            obtain ⟨hr9, hs10⟩ := hw
            refine oh_cvi (As := [.int r9]) (rest := [.int p1, .ref (a 8)]) hC hP hD hS (mtX5_resolve l a k D s10 r9) (cwV 1 hts gX5_perform_X5_resolve rfl rfl rfl (by decide +kernel) ⟨Nat.le_of_ble_eq_true rfl, Nat.le_of_ble_eq_true rfl⟩) 8 5 rfl rfl rfl hl.1 rfl (Nat.le_of_ble_eq_true rfl) dX5_perform_111 (fun r11 s12 H locs hw hP hD hS => ?_)
            obtain ⟨hr11, hs12⟩ := hw
            refine oh_cvv (As := [.int p1, .int r11]) (rest := []) hC hP hD hS (mtX5_doubleWord l a k D s12 p1 r11) (cwV 2 hts gX5_perform_X5_doubleWord rfl rfl rfl (by decide +kernel) ⟨Nat.le_of_ble_eq_true rfl, Nat.le_of_ble_eq_true rfl⟩) 8 5 rfl rfl rfl hl.1 rfl (Nat.le_of_ble_eq_true rfl) dX5_perform_114 (fun s13 H locs hs13 hP hD hS => ?_)
            refine lv_goto (tgt := 125) hx hb dX5_perform_117 (by decide) ?_
            exact oh_retv (u := s13) hC hP hD hS (by subst hs13 hs12 hr11 hs10 hr9 hr6 hx2; exact ((((if_pos c3).trans (if_neg c4)).trans (if_pos c5)).trans (if_neg c7)).symm) dX5_perform_125
        · refine lv_aload_n hx hb dX5_perform_89 rfl (lv_at hl 1 rfl) ?_
          refine lv_iload_n hx hb dX5_perform_90 rfl (lv_at hl 2 rfl) ?_
          refine oh_cvv (As := [.int p1]) (rest := []) hC hP hD hS (mtX5_inputOrOutput l a k D σ p1 h9) (cwV 1 hts gX5_perform_X5_inputOrOutput rfl rfl rfl (by decide +kernel) ⟨Nat.le_of_ble_eq_true rfl, Nat.le_of_ble_eq_true rfl⟩) 8 5 rfl rfl rfl hl.1 rfl (Nat.le_of_ble_eq_true rfl) dX5_perform_91 (fun s14 H locs hs14 hP hD hS => ?_)
          refine lv_goto (tgt := 125) hx hb dX5_perform_94 (by decide) ?_
          exact oh_retv (u := s14) hC hP hD hS (by subst hs14 hx2; exact (((if_pos c3).trans (if_neg c4)).trans (if_neg c5)).symm) dX5_perform_125
      · refine lv_iload_n hx hb dX5_perform_65 rfl (lv_at hl 0 rfl) ?_
        refine lv_if_eq (tgt := 77) hx hb dX5_perform_66 (by decide) (fun c15 => ?_) (fun c15 => ?_)
        · refine lv_aload_n hx hb dX5_perform_77 rfl (lv_at hl 1 rfl) ?_
          refine lv_iload_n hx hb dX5_perform_78 rfl (lv_at hl 2 rfl) ?_
          refine oh_cvv (As := [.int p1]) (rest := []) hC hP hD hS (mtX5_shiftAndSkip l a k D σ p1) (cwV 1 hts gX5_perform_X5_shiftAndSkip rfl rfl rfl (by decide +kernel) ⟨Nat.le_of_ble_eq_true rfl, Nat.le_of_ble_eq_true rfl⟩) 8 5 rfl rfl rfl hl.1 rfl (Nat.le_of_ble_eq_true rfl) dX5_perform_79 (fun s16 H locs hs16 hP hD hS => ?_)
          refine lv_goto (tgt := 125) hx hb dX5_perform_82 (by decide) ?_
          exact oh_retv (u := s16) hC hP hD hS (by subst hs16 hx2; exact (((if_pos c3).trans (if_pos c4)).trans (if_pos c15)).symm) dX5_perform_125
        · refine lv_aload_n hx hb dX5_perform_69 rfl (lv_at hl 1 rfl) ?_
          refine lv_iload_n hx hb dX5_perform_70 rfl (lv_at hl 2 rfl) ?_
          refine oh_cvv (As := [.int p1]) (rest := []) hC hP hD hS (mtX5_alterAndSkip l a k D σ p1) (cwV 1 hts gX5_perform_X5_alterAndSkip rfl rfl rfl (by decide +kernel) ⟨Nat.le_of_ble_eq_true rfl, Nat.le_of_ble_eq_true rfl⟩) 8 5 rfl rfl rfl hl.1 rfl (Nat.le_of_ble_eq_true rfl) dX5_perform_71 (fun s17 H locs hs17 hP hD hS => ?_)
          refine lv_goto (tgt := 125) hx hb dX5_perform_74 (by decide) ?_
          exact oh_retv (u := s17) hC hP hD hS (by subst hs17 hx2; exact (((if_pos c3).trans (if_pos c4)).trans (if_neg c15)).symm) dX5_perform_125
    · refine lv_iload_n hx hb dX5_perform_22 rfl (lv_at hl 0 rfl) ?_
      have K23 : ∀ x19 : Int32, x19 = (if x2 = (0 : Int32) then (0 : Int32) else p2) → ∀ (ls : Array Slot) (H : Heap) (locs : List Loc), va_P D vwCl (oh_W a k σ) H → va_D A (oh_W a k σ) → va_S A s.heap H locs → lv_has ls 5 [(3, .int x2), (0, .ref (a 8)), (1, .int p1), (2, .int p2)] → W p l e ({ frames := 4, cells := 0, slots := 0, locals := 94 } : Room) s m (([.ref (a 8), .int p1, .int p2] : List Value).toArray) below meth c H locs 0 0 (oh_Ev below (fun u => u = spX5_perform σ p1 p2) D (oh_W a k) A [.ref (a 8), .int p1, .int p2] s) (F0 m 31 ls [.int x19]) := by
        intro x19 hx19 ls H locs hP hD hS hl
        refine lv_iload_n hx hb dX5_perform_31 rfl (lv_at hl 2 rfl) ?_
        refine lv_sipush (v := (1023 : Int32)) hx hb dX5_perform_32 (by decide) ?_
        refine lv_iand hx hb dX5_perform_35 ?_
        refine lv_ior hx hb dX5_perform_36 ?_
        refine lv_istore (lv' := [(4, .int (x19 ||| (p1 &&& (1023 : Int32)))), (3, .int x2), (0, .ref (a 8)), (1, .int p1), (2, .int p2)]) hx hb dX5_perform_37 hl (by decide) rfl (fun ls hl => ?_)
        refine lv_aload_n hx hb dX5_perform_39 rfl (lv_at hl 2 rfl) ?_
        refine lv_iload_n hx hb dX5_perform_40 rfl (lv_at hl 3 rfl) ?_
        refine lv_aload_n hx hb dX5_perform_41 rfl (lv_at hl 2 rfl) ?_
        refine lv_iload_n hx hb dX5_perform_42 rfl (lv_at hl 3 rfl) ?_
        refine lv_ldc (v := (32768 : Int32)) hx hb hown (hts (.constant RX5 38 (32768)) (by decide +kernel)) dX5_perform_43 ?_
        refine lv_iand hx hb dX5_perform_45 ?_
        refine lv_iload hx hb dX5_perform_46 (lv_at hl 0 rfl) ?_
        refine lv_ior hx hb dX5_perform_48 ?_
        refine oh_cvi (As := [.int ((p1 &&& (32768 : Int32)) ||| (x19 ||| (p1 &&& (1023 : Int32))))]) (rest := [.int p1, .ref (a 8)]) hC hP hD hS (mtX5_resolve l a k D σ ((p1 &&& (32768 : Int32)) ||| (x19 ||| (p1 &&& (1023 : Int32))))) (cwV 1 hts gX5_perform_X5_resolve rfl rfl rfl (by decide +kernel) ⟨Nat.le_of_ble_eq_true rfl, Nat.le_of_ble_eq_true rfl⟩) 8 5 rfl rfl rfl hl.1 rfl (Nat.le_of_ble_eq_true rfl) dX5_perform_49 (fun r20 s21 H locs hw hP hD hS => ?_)
        obtain ⟨hr20, hs21⟩ := hw
        refine oh_cvv (As := [.int p1, .int r20]) (rest := []) hC hP hD hS (mtX5_referToMemory l a k D s21 p1 r20) (cwV 2 hts gX5_perform_X5_referToMemory rfl rfl rfl (by decide +kernel) ⟨Nat.le_of_ble_eq_true rfl, Nat.le_of_ble_eq_true rfl⟩) 8 5 rfl rfl rfl hl.1 rfl (Nat.le_of_ble_eq_true rfl) dX5_perform_52 (fun s22 H locs hs22 hP hD hS => ?_)
        refine lv_goto (tgt := 125) hx hb dX5_perform_55 (by decide) ?_
        exact oh_retv (u := s22) hC hP hD hS (by subst hs22 hs21 hr20 hx19 hx2; exact (if_neg c3).symm) dX5_perform_125
      refine lv_if_eq (tgt := 30) hx hb dX5_perform_23 (by decide) (fun c18 => ?_) (fun c18 => ?_)
      · refine lv_iconst (v := (0 : Int32)) hx hb dX5_perform_30 (by decide) ?_
        exact K23 _ (if_pos c18).symm ls _ _ hP hD hS (lv_sub hl [0, 1, 2, 3] rfl)
      · refine lv_iload_n hx hb dX5_perform_26 rfl (lv_at hl 3 rfl) ?_
        refine lv_goto (tgt := 31) hx hb dX5_perform_27 (by decide) ?_
        exact K23 _ (if_neg c18).symm ls _ _ hP hD hS (lv_sub hl [0, 1, 2, 3] rfl)
  refine lv_if_eq (tgt := 12) hx hb dX5_perform_5 (by decide) (fun c1 => ?_) (fun c1 => ?_)
  · refine lv_iconst (v := (0 : Int32)) hx hb dX5_perform_12 (by decide) ?_
    exact K24 _ (if_pos c1).symm ls _ _ hP hD hS (lv_sub hl [0, 1, 2] rfl)
  · refine lv_iconst (v := (1 : Int32)) hx hb dX5_perform_8 (by decide) ?_
    refine lv_goto (tgt := 13) hx hb dX5_perform_9 (by decide) ?_
    exact K24 _ (if_neg c1).symm ls _ _ hP hD hS (lv_sub hl [0, 1, 2] rfl)
