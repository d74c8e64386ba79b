theorem oh_t9 {σ s1 s2 s8 : oh_St} (h9 : σ 0 9 = 0 ∨ σ 0 9 = 1) (hs1 : s1 = spX0_advanceDevices σ) (hs2 : s2 = spX0_advanceChannels s1) (hs8 : s8 = (if (s2 0 9) = (0 : Int32) then s2 else (if (s2 0 6) = (0 : Int32) then (spX0_takeInterrupt s2).2 else s2))) : s8 0 9 = 0 ∨ s8 0 9 = 1 := by
  have e2 : s2 0 = σ 0 := by rw [hs2, k0_advanceChannels, hs1, k0_advanceDevices]
  have e8 : s8 0 = σ 0 := by
    rw [hs8, ← e2]
    (repeat' split) <;> first | exact k0_takeInterrupt _ | rfl
  rw [e8]
  exact h9
theorem oh_t11 {s8 s11 : oh_St} (hs11 : s11 = (spX5_nextWord (oh_up s8 0 6 (0 : Int32))).2) (h : s8 0 9 = 0 ∨ s8 0 9 = 1) : s11 0 9 = 0 ∨ s11 0 9 = 1 := by
  rw [hs11, k9_nextWord]
  exact h
-- OctalHouse.doTurn
theorem inX7_doTurn_X0 : ∀ w ∈ u_ws RX0 TX0 7, w ∈ wsX7_doTurn := by decide +kernel
theorem inX7_doTurn_X6 : ∀ w ∈ u_ws RX6 TX6 6, w ∈ wsX7_doTurn := by decide +kernel
theorem inX7_doTurn_X7 : ∀ w ∈ u_ws RX7 TX7 7, w ∈ wsX7_doTurn := by decide +kernel
def spX7_doTurn_k15 (x7 : Int32) (s8 : oh_St) : oh_St := (if x7 = (-1 : Int32) then (let r10 : Int32 := (spX5_nextWord (oh_up s8 0 6 (0 : Int32))).1; (let s11 : oh_St := (spX5_nextWord (oh_up s8 0 6 (0 : Int32))).2; (let s12 : oh_St := (spX5_perform s11 r10 ((s8 0 3) &&& (31744 : Int32))); s12))) else (let r13 : Int32 := (spX4_read (oh_up (oh_up (oh_up s8 0 6 (0 : Int32)) 0 1 ((s8 0 1) + (1 : Int32))) 0 2 x7) x7); (let s14 : oh_St := (spX5_perform (oh_up (oh_up (oh_up s8 0 6 (0 : Int32)) 0 1 ((s8 0 1) + (1 : Int32))) 0 2 x7) r13 (0 : Int32)); s14)))
def spX7_doTurn (σ : oh_St) : oh_St := (let s1 : oh_St := (spX0_advanceDevices σ); (let s2 : oh_St := (spX0_advanceChannels s1); (let x7 : Int32 := (if (s2 0 9) = (0 : Int32) then (-1 : Int32) else (if (s2 0 6) = (0 : Int32) then (let r5 : Int32 := (spX0_takeInterrupt s2).1; (let s6 : oh_St := (spX0_takeInterrupt s2).2; r5)) else (-1 : Int32))); (let s8 : oh_St := (if (s2 0 9) = (0 : Int32) then s2 else (if (s2 0 6) = (0 : Int32) then (let r5 : Int32 := (spX0_takeInterrupt s2).1; (let s6 : oh_St := (spX0_takeInterrupt s2).2; s6)) else s2)); (spX7_doTurn_k15 x7 s8)))))
set_option maxHeartbeats 8000000 in
set_option maxRecDepth 100000 in
theorem mtX7_doTurn (l : Launch) (a : Nat → Nat) (k : Nat → ClassId) (D : va_G) (σ : oh_St) (h9 : σ 0 9 = 0 ∨ σ 0 9 = 1) : oh_Mv l yX7_doTurn wsX7_doTurn { frames := 5, cells := 0, slots := 0, locals := 118 } D (oh_ty k) (oh_W a k) [.ref (a 0)] σ (fun u => u = spX7_doTurn σ) := by
  refine oh_inv (cc := cX7_doTurn) (nL := 3) (rt := none) (by decide) rfl (Nat.le_of_ble_eq_true rfl) ?_
  intro p e s m below meth c A ls hC hP hD hS hl
  obtain ⟨hx, hb, hml, hown, hts, hr, hlocks, hK, hN, hA⟩ := id hC
  have hl : lv_has ls 3 [(0, .ref (a 0))] := hl
  refine lv_aload_n hx hb dX7_doTurn_0 rfl (lv_at hl 0 rfl) ?_
  refine oh_get (v := .ref (a 4)) hC hP inX7_doTurn_X7 0 rfl rfl 2 (by decide) (by decide +kernel) rfl dX7_doTurn_1 ?_
  refine oh_cvv (As := []) (rest := []) hC hP hD hS (mtX0_advanceDevices l a k D σ) (cwV 0 hts gX7_doTurn_X0_advanceDevices rfl rfl rfl (by decide +kernel) ⟨Nat.le_of_ble_eq_true rfl, Nat.le_of_ble_eq_true rfl⟩) 4 0 rfl rfl rfl hl.1 rfl (Nat.le_of_ble_eq_true rfl) dX7_doTurn_4 (fun s1 H locs hs1 hP hD hS => ?_)
  refine lv_aload_n hx hb dX7_doTurn_7 rfl (lv_at hl 0 rfl) ?_
  refine oh_get (v := .ref (a 4)) hC hP inX7_doTurn_X7 0 rfl rfl 2 (by decide) (by decide +kernel) rfl dX7_doTurn_8 ?_
  refine lv_aload_n hx hb dX7_doTurn_11 rfl (lv_at hl 0 rfl) ?_
  refine oh_get (v := .ref (a 1)) hC hP inX7_doTurn_X7 0 rfl rfl 0 (by decide) (by decide +kernel) rfl dX7_doTurn_12 ?_
  refine oh_cvv (As := [.ref (a 1)]) (rest := []) hC hP hD hS (mtX0_advanceChannels l a k D s1) (cwV 1 hts gX7_doTurn_X0_advanceChannels rfl rfl rfl (by decide +kernel) ⟨Nat.le_of_ble_eq_true rfl, Nat.le_of_ble_eq_true rfl⟩) 4 0 rfl rfl rfl hl.1 rfl (Nat.le_of_ble_eq_true rfl) dX7_doTurn_15 (fun s2 H locs hs2 hP hD hS => ?_)
  refine lv_aload_n hx hb dX7_doTurn_18 rfl (lv_at hl 0 rfl) ?_
  refine oh_get (v := .ref (a 4)) hC hP inX7_doTurn_X7 0 rfl rfl 2 (by decide) (by decide +kernel) rfl dX7_doTurn_19 ?_
  refine oh_getN (v := .int (s2 0 9)) hC hP inX7_doTurn_X0 4 rfl rfl 4 (by decide) (by decide +kernel) rfl dX7_doTurn_22 ?_
  have K15 : ∀ x7 : Int32, x7 = (if (s2 0 9) = (0 : Int32) then (-1 : Int32) else (if (s2 0 6) = (0 : Int32) then (let r5 : Int32 := (spX0_takeInterrupt s2).1; (let s6 : oh_St := (spX0_takeInterrupt s2).2; r5)) else (-1 : Int32))) → ∀ s8 : oh_St, s8 = (if (s2 0 9) = (0 : Int32) then s2 else (if (s2 0 6) = (0 : Int32) then (let r5 : Int32 := (spX0_takeInterrupt s2).1; (let s6 : oh_St := (spX0_takeInterrupt s2).2; s6)) else s2)) → spX7_doTurn_k15 x7 s8 = spX7_doTurn σ → ∀ (ls : Array Slot) (H : Heap) (locs : List Loc), va_P D vwCl (oh_W a k s8) H → va_D A (oh_W a k s8) → va_S A s.heap H locs → lv_has ls 3 [(0, .ref (a 0))] → W p l e ({ frames := 5, cells := 0, slots := 0, locals := 118 } : Room) s m (([.ref (a 0)] : List Value).toArray) below meth c H locs 0 0 (oh_Ev below (fun u => u = spX7_doTurn σ) D (oh_W a k) A [.ref (a 0)] s) (F0 m 49 ls [.int x7]) := by
    intro x7 hx7 s8 hs8 hK15 ls H locs hP hD hS hl
    refine lv_istore_n (lv' := [(1, .int x7), (0, .ref (a 0))]) hx hb dX7_doTurn_49 rfl hl (by decide) rfl (fun ls hl => ?_)
    refine lv_aload_n hx hb dX7_doTurn_50 rfl (lv_at hl 1 rfl) ?_
    refine oh_get (v := .ref (a 3)) hC hP inX7_doTurn_X7 0 rfl rfl 1 (by decide) (by decide +kernel) rfl dX7_doTurn_51 ?_
    refine lv_iconst (v := (0 : Int32)) hx hb dX7_doTurn_54 (by decide) ?_
    refine oh_putN (σ' := (oh_up s8 0 6 (0 : Int32))) (v := .int (0 : Int32)) hC hP hD hS inX7_doTurn_X6 tyX6 tyX6_ok nmX6 3 rfl rfl 3 (by decide) (by decide +kernel) rfl (oh_nb (by decide)) (oh_fb (by decide)) (by simp) rfl dX7_doTurn_55 (fun H locs hP hD hS => ?_)
    refine lv_iload_n hx hb dX7_doTurn_58 rfl (lv_at hl 0 rfl) ?_
    refine lv_iconst (v := (-1 : Int32)) hx hb dX7_doTurn_59 (by decide) ?_
    refine lv_icmp_eq (tgt := 97) hx hb dX7_doTurn_60 (by decide) (fun c9 => ?_) (fun c9 => ?_)
    · refine lv_aload_n hx hb dX7_doTurn_97 rfl (lv_at hl 1 rfl) ?_
      refine oh_get (v := .ref (a 3)) hC hP inX7_doTurn_X7 0 rfl rfl 1 (by decide) (by decide +kernel) rfl dX7_doTurn_98 ?_
      refine oh_getN (v := .int (s8 0 3)) hC hP inX7_doTurn_X6 3 rfl rfl 0 (by decide) (by decide +kernel) rfl dX7_doTurn_101 ?_
      refine lv_sipush (v := (31744 : Int32)) hx hb dX7_doTurn_104 (by decide) ?_
      refine lv_iand hx hb dX7_doTurn_107 ?_
      refine lv_istore_n (lv' := [(2, .int ((s8 0 3) &&& (31744 : Int32))), (1, .int x7), (0, .ref (a 0))]) hx hb dX7_doTurn_108 rfl hl (by decide) rfl (fun ls hl => ?_)
      refine lv_aload_n hx hb dX7_doTurn_109 rfl (lv_at hl 2 rfl) ?_
      refine oh_get (v := .ref (a 8)) hC hP inX7_doTurn_X7 0 rfl rfl 3 (by decide) (by decide +kernel) rfl dX7_doTurn_110 ?_
      refine lv_aload_n hx hb dX7_doTurn_113 rfl (lv_at hl 2 rfl) ?_
      refine oh_get (v := .ref (a 8)) hC hP inX7_doTurn_X7 0 rfl rfl 3 (by decide) (by decide +kernel) rfl dX7_doTurn_114 ?_
      refine oh_cvi (As := []) (rest := [.ref (a 8)]) hC hP hD hS (mtX5_nextWord l a k D (oh_up s8 0 6 (0 : Int32))) (cwV 0 hts gX7_doTurn_X5_nextWord rfl rfl rfl (by decide +kernel) ⟨Nat.le_of_ble_eq_true rfl, Nat.le_of_ble_eq_true rfl⟩) 8 5 rfl rfl rfl hl.1 rfl (Nat.le_of_ble_eq_true rfl) dX7_doTurn_117 (fun r10 s11 H locs hw hP hD hS => ?_)
      obtain ⟨hr10, hs11⟩ := hw
      refine lv_iload_n hx hb dX7_doTurn_120 rfl (lv_at hl 0 rfl) ?_
      refine oh_cvv (As := [.int r10, .int ((s8 0 3) &&& (31744 : Int32))]) (rest := []) hC hP hD hS (mtX5_perform l a k D s11 r10 ((s8 0 3) &&& (31744 : Int32)) (oh_t11 hs11 (oh_t9 h9 hs1 hs2 hs8))) (cwV 2 hts gX7_doTurn_X5_perform rfl rfl rfl (by decide +kernel) ⟨Nat.le_of_ble_eq_true rfl, Nat.le_of_ble_eq_true rfl⟩) 8 5 rfl rfl rfl hl.1 rfl (Nat.le_of_ble_eq_true rfl) dX7_doTurn_121 (fun s12 H locs hs12 hP hD hS => ?_)
      exact oh_retv (u := s12) hC hP hD hS (by subst hs12 hs11 hr10; exact ((if_pos c9).symm).trans hK15) dX7_doTurn_124
    · refine lv_aload_n hx hb dX7_doTurn_63 rfl (lv_at hl 1 rfl) ?_
      refine lv_dup hx hb dX7_doTurn_64 rfl ?_
      refine oh_get (v := .int (s8 0 1)) hC hP inX7_doTurn_X7 0 rfl rfl 5 (by decide) (by decide +kernel) rfl dX7_doTurn_65 ?_
      refine lv_iconst (v := (1 : Int32)) hx hb dX7_doTurn_68 (by decide) ?_
      refine lv_iadd hx hb dX7_doTurn_69 ?_
      refine oh_put (σ' := (oh_up (oh_up s8 0 6 (0 : Int32)) 0 1 ((s8 0 1) + (1 : Int32)))) (v := .int ((s8 0 1) + (1 : Int32))) hC hP hD hS inX7_doTurn_X7 tyX7 tyX7_ok nmX7 0 rfl rfl 5 (by decide) (by decide +kernel) rfl rfl rfl (by simp) rfl dX7_doTurn_70 (fun H locs hP hD hS => ?_)
      refine lv_aload_n hx hb dX7_doTurn_73 rfl (lv_at hl 1 rfl) ?_
      refine lv_iload_n hx hb dX7_doTurn_74 rfl (lv_at hl 0 rfl) ?_
      refine oh_put (σ' := (oh_up (oh_up (oh_up s8 0 6 (0 : Int32)) 0 1 ((s8 0 1) + (1 : Int32))) 0 2 x7)) (v := .int x7) hC hP hD hS inX7_doTurn_X7 tyX7 tyX7_ok nmX7 0 rfl rfl 6 (by decide) (by decide +kernel) rfl rfl rfl (by simp) rfl dX7_doTurn_75 (fun H locs hP hD hS => ?_)
      refine lv_aload_n hx hb dX7_doTurn_78 rfl (lv_at hl 1 rfl) ?_
      refine oh_get (v := .ref (a 8)) hC hP inX7_doTurn_X7 0 rfl rfl 3 (by decide) (by decide +kernel) rfl dX7_doTurn_79 ?_
      refine lv_aload_n hx hb dX7_doTurn_82 rfl (lv_at hl 1 rfl) ?_
      refine oh_get (v := .ref (a 1)) hC hP inX7_doTurn_X7 0 rfl rfl 0 (by decide) (by decide +kernel) rfl dX7_doTurn_83 ?_
      refine lv_iload_n hx hb dX7_doTurn_86 rfl (lv_at hl 0 rfl) ?_
      refine oh_cvp (As := [.int x7]) (rest := [.ref (a 8)]) hC hP hD hS (mtX4_read l a k D (oh_up (oh_up (oh_up s8 0 6 (0 : Int32)) 0 1 ((s8 0 1) + (1 : Int32))) 0 2 x7) x7) (cwV 1 hts gX7_doTurn_X4_read rfl rfl rfl (by decide +kernel) ⟨Nat.le_of_ble_eq_true rfl, Nat.le_of_ble_eq_true rfl⟩) 1 4 rfl rfl rfl hl.1 rfl (Nat.le_of_ble_eq_true rfl) dX7_doTurn_87 (fun r13 H locs hr13 hP hD hS => ?_)
      refine lv_iconst (v := (0 : Int32)) hx hb dX7_doTurn_90 (by decide) ?_
      refine oh_cvv (As := [.int r13, .int (0 : Int32)]) (rest := []) hC hP hD hS (mtX5_perform l a k D (oh_up (oh_up (oh_up s8 0 6 (0 : Int32)) 0 1 ((s8 0 1) + (1 : Int32))) 0 2 x7) r13 (0 : Int32) (show s8 0 9 = 0 ∨ s8 0 9 = 1 from (oh_t9 h9 hs1 hs2 hs8))) (cwV 2 hts gX7_doTurn_X5_perform rfl rfl rfl (by decide +kernel) ⟨Nat.le_of_ble_eq_true rfl, Nat.le_of_ble_eq_true rfl⟩) 8 5 rfl rfl rfl hl.1 rfl (Nat.le_of_ble_eq_true rfl) dX7_doTurn_91 (fun s14 H locs hs14 hP hD hS => ?_)
      refine lv_goto (tgt := 124) hx hb dX7_doTurn_94 (by decide) ?_
      exact oh_retv (u := s14) hC hP hD hS (by subst hs14 hr13; exact ((if_neg c9).symm).trans hK15) dX7_doTurn_124
  refine lv_if_eq (tgt := 48) hx hb dX7_doTurn_25 (by decide) (fun c3 => ?_) (fun c3 => ?_)
  · refine lv_iconst (v := (-1 : Int32)) hx hb dX7_doTurn_48 (by decide) ?_
    exact K15 _ (if_pos c3).symm _ (if_pos c3).symm (by subst hs2 hs1; exact ((congr (congrArg (spX7_doTurn_k15) (if_pos c3).symm) (if_pos c3).symm)).trans (rfl)) ls _ _ hP hD hS (lv_sub hl [0] rfl)
  · refine lv_aload_n hx hb dX7_doTurn_28 rfl (lv_at hl 0 rfl) ?_
    refine oh_get (v := .ref (a 3)) hC hP inX7_doTurn_X7 0 rfl rfl 1 (by decide) (by decide +kernel) rfl dX7_doTurn_29 ?_
    refine oh_getN (v := .int (s2 0 6)) hC hP inX7_doTurn_X6 3 rfl rfl 3 (by decide) (by decide +kernel) rfl dX7_doTurn_32 ?_
    refine lv_if_ne (tgt := 48) hx hb dX7_doTurn_35 (by decide) (fun c4 => ?_) (fun c4 => ?_)
    · refine lv_iconst (v := (-1 : Int32)) hx hb dX7_doTurn_48 (by decide) ?_
      exact K15 _ ((if_neg c3).trans (if_neg c4)).symm _ ((if_neg c3).trans (if_neg c4)).symm (by subst hs2 hs1; exact ((congr (congrArg (spX7_doTurn_k15) ((if_neg c3).trans (if_neg c4)).symm) ((if_neg c3).trans (if_neg c4)).symm)).trans (rfl)) ls _ _ hP hD hS (lv_sub hl [0] rfl)
    · refine lv_aload_n hx hb dX7_doTurn_38 rfl (lv_at hl 0 rfl) ?_
      refine oh_get (v := .ref (a 4)) hC hP inX7_doTurn_X7 0 rfl rfl 2 (by decide) (by decide +kernel) rfl dX7_doTurn_39 ?_
      refine oh_cvi (As := []) (rest := []) hC hP hD hS (mtX0_takeInterrupt l a k D s2) (cwV 0 hts gX7_doTurn_X0_takeInterrupt rfl rfl rfl (by decide +kernel) ⟨Nat.le_of_ble_eq_true rfl, Nat.le_of_ble_eq_true rfl⟩) 4 0 rfl rfl rfl hl.1 rfl (Nat.le_of_ble_eq_true rfl) dX7_doTurn_42 (fun r5 s6 H locs hw hP hD hS => ?_)
      obtain ⟨hr5, hs6⟩ := hw
      refine lv_goto (tgt := 49) hx hb dX7_doTurn_45 (by decide) ?_
      exact K15 _ (by subst hs6 hr5; exact ((if_neg c3).trans (if_pos c4)).symm) _ (by subst hs6 hr5; exact ((if_neg c3).trans (if_pos c4)).symm) (by subst hs6 hr5 hs2 hs1; exact ((congr (congrArg (spX7_doTurn_k15) ((if_neg c3).trans (if_pos c4)).symm) ((if_neg c3).trans (if_pos c4)).symm)).trans (rfl)) ls _ _ hP hD hS (lv_sub hl [0] rfl)
