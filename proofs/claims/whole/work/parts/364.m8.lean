theorem wm_00 {M : Nat} {τ : oh_St} {v : Int32} (h : oh_WM M τ) : oh_WM M (oh_up τ 0 0 v) := h
theorem wm_dev {M : Nat} {τ s : oh_St} {d : Nat} {v p : Int32} {c1 c2 : Prop} [Decidable c1] [Decidable c2] (hM : M < 2000000000) (h : oh_WM M τ) (hs : s = (if c1 then τ else (if c2 then spX8_ready (oh_up τ 15 d v) p else oh_up τ 15 d v))) : oh_WM (M + 1) s := by
  rw [hs]
  split
  · exact wm_mono h (Nat.le_succ M)
  · split
    · exact wm_ready hM (wm_15 h)
    · exact wm_mono (wm_15 h) (Nat.le_succ M)
def oh_tI (M f : Nat) (z : oh_St) (i : Int32) : Prop := oh_WM M z ∧ ∃ j : Nat, i = nI (6 + j) ∧ j + f = 7 ∧ j ≤ 6
theorem oh_tI0 {M : Nat} {z : oh_St} {i : Int32} : ¬ oh_tI M 0 z i := by
  rintro ⟨-, j, -, h1, h2⟩
  omega
theorem oh_tIs {M f : Nat} {z : oh_St} {i : Int32} (hI : oh_tI M (f + 1) z i) (c : ¬ (12 : Int32) ≤ i) : oh_tI M f z (i + 1) := by
  obtain ⟨h, j, rfl, h1, h2⟩ := hI
  rw [Int32.le_iff_toInt_le, nI_toInt (by omega)] at c
  have : (12 : Int32).toInt = 12 := rfl
  exact ⟨h, j + 1, nI_1 (6 + j), by omega, by omega⟩
theorem oh_tI12 {M f : Nat} {z : oh_St} {i : Int32} (hI : oh_tI M f z i) (c : ¬ (12 : Int32) ≤ i) : vp_in i 12 := by
  obtain ⟨h, j, rfl, h1, h2⟩ := hI
  rw [Int32.le_iff_toInt_le, nI_toInt (by omega)] at c
  have : (12 : Int32).toInt = 12 := rfl
  exact vp_in_nI (by omega) (by decide)
theorem oh_tIn {M f : Nat} {z : oh_St} {i : Int32} (hI : oh_tI M f z i) : ¬ i < 0 := by
  obtain ⟨h, j, rfl, h1, h2⟩ := hI
  exact nI_pos (by omega)
theorem oh_sv {z : oh_St} {i x26 : Int32} (hx : x26 = (if (z 0 9) = (0 : Int32) then (0 : Int32) else (if (z 0 6) = (0 : Int32) then (if (12 : Int32) ≤ i then (0 : Int32) else (if (z 4 i.toNatClampNeg) = (0 : Int32) then (0 : Int32) else (1 : Int32))) else (0 : Int32)))) (c : ¬ x26 = 0) : ¬ (12 : Int32) ≤ i := by
  intro h
  apply c
  rw [hx]
  (repeat' split) <;> first | rfl | contradiction
/-- the word 'held' of an instruction is a truth -/
def oh_B13 : Prop := ∀ (z : oh_St) (w g : Int32), z 0 13 = 0 → spX8_does z w g 0 13 = 0 ∨ spX8_does z w g 0 13 = 1
-- OctalHouseModel.turn
theorem inX8_turn_X8 : ∀ w ∈ u_ws RX8 TX8 35, w ∈ wsX8_turn := by decide +kernel
def lpX8_turn : Nat → oh_St → Int32 → oh_St
  | 0, z, i => z
  | f + 1, z, i => (let k37 : oh_St := (let x26 : Int32 := (if (z 0 9) = (0 : Int32) then (0 : Int32) else (if (z 0 6) = (0 : Int32) then (if (12 : Int32) ≤ i then (0 : Int32) else (if (z 4 i.toNatClampNeg) = (0 : Int32) then (0 : Int32) else (1 : Int32))) else (0 : Int32))); (let s33 : oh_St := (if x26 = (0 : Int32) then (let r28 : Int32 := (spX8_more (z 0 3)); (let r29 : Int32 := (spX8_at (oh_up (oh_up z 0 13 (0 : Int32)) 0 3 r28) (z 0 3)); (let s30 : oh_St := (spX8_does (oh_up (oh_up z 0 13 (0 : Int32)) 0 3 r28) r29 ((z 0 3) &&& (31744 : Int32))); s30))) else (let r31 : Int32 := (spX8_at (oh_up (oh_up (oh_up (oh_up z 0 13 (0 : Int32)) 4 i.toNatClampNeg (0 : Int32)) 0 1 ((z 0 1) + (1 : Int32))) 0 2 i) i); (let s32 : oh_St := (spX8_does (oh_up (oh_up (oh_up (oh_up z 0 13 (0 : Int32)) 4 i.toNatClampNeg (0 : Int32)) 0 1 ((z 0 1) + (1 : Int32))) 0 2 i) r31 (0 : Int32)); s32))); (oh_up s33 0 6 (s33 0 13)))); (if (12 : Int32) ≤ i then k37 else (if (z 2 i.toNatClampNeg) = (0 : Int32) then (lpX8_turn f z (i + (1 : Int32))) else (if (z 3 i.toNatClampNeg) = (0 : Int32) then (lpX8_turn f z (i + (1 : Int32))) else k37))))
def spX8_turn_k38 (s16 : oh_St) : oh_St := (let s17 : oh_St := (spX8_channel s16 (6 : Int32)); (let s18 : oh_St := (spX8_channel s17 (7 : Int32)); (lpX8_turn 7 s18 (6 : Int32))))
def spX8_turn_k39 (s12 : oh_St) : oh_St := (let s16 : oh_St := (if (s12 15 11) = (0 : Int32) then s12 else (if ((s12 15 11) - (1 : Int32)) = (0 : Int32) then (let s15 : oh_St := (spX8_ready (oh_up s12 15 11 ((s12 15 11) - (1 : Int32))) (11 : Int32)); s15) else (oh_up s12 15 11 ((s12 15 11) - (1 : Int32))))); (spX8_turn_k38 s16))
def spX8_turn_k40 (s8 : oh_St) : oh_St := (let s12 : oh_St := (if (s8 15 10) = (0 : Int32) then s8 else (if ((s8 15 10) - (1 : Int32)) = (0 : Int32) then (let s11 : oh_St := (spX8_ready (oh_up s8 15 10 ((s8 15 10) - (1 : Int32))) (10 : Int32)); s11) else (oh_up s8 15 10 ((s8 15 10) - (1 : Int32))))); (spX8_turn_k39 s12))
def spX8_turn_k41 (s4 : oh_St) : oh_St := (let s8 : oh_St := (if (s4 15 9) = (0 : Int32) then s4 else (if ((s4 15 9) - (1 : Int32)) = (0 : Int32) then (let s7 : oh_St := (spX8_ready (oh_up s4 15 9 ((s4 15 9) - (1 : Int32))) (9 : Int32)); s7) else (oh_up s4 15 9 ((s4 15 9) - (1 : Int32))))); (spX8_turn_k40 s8))
def spX8_turn (σ : oh_St) : oh_St := (let s4 : oh_St := (if (σ 15 8) = (0 : Int32) then (oh_up σ 0 0 ((σ 0 0) + (1 : Int32))) else (if ((σ 15 8) - (1 : Int32)) = (0 : Int32) then (let s3 : oh_St := (spX8_ready (oh_up (oh_up σ 0 0 ((σ 0 0) + (1 : Int32))) 15 8 ((σ 15 8) - (1 : Int32))) (8 : Int32)); s3) else (oh_up (oh_up σ 0 0 ((σ 0 0) + (1 : Int32))) 15 8 ((σ 15 8) - (1 : Int32))))); (spX8_turn_k41 s4))
set_option maxHeartbeats 8000000 in
set_option maxRecDepth 100000 in
theorem mtX8_turn (l : Launch) (a : Nat → Nat) (k : Nat → ClassId) (D : va_G) (σ : oh_St) (hb13 : oh_B13) {M : Nat} (hM : M < 1999999000) (hw : oh_WM M σ) : oh_Mv l yX8_turn wsX8_turn { frames := 5, cells := 0, slots := 0, locals := 116 } D (oh_ty k) (oh_V a k) [.ref (a 0)] σ (fun u => u = spX8_turn σ) := by
  refine oh_inv (cc := cX8_turn) (nL := 4) (rt := none) (by decide) rfl (Nat.le_of_ble_eq_true rfl) ?_
  intro p e s m below meth c A ls hC hP hD hS hl
  obtain ⟨hx, hb, hml, hown, hts, hr, hlocks, hK, hN, hA⟩ := id hC
  have hl : lv_has ls 4 [(0, .ref (a 0))] := hl
  refine lv_aload_n hx hb dX8_turn_0 rfl (lv_at hl 0 rfl) ?_
  refine lv_dup hx hb dX8_turn_1 rfl ?_
  refine oh_get (v := .int (σ 0 0)) hC hP inX8_turn_X8 0 rfl rfl 14 (by decide) (by decide +kernel) rfl dX8_turn_2 ?_
  refine lv_iconst (v := (1 : Int32)) hx hb dX8_turn_5 (by decide) ?_
  refine lv_iadd hx hb dX8_turn_6 ?_
  refine oh_put (σ' := (oh_up σ 0 0 ((σ 0 0) + (1 : Int32)))) (v := .int ((σ 0 0) + (1 : Int32))) hC hP hD hS inX8_turn_X8 tyX8 tyX8_ok nmX8 0 rfl rfl 14 (by decide) (by decide +kernel) rfl rfl rfl (by simp) rfl dX8_turn_7 (fun H locs hP hD hS => ?_)
  refine lv_bipush (v := (8 : Int32)) hx hb dX8_turn_10 (by decide) ?_
  refine lv_istore_n (lv' := [(1, .int (8 : Int32)), (0, .ref (a 0))]) hx hb dX8_turn_12 rfl hl (by decide) rfl (fun ls hl => ?_)
  refine lv_iload_n hx hb dX8_turn_13 rfl (lv_at hl 0 rfl) ?_
  refine lv_bipush (v := (12 : Int32)) hx hb dX8_turn_14 (by decide) ?_
  refine lv_icmp_ge (tgt := 61) hx hb dX8_turn_16 (by decide) (fun c0 => absurd c0 (by decide)) (fun _ => ?_)
  refine lv_aload_n hx hb dX8_turn_19 rfl (lv_at hl 1 rfl) ?_
  refine oh_get (v := .ref (a 15)) hC hP inX8_turn_X8 0 rfl rfl 30 (by decide) (by decide +kernel) rfl dX8_turn_20 ?_
  refine lv_iload_n hx hb dX8_turn_23 rfl (lv_at hl 0 rfl) ?_
  refine oh_iald hC hP 15 0 rfl rfl (vp_in_iff.mpr (by decide)) dX8_turn_24 ?_
  have K41 : ∀ s4 : oh_St, s4 = (if (σ 15 8) = (0 : Int32) then (oh_up σ 0 0 ((σ 0 0) + (1 : Int32))) else (if ((σ 15 8) - (1 : Int32)) = (0 : Int32) then (let s3 : oh_St := (spX8_ready (oh_up (oh_up σ 0 0 ((σ 0 0) + (1 : Int32))) 15 8 ((σ 15 8) - (1 : Int32))) (8 : Int32)); s3) else (oh_up (oh_up σ 0 0 ((σ 0 0) + (1 : Int32))) 15 8 ((σ 15 8) - (1 : Int32))))) → ∀ (ls : Array Slot) (H : Heap) (locs : List Loc), va_P D vwCl (oh_V a k s4) H → va_D A (oh_V a k s4) → va_S A s.heap H locs → lv_has ls 4 [(1, .int (8 : Int32)), (0, .ref (a 0))] → W p l e ({ frames := 5, cells := 0, slots := 0, locals := 116 } : Room) s m (([.ref (a 0)] : List Value).toArray) below meth c H locs 0 0 (oh_Ev below (fun u => u = spX8_turn σ) D (oh_V a k) A [.ref (a 0)] s) (F0 m 55 ls []) := by
    intro s4 hs4 ls H locs hP hD hS hl
    have hK41 : spX8_turn_k41 s4 = spX8_turn σ := by
      subst hs4
      exact rfl
    refine lv_iinc (v := (9 : Int32)) (lv' := [(1, .int (9 : Int32)), (0, .ref (a 0))]) hx hb dX8_turn_55 hl (k := 0) rfl (by first | rfl | decide) (by decide) rfl (fun ls hl => ?_)
    refine lv_goto (tgt := 13) hx hb dX8_turn_58 (by decide) ?_
    refine lv_iload_n hx hb dX8_turn_13 rfl (lv_at hl 0 rfl) ?_
    refine lv_bipush (v := (12 : Int32)) hx hb dX8_turn_14 (by decide) ?_
    refine lv_icmp_ge (tgt := 61) hx hb dX8_turn_16 (by decide) (fun c0 => absurd c0 (by decide)) (fun _ => ?_)
    refine lv_aload_n hx hb dX8_turn_19 rfl (lv_at hl 1 rfl) ?_
    refine oh_get (v := .ref (a 15)) hC hP inX8_turn_X8 0 rfl rfl 30 (by decide) (by decide +kernel) rfl dX8_turn_20 ?_
    refine lv_iload_n hx hb dX8_turn_23 rfl (lv_at hl 0 rfl) ?_
    refine oh_iald hC hP 15 0 rfl rfl (vp_in_iff.mpr (by decide)) dX8_turn_24 ?_
    have K40 : ∀ s8 : oh_St, s8 = (if (s4 15 9) = (0 : Int32) then s4 else (if ((s4 15 9) - (1 : Int32)) = (0 : Int32) then (let s7 : oh_St := (spX8_ready (oh_up s4 15 9 ((s4 15 9) - (1 : Int32))) (9 : Int32)); s7) else (oh_up s4 15 9 ((s4 15 9) - (1 : Int32))))) → ∀ (ls : Array Slot) (H : Heap) (locs : List Loc), va_P D vwCl (oh_V a k s8) H → va_D A (oh_V a k s8) → va_S A s.heap H locs → lv_has ls 4 [(1, .int (9 : Int32)), (0, .ref (a 0))] → W p l e ({ frames := 5, cells := 0, slots := 0, locals := 116 } : Room) s m (([.ref (a 0)] : List Value).toArray) below meth c H locs 0 0 (oh_Ev below (fun u => u = spX8_turn σ) D (oh_V a k) A [.ref (a 0)] s) (F0 m 55 ls []) := by
      intro s8 hs8 ls H locs hP hD hS hl
      have hK40 : spX8_turn_k40 s8 = spX8_turn σ := by
        subst hs8
        exact hK41
      refine lv_iinc (v := (10 : Int32)) (lv' := [(1, .int (10 : Int32)), (0, .ref (a 0))]) hx hb dX8_turn_55 hl (k := 0) rfl (by first | rfl | decide) (by decide) rfl (fun ls hl => ?_)
      refine lv_goto (tgt := 13) hx hb dX8_turn_58 (by decide) ?_
      refine lv_iload_n hx hb dX8_turn_13 rfl (lv_at hl 0 rfl) ?_
      refine lv_bipush (v := (12 : Int32)) hx hb dX8_turn_14 (by decide) ?_
      refine lv_icmp_ge (tgt := 61) hx hb dX8_turn_16 (by decide) (fun c0 => absurd c0 (by decide)) (fun _ => ?_)
      refine lv_aload_n hx hb dX8_turn_19 rfl (lv_at hl 1 rfl) ?_
      refine oh_get (v := .ref (a 15)) hC hP inX8_turn_X8 0 rfl rfl 30 (by decide) (by decide +kernel) rfl dX8_turn_20 ?_
      refine lv_iload_n hx hb dX8_turn_23 rfl (lv_at hl 0 rfl) ?_
      refine oh_iald hC hP 15 0 rfl rfl (vp_in_iff.mpr (by decide)) dX8_turn_24 ?_
      have K39 : ∀ s12 : oh_St, s12 = (if (s8 15 10) = (0 : Int32) then s8 else (if ((s8 15 10) - (1 : Int32)) = (0 : Int32) then (let s11 : oh_St := (spX8_ready (oh_up s8 15 10 ((s8 15 10) - (1 : Int32))) (10 : Int32)); s11) else (oh_up s8 15 10 ((s8 15 10) - (1 : Int32))))) → ∀ (ls : Array Slot) (H : Heap) (locs : List Loc), va_P D vwCl (oh_V a k s12) H → va_D A (oh_V a k s12) → va_S A s.heap H locs → lv_has ls 4 [(1, .int (10 : Int32)), (0, .ref (a 0))] → W p l e ({ frames := 5, cells := 0, slots := 0, locals := 116 } : Room) s m (([.ref (a 0)] : List Value).toArray) below meth c H locs 0 0 (oh_Ev below (fun u => u = spX8_turn σ) D (oh_V a k) A [.ref (a 0)] s) (F0 m 55 ls []) := by
        intro s12 hs12 ls H locs hP hD hS hl
        have hK39 : spX8_turn_k39 s12 = spX8_turn σ := by
          subst hs12
          exact hK40
        refine lv_iinc (v := (11 : Int32)) (lv' := [(1, .int (11 : Int32)), (0, .ref (a 0))]) hx hb dX8_turn_55 hl (k := 0) rfl (by first | rfl | decide) (by decide) rfl (fun ls hl => ?_)
        refine lv_goto (tgt := 13) hx hb dX8_turn_58 (by decide) ?_
        refine lv_iload_n hx hb dX8_turn_13 rfl (lv_at hl 0 rfl) ?_
        refine lv_bipush (v := (12 : Int32)) hx hb dX8_turn_14 (by decide) ?_
        refine lv_icmp_ge (tgt := 61) hx hb dX8_turn_16 (by decide) (fun c0 => absurd c0 (by decide)) (fun _ => ?_)
        refine lv_aload_n hx hb dX8_turn_19 rfl (lv_at hl 1 rfl) ?_
        refine oh_get (v := .ref (a 15)) hC hP inX8_turn_X8 0 rfl rfl 30 (by decide) (by decide +kernel) rfl dX8_turn_20 ?_
        refine lv_iload_n hx hb dX8_turn_23 rfl (lv_at hl 0 rfl) ?_
        refine oh_iald hC hP 15 0 rfl rfl (vp_in_iff.mpr (by decide)) dX8_turn_24 ?_
        have K38 : ∀ s16 : oh_St, s16 = (if (s12 15 11) = (0 : Int32) then s12 else (if ((s12 15 11) - (1 : Int32)) = (0 : Int32) then (let s15 : oh_St := (spX8_ready (oh_up s12 15 11 ((s12 15 11) - (1 : Int32))) (11 : Int32)); s15) else (oh_up s12 15 11 ((s12 15 11) - (1 : Int32))))) → ∀ (ls : Array Slot) (H : Heap) (locs : List Loc), va_P D vwCl (oh_V a k s16) H → va_D A (oh_V a k s16) → va_S A s.heap H locs → lv_has ls 4 [(1, .int (11 : Int32)), (0, .ref (a 0))] → W p l e ({ frames := 5, cells := 0, slots := 0, locals := 116 } : Room) s m (([.ref (a 0)] : List Value).toArray) below meth c H locs 0 0 (oh_Ev below (fun u => u = spX8_turn σ) D (oh_V a k) A [.ref (a 0)] s) (F0 m 55 ls []) := by
          intro s16 hs16 ls H locs hP hD hS hl
          have hK38 : spX8_turn_k38 s16 = spX8_turn σ := by
            subst hs16
            exact hK39
          refine lv_iinc (v := (12 : Int32)) (lv' := [(1, .int (12 : Int32)), (0, .ref (a 0))]) hx hb dX8_turn_55 hl (k := 0) rfl (by first | rfl | decide) (by decide) rfl (fun ls hl => ?_)
          refine lv_goto (tgt := 13) hx hb dX8_turn_58 (by decide) ?_
          refine lv_iload_n hx hb dX8_turn_13 rfl (lv_at hl 0 rfl) ?_
          refine lv_bipush (v := (12 : Int32)) hx hb dX8_turn_14 (by decide) ?_
          refine lv_icmp_ge (tgt := 61) hx hb dX8_turn_16 (by decide) (fun _ => ?_) (fun c0 => absurd c0 (by decide))
          refine lv_aload_n hx hb dX8_turn_61 rfl (lv_at hl 1 rfl) ?_
          refine lv_bipush (v := (6 : Int32)) hx hb dX8_turn_62 (by decide) ?_
          refine oh_cvv (As := [.int (6 : Int32)]) (rest := []) hC hP hD hS (mtX8_channel l a k D s16 (6 : Int32) (vp_in_iff.mpr (by decide)) ((wm_dev (M := M + 1 + 1 + 1) (by omega) (wm_dev (M := M + 1 + 1) (by omega) (wm_dev (M := M + 1) (by omega) (wm_dev (by omega) (wm_00 hw) hs4) hs8) hs12) hs16).2.2.2.1 _)) (cwV 1 hts gX8_turn_X8_channel rfl rfl rfl (by decide +kernel) ⟨Nat.le_of_ble_eq_true rfl, Nat.le_of_ble_eq_true rfl⟩) 0 8 rfl rfl rfl hl.1 rfl (Nat.le_of_ble_eq_true rfl) dX8_turn_64 (fun s17 H locs hs17 hP hD hS => ?_)
          refine lv_aload_n hx hb dX8_turn_67 rfl (lv_at hl 1 rfl) ?_
          refine lv_bipush (v := (7 : Int32)) hx hb dX8_turn_68 (by decide) ?_
          refine oh_cvv (As := [.int (7 : Int32)]) (rest := []) hC hP hD hS (mtX8_channel l a k D s17 (7 : Int32) (vp_in_iff.mpr (by decide)) (by rw [hs17]; exact (wm_channel (wm_dev (M := M + 1 + 1 + 1) (by omega) (wm_dev (M := M + 1 + 1) (by omega) (wm_dev (M := M + 1) (by omega) (wm_dev (by omega) (wm_00 hw) hs4) hs8) hs12) hs16)).2.2.2.1 _)) (cwV 1 hts gX8_turn_X8_channel rfl rfl rfl (by decide +kernel) ⟨Nat.le_of_ble_eq_true rfl, Nat.le_of_ble_eq_true rfl⟩) 0 8 rfl rfl rfl hl.1 rfl (Nat.le_of_ble_eq_true rfl) dX8_turn_70 (fun s18 H locs hs18 hP hD hS => ?_)
          refine lv_bipush (v := (6 : Int32)) hx hb dX8_turn_73 (by decide) ?_
          refine lv_istore_n (lv' := [(1, .int (6 : Int32)), (0, .ref (a 0))]) hx hb dX8_turn_75 rfl hl (by decide) rfl (fun ls hl => ?_)
          have LP : ∀ (f : Nat) (z : oh_St) (i : Int32), oh_tI (M + 1 + 1 + 1 + 1) f z i → lpX8_turn f z i = spX8_turn σ → ∀ (ls : Array Slot) (H : Heap) (locs : List Loc), va_P D vwCl (oh_V a k z) H → va_D A (oh_V a k z) → va_S A s.heap H locs → lv_has ls 4 [(1, .int i), (0, .ref (a 0))] → W p l e ({ frames := 5, cells := 0, slots := 0, locals := 116 } : Room) s m (([.ref (a 0)] : List Value).toArray) below meth c H locs 0 0 (oh_Ev below (fun u => u = spX8_turn σ) D (oh_V a k) A [.ref (a 0)] s) (F0 m 76 ls []) := by
            intro f
            induction f with
            | zero => intro z i hI; exact absurd hI (oh_tI0)
            | succ f ih =>
              intro z i hI hk ls H locs hP hD hS hl
              refine lv_iload_n hx hb dX8_turn_76 rfl (lv_at hl 0 rfl) ?_
              refine lv_bipush (v := (12 : Int32)) hx hb dX8_turn_77 (by decide) ?_
              have K36 : (let x26 : Int32 := (if (z 0 9) = (0 : Int32) then (0 : Int32) else (if (z 0 6) = (0 : Int32) then (if (12 : Int32) ≤ i then (0 : Int32) else (if (z 4 i.toNatClampNeg) = (0 : Int32) then (0 : Int32) else (1 : Int32))) else (0 : Int32))); (let s33 : oh_St := (if x26 = (0 : Int32) then (let r28 : Int32 := (spX8_more (z 0 3)); (let r29 : Int32 := (spX8_at (oh_up (oh_up z 0 13 (0 : Int32)) 0 3 r28) (z 0 3)); (let s30 : oh_St := (spX8_does (oh_up (oh_up z 0 13 (0 : Int32)) 0 3 r28) r29 ((z 0 3) &&& (31744 : Int32))); s30))) else (let r31 : Int32 := (spX8_at (oh_up (oh_up (oh_up (oh_up z 0 13 (0 : Int32)) 4 i.toNatClampNeg (0 : Int32)) 0 1 ((z 0 1) + (1 : Int32))) 0 2 i) i); (let s32 : oh_St := (spX8_does (oh_up (oh_up (oh_up (oh_up z 0 13 (0 : Int32)) 4 i.toNatClampNeg (0 : Int32)) 0 1 ((z 0 1) + (1 : Int32))) 0 2 i) r31 (0 : Int32)); s32))); (oh_up s33 0 6 (s33 0 13)))) = spX8_turn σ → ∀ (ls : Array Slot) (H : Heap) (locs : List Loc), va_P D vwCl (oh_V a k z) H → va_D A (oh_V a k z) → va_S A s.heap H locs → lv_has ls 4 [(1, .int i), (0, .ref (a 0))] → W p l e ({ frames := 5, cells := 0, slots := 0, locals := 116 } : Room) s m (([.ref (a 0)] : List Value).toArray) below meth c H locs 0 0 (oh_Ev below (fun u => u = spX8_turn σ) D (oh_V a k) A [.ref (a 0)] s) (F0 m 106 ls []) := by
                intro hK36 ls H locs hP hD hS hl
                refine lv_aload_n hx hb dX8_turn_106 rfl (lv_at hl 1 rfl) ?_
                refine oh_get (v := .int (z 0 9)) hC hP inX8_turn_X8 0 rfl rfl 7 (by decide) (by decide +kernel) rfl dX8_turn_107 ?_
                have K35 : ∀ x26 : Int32, x26 = (if (z 0 9) = (0 : Int32) then (0 : Int32) else (if (z 0 6) = (0 : Int32) then (if (12 : Int32) ≤ i then (0 : Int32) else (if (z 4 i.toNatClampNeg) = (0 : Int32) then (0 : Int32) else (1 : Int32))) else (0 : Int32))) → ∀ (ls : Array Slot) (H : Heap) (locs : List Loc), va_P D vwCl (oh_V a k z) H → va_D A (oh_V a k z) → va_S A s.heap H locs → lv_has ls 4 [(1, .int i), (0, .ref (a 0))] → W p l e ({ frames := 5, cells := 0, slots := 0, locals := 116 } : Room) s m (([.ref (a 0)] : List Value).toArray) below meth c H locs 0 0 (oh_Ev below (fun u => u = spX8_turn σ) D (oh_V a k) A [.ref (a 0)] s) (F0 m 140 ls [.int x26]) := by
                  intro x26 hx26 ls H locs hP hD hS hl
                  refine lv_istore_n (lv' := [(2, .int x26), (1, .int i), (0, .ref (a 0))]) hx hb dX8_turn_140 rfl hl (by decide) rfl (fun ls hl => ?_)
                  refine lv_aload_n hx hb dX8_turn_141 rfl (lv_at hl 2 rfl) ?_
                  refine lv_iconst (v := (0 : Int32)) hx hb dX8_turn_142 (by decide) ?_
                  refine oh_put (σ' := (oh_up z 0 13 (0 : Int32))) (v := .int (0 : Int32)) hC hP hD hS inX8_turn_X8 tyX8 tyX8_ok nmX8 0 rfl rfl 9 (by decide) (by decide +kernel) rfl (oh_nb (by decide)) (oh_fb (by decide)) (by simp) rfl dX8_turn_143 (fun H locs hP hD hS => ?_)
                  refine lv_iload_n hx hb dX8_turn_146 rfl (lv_at hl 0 rfl) ?_
                  have K34 : ∀ s33 : oh_St, s33 = (if x26 = (0 : Int32) then (let r28 : Int32 := (spX8_more (z 0 3)); (let r29 : Int32 := (spX8_at (oh_up (oh_up z 0 13 (0 : Int32)) 0 3 r28) (z 0 3)); (let s30 : oh_St := (spX8_does (oh_up (oh_up z 0 13 (0 : Int32)) 0 3 r28) r29 ((z 0 3) &&& (31744 : Int32))); s30))) else (let r31 : Int32 := (spX8_at (oh_up (oh_up (oh_up (oh_up z 0 13 (0 : Int32)) 4 i.toNatClampNeg (0 : Int32)) 0 1 ((z 0 1) + (1 : Int32))) 0 2 i) i); (let s32 : oh_St := (spX8_does (oh_up (oh_up (oh_up (oh_up z 0 13 (0 : Int32)) 4 i.toNatClampNeg (0 : Int32)) 0 1 ((z 0 1) + (1 : Int32))) 0 2 i) r31 (0 : Int32)); s32))) → ∀ (ls : Array Slot) (H : Heap) (locs : List Loc), va_P D vwCl (oh_V a k s33) H → va_D A (oh_V a k s33) → va_S A s.heap H locs → lv_has ls 4 [(2, .int x26), (1, .int i), (0, .ref (a 0))] → W p l e ({ frames := 5, cells := 0, slots := 0, locals := 116 } : Room) s m (([.ref (a 0)] : List Value).toArray) below meth c H locs 0 0 (oh_Ev below (fun u => u = spX8_turn σ) D (oh_V a k) A [.ref (a 0)] s) (F0 m 215 ls []) := by
                    intro s33 hs33 ls H locs hP hD hS hl
                    refine lv_aload_n hx hb dX8_turn_215 rfl (lv_at hl 2 rfl) ?_
                    refine lv_aload_n hx hb dX8_turn_216 rfl (lv_at hl 2 rfl) ?_
                    refine oh_get (v := .int (s33 0 13)) hC hP inX8_turn_X8 0 rfl rfl 9 (by decide) (by decide +kernel) rfl dX8_turn_217 ?_
                    refine oh_put (σ' := (oh_up s33 0 6 (s33 0 13))) (v := .int (s33 0 13)) hC hP hD hS inX8_turn_X8 tyX8 tyX8_ok nmX8 0 rfl rfl 8 (by decide) (by decide +kernel) rfl (oh_nb (by rw [hs33]; (repeat' split) <;> exact hb13 _ _ _ rfl)) (oh_fb (by rw [hs33]; (repeat' split) <;> exact hb13 _ _ _ rfl)) (by simp) rfl dX8_turn_220 (fun H locs hP hD hS => ?_)
                    exact oh_retv (u := (oh_up s33 0 6 (s33 0 13))) hC hP hD hS (by subst hs33 hx26; exact hK36) dX8_turn_223
                  refine lv_if_eq (tgt := 185) hx hb dX8_turn_147 (by decide) (fun c27 => ?_) (fun c27 => ?_)
                  · refine lv_aload_n hx hb dX8_turn_185 rfl (lv_at hl 2 rfl) ?_
                    refine oh_get (v := .int (z 0 3)) hC hP inX8_turn_X8 0 rfl rfl 4 (by decide) (by decide +kernel) rfl dX8_turn_186 ?_
                    refine lv_istore_n (lv' := [(3, .int (z 0 3)), (2, .int x26), (1, .int i), (0, .ref (a 0))]) hx hb dX8_turn_189 rfl hl (by decide) rfl (fun ls hl => ?_)
                    refine lv_aload_n hx hb dX8_turn_190 rfl (lv_at hl 3 rfl) ?_
                    refine lv_aload_n hx hb dX8_turn_191 rfl (lv_at hl 3 rfl) ?_
                    refine oh_get (v := .int (z 0 3)) hC hP inX8_turn_X8 0 rfl rfl 4 (by decide) (by decide +kernel) rfl dX8_turn_192 ?_
                    refine oh_csp (As := [.int (z 0 3)]) (rest := [.ref (a 0)]) hC hP hD hS (mtX8_more l a k D (oh_up z 0 13 (0 : Int32)) (z 0 3)) (va_cwS 1 hts gX8_turn_X8_more rfl rfl rfl (by decide +kernel) ⟨Nat.le_of_ble_eq_true rfl, Nat.le_of_ble_eq_true rfl⟩) rfl hl.1 rfl (Nat.le_of_ble_eq_true rfl) dX8_turn_195 (fun r28 H locs hr28 hP hD hS => ?_)
                    refine oh_put (σ' := (oh_up (oh_up z 0 13 (0 : Int32)) 0 3 r28)) (v := .int r28) hC hP hD hS inX8_turn_X8 tyX8 tyX8_ok nmX8 0 rfl rfl 4 (by decide) (by decide +kernel) rfl rfl rfl (by simp) rfl dX8_turn_198 (fun H locs hP hD hS => ?_)
                    refine lv_aload_n hx hb dX8_turn_201 rfl (lv_at hl 3 rfl) ?_
                    refine lv_aload_n hx hb dX8_turn_202 rfl (lv_at hl 3 rfl) ?_
                    refine lv_iload_n hx hb dX8_turn_203 rfl (lv_at hl 0 rfl) ?_
                    refine oh_cvp (As := [.int (z 0 3)]) (rest := [.ref (a 0)]) hC hP hD hS (mtX8_at l a k D (oh_up (oh_up z 0 13 (0 : Int32)) 0 3 r28) (z 0 3) hI.1.2.1) (cwV 1 hts gX8_turn_X8_at rfl rfl rfl (by decide +kernel) ⟨Nat.le_of_ble_eq_true rfl, Nat.le_of_ble_eq_true rfl⟩) 0 8 rfl rfl rfl hl.1 rfl (Nat.le_of_ble_eq_true rfl) dX8_turn_204 (fun r29 H locs hr29 hP hD hS => ?_)
                    refine lv_iload_n hx hb dX8_turn_207 rfl (lv_at hl 0 rfl) ?_
                    refine lv_sipush (v := (31744 : Int32)) hx hb dX8_turn_208 (by decide) ?_
                    refine lv_iand hx hb dX8_turn_211 ?_
                    refine oh_cvv (As := [.int r29, .int ((z 0 3) &&& (31744 : Int32))]) (rest := []) hC hP hD hS (mtX8_does l a k D (oh_up (oh_up z 0 13 (0 : Int32)) 0 3 r28) r29 ((z 0 3) &&& (31744 : Int32)) (oh_nnand _ (by decide)) (show ¬ r28 < 0 by rw [hr28]; exact oh_nnand _ (by decide)) (show oh_Dn z from hI.1.1) (show z 0 9 = 0 ∨ z 0 9 = 1 from hI.1.2.2.1)) (cwV 2 hts gX8_turn_X8_does rfl rfl rfl (by decide +kernel) ⟨Nat.le_of_ble_eq_true rfl, Nat.le_of_ble_eq_true rfl⟩) 0 8 rfl rfl rfl hl.1 rfl (Nat.le_of_ble_eq_true rfl) dX8_turn_212 (fun s30 H locs hs30 hP hD hS => ?_)
                    exact K34 _ (by subst hs30 hr29 hr28; exact (if_pos c27).symm) ls _ _ hP hD hS (lv_sub hl [1, 2, 3] rfl)
                  · refine lv_aload_n hx hb dX8_turn_150 rfl (lv_at hl 2 rfl) ?_
                    refine oh_get (v := .ref (a 4)) hC hP inX8_turn_X8 0 rfl rfl 19 (by decide) (by decide +kernel) rfl dX8_turn_151 ?_
                    refine lv_iload_n hx hb dX8_turn_154 rfl (lv_at hl 1 rfl) ?_
                    refine lv_iconst (v := (0 : Int32)) hx hb dX8_turn_155 (by decide) ?_
                    refine oh_zast (σ' := (oh_up (oh_up z 0 13 (0 : Int32)) 4 i.toNatClampNeg (0 : Int32))) hC hP hD hS 4 4 rfl rfl (oh_tI12 hI (oh_sv hx26 c27)) (by decide) rfl dX8_turn_156 (fun H locs hP hD hS => ?_)
                    refine lv_aload_n hx hb dX8_turn_157 rfl (lv_at hl 2 rfl) ?_
                    refine lv_dup hx hb dX8_turn_158 rfl ?_
                    refine oh_get (v := .int (z 0 1)) hC hP inX8_turn_X8 0 rfl rfl 15 (by decide) (by decide +kernel) rfl dX8_turn_159 ?_
                    refine lv_iconst (v := (1 : Int32)) hx hb dX8_turn_162 (by decide) ?_
                    refine lv_iadd hx hb dX8_turn_163 ?_
                    refine oh_put (σ' := (oh_up (oh_up (oh_up z 0 13 (0 : Int32)) 4 i.toNatClampNeg (0 : Int32)) 0 1 ((z 0 1) + (1 : Int32)))) (v := .int ((z 0 1) + (1 : Int32))) hC hP hD hS inX8_turn_X8 tyX8 tyX8_ok nmX8 0 rfl rfl 15 (by decide) (by decide +kernel) rfl rfl rfl (by simp) rfl dX8_turn_164 (fun H locs hP hD hS => ?_)
                    refine lv_aload_n hx hb dX8_turn_167 rfl (lv_at hl 2 rfl) ?_
                    refine lv_iload_n hx hb dX8_turn_168 rfl (lv_at hl 1 rfl) ?_
                    refine oh_put (σ' := (oh_up (oh_up (oh_up (oh_up z 0 13 (0 : Int32)) 4 i.toNatClampNeg (0 : Int32)) 0 1 ((z 0 1) + (1 : Int32))) 0 2 i)) (v := .int i) hC hP hD hS inX8_turn_X8 tyX8 tyX8_ok nmX8 0 rfl rfl 16 (by decide) (by decide +kernel) rfl rfl rfl (by simp) rfl dX8_turn_169 (fun H locs hP hD hS => ?_)
                    refine lv_aload_n hx hb dX8_turn_172 rfl (lv_at hl 2 rfl) ?_
                    refine lv_aload_n hx hb dX8_turn_173 rfl (lv_at hl 2 rfl) ?_
                    refine lv_iload_n hx hb dX8_turn_174 rfl (lv_at hl 1 rfl) ?_
                    refine oh_cvp (As := [.int i]) (rest := [.ref (a 0)]) hC hP hD hS (mtX8_at l a k D (oh_up (oh_up (oh_up (oh_up z 0 13 (0 : Int32)) 4 i.toNatClampNeg (0 : Int32)) 0 1 ((z 0 1) + (1 : Int32))) 0 2 i) i (oh_tIn hI)) (cwV 1 hts gX8_turn_X8_at rfl rfl rfl (by decide +kernel) ⟨Nat.le_of_ble_eq_true rfl, Nat.le_of_ble_eq_true rfl⟩) 0 8 rfl rfl rfl hl.1 rfl (Nat.le_of_ble_eq_true rfl) dX8_turn_175 (fun r31 H locs hr31 hP hD hS => ?_)
                    refine lv_iconst (v := (0 : Int32)) hx hb dX8_turn_178 (by decide) ?_
                    refine oh_cvv (As := [.int r31, .int (0 : Int32)]) (rest := []) hC hP hD hS (mtX8_does l a k D (oh_up (oh_up (oh_up (oh_up z 0 13 (0 : Int32)) 4 i.toNatClampNeg (0 : Int32)) 0 1 ((z 0 1) + (1 : Int32))) 0 2 i) r31 (0 : Int32) (by decide) (show ¬ z 0 3 < 0 from hI.1.2.1) (show oh_Dn z from hI.1.1) (show z 0 9 = 0 ∨ z 0 9 = 1 from hI.1.2.2.1)) (cwV 2 hts gX8_turn_X8_does rfl rfl rfl (by decide +kernel) ⟨Nat.le_of_ble_eq_true rfl, Nat.le_of_ble_eq_true rfl⟩) 0 8 rfl rfl rfl hl.1 rfl (Nat.le_of_ble_eq_true rfl) dX8_turn_179 (fun s32 H locs hs32 hP hD hS => ?_)
                    refine lv_goto (tgt := 215) hx hb dX8_turn_182 (by decide) ?_
                    exact K34 _ (by subst hs32 hr31; exact (if_neg c27).symm) ls _ _ hP hD hS (lv_sub hl [0, 1, 2] rfl)
                refine lv_if_eq (tgt := 139) hx hb dX8_turn_110 (by decide) (fun c22 => ?_) (fun c22 => ?_)
                · refine lv_iconst (v := (0 : Int32)) hx hb dX8_turn_139 (by decide) ?_
                  exact K35 _ (if_pos c22).symm ls _ _ hP hD hS (lv_sub hl [0, 1] rfl)
                · refine lv_aload_n hx hb dX8_turn_113 rfl (lv_at hl 1 rfl) ?_
                  refine oh_get (v := .int (z 0 6)) hC hP inX8_turn_X8 0 rfl rfl 8 (by decide) (by decide +kernel) rfl dX8_turn_114 ?_
                  refine lv_if_ne (tgt := 139) hx hb dX8_turn_117 (by decide) (fun c23 => ?_) (fun c23 => ?_)
                  · refine lv_iconst (v := (0 : Int32)) hx hb dX8_turn_139 (by decide) ?_
                    exact K35 _ ((if_neg c22).trans (if_neg c23)).symm ls _ _ hP hD hS (lv_sub hl [0, 1] rfl)
                  · refine lv_iload_n hx hb dX8_turn_120 rfl (lv_at hl 0 rfl) ?_
                    refine lv_bipush (v := (12 : Int32)) hx hb dX8_turn_121 (by decide) ?_
                    refine lv_icmp_ge (tgt := 139) hx hb dX8_turn_123 (by decide) (fun c24 => ?_) (fun c24 => ?_)
                    · refine lv_iconst (v := (0 : Int32)) hx hb dX8_turn_139 (by decide) ?_
                      exact K35 _ (((if_neg c22).trans (if_pos c23)).trans (if_pos c24)).symm ls _ _ hP hD hS (lv_sub hl [0, 1] rfl)
                    · refine lv_aload_n hx hb dX8_turn_126 rfl (lv_at hl 1 rfl) ?_
                      refine oh_get (v := .ref (a 4)) hC hP inX8_turn_X8 0 rfl rfl 19 (by decide) (by decide +kernel) rfl dX8_turn_127 ?_
                      refine lv_iload_n hx hb dX8_turn_130 rfl (lv_at hl 0 rfl) ?_
                      refine oh_zald hC hP 4 4 rfl rfl (oh_tI12 hI c24) dX8_turn_131 ?_
                      refine lv_if_eq (tgt := 139) hx hb dX8_turn_132 (by decide) (fun c25 => ?_) (fun c25 => ?_)
                      · refine lv_iconst (v := (0 : Int32)) hx hb dX8_turn_139 (by decide) ?_
                        exact K35 _ ((((if_neg c22).trans (if_pos c23)).trans (if_neg c24)).trans (if_pos c25)).symm ls _ _ hP hD hS (lv_sub hl [0, 1] rfl)
                      · refine lv_iconst (v := (1 : Int32)) hx hb dX8_turn_135 (by decide) ?_
                        refine lv_goto (tgt := 140) hx hb dX8_turn_136 (by decide) ?_
                        exact K35 _ ((((if_neg c22).trans (if_pos c23)).trans (if_neg c24)).trans (if_neg c25)).symm ls _ _ hP hD hS (lv_sub hl [0, 1] rfl)
              refine lv_icmp_ge (tgt := 106) hx hb dX8_turn_79 (by decide) (fun c19 => ?_) (fun c19 => ?_)
              · exact K36 (((if_pos c19).symm).trans hk) ls _ _ hP hD hS (lv_sub hl [0, 1] rfl)
              · refine lv_aload_n hx hb dX8_turn_82 rfl (lv_at hl 1 rfl) ?_
                refine oh_get (v := .ref (a 2)) hC hP inX8_turn_X8 0 rfl rfl 17 (by decide) (by decide +kernel) rfl dX8_turn_83 ?_
                refine lv_iload_n hx hb dX8_turn_86 rfl (lv_at hl 0 rfl) ?_
                refine oh_zald hC hP 2 4 rfl rfl (oh_tI12 hI c19) dX8_turn_87 ?_
                refine lv_if_eq (tgt := 100) hx hb dX8_turn_88 (by decide) (fun c20 => ?_) (fun c20 => ?_)
                · refine lv_iinc (v := (i + (1 : Int32))) (lv' := [(1, .int (i + (1 : Int32))), (0, .ref (a 0))]) hx hb dX8_turn_100 hl (k := 0) rfl (by first | rfl | decide) (by decide) rfl (fun ls hl => ?_)
                  refine lv_goto (tgt := 76) hx hb dX8_turn_103 (by decide) ?_
                  exact ih z (i + (1 : Int32)) (oh_tIs hI c19) ((((if_neg c19).trans (if_pos c20)).symm).trans hk) ls _ _ hP hD hS (lv_sub hl [0, 1] rfl)
                · refine lv_aload_n hx hb dX8_turn_91 rfl (lv_at hl 1 rfl) ?_
                  refine oh_get (v := .ref (a 3)) hC hP inX8_turn_X8 0 rfl rfl 18 (by decide) (by decide +kernel) rfl dX8_turn_92 ?_
                  refine lv_iload_n hx hb dX8_turn_95 rfl (lv_at hl 0 rfl) ?_
                  refine oh_zald hC hP 3 4 rfl rfl (oh_tI12 hI c19) dX8_turn_96 ?_
                  refine lv_if_ne (tgt := 106) hx hb dX8_turn_97 (by decide) (fun c21 => ?_) (fun c21 => ?_)
                  · exact K36 (((((if_neg c19).trans (if_neg c20)).trans (if_neg c21)).symm).trans hk) ls _ _ hP hD hS (lv_sub hl [0, 1] rfl)
                  · refine lv_iinc (v := (i + (1 : Int32))) (lv' := [(1, .int (i + (1 : Int32))), (0, .ref (a 0))]) hx hb dX8_turn_100 hl (k := 0) rfl (by first | rfl | decide) (by decide) rfl (fun ls hl => ?_)
                    refine lv_goto (tgt := 76) hx hb dX8_turn_103 (by decide) ?_
                    exact ih z (i + (1 : Int32)) (oh_tIs hI c19) (((((if_neg c19).trans (if_neg c20)).trans (if_pos c21)).symm).trans hk) ls _ _ hP hD hS (lv_sub hl [0, 1] rfl)
          exact LP 7 s18 (6 : Int32) ⟨(by rw [hs18, hs17]; exact wm_channel (wm_channel (wm_dev (M := M + 1 + 1 + 1) (by omega) (wm_dev (M := M + 1 + 1) (by omega) (wm_dev (M := M + 1) (by omega) (wm_dev (by omega) (wm_00 hw) hs4) hs8) hs12) hs16))), 0, rfl, rfl, by decide⟩ ((by subst hs18 hs17; exact hK38)) ls _ _ hP hD hS (lv_sub hl [0, 1] rfl)
        refine lv_if_ne (tgt := 31) hx hb dX8_turn_25 (by decide) (fun c13 => ?_) (fun c13 => ?_)
        · refine lv_aload_n hx hb dX8_turn_31 rfl (lv_at hl 1 rfl) ?_
          refine oh_get (v := .ref (a 15)) hC hP inX8_turn_X8 0 rfl rfl 30 (by decide) (by decide +kernel) rfl dX8_turn_32 ?_
          refine lv_iload_n hx hb dX8_turn_35 rfl (lv_at hl 0 rfl) ?_
          refine lv_dup2_11 hx hb dX8_turn_36 rfl rfl ?_
          refine oh_iald hC hP 15 0 rfl rfl (vp_in_iff.mpr (by decide)) dX8_turn_37 ?_
          refine lv_iconst (v := (1 : Int32)) hx hb dX8_turn_38 (by decide) ?_
          refine lv_isub hx hb dX8_turn_39 ?_
          refine oh_iast (σ' := (oh_up s12 15 11 ((s12 15 11) - (1 : Int32)))) hC hP hD hS 15 0 rfl rfl (vp_in_iff.mpr (by decide)) rfl dX8_turn_40 (fun H locs hP hD hS => ?_)
          refine lv_aload_n hx hb dX8_turn_41 rfl (lv_at hl 1 rfl) ?_
          refine oh_get (v := .ref (a 15)) hC hP inX8_turn_X8 0 rfl rfl 30 (by decide) (by decide +kernel) rfl dX8_turn_42 ?_
          refine lv_iload_n hx hb dX8_turn_45 rfl (lv_at hl 0 rfl) ?_
          refine oh_iald hC hP 15 0 rfl rfl (vp_in_iff.mpr (by decide)) dX8_turn_46 ?_
          refine lv_if_ne (tgt := 55) hx hb dX8_turn_47 (by decide) (fun c14 => ?_) (fun c14 => ?_)
          · exact K38 _ ((if_neg c13).trans (if_neg c14)).symm ls _ _ hP hD hS (lv_sub hl [0, 1] rfl)
          · refine lv_aload_n hx hb dX8_turn_50 rfl (lv_at hl 1 rfl) ?_
            refine lv_iload_n hx hb dX8_turn_51 rfl (lv_at hl 0 rfl) ?_
            refine oh_cvv (As := [.int (11 : Int32)]) (rest := []) hC hP hD hS (mtX8_ready l a k D (oh_up s12 15 11 ((s12 15 11) - (1 : Int32))) (11 : Int32) (show oh_rdy _ (11 : Int32) from wm_rdy (M := M + 1 + 1 + 1) (by omega) (wm_15 (wm_dev (M := M + 1 + 1) (by omega) (wm_dev (M := M + 1) (by omega) (wm_dev (by omega) (wm_00 hw) hs4) hs8) hs12)) 3 (by decide))) (cwV 1 hts gX8_turn_X8_ready rfl rfl rfl (by decide +kernel) ⟨Nat.le_of_ble_eq_true rfl, Nat.le_of_ble_eq_true rfl⟩) 0 8 rfl rfl rfl hl.1 rfl (Nat.le_of_ble_eq_true rfl) dX8_turn_52 (fun s15 H locs hs15 hP hD hS => ?_)
            exact K38 _ (by subst hs15; exact ((if_neg c13).trans (if_pos c14)).symm) ls _ _ hP hD hS (lv_sub hl [0, 1] rfl)
        · refine lv_goto (tgt := 55) hx hb dX8_turn_28 (by decide) ?_
          exact K38 _ (if_pos c13).symm ls _ _ hP hD hS (lv_sub hl [0, 1] rfl)
      refine lv_if_ne (tgt := 31) hx hb dX8_turn_25 (by decide) (fun c9 => ?_) (fun c9 => ?_)
      · refine lv_aload_n hx hb dX8_turn_31 rfl (lv_at hl 1 rfl) ?_
        refine oh_get (v := .ref (a 15)) hC hP inX8_turn_X8 0 rfl rfl 30 (by decide) (by decide +kernel) rfl dX8_turn_32 ?_
        refine lv_iload_n hx hb dX8_turn_35 rfl (lv_at hl 0 rfl) ?_
        refine lv_dup2_11 hx hb dX8_turn_36 rfl rfl ?_
        refine oh_iald hC hP 15 0 rfl rfl (vp_in_iff.mpr (by decide)) dX8_turn_37 ?_
        refine lv_iconst (v := (1 : Int32)) hx hb dX8_turn_38 (by decide) ?_
        refine lv_isub hx hb dX8_turn_39 ?_
        refine oh_iast (σ' := (oh_up s8 15 10 ((s8 15 10) - (1 : Int32)))) hC hP hD hS 15 0 rfl rfl (vp_in_iff.mpr (by decide)) rfl dX8_turn_40 (fun H locs hP hD hS => ?_)
        refine lv_aload_n hx hb dX8_turn_41 rfl (lv_at hl 1 rfl) ?_
        refine oh_get (v := .ref (a 15)) hC hP inX8_turn_X8 0 rfl rfl 30 (by decide) (by decide +kernel) rfl dX8_turn_42 ?_
        refine lv_iload_n hx hb dX8_turn_45 rfl (lv_at hl 0 rfl) ?_
        refine oh_iald hC hP 15 0 rfl rfl (vp_in_iff.mpr (by decide)) dX8_turn_46 ?_
        refine lv_if_ne (tgt := 55) hx hb dX8_turn_47 (by decide) (fun c10 => ?_) (fun c10 => ?_)
        · exact K39 _ ((if_neg c9).trans (if_neg c10)).symm ls _ _ hP hD hS (lv_sub hl [0, 1] rfl)
        · refine lv_aload_n hx hb dX8_turn_50 rfl (lv_at hl 1 rfl) ?_
          refine lv_iload_n hx hb dX8_turn_51 rfl (lv_at hl 0 rfl) ?_
          refine oh_cvv (As := [.int (10 : Int32)]) (rest := []) hC hP hD hS (mtX8_ready l a k D (oh_up s8 15 10 ((s8 15 10) - (1 : Int32))) (10 : Int32) (show oh_rdy _ (10 : Int32) from wm_rdy (M := M + 1 + 1) (by omega) (wm_15 (wm_dev (M := M + 1) (by omega) (wm_dev (by omega) (wm_00 hw) hs4) hs8)) 2 (by decide))) (cwV 1 hts gX8_turn_X8_ready rfl rfl rfl (by decide +kernel) ⟨Nat.le_of_ble_eq_true rfl, Nat.le_of_ble_eq_true rfl⟩) 0 8 rfl rfl rfl hl.1 rfl (Nat.le_of_ble_eq_true rfl) dX8_turn_52 (fun s11 H locs hs11 hP hD hS => ?_)
          exact K39 _ (by subst hs11; exact ((if_neg c9).trans (if_pos c10)).symm) ls _ _ hP hD hS (lv_sub hl [0, 1] rfl)
      · refine lv_goto (tgt := 55) hx hb dX8_turn_28 (by decide) ?_
        exact K39 _ (if_pos c9).symm ls _ _ hP hD hS (lv_sub hl [0, 1] rfl)
    refine lv_if_ne (tgt := 31) hx hb dX8_turn_25 (by decide) (fun c5 => ?_) (fun c5 => ?_)
    · refine lv_aload_n hx hb dX8_turn_31 rfl (lv_at hl 1 rfl) ?_
      refine oh_get (v := .ref (a 15)) hC hP inX8_turn_X8 0 rfl rfl 30 (by decide) (by decide +kernel) rfl dX8_turn_32 ?_
      refine lv_iload_n hx hb dX8_turn_35 rfl (lv_at hl 0 rfl) ?_
      refine lv_dup2_11 hx hb dX8_turn_36 rfl rfl ?_
      refine oh_iald hC hP 15 0 rfl rfl (vp_in_iff.mpr (by decide)) dX8_turn_37 ?_
      refine lv_iconst (v := (1 : Int32)) hx hb dX8_turn_38 (by decide) ?_
      refine lv_isub hx hb dX8_turn_39 ?_
      refine oh_iast (σ' := (oh_up s4 15 9 ((s4 15 9) - (1 : Int32)))) hC hP hD hS 15 0 rfl rfl (vp_in_iff.mpr (by decide)) rfl dX8_turn_40 (fun H locs hP hD hS => ?_)
      refine lv_aload_n hx hb dX8_turn_41 rfl (lv_at hl 1 rfl) ?_
      refine oh_get (v := .ref (a 15)) hC hP inX8_turn_X8 0 rfl rfl 30 (by decide) (by decide +kernel) rfl dX8_turn_42 ?_
      refine lv_iload_n hx hb dX8_turn_45 rfl (lv_at hl 0 rfl) ?_
      refine oh_iald hC hP 15 0 rfl rfl (vp_in_iff.mpr (by decide)) dX8_turn_46 ?_
      refine lv_if_ne (tgt := 55) hx hb dX8_turn_47 (by decide) (fun c6 => ?_) (fun c6 => ?_)
      · exact K40 _ ((if_neg c5).trans (if_neg c6)).symm ls _ _ hP hD hS (lv_sub hl [0, 1] rfl)
      · refine lv_aload_n hx hb dX8_turn_50 rfl (lv_at hl 1 rfl) ?_
        refine lv_iload_n hx hb dX8_turn_51 rfl (lv_at hl 0 rfl) ?_
        refine oh_cvv (As := [.int (9 : Int32)]) (rest := []) hC hP hD hS (mtX8_ready l a k D (oh_up s4 15 9 ((s4 15 9) - (1 : Int32))) (9 : Int32) (show oh_rdy _ (9 : Int32) from wm_rdy (M := M + 1) (by omega) (wm_15 (wm_dev (by omega) (wm_00 hw) hs4)) 1 (by decide))) (cwV 1 hts gX8_turn_X8_ready rfl rfl rfl (by decide +kernel) ⟨Nat.le_of_ble_eq_true rfl, Nat.le_of_ble_eq_true rfl⟩) 0 8 rfl rfl rfl hl.1 rfl (Nat.le_of_ble_eq_true rfl) dX8_turn_52 (fun s7 H locs hs7 hP hD hS => ?_)
        exact K40 _ (by subst hs7; exact ((if_neg c5).trans (if_pos c6)).symm) ls _ _ hP hD hS (lv_sub hl [0, 1] rfl)
    · refine lv_goto (tgt := 55) hx hb dX8_turn_28 (by decide) ?_
      exact K40 _ (if_pos c5).symm ls _ _ hP hD hS (lv_sub hl [0, 1] rfl)
  refine lv_if_ne (tgt := 31) hx hb dX8_turn_25 (by decide) (fun c1 => ?_) (fun c1 => ?_)
  · refine lv_aload_n hx hb dX8_turn_31 rfl (lv_at hl 1 rfl) ?_
    refine oh_get (v := .ref (a 15)) hC hP inX8_turn_X8 0 rfl rfl 30 (by decide) (by decide +kernel) rfl dX8_turn_32 ?_
    refine lv_iload_n hx hb dX8_turn_35 rfl (lv_at hl 0 rfl) ?_
    refine lv_dup2_11 hx hb dX8_turn_36 rfl rfl ?_
    refine oh_iald hC hP 15 0 rfl rfl (vp_in_iff.mpr (by decide)) dX8_turn_37 ?_
    refine lv_iconst (v := (1 : Int32)) hx hb dX8_turn_38 (by decide) ?_
    refine lv_isub hx hb dX8_turn_39 ?_
    refine oh_iast (σ' := (oh_up (oh_up σ 0 0 ((σ 0 0) + (1 : Int32))) 15 8 ((σ 15 8) - (1 : Int32)))) hC hP hD hS 15 0 rfl rfl (vp_in_iff.mpr (by decide)) rfl dX8_turn_40 (fun H locs hP hD hS => ?_)
    refine lv_aload_n hx hb dX8_turn_41 rfl (lv_at hl 1 rfl) ?_
    refine oh_get (v := .ref (a 15)) hC hP inX8_turn_X8 0 rfl rfl 30 (by decide) (by decide +kernel) rfl dX8_turn_42 ?_
    refine lv_iload_n hx hb dX8_turn_45 rfl (lv_at hl 0 rfl) ?_
    refine oh_iald hC hP 15 0 rfl rfl (vp_in_iff.mpr (by decide)) dX8_turn_46 ?_
    refine lv_if_ne (tgt := 55) hx hb dX8_turn_47 (by decide) (fun c2 => ?_) (fun c2 => ?_)
    · exact K41 _ ((if_neg c1).trans (if_neg c2)).symm ls _ _ hP hD hS (lv_sub hl [0, 1] rfl)
    · refine lv_aload_n hx hb dX8_turn_50 rfl (lv_at hl 1 rfl) ?_
      refine lv_iload_n hx hb dX8_turn_51 rfl (lv_at hl 0 rfl) ?_
      refine oh_cvv (As := [.int (8 : Int32)]) (rest := []) hC hP hD hS (mtX8_ready l a k D (oh_up (oh_up σ 0 0 ((σ 0 0) + (1 : Int32))) 15 8 ((σ 15 8) - (1 : Int32))) (8 : Int32) (show oh_rdy _ (8 : Int32) from wm_rdy (M := M) (by omega) (wm_15 (wm_00 hw)) 0 (by decide))) (cwV 1 hts gX8_turn_X8_ready rfl rfl rfl (by decide +kernel) ⟨Nat.le_of_ble_eq_true rfl, Nat.le_of_ble_eq_true rfl⟩) 0 8 rfl rfl rfl hl.1 rfl (Nat.le_of_ble_eq_true rfl) dX8_turn_52 (fun s3 H locs hs3 hP hD hS => ?_)
      exact K41 _ (by subst hs3; exact ((if_neg c1).trans (if_pos c2)).symm) ls _ _ hP hD hS (lv_sub hl [0, 1] rfl)
  · refine lv_goto (tgt := 55) hx hb dX8_turn_28 (by decide) ?_
    exact K41 _ (if_pos c1).symm ls _ _ hP hD hS (lv_sub hl [0, 1] rfl)
def oh_im : Nat → oh_St → oh_St
  | 0, τ => τ
  | n + 1, τ => spX8_turn (oh_im n τ)
def oh_mI (p1 : Int32) (τ : oh_St) (f : Nat) (z : oh_St) (i : Int32) : Prop := ∃ j : Nat, i = nI j ∧ j + f = p1.toNatClampNeg + 1 ∧ j ≤ p1.toNatClampNeg ∧ z = oh_im j τ
theorem oh_mI0 {p1 : Int32} {τ z : oh_St} {i : Int32} : ¬ oh_mI p1 τ 0 z i := by
  rintro ⟨j, -, h1, h2, -⟩
  omega
theorem oh_mIs {p1 : Int32} {τ z z' : oh_St} {i : Int32} {f : Nat} (hI : oh_mI p1 τ (f + 1) z i) (h : ¬ p1 ≤ i) (hz : z' = spX8_turn z) : oh_mI p1 τ f z' (i + 1) := by
  obtain ⟨j, rfl, h1, h2, rfl⟩ := hI
  have e : p1.toNatClampNeg = p1.toInt.toNat := rfl
  have hp : p1.toInt < 2147483648 := by
    have := Int32.toInt_lt p1
    omega
  rw [Int32.le_iff_toInt_le, nI_toInt (by omega)] at h
  exact ⟨j + 1, nI_1 j, by omega, by omega, hz⟩
theorem oh_mIw {p1 : Int32} {τ z : oh_St} {i : Int32} {f : Nat} {M : Nat} (hJ : ∀ j : Nat, j ≤ p1.toNatClampNeg → oh_WM M (oh_im j τ)) (hI : oh_mI p1 τ f z i) : oh_WM M z := by
  obtain ⟨j, -, -, h2, rfl⟩ := hI
  exact hJ j h2
-- OctalHouseModel.run
theorem inX8_run_X8 : ∀ w ∈ u_ws RX8 TX8 35, w ∈ wsX8_run := by decide +kernel
def lpX8_run (p1 : Int32) : Nat → oh_St → Int32 → Int32 × oh_St
  | 0, z, i => (i, z)
  | f + 1, z, i => (let k9 : Int32 × oh_St := (i, z); (if (z 0 12) = (0 : Int32) then (if p1 ≤ i then k9 else (if (z 0 7) = (0 : Int32) then (let s7 : oh_St := (spX8_turn z); (lpX8_run p1 f s7 (i + (1 : Int32)))) else k9)) else k9))
def spX8_run (σ : oh_St) (p1 : Int32) : Int32 × oh_St := (let x3 : Int32 := (if p1 < (0 : Int32) then (1 : Int32) else (if p1 ≤ (2000 : Int32) then (0 : Int32) else (1 : Int32))); (lpX8_run p1 (p1.toNatClampNeg + 1) (oh_up σ 0 12 x3) (0 : Int32)))
set_option maxHeartbeats 8000000 in
set_option maxRecDepth 100000 in
theorem mtX8_run (l : Launch) (a : Nat → Nat) (k : Nat → ClassId) (D : va_G) (σ : oh_St) (p1 : Int32) (hb13 : oh_B13) {M : Nat} (hM : M < 1999999000) (hJ : ∀ x12 : Int32, ∀ j : Nat, j ≤ p1.toNatClampNeg → oh_WM M (oh_im j (oh_up σ 0 12 x12))) : oh_Mi l yX8_run wsX8_run { frames := 6, cells := 0, slots := 0, locals := 139 } D (oh_ty k) (oh_V a k) [.ref (a 0), .int p1] σ (fun r u => r = (spX8_run σ p1).1 ∧ u = (spX8_run σ p1).2) := by
  refine oh_ini (cc := cX8_run) (nL := 3) (rt := some .int) (by decide) rfl (Nat.le_of_ble_eq_true rfl) ?_
  intro p e s m below meth c A ls hC hP hD hS hl
  obtain ⟨hx, hb, hml, hown, hts, hr, hlocks, hK, hN, hA⟩ := id hC
  have hl : lv_has ls 3 [(0, .ref (a 0)), (1, .int p1)] := hl
  refine lv_aload_n hx hb dX8_run_0 rfl (lv_at hl 0 rfl) ?_
  refine lv_iload_n hx hb dX8_run_1 rfl (lv_at hl 1 rfl) ?_
  have K10 : ∀ x3 : Int32, x3 = (if p1 < (0 : Int32) then (1 : Int32) else (if p1 ≤ (2000 : Int32) then (0 : Int32) else (1 : Int32))) → ∀ (ls : Array Slot) (H : Heap) (locs : List Loc), va_P D vwCl (oh_V a k σ) H → va_D A (oh_V a k σ) → va_S A s.heap H locs → lv_has ls 3 [(0, .ref (a 0)), (1, .int p1)] → W p l e ({ frames := 6, cells := 0, slots := 0, locals := 139 } : Room) s m (([.ref (a 0), .int p1] : List Value).toArray) below meth c H locs 0 0 (oh_Ei below (fun r u => r = (spX8_run σ p1).1 ∧ u = (spX8_run σ p1).2) D (oh_V a k) A [.ref (a 0), .int p1] s) (F0 m 17 ls [.int x3, .ref (a 0)]) := by
    intro x3 hx3 ls H locs hP hD hS hl
    refine oh_put (σ' := (oh_up σ 0 12 x3)) (v := .int x3) hC hP hD hS inX8_run_X8 tyX8 tyX8_ok nmX8 0 rfl rfl 0 (by decide) (by decide +kernel) rfl rfl rfl (by simp) rfl dX8_run_17 (fun H locs hP hD hS => ?_)
    refine lv_iconst (v := (0 : Int32)) hx hb dX8_run_20 (by decide) ?_
    refine lv_istore_n (lv' := [(2, .int (0 : Int32)), (0, .ref (a 0)), (1, .int p1)]) hx hb dX8_run_21 rfl hl (by decide) rfl (fun ls hl => ?_)
    have LP : ∀ (f : Nat) (z : oh_St) (i : Int32), oh_mI p1 (oh_up σ 0 12 x3) f z i → lpX8_run p1 f z i = spX8_run σ p1 → ∀ (ls : Array Slot) (H : Heap) (locs : List Loc), va_P D vwCl (oh_V a k z) H → va_D A (oh_V a k z) → va_S A s.heap H locs → lv_has ls 3 [(2, .int i), (0, .ref (a 0)), (1, .int p1)] → W p l e ({ frames := 6, cells := 0, slots := 0, locals := 139 } : Room) s m (([.ref (a 0), .int p1] : List Value).toArray) below meth c H locs 0 0 (oh_Ei below (fun r u => r = (spX8_run σ p1).1 ∧ u = (spX8_run σ p1).2) D (oh_V a k) A [.ref (a 0), .int p1] s) (F0 m 22 ls []) := by
      intro f
      induction f with
      | zero => intro z i hI; exact absurd hI (oh_mI0)
      | succ f ih =>
        intro z i hI hk ls H locs hP hD hS hl
        refine lv_aload_n hx hb dX8_run_22 rfl (lv_at hl 1 rfl) ?_
        refine oh_get (v := .int (z 0 12)) hC hP inX8_run_X8 0 rfl rfl 0 (by decide) (by decide +kernel) rfl dX8_run_23 ?_
        have K8 : (i, z) = spX8_run σ p1 → ∀ (ls : Array Slot) (H : Heap) (locs : List Loc), va_P D vwCl (oh_V a k z) H → va_D A (oh_V a k z) → va_S A s.heap H locs → lv_has ls 3 [(2, .int i), (0, .ref (a 0)), (1, .int p1)] → W p l e ({ frames := 6, cells := 0, slots := 0, locals := 139 } : Room) s m (([.ref (a 0), .int p1] : List Value).toArray) below meth c H locs 0 0 (oh_Ei below (fun r u => r = (spX8_run σ p1).1 ∧ u = (spX8_run σ p1).2) D (oh_V a k) A [.ref (a 0), .int p1] s) (F0 m 51 ls []) := by
          intro hK8 ls H locs hP hD hS hl
          refine lv_iload_n hx hb dX8_run_51 rfl (lv_at hl 0 rfl) ?_
          exact oh_reti (v := i) (u := z) hC hP hD hS (oh_pair (by exact hK8)) dX8_run_52
        refine lv_if_ne (tgt := 51) hx hb dX8_run_26 (by decide) (fun c4 => ?_) (fun c4 => ?_)
        · exact K8 (((if_neg c4).symm).trans hk) ls _ _ hP hD hS (lv_sub hl [0, 1, 2] rfl)
        · refine lv_iload_n hx hb dX8_run_29 rfl (lv_at hl 0 rfl) ?_
          refine lv_iload_n hx hb dX8_run_30 rfl (lv_at hl 2 rfl) ?_
          refine lv_icmp_ge (tgt := 51) hx hb dX8_run_31 (by decide) (fun c5 => ?_) (fun c5 => ?_)
          · exact K8 ((((if_pos c4).trans (if_pos c5)).symm).trans hk) ls _ _ hP hD hS (lv_sub hl [0, 1, 2] rfl)
          · refine lv_aload_n hx hb dX8_run_34 rfl (lv_at hl 1 rfl) ?_
            refine oh_get (v := .int (z 0 7)) hC hP inX8_run_X8 0 rfl rfl 10 (by decide) (by decide +kernel) rfl dX8_run_35 ?_
            refine lv_if_ne (tgt := 51) hx hb dX8_run_38 (by decide) (fun c6 => ?_) (fun c6 => ?_)
            · exact K8 (((((if_pos c4).trans (if_neg c5)).trans (if_neg c6)).symm).trans hk) ls _ _ hP hD hS (lv_sub hl [0, 1, 2] rfl)
            · refine lv_aload_n hx hb dX8_run_41 rfl (lv_at hl 1 rfl) ?_
              refine oh_cvv (As := []) (rest := []) hC hP hD hS (mtX8_turn l a k D z hb13 hM (oh_mIw (hJ _) hI)) (cwV 0 hts gX8_run_X8_turn rfl rfl rfl (by decide +kernel) ⟨Nat.le_of_ble_eq_true rfl, Nat.le_of_ble_eq_true rfl⟩) 0 8 rfl rfl rfl hl.1 rfl (Nat.le_of_ble_eq_true rfl) dX8_run_42 (fun s7 H locs hs7 hP hD hS => ?_)
              refine lv_iinc (v := (i + (1 : Int32))) (lv' := [(2, .int (i + (1 : Int32))), (0, .ref (a 0)), (1, .int p1)]) hx hb dX8_run_45 hl (k := 0) rfl (by first | rfl | decide) (by decide) rfl (fun ls hl => ?_)
              refine lv_goto (tgt := 22) hx hb dX8_run_48 (by decide) ?_
              exact ih s7 (i + (1 : Int32)) (oh_mIs hI c5 hs7) ((by subst hs7; exact ((((if_pos c4).trans (if_neg c5)).trans (if_pos c6)).symm).trans hk)) ls _ _ hP hD hS (lv_sub hl [0, 1, 2] rfl)
    exact LP (p1.toNatClampNeg + 1) (oh_up σ 0 12 x3) (0 : Int32) ⟨0, rfl, by omega, by omega, rfl⟩ ((by subst hx3; exact rfl)) ls _ _ hP hD hS (lv_sub hl [0, 1, 2] rfl)
  refine lv_if_lt (tgt := 12) hx hb dX8_run_2 (by decide) (fun c1 => ?_) (fun c1 => ?_)
  · refine lv_iconst (v := (1 : Int32)) hx hb dX8_run_12 (by decide) ?_
    refine lv_goto (tgt := 17) hx hb dX8_run_13 (by decide) ?_
    exact K10 _ (if_pos c1).symm ls _ _ hP hD hS (lv_sub hl [0, 1] rfl)
  · refine lv_iload_n hx hb dX8_run_5 rfl (lv_at hl 1 rfl) ?_
    refine lv_sipush (v := (2000 : Int32)) hx hb dX8_run_6 (by decide) ?_
    refine lv_icmp_le (tgt := 16) hx hb dX8_run_9 (by decide) (fun c2 => ?_) (fun c2 => ?_)
    · refine lv_iconst (v := (0 : Int32)) hx hb dX8_run_16 (by decide) ?_
      exact K10 _ ((if_neg c1).trans (if_pos c2)).symm ls _ _ hP hD hS (lv_sub hl [0, 1] rfl)
    · refine lv_iconst (v := (1 : Int32)) hx hb dX8_run_12 (by decide) ?_
      refine lv_goto (tgt := 17) hx hb dX8_run_13 (by decide) ?_
      exact K10 _ ((if_neg c1).trans (if_neg c2)).symm ls _ _ hP hD hS (lv_sub hl [0, 1] rfl)
