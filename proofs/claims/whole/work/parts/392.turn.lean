theorem wm_00 {M : Nat} {τ : oh_St} {v : Int32} (h : oh_WM M τ) : oh_WM M (oh_up τ 0 0 v) := h
theorem wm_dev {FR : oh_St → Int32 → oh_St} (hwR : ∀ (M : Nat) (z : oh_St) (p : Int32), M < 2000000000 → oh_WM M z → oh_WM (M + 1) (FR z p)) {M : Nat} {τ s : oh_St} {d : Nat} {v p : Int32} {c1 c2 : Prop} [Decidable c1] [Decidable c2] (hM : M < 2000000000) (h : oh_WM M τ) (hs : s = (if c1 then τ else (if c2 then FR (oh_up τ 15 d v) p else oh_up τ 15 d v))) : oh_WM (M + 1) s := by
  rw [hs]
  split
  · exact wm_mono h (Nat.le_succ M)
  · split
    · exact hwR M _ _ hM (wm_15 h)
    · exact wm_mono (wm_15 h) (Nat.le_succ M)
def oh_tI (M f : Nat) (z : oh_St) (i : Int32) : Prop := oh_WM M z ∧ ∃ j : Nat, i = nI (6 + j) ∧ j + f = 7 ∧ j ≤ 6
theorem oh_tI0 {M : Nat} {z : oh_St} {i : Int32} : ¬ oh_tI M 0 z i := by
  rintro ⟨-, j, -, h1, h2⟩
  omega
theorem oh_tIs {M f : Nat} {z : oh_St} {i : Int32} (hI : oh_tI M (f + 1) z i) (c : ¬ (12 : Int32) ≤ i) : oh_tI M f z (i + 1) := by
  obtain ⟨h, j, rfl, h1, h2⟩ := hI
  rw [Int32.le_iff_toInt_le, nI_toInt (by omega)] at c
  have : (12 : Int32).toInt = 12 := rfl
  exact ⟨h, j + 1, nI_1 (6 + j), by omega, by omega⟩
theorem oh_tI12 {M f : Nat} {z : oh_St} {i : Int32} (hI : oh_tI M f z i) (c : ¬ (12 : Int32) ≤ i) : vp_in i 12 := by
  obtain ⟨h, j, rfl, h1, h2⟩ := hI
  rw [Int32.le_iff_toInt_le, nI_toInt (by omega)] at c
  have : (12 : Int32).toInt = 12 := rfl
  exact vp_in_nI (by omega) (by decide)
theorem oh_tIn {M f : Nat} {z : oh_St} {i : Int32} (hI : oh_tI M f z i) : ¬ i < 0 := by
  obtain ⟨h, j, rfl, h1, h2⟩ := hI
  exact nI_pos (by omega)
theorem oh_sv {z : oh_St} {i x26 : Int32} (hx : x26 = (if (z 0 9) = (0 : Int32) then (0 : Int32) else (if (z 0 6) = (0 : Int32) then (if (12 : Int32) ≤ i then (0 : Int32) else (if (z 4 i.toNatClampNeg) = (0 : Int32) then (0 : Int32) else (1 : Int32))) else (0 : Int32)))) (c : ¬ x26 = 0) : ¬ (12 : Int32) ≤ i := by
  intro h
  apply c
  rw [hx]
  (repeat' split) <;> first | rfl | contradiction
def oh_B13 (FD : oh_St → Int32 → Int32 → oh_St) : Prop := ∀ (z : oh_St) (w g : Int32), z 0 13 = 0 → FD z w g 0 13 = 0 ∨ FD z w g 0 13 = 1
theorem oh_t13 {FD : oh_St → Int32 → Int32 → oh_St} (hb : oh_B13 FD) {c : Prop} [Decidable c] {s z1 z2 : oh_St} {w1 w2 g1 g2 : Int32} (h1 : z1 0 13 = 0) (h2 : z2 0 13 = 0) (hs : s = if c then FD z1 w1 g1 else FD z2 w2 g2) : s 0 13 = 0 ∨ s 0 13 = 1 := by
  rw [hs]
  by_cases h : c
  · rw [if_pos h]; exact hb _ _ _ h1
  · rw [if_neg h]; exact hb _ _ _ h2
-- OctalHouseModel.turn
theorem inX8_turn_X8 : ∀ w ∈ u_ws RX8 TX8 35, w ∈ wsX8_turn := by decide +kernel
def spX8_turn_k37 (FD : oh_St → Int32 → Int32 → oh_St) (z : oh_St) (i : Int32) : oh_St := (let x26 : Int32 := (if (z 0 9) = (0 : Int32) then (0 : Int32) else (if (z 0 6) = (0 : Int32) then (if (12 : Int32) ≤ i then (0 : Int32) else (if (z 4 i.toNatClampNeg) = (0 : Int32) then (0 : Int32) else (1 : Int32))) else (0 : Int32))); (let s33 : oh_St := (if x26 = (0 : Int32) then (let r28 : Int32 := (spX8_more (z 0 3)); (let r29 : Int32 := (spX8_at (oh_up (oh_up z 0 13 (0 : Int32)) 0 3 r28) (z 0 3)); (let s30 : oh_St := (FD (oh_up (oh_up z 0 13 (0 : Int32)) 0 3 r28) r29 ((z 0 3) &&& (31744 : Int32))); s30))) else (let r31 : Int32 := (spX8_at (oh_up (oh_up (oh_up (oh_up z 0 13 (0 : Int32)) 4 i.toNatClampNeg (0 : Int32)) 0 1 ((z 0 1) + (1 : Int32))) 0 2 i) i); (let s32 : oh_St := (FD (oh_up (oh_up (oh_up (oh_up z 0 13 (0 : Int32)) 4 i.toNatClampNeg (0 : Int32)) 0 1 ((z 0 1) + (1 : Int32))) 0 2 i) r31 (0 : Int32)); s32))); (oh_up s33 0 6 (s33 0 13))))
def lpX8_turn (FD : oh_St → Int32 → Int32 → oh_St) : Nat → oh_St → Int32 → oh_St
  | 0, z, i => z
  | f + 1, z, i => (if (12 : Int32) ≤ i then (spX8_turn_k37 FD z i) else (if (z 2 i.toNatClampNeg) = (0 : Int32) then (lpX8_turn FD f z (i + (1 : Int32))) else (if (z 3 i.toNatClampNeg) = (0 : Int32) then (lpX8_turn FD f z (i + (1 : Int32))) else (spX8_turn_k37 FD z i))))
def spX8_turn_k38 (FR FC : oh_St → Int32 → oh_St) (FD : oh_St → Int32 → Int32 → oh_St) (s16 : oh_St) : oh_St := (let s17 : oh_St := (FC s16 (6 : Int32)); (let s18 : oh_St := (FC s17 (7 : Int32)); (lpX8_turn FD 7 s18 (6 : Int32))))
def spX8_turn_k39 (FR FC : oh_St → Int32 → oh_St) (FD : oh_St → Int32 → Int32 → oh_St) (s12 : oh_St) : oh_St := (let s16 : oh_St := (if (s12 15 11) = (0 : Int32) then s12 else (if ((s12 15 11) - (1 : Int32)) = (0 : Int32) then (let s15 : oh_St := (FR (oh_up s12 15 11 ((s12 15 11) - (1 : Int32))) (11 : Int32)); s15) else (oh_up s12 15 11 ((s12 15 11) - (1 : Int32))))); (spX8_turn_k38 FR FC FD s16))
def spX8_turn_k40 (FR FC : oh_St → Int32 → oh_St) (FD : oh_St → Int32 → Int32 → oh_St) (s8 : oh_St) : oh_St := (let s12 : oh_St := (if (s8 15 10) = (0 : Int32) then s8 else (if ((s8 15 10) - (1 : Int32)) = (0 : Int32) then (let s11 : oh_St := (FR (oh_up s8 15 10 ((s8 15 10) - (1 : Int32))) (10 : Int32)); s11) else (oh_up s8 15 10 ((s8 15 10) - (1 : Int32))))); (spX8_turn_k39 FR FC FD s12))
def spX8_turn_k41 (FR FC : oh_St → Int32 → oh_St) (FD : oh_St → Int32 → Int32 → oh_St) (s4 : oh_St) : oh_St := (let s8 : oh_St := (if (s4 15 9) = (0 : Int32) then s4 else (if ((s4 15 9) - (1 : Int32)) = (0 : Int32) then (let s7 : oh_St := (FR (oh_up s4 15 9 ((s4 15 9) - (1 : Int32))) (9 : Int32)); s7) else (oh_up s4 15 9 ((s4 15 9) - (1 : Int32))))); (spX8_turn_k40 FR FC FD s8))
def spX8_turn (FR FC : oh_St → Int32 → oh_St) (FD : oh_St → Int32 → Int32 → oh_St) (σ : oh_St) : oh_St := (let s4 : oh_St := (if (σ 15 8) = (0 : Int32) then (oh_up σ 0 0 ((σ 0 0) + (1 : Int32))) else (if ((σ 15 8) - (1 : Int32)) = (0 : Int32) then (let s3 : oh_St := (FR (oh_up (oh_up σ 0 0 ((σ 0 0) + (1 : Int32))) 15 8 ((σ 15 8) - (1 : Int32))) (8 : Int32)); s3) else (oh_up (oh_up σ 0 0 ((σ 0 0) + (1 : Int32))) 15 8 ((σ 15 8) - (1 : Int32))))); (spX8_turn_k41 FR FC FD s4))
set_option maxHeartbeats 2000000 in
set_option maxRecDepth 100000 in
theorem mtX8_turnF (l : Launch) (a : Nat → Nat) (k : Nat → ClassId) (D : va_G) (FR FC : oh_St → Int32 → oh_St) (FD : oh_St → Int32 → Int32 → oh_St) (hFR : ∀ (z : oh_St) (p1 : Int32), oh_rdy z p1 → oh_Mv l yX8_ready wsX8_ready { frames := 0, cells := 0, slots := 0, locals := 0 } D (oh_ty k) (oh_V a k) [.ref (a 0), .int p1] z (fun u => u = FR z p1)) (hFC : ∀ (z : oh_St) (p1 : Int32), vp_in p1 12 → ¬ z 6 p1.toNatClampNeg < 0 → oh_Mv l yX8_channel wsX8_channel { frames := 1, cells := 0, slots := 0, locals := 22 } D (oh_ty k) (oh_V a k) [.ref (a 0), .int p1] z (fun u => u = FC z p1)) (hFD : ∀ (z : oh_St) (p1 p2 : Int32), ¬ p2 < 0 → ¬ z 0 3 < 0 → oh_Dn z → z 0 9 = 0 ∨ z 0 9 = 1 → oh_Mv l yX8_does wsX8_does { frames := 4, cells := 0, slots := 0, locals := 94 } D (oh_ty k) (oh_V a k) [.ref (a 0), .int p1, .int p2] z (fun u => u = FD z p1 p2)) (hwR : ∀ (M : Nat) (z : oh_St) (p : Int32), M < 2000000000 → oh_WM M z → oh_WM (M + 1) (FR z p)) (hwC : ∀ (M : Nat) (z : oh_St) (p : Int32), oh_WM M z → oh_WM M (FC z p)) (σ : oh_St) (hb13 : oh_B13 FD) {M : Nat} (hM : M < 1999999000) (hw : oh_WM M σ) : oh_Mv l yX8_turn wsX8_turn { frames := 5, cells := 0, slots := 0, locals := 116 } D (oh_ty k) (oh_V a k) [.ref (a 0)] σ (fun u => u = spX8_turn FR FC FD σ) := by
  refine oh_inv (cc := cX8_turn) (nL := 4) (rt := none) (by decide) rfl (Nat.le_of_ble_eq_true rfl) ?_
  intro p e s m below meth c A ls hC hP hD hS hl
  obtain ⟨hx, hb, hml, hown, hts, hr, hlocks, hK, hN, hA⟩ := id hC
  have hl : lv_has ls 4 [(0, .ref (a 0))] := hl
  refine lv_aload_n hx hb dX8_turn_0 rfl (lv_at hl 0 rfl) ?_
  refine lv_dup hx hb dX8_turn_1 rfl ?_
  refine oh_get (v := .int (σ 0 0)) hC hP inX8_turn_X8 0 rfl rfl 14 (by decide) (by decide +kernel) rfl dX8_turn_2 ?_
  refine lv_iconst (v := (1 : Int32)) hx hb dX8_turn_5 (by decide) ?_
  refine lv_iadd hx hb dX8_turn_6 ?_
  refine oh_put (σ' := (oh_up σ 0 0 ((σ 0 0) + (1 : Int32)))) (v := .int ((σ 0 0) + (1 : Int32))) hC hP hD hS inX8_turn_X8 tyX8 tyX8_ok nmX8 0 rfl rfl 14 (by decide) (by decide +kernel) rfl rfl rfl (by simp) rfl dX8_turn_7 (fun H locs hP hD hS => ?_)
  refine lv_bipush (v := (8 : Int32)) hx hb dX8_turn_10 (by decide) ?_
  refine lv_istore_n (lv' := [(1, .int (8 : Int32)), (0, .ref (a 0))]) hx hb dX8_turn_12 rfl hl (by decide) rfl (fun ls hl => ?_)
  refine lv_iload_n hx hb dX8_turn_13 rfl (lv_at hl 0 rfl) ?_
  refine lv_bipush (v := (12 : Int32)) hx hb dX8_turn_14 (by decide) ?_
  refine lv_icmp_ge (tgt := 61) hx hb dX8_turn_16 (by decide) (fun c0 => absurd c0 (by decide)) (fun _ => ?_)
  refine lv_aload_n hx hb dX8_turn_19 rfl (lv_at hl 1 rfl) ?_
  refine oh_get (v := .ref (a 15)) hC hP inX8_turn_X8 0 rfl rfl 30 (by decide) (by decide +kernel) rfl dX8_turn_20 ?_
  refine lv_iload_n hx hb dX8_turn_23 rfl (lv_at hl 0 rfl) ?_
  refine oh_iald hC hP 15 0 rfl rfl (vp_in_iff.mpr (by decide)) dX8_turn_24 ?_
  have K41 : ∀ s4 : oh_St, s4 = (if (σ 15 8) = (0 : Int32) then (oh_up σ 0 0 ((σ 0 0) + (1 : Int32))) else (if ((σ 15 8) - (1 : Int32)) = (0 : Int32) then (let s3 : oh_St := (FR (oh_up (oh_up σ 0 0 ((σ 0 0) + (1 : Int32))) 15 8 ((σ 15 8) - (1 : Int32))) (8 : Int32)); s3) else (oh_up (oh_up σ 0 0 ((σ 0 0) + (1 : Int32))) 15 8 ((σ 15 8) - (1 : Int32))))) → ∀ (ls : Array Slot) (H : Heap) (locs : List Loc), va_P D vwCl (oh_V a k s4) H → va_D A (oh_V a k s4) → va_S A s.heap H locs → lv_has ls 4 [(1, .int (8 : Int32)), (0, .ref (a 0))] → W p l e ({ frames := 5, cells := 0, slots := 0, locals := 116 } : Room) s m (([.ref (a 0)] : List Value).toArray) below meth c H locs 0 0 (oh_Ev below (fun u => u = spX8_turn FR FC FD σ) D (oh_V a k) A [.ref (a 0)] s) (F0 m 55 ls []) := by
    intro s4 hs4 ls H locs hP hD hS hl
    have hK41 : spX8_turn_k41 FR FC FD s4 = spX8_turn FR FC FD σ := by
      subst hs4
      exact rfl
    refine lv_iinc (v := (9 : Int32)) (lv' := [(1, .int (9 : Int32)), (0, .ref (a 0))]) hx hb dX8_turn_55 hl (k := 0) rfl (by first | rfl | decide) (by decide) rfl (fun ls hl => ?_)
    refine lv_goto (tgt := 13) hx hb dX8_turn_58 (by decide) ?_
    refine lv_iload_n hx hb dX8_turn_13 rfl (lv_at hl 0 rfl) ?_
    refine lv_bipush (v := (12 : Int32)) hx hb dX8_turn_14 (by decide) ?_
    refine lv_icmp_ge (tgt := 61) hx hb dX8_turn_16 (by decide) (fun c0 => absurd c0 (by decide)) (fun _ => ?_)
    refine lv_aload_n hx hb dX8_turn_19 rfl (lv_at hl 1 rfl) ?_
    refine oh_get (v := .ref (a 15)) hC hP inX8_turn_X8 0 rfl rfl 30 (by decide) (by decide +kernel) rfl dX8_turn_20 ?_
    refine lv_iload_n hx hb dX8_turn_23 rfl (lv_at hl 0 rfl) ?_
    refine oh_iald hC hP 15 0 rfl rfl (vp_in_iff.mpr (by decide)) dX8_turn_24 ?_
    have K40 : ∀ s8 : oh_St, s8 = (if (s4 15 9) = (0 : Int32) then s4 else (if ((s4 15 9) - (1 : Int32)) = (0 : Int32) then (let s7 : oh_St := (FR (oh_up s4 15 9 ((s4 15 9) - (1 : Int32))) (9 : Int32)); s7) else (oh_up s4 15 9 ((s4 15 9) - (1 : Int32))))) → ∀ (ls : Array Slot) (H : Heap) (locs : List Loc), va_P D vwCl (oh_V a k s8) H → va_D A (oh_V a k s8) → va_S A s.heap H locs → lv_has ls 4 [(1, .int (9 : Int32)), (0, .ref (a 0))] → W p l e ({ frames := 5, cells := 0, slots := 0, locals := 116 } : Room) s m (([.ref (a 0)] : List Value).toArray) below meth c H locs 0 0 (oh_Ev below (fun u => u = spX8_turn FR FC FD σ) D (oh_V a k) A [.ref (a 0)] s) (F0 m 55 ls []) := by
      intro s8 hs8 ls H locs hP hD hS hl
      have hK40 : spX8_turn_k40 FR FC FD s8 = spX8_turn FR FC FD σ := by
        subst hs8
        exact hK41
      refine lv_iinc (v := (10 : Int32)) (lv' := [(1, .int (10 : Int32)), (0, .ref (a 0))]) hx hb dX8_turn_55 hl (k := 0) rfl (by first | rfl | decide) (by decide) rfl (fun ls hl => ?_)
      refine lv_goto (tgt := 13) hx hb dX8_turn_58 (by decide) ?_
      refine lv_iload_n hx hb dX8_turn_13 rfl (lv_at hl 0 rfl) ?_
      refine lv_bipush (v := (12 : Int32)) hx hb dX8_turn_14 (by decide) ?_
      refine lv_icmp_ge (tgt := 61) hx hb dX8_turn_16 (by decide) (fun c0 => absurd c0 (by decide)) (fun _ => ?_)
      refine lv_aload_n hx hb dX8_turn_19 rfl (lv_at hl 1 rfl) ?_
      refine oh_get (v := .ref (a 15)) hC hP inX8_turn_X8 0 rfl rfl 30 (by decide) (by decide +kernel) rfl dX8_turn_20 ?_
      refine lv_iload_n hx hb dX8_turn_23 rfl (lv_at hl 0 rfl) ?_
      refine oh_iald hC hP 15 0 rfl rfl (vp_in_iff.mpr (by decide)) dX8_turn_24 ?_
      have K39 : ∀ s12 : oh_St, s12 = (if (s8 15 10) = (0 : Int32) then s8 else (if ((s8 15 10) - (1 : Int32)) = (0 : Int32) then (let s11 : oh_St := (FR (oh_up s8 15 10 ((s8 15 10) - (1 : Int32))) (10 : Int32)); s11) else (oh_up s8 15 10 ((s8 15 10) - (1 : Int32))))) → ∀ (ls : Array Slot) (H : Heap) (locs : List Loc), va_P D vwCl (oh_V a k s12) H → va_D A (oh_V a k s12) → va_S A s.heap H locs → lv_has ls 4 [(1, .int (10 : Int32)), (0, .ref (a 0))] → W p l e ({ frames := 5, cells := 0, slots := 0, locals := 116 } : Room) s m (([.ref (a 0)] : List Value).toArray) below meth c H locs 0 0 (oh_Ev below (fun u => u = spX8_turn FR FC FD σ) D (oh_V a k) A [.ref (a 0)] s) (F0 m 55 ls []) := by
        intro s12 hs12 ls H locs hP hD hS hl
        have hK39 : spX8_turn_k39 FR FC FD s12 = spX8_turn FR FC FD σ := by
          subst hs12
          exact hK40
        refine lv_iinc (v := (11 : Int32)) (lv' := [(1, .int (11 : Int32)), (0, .ref (a 0))]) hx hb dX8_turn_55 hl (k := 0) rfl (by first | rfl | decide) (by decide) rfl (fun ls hl => ?_)
        refine lv_goto (tgt := 13) hx hb dX8_turn_58 (by decide) ?_
        refine lv_iload_n hx hb dX8_turn_13 rfl (lv_at hl 0 rfl) ?_
        refine lv_bipush (v := (12 : Int32)) hx hb dX8_turn_14 (by decide) ?_
        refine lv_icmp_ge (tgt := 61) hx hb dX8_turn_16 (by decide) (fun c0 => absurd c0 (by decide)) (fun _ => ?_)
        refine lv_aload_n hx hb dX8_turn_19 rfl (lv_at hl 1 rfl) ?_
        refine oh_get (v := .ref (a 15)) hC hP inX8_turn_X8 0 rfl rfl 30 (by decide) (by decide +kernel) rfl dX8_turn_20 ?_
        refine lv_iload_n hx hb dX8_turn_23 rfl (lv_at hl 0 rfl) ?_
        refine oh_iald hC hP 15 0 rfl rfl (vp_in_iff.mpr (by decide)) dX8_turn_24 ?_
        have K38 : ∀ s16 : oh_St, s16 = (if (s12 15 11) = (0 : Int32) then s12 else (if ((s12 15 11) - (1 : Int32)) = (0 : Int32) then (let s15 : oh_St := (FR (oh_up s12 15 11 ((s12 15 11) - (1 : Int32))) (11 : Int32)); s15) else (oh_up s12 15 11 ((s12 15 11) - (1 : Int32))))) → ∀ (ls : Array Slot) (H : Heap) (locs : List Loc), va_P D vwCl (oh_V a k s16) H → va_D A (oh_V a k s16) → va_S A s.heap H locs → lv_has ls 4 [(1, .int (11 : Int32)), (0, .ref (a 0))] → W p l e ({ frames := 5, cells := 0, slots := 0, locals := 116 } : Room) s m (([.ref (a 0)] : List Value).toArray) below meth c H locs 0 0 (oh_Ev below (fun u => u = spX8_turn FR FC FD σ) D (oh_V a k) A [.ref (a 0)] s) (F0 m 55 ls []) := by
          intro s16 hs16 ls H locs hP hD hS hl
          have hK38 : spX8_turn_k38 FR FC FD s16 = spX8_turn FR FC FD σ := by
            subst hs16
            exact hK39
          refine lv_iinc (v := (12 : Int32)) (lv' := [(1, .int (12 : Int32)), (0, .ref (a 0))]) hx hb dX8_turn_55 hl (k := 0) rfl (by first | rfl | decide) (by decide) rfl (fun ls hl => ?_)
          refine lv_goto (tgt := 13) hx hb dX8_turn_58 (by decide) ?_
          refine lv_iload_n hx hb dX8_turn_13 rfl (lv_at hl 0 rfl) ?_
          refine lv_bipush (v := (12 : Int32)) hx hb dX8_turn_14 (by decide) ?_
          refine lv_icmp_ge (tgt := 61) hx hb dX8_turn_16 (by decide) (fun _ => ?_) (fun c0 => absurd c0 (by decide))
          refine lv_aload_n hx hb dX8_turn_61 rfl (lv_at hl 1 rfl) ?_
          refine lv_bipush (v := (6 : Int32)) hx hb dX8_turn_62 (by decide) ?_
          refine oh_cvv (As := [.int (6 : Int32)]) (rest := []) hC hP hD hS (hFC s16 (6 : Int32) (vp_in_iff.mpr (by decide)) ((wm_dev hwR (M := M + 1 + 1 + 1) (by omega) (wm_dev hwR (M := M + 1 + 1) (by omega) (wm_dev hwR (M := M + 1) (by omega) (wm_dev hwR (by omega) (wm_00 hw) hs4) hs8) hs12) hs16).2.2.2.1 _)) (cwV 1 hts gX8_turn_X8_channel rfl rfl rfl (by decide +kernel) ⟨Nat.le_of_ble_eq_true rfl, Nat.le_of_ble_eq_true rfl⟩) 0 8 rfl rfl rfl hl.1 rfl (Nat.le_of_ble_eq_true rfl) dX8_turn_64 (fun s17 H locs hs17 hP hD hS => ?_)
          refine lv_aload_n hx hb dX8_turn_67 rfl (lv_at hl 1 rfl) ?_
          refine lv_bipush (v := (7 : Int32)) hx hb dX8_turn_68 (by decide) ?_
          refine oh_cvv (As := [.int (7 : Int32)]) (rest := []) hC hP hD hS (hFC s17 (7 : Int32) (vp_in_iff.mpr (by decide)) (by rw [hs17]; exact (hwC _ _ _ (wm_dev hwR (M := M + 1 + 1 + 1) (by omega) (wm_dev hwR (M := M + 1 + 1) (by omega) (wm_dev hwR (M := M + 1) (by omega) (wm_dev hwR (by omega) (wm_00 hw) hs4) hs8) hs12) hs16)).2.2.2.1 _)) (cwV 1 hts gX8_turn_X8_channel rfl rfl rfl (by decide +kernel) ⟨Nat.le_of_ble_eq_true rfl, Nat.le_of_ble_eq_true rfl⟩) 0 8 rfl rfl rfl hl.1 rfl (Nat.le_of_ble_eq_true rfl) dX8_turn_70 (fun s18 H locs hs18 hP hD hS => ?_)
          refine lv_bipush (v := (6 : Int32)) hx hb dX8_turn_73 (by decide) ?_
          refine lv_istore_n (lv' := [(1, .int (6 : Int32)), (0, .ref (a 0))]) hx hb dX8_turn_75 rfl hl (by decide) rfl (fun ls hl => ?_)
          have LP : ∀ (f : Nat) (z : oh_St) (i : Int32), oh_tI (M + 1 + 1 + 1 + 1) f z i → lpX8_turn FD f z i = spX8_turn FR FC FD σ → ∀ (ls : Array Slot) (H : Heap) (locs : List Loc), va_P D vwCl (oh_V a k z) H → va_D A (oh_V a k z) → va_S A s.heap H locs → lv_has ls 4 [(1, .int i), (0, .ref (a 0))] → W p l e ({ frames := 5, cells := 0, slots := 0, locals := 116 } : Room) s m (([.ref (a 0)] : List Value).toArray) below meth c H locs 0 0 (oh_Ev below (fun u => u = spX8_turn FR FC FD σ) D (oh_V a k) A [.ref (a 0)] s) (F0 m 76 ls []) := by
            intro f
            induction f with
            | zero => intro z i hI; exact absurd hI (oh_tI0)
            | succ f ih =>
              intro z i hI hk ls H locs hP hD hS hl
              refine lv_iload_n hx hb dX8_turn_76 rfl (lv_at hl 0 rfl) ?_
              refine lv_bipush (v := (12 : Int32)) hx hb dX8_turn_77 (by decide) ?_
              have K36 : spX8_turn_k37 FD z i = spX8_turn FR FC FD σ → ∀ (ls : Array Slot) (H : Heap) (locs : List Loc), va_P D vwCl (oh_V a k z) H → va_D A (oh_V a k z) → va_S A s.heap H locs → lv_has ls 4 [(1, .int i), (0, .ref (a 0))] → W p l e ({ frames := 5, cells := 0, slots := 0, locals := 116 } : Room) s m (([.ref (a 0)] : List Value).toArray) below meth c H locs 0 0 (oh_Ev below (fun u => u = spX8_turn FR FC FD σ) D (oh_V a k) A [.ref (a 0)] s) (F0 m 106 ls []) := by
                intro hK36 ls H locs hP hD hS hl
                refine lv_aload_n hx hb dX8_turn_106 rfl (lv_at hl 1 rfl) ?_
                refine oh_get (v := .int (z 0 9)) hC hP inX8_turn_X8 0 rfl rfl 7 (by decide) (by decide +kernel) rfl dX8_turn_107 ?_
                have K35 : ∀ x26 : Int32, x26 = (if (z 0 9) = (0 : Int32) then (0 : Int32) else (if (z 0 6) = (0 : Int32) then (if (12 : Int32) ≤ i then (0 : Int32) else (if (z 4 i.toNatClampNeg) = (0 : Int32) then (0 : Int32) else (1 : Int32))) else (0 : Int32))) → ∀ (ls : Array Slot) (H : Heap) (locs : List Loc), va_P D vwCl (oh_V a k z) H → va_D A (oh_V a k z) → va_S A s.heap H locs → lv_has ls 4 [(1, .int i), (0, .ref (a 0))] → W p l e ({ frames := 5, cells := 0, slots := 0, locals := 116 } : Room) s m (([.ref (a 0)] : List Value).toArray) below meth c H locs 0 0 (oh_Ev below (fun u => u = spX8_turn FR FC FD σ) D (oh_V a k) A [.ref (a 0)] s) (F0 m 140 ls [.int x26]) := by
                  intro x26 hx26 ls H locs hP hD hS hl
                  refine lv_istore_n (lv' := [(2, .int x26), (1, .int i), (0, .ref (a 0))]) hx hb dX8_turn_140 rfl hl (by decide) rfl (fun ls hl => ?_)
                  refine lv_aload_n hx hb dX8_turn_141 rfl (lv_at hl 2 rfl) ?_
                  refine lv_iconst (v := (0 : Int32)) hx hb dX8_turn_142 (by decide) ?_
                  refine oh_put (σ' := (oh_up z 0 13 (0 : Int32))) (v := .int (0 : Int32)) hC hP hD hS inX8_turn_X8 tyX8 tyX8_ok nmX8 0 rfl rfl 9 (by decide) (by decide +kernel) rfl (oh_nb (by decide)) (oh_fb (by decide)) (by simp) rfl dX8_turn_143 (fun H locs hP hD hS => ?_)
                  refine lv_iload_n hx hb dX8_turn_146 rfl (lv_at hl 0 rfl) ?_
                  have K34 : ∀ s33 : oh_St, s33 = (if x26 = (0 : Int32) then (let r28 : Int32 := (spX8_more (z 0 3)); (let r29 : Int32 := (spX8_at (oh_up (oh_up z 0 13 (0 : Int32)) 0 3 r28) (z 0 3)); (let s30 : oh_St := (FD (oh_up (oh_up z 0 13 (0 : Int32)) 0 3 r28) r29 ((z 0 3) &&& (31744 : Int32))); s30))) else (let r31 : Int32 := (spX8_at (oh_up (oh_up (oh_up (oh_up z 0 13 (0 : Int32)) 4 i.toNatClampNeg (0 : Int32)) 0 1 ((z 0 1) + (1 : Int32))) 0 2 i) i); (let s32 : oh_St := (FD (oh_up (oh_up (oh_up (oh_up z 0 13 (0 : Int32)) 4 i.toNatClampNeg (0 : Int32)) 0 1 ((z 0 1) + (1 : Int32))) 0 2 i) r31 (0 : Int32)); s32))) → ∀ (ls : Array Slot) (H : Heap) (locs : List Loc), va_P D vwCl (oh_V a k s33) H → va_D A (oh_V a k s33) → va_S A s.heap H locs → lv_has ls 4 [(2, .int x26), (1, .int i), (0, .ref (a 0))] → W p l e ({ frames := 5, cells := 0, slots := 0, locals := 116 } : Room) s m (([.ref (a 0)] : List Value).toArray) below meth c H locs 0 0 (oh_Ev below (fun u => u = spX8_turn FR FC FD σ) D (oh_V a k) A [.ref (a 0)] s) (F0 m 215 ls []) := by
                    intro s33 hs33 ls H locs hP hD hS hl
                    refine lv_aload_n hx hb dX8_turn_215 rfl (lv_at hl 2 rfl) ?_
                    refine lv_aload_n hx hb dX8_turn_216 rfl (lv_at hl 2 rfl) ?_
                    refine oh_get (v := .int (s33 0 13)) hC hP inX8_turn_X8 0 rfl rfl 9 (by decide) (by decide +kernel) rfl dX8_turn_217 ?_
                    refine oh_put (σ' := (oh_up s33 0 6 (s33 0 13))) (v := .int (s33 0 13)) hC hP hD hS inX8_turn_X8 tyX8 tyX8_ok nmX8 0 rfl rfl 8 (by decide) (by decide +kernel) rfl (oh_nb (oh_t13 hb13 rfl rfl hs33)) (oh_fb (oh_t13 hb13 rfl rfl hs33)) (by simp) rfl dX8_turn_220 (fun H locs hP hD hS => ?_)
                    exact oh_retv (u := (oh_up s33 0 6 (s33 0 13))) hC hP hD hS (by subst hs33 hx26; exact hK36) dX8_turn_223
                  refine lv_if_eq (tgt := 185) hx hb dX8_turn_147 (by decide) (fun c27 => ?_) (fun c27 => ?_)
                  · refine lv_aload_n hx hb dX8_turn_185 rfl (lv_at hl 2 rfl) ?_
                    refine oh_get (v := .int (z 0 3)) hC hP inX8_turn_X8 0 rfl rfl 4 (by decide) (by decide +kernel) rfl dX8_turn_186 ?_
                    refine lv_istore_n (lv' := [(3, .int (z 0 3)), (2, .int x26), (1, .int i), (0, .ref (a 0))]) hx hb dX8_turn_189 rfl hl (by decide) rfl (fun ls hl => ?_)
                    refine lv_aload_n hx hb dX8_turn_190 rfl (lv_at hl 3 rfl) ?_
                    refine lv_aload_n hx hb dX8_turn_191 rfl (lv_at hl 3 rfl) ?_
                    refine oh_get (v := .int (z 0 3)) hC hP inX8_turn_X8 0 rfl rfl 4 (by decide) (by decide +kernel) rfl dX8_turn_192 ?_
                    refine oh_csp (As := [.int (z 0 3)]) (rest := [.ref (a 0)]) hC hP hD hS (mtX8_more l a k D (oh_up z 0 13 (0 : Int32)) (z 0 3)) (va_cwS 1 hts gX8_turn_X8_more rfl rfl rfl (by decide +kernel) ⟨Nat.le_of_ble_eq_true rfl, Nat.le_of_ble_eq_true rfl⟩) rfl hl.1 rfl (Nat.le_of_ble_eq_true rfl) dX8_turn_195 (fun r28 H locs hr28 hP hD hS => ?_)
                    refine oh_put (σ' := (oh_up (oh_up z 0 13 (0 : Int32)) 0 3 r28)) (v := .int r28) hC hP hD hS inX8_turn_X8 tyX8 tyX8_ok nmX8 0 rfl rfl 4 (by decide) (by decide +kernel) rfl rfl rfl (by simp) rfl dX8_turn_198 (fun H locs hP hD hS => ?_)
                    refine lv_aload_n hx hb dX8_turn_201 rfl (lv_at hl 3 rfl) ?_
                    refine lv_aload_n hx hb dX8_turn_202 rfl (lv_at hl 3 rfl) ?_
                    refine lv_iload_n hx hb dX8_turn_203 rfl (lv_at hl 0 rfl) ?_
                    refine oh_cvp (As := [.int (z 0 3)]) (rest := [.ref (a 0)]) hC hP hD hS (mtX8_at l a k D (oh_up (oh_up z 0 13 (0 : Int32)) 0 3 r28) (z 0 3) hI.1.2.1) (cwV 1 hts gX8_turn_X8_at rfl rfl rfl (by decide +kernel) ⟨Nat.le_of_ble_eq_true rfl, Nat.le_of_ble_eq_true rfl⟩) 0 8 rfl rfl rfl hl.1 rfl (Nat.le_of_ble_eq_true rfl) dX8_turn_204 (fun r29 H locs hr29 hP hD hS => ?_)
                    refine lv_iload_n hx hb dX8_turn_207 rfl (lv_at hl 0 rfl) ?_
                    refine lv_sipush (v := (31744 : Int32)) hx hb dX8_turn_208 (by decide) ?_
                    refine lv_iand hx hb dX8_turn_211 ?_
                    refine oh_cvv (As := [.int r29, .int ((z 0 3) &&& (31744 : Int32))]) (rest := []) hC hP hD hS (hFD (oh_up (oh_up z 0 13 (0 : Int32)) 0 3 r28) r29 ((z 0 3) &&& (31744 : Int32)) (oh_nnand _ (by decide)) (show ¬ r28 < 0 by rw [hr28]; exact oh_nnand _ (by decide)) (show oh_Dn z from hI.1.1) (show z 0 9 = 0 ∨ z 0 9 = 1 from hI.1.2.2.1)) (cwV 2 hts gX8_turn_X8_does rfl rfl rfl (by decide +kernel) ⟨Nat.le_of_ble_eq_true rfl, Nat.le_of_ble_eq_true rfl⟩) 0 8 rfl rfl rfl hl.1 rfl (Nat.le_of_ble_eq_true rfl) dX8_turn_212 (fun s30 H locs hs30 hP hD hS => ?_)
                    exact K34 _ (by subst hs30 hr29 hr28; exact (if_pos c27).symm) ls _ _ hP hD hS (lv_sub hl [1, 2, 3] rfl)
                  · refine lv_aload_n hx hb dX8_turn_150 rfl (lv_at hl 2 rfl) ?_
                    refine oh_get (v := .ref (a 4)) hC hP inX8_turn_X8 0 rfl rfl 19 (by decide) (by decide +kernel) rfl dX8_turn_151 ?_
                    refine lv_iload_n hx hb dX8_turn_154 rfl (lv_at hl 1 rfl) ?_
                    refine lv_iconst (v := (0 : Int32)) hx hb dX8_turn_155 (by decide) ?_
                    refine oh_zast (σ' := (oh_up (oh_up z 0 13 (0 : Int32)) 4 i.toNatClampNeg (0 : Int32))) hC hP hD hS 4 4 rfl rfl (oh_tI12 hI (oh_sv hx26 c27)) (by decide) rfl dX8_turn_156 (fun H locs hP hD hS => ?_)
                    refine lv_aload_n hx hb dX8_turn_157 rfl (lv_at hl 2 rfl) ?_
                    refine lv_dup hx hb dX8_turn_158 rfl ?_
                    refine oh_get (v := .int (z 0 1)) hC hP inX8_turn_X8 0 rfl rfl 15 (by decide) (by decide +kernel) rfl dX8_turn_159 ?_
                    refine lv_iconst (v := (1 : Int32)) hx hb dX8_turn_162 (by decide) ?_
                    refine lv_iadd hx hb dX8_turn_163 ?_
                    refine oh_put (σ' := (oh_up (oh_up (oh_up z 0 13 (0 : Int32)) 4 i.toNatClampNeg (0 : Int32)) 0 1 ((z 0 1) + (1 : Int32)))) (v := .int ((z 0 1) + (1 : Int32))) hC hP hD hS inX8_turn_X8 tyX8 tyX8_ok nmX8 0 rfl rfl 15 (by decide) (by decide +kernel) rfl rfl rfl (by simp) rfl dX8_turn_164 (fun H locs hP hD hS => ?_)
                    refine lv_aload_n hx hb dX8_turn_167 rfl (lv_at hl 2 rfl) ?_
                    refine lv_iload_n hx hb dX8_turn_168 rfl (lv_at hl 1 rfl) ?_
                    refine oh_put (σ' := (oh_up (oh_up (oh_up (oh_up z 0 13 (0 : Int32)) 4 i.toNatClampNeg (0 : Int32)) 0 1 ((z 0 1) + (1 : Int32))) 0 2 i)) (v := .int i) hC hP hD hS inX8_turn_X8 tyX8 tyX8_ok nmX8 0 rfl rfl 16 (by decide) (by decide +kernel) rfl rfl rfl (by simp) rfl dX8_turn_169 (fun H locs hP hD hS => ?_)
                    refine lv_aload_n hx hb dX8_turn_172 rfl (lv_at hl 2 rfl) ?_
                    refine lv_aload_n hx hb dX8_turn_173 rfl (lv_at hl 2 rfl) ?_
                    refine lv_iload_n hx hb dX8_turn_174 rfl (lv_at hl 1 rfl) ?_
                    refine oh_cvp (As := [.int i]) (rest := [.ref (a 0)]) hC hP hD hS (mtX8_at l a k D (oh_up (oh_up (oh_up (oh_up z 0 13 (0 : Int32)) 4 i.toNatClampNeg (0 : Int32)) 0 1 ((z 0 1) + (1 : Int32))) 0 2 i) i (oh_tIn hI)) (cwV 1 hts gX8_turn_X8_at rfl rfl rfl (by decide +kernel) ⟨Nat.le_of_ble_eq_true rfl, Nat.le_of_ble_eq_true rfl⟩) 0 8 rfl rfl rfl hl.1 rfl (Nat.le_of_ble_eq_true rfl) dX8_turn_175 (fun r31 H locs hr31 hP hD hS => ?_)
                    refine lv_iconst (v := (0 : Int32)) hx hb dX8_turn_178 (by decide) ?_
                    refine oh_cvv (As := [.int r31, .int (0 : Int32)]) (rest := []) hC hP hD hS (hFD (oh_up (oh_up (oh_up (oh_up z 0 13 (0 : Int32)) 4 i.toNatClampNeg (0 : Int32)) 0 1 ((z 0 1) + (1 : Int32))) 0 2 i) r31 (0 : Int32) (by decide) (show ¬ z 0 3 < 0 from hI.1.2.1) (show oh_Dn z from hI.1.1) (show z 0 9 = 0 ∨ z 0 9 = 1 from hI.1.2.2.1)) (cwV 2 hts gX8_turn_X8_does rfl rfl rfl (by decide +kernel) ⟨Nat.le_of_ble_eq_true rfl, Nat.le_of_ble_eq_true rfl⟩) 0 8 rfl rfl rfl hl.1 rfl (Nat.le_of_ble_eq_true rfl) dX8_turn_179 (fun s32 H locs hs32 hP hD hS => ?_)
                    refine lv_goto (tgt := 215) hx hb dX8_turn_182 (by decide) ?_
                    exact K34 _ (by subst hs32 hr31; exact (if_neg c27).symm) ls _ _ hP hD hS (lv_sub hl [0, 1, 2] rfl)
                refine lv_if_eq (tgt := 139) hx hb dX8_turn_110 (by decide) (fun c22 => ?_) (fun c22 => ?_)
                · refine lv_iconst (v := (0 : Int32)) hx hb dX8_turn_139 (by decide) ?_
                  exact K35 _ (if_pos c22).symm ls _ _ hP hD hS (lv_sub hl [0, 1] rfl)
                · refine lv_aload_n hx hb dX8_turn_113 rfl (lv_at hl 1 rfl) ?_
                  refine oh_get (v := .int (z 0 6)) hC hP inX8_turn_X8 0 rfl rfl 8 (by decide) (by decide +kernel) rfl dX8_turn_114 ?_
                  refine lv_if_ne (tgt := 139) hx hb dX8_turn_117 (by decide) (fun c23 => ?_) (fun c23 => ?_)
                  · refine lv_iconst (v := (0 : Int32)) hx hb dX8_turn_139 (by decide) ?_
                    exact K35 _ ((if_neg c22).trans (if_neg c23)).symm ls _ _ hP hD hS (lv_sub hl [0, 1] rfl)
                  · refine lv_iload_n hx hb dX8_turn_120 rfl (lv_at hl 0 rfl) ?_
                    refine lv_bipush (v := (12 : Int32)) hx hb dX8_turn_121 (by decide) ?_
                    refine lv_icmp_ge (tgt := 139) hx hb dX8_turn_123 (by decide) (fun c24 => ?_) (fun c24 => ?_)
                    · refine lv_iconst (v := (0 : Int32)) hx hb dX8_turn_139 (by decide) ?_
                      exact K35 _ (((if_neg c22).trans (if_pos c23)).trans (if_pos c24)).symm ls _ _ hP hD hS (lv_sub hl [0, 1] rfl)
                    · refine lv_aload_n hx hb dX8_turn_126 rfl (lv_at hl 1 rfl) ?_
                      refine oh_get (v := .ref (a 4)) hC hP inX8_turn_X8 0 rfl rfl 19 (by decide) (by decide +kernel) rfl dX8_turn_127 ?_
                      refine lv_iload_n hx hb dX8_turn_130 rfl (lv_at hl 0 rfl) ?_
                      refine oh_zald hC hP 4 4 rfl rfl (oh_tI12 hI c24) dX8_turn_131 ?_
                      refine lv_if_eq (tgt := 139) hx hb dX8_turn_132 (by decide) (fun c25 => ?_) (fun c25 => ?_)
                      · refine lv_iconst (v := (0 : Int32)) hx hb dX8_turn_139 (by decide) ?_
                        exact K35 _ ((((if_neg c22).trans (if_pos c23)).trans (if_neg c24)).trans (if_pos c25)).symm ls _ _ hP hD hS (lv_sub hl [0, 1] rfl)
                      · refine lv_iconst (v := (1 : Int32)) hx hb dX8_turn_135 (by decide) ?_
                        refine lv_goto (tgt := 140) hx hb dX8_turn_136 (by decide) ?_
                        exact K35 _ ((((if_neg c22).trans (if_pos c23)).trans (if_neg c24)).trans (if_neg c25)).symm ls _ _ hP hD hS (lv_sub hl [0, 1] rfl)
              refine lv_icmp_ge (tgt := 106) hx hb dX8_turn_79 (by decide) (fun c19 => ?_) (fun c19 => ?_)
              · exact K36 (((if_pos c19).symm).trans hk) ls _ _ hP hD hS (lv_sub hl [0, 1] rfl)
              · refine lv_aload_n hx hb dX8_turn_82 rfl (lv_at hl 1 rfl) ?_
                refine oh_get (v := .ref (a 2)) hC hP inX8_turn_X8 0 rfl rfl 17 (by decide) (by decide +kernel) rfl dX8_turn_83 ?_
                refine lv_iload_n hx hb dX8_turn_86 rfl (lv_at hl 0 rfl) ?_
                refine oh_zald hC hP 2 4 rfl rfl (oh_tI12 hI c19) dX8_turn_87 ?_
                refine lv_if_eq (tgt := 100) hx hb dX8_turn_88 (by decide) (fun c20 => ?_) (fun c20 => ?_)
                · refine lv_iinc (v := (i + (1 : Int32))) (lv' := [(1, .int (i + (1 : Int32))), (0, .ref (a 0))]) hx hb dX8_turn_100 hl (k := 0) rfl (by first | rfl | decide) (by decide) rfl (fun ls hl => ?_)
                  refine lv_goto (tgt := 76) hx hb dX8_turn_103 (by decide) ?_
                  exact ih z (i + (1 : Int32)) (oh_tIs hI c19) ((((if_neg c19).trans (if_pos c20)).symm).trans hk) ls _ _ hP hD hS (lv_sub hl [0, 1] rfl)
                · refine lv_aload_n hx hb dX8_turn_91 rfl (lv_at hl 1 rfl) ?_
                  refine oh_get (v := .ref (a 3)) hC hP inX8_turn_X8 0 rfl rfl 18 (by decide) (by decide +kernel) rfl dX8_turn_92 ?_
                  refine lv_iload_n hx hb dX8_turn_95 rfl (lv_at hl 0 rfl) ?_
                  refine oh_zald hC hP 3 4 rfl rfl (oh_tI12 hI c19) dX8_turn_96 ?_
                  refine lv_if_ne (tgt := 106) hx hb dX8_turn_97 (by decide) (fun c21 => ?_) (fun c21 => ?_)
                  · exact K36 (((((if_neg c19).trans (if_neg c20)).trans (if_neg c21)).symm).trans hk) ls _ _ hP hD hS (lv_sub hl [0, 1] rfl)
                  · refine lv_iinc (v := (i + (1 : Int32))) (lv' := [(1, .int (i + (1 : Int32))), (0, .ref (a 0))]) hx hb dX8_turn_100 hl (k := 0) rfl (by first | rfl | decide) (by decide) rfl (fun ls hl => ?_)
                    refine lv_goto (tgt := 76) hx hb dX8_turn_103 (by decide) ?_
                    exact ih z (i + (1 : Int32)) (oh_tIs hI c19) (((((if_neg c19).trans (if_neg c20)).trans (if_pos c21)).symm).trans hk) ls _ _ hP hD hS (lv_sub hl [0, 1] rfl)
          exact LP 7 s18 (6 : Int32) ⟨(by rw [hs18, hs17]; exact hwC _ _ _ (hwC _ _ _ (wm_dev hwR (M := M + 1 + 1 + 1) (by omega) (wm_dev hwR (M := M + 1 + 1) (by omega) (wm_dev hwR (M := M + 1) (by omega) (wm_dev hwR (by omega) (wm_00 hw) hs4) hs8) hs12) hs16))), 0, rfl, rfl, by decide⟩ ((by subst hs18 hs17; exact hK38)) ls _ _ hP hD hS (lv_sub hl [0, 1] rfl)
        refine lv_if_ne (tgt := 31) hx hb dX8_turn_25 (by decide) (fun c13 => ?_) (fun c13 => ?_)
        · refine lv_aload_n hx hb dX8_turn_31 rfl (lv_at hl 1 rfl) ?_
          refine oh_get (v := .ref (a 15)) hC hP inX8_turn_X8 0 rfl rfl 30 (by decide) (by decide +kernel) rfl dX8_turn_32 ?_
          refine lv_iload_n hx hb dX8_turn_35 rfl (lv_at hl 0 rfl) ?_
          refine lv_dup2_11 hx hb dX8_turn_36 rfl rfl ?_
          refine oh_iald hC hP 15 0 rfl rfl (vp_in_iff.mpr (by decide)) dX8_turn_37 ?_
          refine lv_iconst (v := (1 : Int32)) hx hb dX8_turn_38 (by decide) ?_
          refine lv_isub hx hb dX8_turn_39 ?_
          refine oh_iast (σ' := (oh_up s12 15 11 ((s12 15 11) - (1 : Int32)))) hC hP hD hS 15 0 rfl rfl (vp_in_iff.mpr (by decide)) rfl dX8_turn_40 (fun H locs hP hD hS => ?_)
          refine lv_aload_n hx hb dX8_turn_41 rfl (lv_at hl 1 rfl) ?_
          refine oh_get (v := .ref (a 15)) hC hP inX8_turn_X8 0 rfl rfl 30 (by decide) (by decide +kernel) rfl dX8_turn_42 ?_
          refine lv_iload_n hx hb dX8_turn_45 rfl (lv_at hl 0 rfl) ?_
          refine oh_iald hC hP 15 0 rfl rfl (vp_in_iff.mpr (by decide)) dX8_turn_46 ?_
          refine lv_if_ne (tgt := 55) hx hb dX8_turn_47 (by decide) (fun c14 => ?_) (fun c14 => ?_)
          · exact K38 _ ((if_neg c13).trans (if_neg c14)).symm ls _ _ hP hD hS (lv_sub hl [0, 1] rfl)
          · refine lv_aload_n hx hb dX8_turn_50 rfl (lv_at hl 1 rfl) ?_
            refine lv_iload_n hx hb dX8_turn_51 rfl (lv_at hl 0 rfl) ?_
            refine oh_cvv (As := [.int (11 : Int32)]) (rest := []) hC hP hD hS (hFR (oh_up s12 15 11 ((s12 15 11) - (1 : Int32))) (11 : Int32) (show oh_rdy _ (11 : Int32) from wm_rdy (M := M + 1 + 1 + 1) (by omega) (wm_15 (wm_dev hwR (M := M + 1 + 1) (by omega) (wm_dev hwR (M := M + 1) (by omega) (wm_dev hwR (by omega) (wm_00 hw) hs4) hs8) hs12)) 3 (by decide))) (cwV 1 hts gX8_turn_X8_ready rfl rfl rfl (by decide +kernel) ⟨Nat.le_of_ble_eq_true rfl, Nat.le_of_ble_eq_true rfl⟩) 0 8 rfl rfl rfl hl.1 rfl (Nat.le_of_ble_eq_true rfl) dX8_turn_52 (fun s15 H locs hs15 hP hD hS => ?_)
            exact K38 _ (by subst hs15; exact ((if_neg c13).trans (if_pos c14)).symm) ls _ _ hP hD hS (lv_sub hl [0, 1] rfl)
        · refine lv_goto (tgt := 55) hx hb dX8_turn_28 (by decide) ?_
          exact K38 _ (if_pos c13).symm ls _ _ hP hD hS (lv_sub hl [0, 1] rfl)
      refine lv_if_ne (tgt := 31) hx hb dX8_turn_25 (by decide) (fun c9 => ?_) (fun c9 => ?_)
      · refine lv_aload_n hx hb dX8_turn_31 rfl (lv_at hl 1 rfl) ?_
        refine oh_get (v := .ref (a 15)) hC hP inX8_turn_X8 0 rfl rfl 30 (by decide) (by decide +kernel) rfl dX8_turn_32 ?_
        refine lv_iload_n hx hb dX8_turn_35 rfl (lv_at hl 0 rfl) ?_
        refine lv_dup2_11 hx hb dX8_turn_36 rfl rfl ?_
        refine oh_iald hC hP 15 0 rfl rfl (vp_in_iff.mpr (by decide)) dX8_turn_37 ?_
        refine lv_iconst (v := (1 : Int32)) hx hb dX8_turn_38 (by decide) ?_
        refine lv_isub hx hb dX8_turn_39 ?_
        refine oh_iast (σ' := (oh_up s8 15 10 ((s8 15 10) - (1 : Int32)))) hC hP hD hS 15 0 rfl rfl (vp_in_iff.mpr (by decide)) rfl dX8_turn_40 (fun H locs hP hD hS => ?_)
        refine lv_aload_n hx hb dX8_turn_41 rfl (lv_at hl 1 rfl) ?_
        refine oh_get (v := .ref (a 15)) hC hP inX8_turn_X8 0 rfl rfl 30 (by decide) (by decide +kernel) rfl dX8_turn_42 ?_
        refine lv_iload_n hx hb dX8_turn_45 rfl (lv_at hl 0 rfl) ?_
        refine oh_iald hC hP 15 0 rfl rfl (vp_in_iff.mpr (by decide)) dX8_turn_46 ?_
        refine lv_if_ne (tgt := 55) hx hb dX8_turn_47 (by decide) (fun c10 => ?_) (fun c10 => ?_)
        · exact K39 _ ((if_neg c9).trans (if_neg c10)).symm ls _ _ hP hD hS (lv_sub hl [0, 1] rfl)
        · refine lv_aload_n hx hb dX8_turn_50 rfl (lv_at hl 1 rfl) ?_
          refine lv_iload_n hx hb dX8_turn_51 rfl (lv_at hl 0 rfl) ?_
          refine oh_cvv (As := [.int (10 : Int32)]) (rest := []) hC hP hD hS (hFR (oh_up s8 15 10 ((s8 15 10) - (1 : Int32))) (10 : Int32) (show oh_rdy _ (10 : Int32) from wm_rdy (M := M + 1 + 1) (by omega) (wm_15 (wm_dev hwR (M := M + 1) (by omega) (wm_dev hwR (by omega) (wm_00 hw) hs4) hs8)) 2 (by decide))) (cwV 1 hts gX8_turn_X8_ready rfl rfl rfl (by decide +kernel) ⟨Nat.le_of_ble_eq_true rfl, Nat.le_of_ble_eq_true rfl⟩) 0 8 rfl rfl rfl hl.1 rfl (Nat.le_of_ble_eq_true rfl) dX8_turn_52 (fun s11 H locs hs11 hP hD hS => ?_)
          exact K39 _ (by subst hs11; exact ((if_neg c9).trans (if_pos c10)).symm) ls _ _ hP hD hS (lv_sub hl [0, 1] rfl)
      · refine lv_goto (tgt := 55) hx hb dX8_turn_28 (by decide) ?_
        exact K39 _ (if_pos c9).symm ls _ _ hP hD hS (lv_sub hl [0, 1] rfl)
    refine lv_if_ne (tgt := 31) hx hb dX8_turn_25 (by decide) (fun c5 => ?_) (fun c5 => ?_)
    · refine lv_aload_n hx hb dX8_turn_31 rfl (lv_at hl 1 rfl) ?_
      refine oh_get (v := .ref (a 15)) hC hP inX8_turn_X8 0 rfl rfl 30 (by decide) (by decide +kernel) rfl dX8_turn_32 ?_
      refine lv_iload_n hx hb dX8_turn_35 rfl (lv_at hl 0 rfl) ?_
      refine lv_dup2_11 hx hb dX8_turn_36 rfl rfl ?_
      refine oh_iald hC hP 15 0 rfl rfl (vp_in_iff.mpr (by decide)) dX8_turn_37 ?_
      refine lv_iconst (v := (1 : Int32)) hx hb dX8_turn_38 (by decide) ?_
      refine lv_isub hx hb dX8_turn_39 ?_
      refine oh_iast (σ' := (oh_up s4 15 9 ((s4 15 9) - (1 : Int32)))) hC hP hD hS 15 0 rfl rfl (vp_in_iff.mpr (by decide)) rfl dX8_turn_40 (fun H locs hP hD hS => ?_)
      refine lv_aload_n hx hb dX8_turn_41 rfl (lv_at hl 1 rfl) ?_
      refine oh_get (v := .ref (a 15)) hC hP inX8_turn_X8 0 rfl rfl 30 (by decide) (by decide +kernel) rfl dX8_turn_42 ?_
      refine lv_iload_n hx hb dX8_turn_45 rfl (lv_at hl 0 rfl) ?_
      refine oh_iald hC hP 15 0 rfl rfl (vp_in_iff.mpr (by decide)) dX8_turn_46 ?_
      refine lv_if_ne (tgt := 55) hx hb dX8_turn_47 (by decide) (fun c6 => ?_) (fun c6 => ?_)
      · exact K40 _ ((if_neg c5).trans (if_neg c6)).symm ls _ _ hP hD hS (lv_sub hl [0, 1] rfl)
      · refine lv_aload_n hx hb dX8_turn_50 rfl (lv_at hl 1 rfl) ?_
        refine lv_iload_n hx hb dX8_turn_51 rfl (lv_at hl 0 rfl) ?_
        refine oh_cvv (As := [.int (9 : Int32)]) (rest := []) hC hP hD hS (hFR (oh_up s4 15 9 ((s4 15 9) - (1 : Int32))) (9 : Int32) (show oh_rdy _ (9 : Int32) from wm_rdy (M := M + 1) (by omega) (wm_15 (wm_dev hwR (by omega) (wm_00 hw) hs4)) 1 (by decide))) (cwV 1 hts gX8_turn_X8_ready rfl rfl rfl (by decide +kernel) ⟨Nat.le_of_ble_eq_true rfl, Nat.le_of_ble_eq_true rfl⟩) 0 8 rfl rfl rfl hl.1 rfl (Nat.le_of_ble_eq_true rfl) dX8_turn_52 (fun s7 H locs hs7 hP hD hS => ?_)
        exact K40 _ (by subst hs7; exact ((if_neg c5).trans (if_pos c6)).symm) ls _ _ hP hD hS (lv_sub hl [0, 1] rfl)
    · refine lv_goto (tgt := 55) hx hb dX8_turn_28 (by decide) ?_
      exact K40 _ (if_pos c5).symm ls _ _ hP hD hS (lv_sub hl [0, 1] rfl)
  refine lv_if_ne (tgt := 31) hx hb dX8_turn_25 (by decide) (fun c1 => ?_) (fun c1 => ?_)
  · refine lv_aload_n hx hb dX8_turn_31 rfl (lv_at hl 1 rfl) ?_
    refine oh_get (v := .ref (a 15)) hC hP inX8_turn_X8 0 rfl rfl 30 (by decide) (by decide +kernel) rfl dX8_turn_32 ?_
    refine lv_iload_n hx hb dX8_turn_35 rfl (lv_at hl 0 rfl) ?_
    refine lv_dup2_11 hx hb dX8_turn_36 rfl rfl ?_
    refine oh_iald hC hP 15 0 rfl rfl (vp_in_iff.mpr (by decide)) dX8_turn_37 ?_
    refine lv_iconst (v := (1 : Int32)) hx hb dX8_turn_38 (by decide) ?_
    refine lv_isub hx hb dX8_turn_39 ?_
    refine oh_iast (σ' := (oh_up (oh_up σ 0 0 ((σ 0 0) + (1 : Int32))) 15 8 ((σ 15 8) - (1 : Int32)))) hC hP hD hS 15 0 rfl rfl (vp_in_iff.mpr (by decide)) rfl dX8_turn_40 (fun H locs hP hD hS => ?_)
    refine lv_aload_n hx hb dX8_turn_41 rfl (lv_at hl 1 rfl) ?_
    refine oh_get (v := .ref (a 15)) hC hP inX8_turn_X8 0 rfl rfl 30 (by decide) (by decide +kernel) rfl dX8_turn_42 ?_
    refine lv_iload_n hx hb dX8_turn_45 rfl (lv_at hl 0 rfl) ?_
    refine oh_iald hC hP 15 0 rfl rfl (vp_in_iff.mpr (by decide)) dX8_turn_46 ?_
    refine lv_if_ne (tgt := 55) hx hb dX8_turn_47 (by decide) (fun c2 => ?_) (fun c2 => ?_)
    · exact K41 _ ((if_neg c1).trans (if_neg c2)).symm ls _ _ hP hD hS (lv_sub hl [0, 1] rfl)
    · refine lv_aload_n hx hb dX8_turn_50 rfl (lv_at hl 1 rfl) ?_
      refine lv_iload_n hx hb dX8_turn_51 rfl (lv_at hl 0 rfl) ?_
      refine oh_cvv (As := [.int (8 : Int32)]) (rest := []) hC hP hD hS (hFR (oh_up (oh_up σ 0 0 ((σ 0 0) + (1 : Int32))) 15 8 ((σ 15 8) - (1 : Int32))) (8 : Int32) (show oh_rdy _ (8 : Int32) from wm_rdy (M := M) (by omega) (wm_15 (wm_00 hw)) 0 (by decide))) (cwV 1 hts gX8_turn_X8_ready rfl rfl rfl (by decide +kernel) ⟨Nat.le_of_ble_eq_true rfl, Nat.le_of_ble_eq_true rfl⟩) 0 8 rfl rfl rfl hl.1 rfl (Nat.le_of_ble_eq_true rfl) dX8_turn_52 (fun s3 H locs hs3 hP hD hS => ?_)
      exact K41 _ (by subst hs3; exact ((if_neg c1).trans (if_pos c2)).symm) ls _ _ hP hD hS (lv_sub hl [0, 1] rfl)
  · refine lv_goto (tgt := 55) hx hb dX8_turn_28 (by decide) ?_
    exact K41 _ (if_pos c1).symm ls _ _ hP hD hS (lv_sub hl [0, 1] rfl)
