-- OctalHouseModel.channel
theorem inX8_channel_X8 : ∀ w ∈ u_ws RX8 TX8 35, w ∈ wsX8_channel := by decide +kernel
def spX8_channel_k14 (σ : oh_St) (p1 : Int32) (s8 : oh_St) : oh_St := (let r9 : Int32 := (spX8_more (s8 6 p1.toNatClampNeg)); (if ((oh_up (oh_up (oh_up (oh_up s8 3 ((σ 9 p1.toNatClampNeg) &&& (63 : Int32)).toNatClampNeg (0 : Int32)) 4 ((σ 9 p1.toNatClampNeg) &&& (63 : Int32)).toNatClampNeg (0 : Int32)) 6 p1.toNatClampNeg r9) 7 p1.toNatClampNeg (((s8 7 p1.toNatClampNeg) + (1 : Int32)) &&& (65535 : Int32))) 7 p1.toNatClampNeg) = (0 : Int32) then (if (((s8 9 p1.toNatClampNeg) >>> ((13 : Int32) &&& 31)) &&& (1 : Int32)) = (1 : Int32) then (oh_up (oh_up (oh_up (oh_up (oh_up (oh_up (oh_up (oh_up (oh_up s8 3 ((σ 9 p1.toNatClampNeg) &&& (63 : Int32)).toNatClampNeg (0 : Int32)) 4 ((σ 9 p1.toNatClampNeg) &&& (63 : Int32)).toNatClampNeg (0 : Int32)) 6 p1.toNatClampNeg r9) 7 p1.toNatClampNeg (((s8 7 p1.toNatClampNeg) + (1 : Int32)) &&& (65535 : Int32))) 10 p1.toNatClampNeg ((s8 10 p1.toNatClampNeg) + (1 : Int32))) 3 p1.toNatClampNeg (1 : Int32)) 4 p1.toNatClampNeg (1 : Int32)) 5 p1.toNatClampNeg (0 : Int32)) 2 ((σ 9 p1.toNatClampNeg) &&& (63 : Int32)).toNatClampNeg (0 : Int32)) else (oh_up (oh_up (oh_up (oh_up (oh_up (oh_up (oh_up (oh_up s8 3 ((σ 9 p1.toNatClampNeg) &&& (63 : Int32)).toNatClampNeg (0 : Int32)) 4 ((σ 9 p1.toNatClampNeg) &&& (63 : Int32)).toNatClampNeg (0 : Int32)) 6 p1.toNatClampNeg r9) 7 p1.toNatClampNeg (((s8 7 p1.toNatClampNeg) + (1 : Int32)) &&& (65535 : Int32))) 10 p1.toNatClampNeg ((s8 10 p1.toNatClampNeg) + (1 : Int32))) 3 p1.toNatClampNeg (1 : Int32)) 4 p1.toNatClampNeg (1 : Int32)) 5 p1.toNatClampNeg (0 : Int32))) else (if ((s8 9 p1.toNatClampNeg) >>> ((15 : Int32) &&& 31)) = (1 : Int32) then (let s12 : oh_St := (spX8_started (oh_up (oh_up (oh_up (oh_up (oh_up (oh_up s8 3 ((σ 9 p1.toNatClampNeg) &&& (63 : Int32)).toNatClampNeg (0 : Int32)) 4 ((σ 9 p1.toNatClampNeg) &&& (63 : Int32)).toNatClampNeg (0 : Int32)) 6 p1.toNatClampNeg r9) 7 p1.toNatClampNeg (((s8 7 p1.toNatClampNeg) + (1 : Int32)) &&& (65535 : Int32))) 10 p1.toNatClampNeg ((s8 10 p1.toNatClampNeg) + (1 : Int32))) 2 ((σ 9 p1.toNatClampNeg) &&& (63 : Int32)).toNatClampNeg (1 : Int32)) ((σ 9 p1.toNatClampNeg) &&& (63 : Int32))); s12) else (oh_up (oh_up (oh_up (oh_up (oh_up s8 3 ((σ 9 p1.toNatClampNeg) &&& (63 : Int32)).toNatClampNeg (0 : Int32)) 4 ((σ 9 p1.toNatClampNeg) &&& (63 : Int32)).toNatClampNeg (0 : Int32)) 6 p1.toNatClampNeg r9) 7 p1.toNatClampNeg (((s8 7 p1.toNatClampNeg) + (1 : Int32)) &&& (65535 : Int32))) 10 p1.toNatClampNeg ((s8 10 p1.toNatClampNeg) + (1 : Int32))))))
def spX8_channel (σ : oh_St) (p1 : Int32) : oh_St := (if (σ 5 p1.toNatClampNeg) = (0 : Int32) then σ else (if ((σ 9 p1.toNatClampNeg) &&& (63 : Int32)) < (8 : Int32) then σ else (if (12 : Int32) ≤ ((σ 9 p1.toNatClampNeg) &&& (63 : Int32)) then σ else (if (σ 3 ((σ 9 p1.toNatClampNeg) &&& (63 : Int32)).toNatClampNeg) = (0 : Int32) then σ else (let s8 : oh_St := (if (σ 8 p1.toNatClampNeg) = (0 : Int32) then (let r6 : Int32 := (spX8_at σ (σ 6 p1.toNatClampNeg)); (oh_up σ 14 ((σ 9 p1.toNatClampNeg) &&& (63 : Int32)).toNatClampNeg r6)) else (let s7 : oh_St := (spX8_put σ (σ 6 p1.toNatClampNeg) (σ 14 ((σ 9 p1.toNatClampNeg) &&& (63 : Int32)).toNatClampNeg)); s7)); (spX8_channel_k14 σ p1 s8))))))
set_option maxHeartbeats 8000000 in
set_option maxRecDepth 100000 in
theorem mtX8_channel (l : Launch) (a : Nat → Nat) (k : Nat → ClassId) (D : va_G) (σ : oh_St) (p1 : Int32) (hi1 : vp_in p1 12) (ha : ¬ σ 6 p1.toNatClampNeg < 0) : oh_Mv l yX8_channel wsX8_channel { frames := 1, cells := 0, slots := 0, locals := 22 } D (oh_ty k) (oh_V a k) [.ref (a 0), .int p1] σ (fun u => u = spX8_channel σ p1) := by
  refine oh_inv (cc := cX8_channel) (nL := 3) (rt := none) (by decide) rfl (Nat.le_of_ble_eq_true rfl) ?_
  intro p e s m below meth c A ls hC hP hD hS hl
  obtain ⟨hx, hb, hml, hown, hts, hr, hlocks, hK, hN, hA⟩ := id hC
  have hl : lv_has ls 3 [(0, .ref (a 0)), (1, .int p1)] := hl
  refine lv_aload_n hx hb dX8_channel_0 rfl (lv_at hl 0 rfl) ?_
  refine oh_get (v := .ref (a 10)) hC hP inX8_channel_X8 0 rfl rfl 25 (by decide) (by decide +kernel) rfl dX8_channel_1 ?_
  refine lv_iload_n hx hb dX8_channel_4 rfl (lv_at hl 1 rfl) ?_
  refine oh_iald hC hP 10 0 rfl rfl hi1 dX8_channel_5 ?_
  refine lv_bipush (v := (63 : Int32)) hx hb dX8_channel_6 (by decide) ?_
  refine lv_iand hx hb dX8_channel_8 ?_
  refine lv_istore_n (lv' := [(2, .int ((σ 9 p1.toNatClampNeg) &&& (63 : Int32))), (0, .ref (a 0)), (1, .int p1)]) hx hb dX8_channel_9 rfl hl (by decide) rfl (fun ls hl => ?_)
  refine lv_aload_n hx hb dX8_channel_10 rfl (lv_at hl 1 rfl) ?_
  refine oh_get (v := .ref (a 5)) hC hP inX8_channel_X8 0 rfl rfl 20 (by decide) (by decide +kernel) rfl dX8_channel_11 ?_
  refine lv_iload_n hx hb dX8_channel_14 rfl (lv_at hl 2 rfl) ?_
  refine oh_zald hC hP 5 4 rfl rfl hi1 dX8_channel_15 ?_
  refine lv_if_eq (tgt := 40) hx hb dX8_channel_16 (by decide) (fun c1 => ?_) (fun c1 => ?_)
  · exact oh_retv (u := σ) hC hP hD hS (by exact (if_pos c1).symm) dX8_channel_40
  · refine lv_iload_n hx hb dX8_channel_19 rfl (lv_at hl 0 rfl) ?_
    refine lv_bipush (v := (8 : Int32)) hx hb dX8_channel_20 (by decide) ?_
    refine lv_icmp_lt (tgt := 40) hx hb dX8_channel_22 (by decide) (fun c2 => ?_) (fun c2 => ?_)
    · exact oh_retv (u := σ) hC hP hD hS (by exact ((if_neg c1).trans (if_pos c2)).symm) dX8_channel_40
    · refine lv_iload_n hx hb dX8_channel_25 rfl (lv_at hl 0 rfl) ?_
      refine lv_bipush (v := (12 : Int32)) hx hb dX8_channel_26 (by decide) ?_
      refine lv_icmp_ge (tgt := 40) hx hb dX8_channel_28 (by decide) (fun c3 => ?_) (fun c3 => ?_)
      · exact oh_retv (u := σ) hC hP hD hS (by exact (((if_neg c1).trans (if_neg c2)).trans (if_pos c3)).symm) dX8_channel_40
      · refine lv_aload_n hx hb dX8_channel_31 rfl (lv_at hl 1 rfl) ?_
        refine oh_get (v := .ref (a 3)) hC hP inX8_channel_X8 0 rfl rfl 18 (by decide) (by decide +kernel) rfl dX8_channel_32 ?_
        refine lv_iload_n hx hb dX8_channel_35 rfl (lv_at hl 0 rfl) ?_
        refine oh_zald hC hP 3 4 rfl rfl (oh_in8 c2 c3) dX8_channel_36 ?_
        refine lv_if_ne (tgt := 41) hx hb dX8_channel_37 (by decide) (fun c4 => ?_) (fun c4 => ?_)
        · refine lv_aload_n hx hb dX8_channel_41 rfl (lv_at hl 1 rfl) ?_
          refine oh_get (v := .ref (a 6)) hC hP inX8_channel_X8 0 rfl rfl 21 (by decide) (by decide +kernel) rfl dX8_channel_42 ?_
          refine lv_iload_n hx hb dX8_channel_45 rfl (lv_at hl 2 rfl) ?_
          refine oh_zald hC hP 6 4 rfl rfl hi1 dX8_channel_46 ?_
          have K14 : ∀ s8 : oh_St, s8 = (if (σ 8 p1.toNatClampNeg) = (0 : Int32) then (let r6 : Int32 := (spX8_at σ (σ 6 p1.toNatClampNeg)); (oh_up σ 14 ((σ 9 p1.toNatClampNeg) &&& (63 : Int32)).toNatClampNeg r6)) else (let s7 : oh_St := (spX8_put σ (σ 6 p1.toNatClampNeg) (σ 14 ((σ 9 p1.toNatClampNeg) &&& (63 : Int32)).toNatClampNeg)); s7)) → ∀ (ls : Array Slot) (H : Heap) (locs : List Loc), va_P D vwCl (oh_V a k s8) H → va_D A (oh_V a k s8) → va_S A s.heap H locs → lv_has ls 3 [(2, .int ((σ 9 p1.toNatClampNeg) &&& (63 : Int32))), (0, .ref (a 0)), (1, .int p1)] → W p l e ({ frames := 1, cells := 0, slots := 0, locals := 22 } : Room) s m (([.ref (a 0), .int p1] : List Value).toArray) below meth c H locs 0 0 (oh_Ev below (fun u => u = spX8_channel σ p1) D (oh_V a k) A [.ref (a 0), .int p1] s) (F0 m 85 ls []) := by
            intro s8 hs8 ls H locs hP hD hS hl
            have hK14 : spX8_channel_k14 σ p1 s8 = spX8_channel σ p1 := by
              subst hs8
              exact ((((if_neg c1).trans (if_neg c2)).trans (if_neg c3)).trans (if_neg c4)).symm
            refine lv_aload_n hx hb dX8_channel_85 rfl (lv_at hl 1 rfl) ?_
            refine oh_get (v := .ref (a 3)) hC hP inX8_channel_X8 0 rfl rfl 18 (by decide) (by decide +kernel) rfl dX8_channel_86 ?_
            refine lv_iload_n hx hb dX8_channel_89 rfl (lv_at hl 0 rfl) ?_
            refine lv_iconst (v := (0 : Int32)) hx hb dX8_channel_90 (by decide) ?_
            refine oh_zast (σ' := (oh_up s8 3 ((σ 9 p1.toNatClampNeg) &&& (63 : Int32)).toNatClampNeg (0 : Int32))) hC hP hD hS 3 4 rfl rfl (oh_in8 c2 c3) (by decide) rfl dX8_channel_91 (fun H locs hP hD hS => ?_)
            refine lv_aload_n hx hb dX8_channel_92 rfl (lv_at hl 1 rfl) ?_
            refine oh_get (v := .ref (a 4)) hC hP inX8_channel_X8 0 rfl rfl 19 (by decide) (by decide +kernel) rfl dX8_channel_93 ?_
            refine lv_iload_n hx hb dX8_channel_96 rfl (lv_at hl 0 rfl) ?_
            refine lv_iconst (v := (0 : Int32)) hx hb dX8_channel_97 (by decide) ?_
            refine oh_zast (σ' := (oh_up (oh_up s8 3 ((σ 9 p1.toNatClampNeg) &&& (63 : Int32)).toNatClampNeg (0 : Int32)) 4 ((σ 9 p1.toNatClampNeg) &&& (63 : Int32)).toNatClampNeg (0 : Int32))) hC hP hD hS 4 4 rfl rfl (oh_in8 c2 c3) (by decide) rfl dX8_channel_98 (fun H locs hP hD hS => ?_)
            refine lv_aload_n hx hb dX8_channel_99 rfl (lv_at hl 1 rfl) ?_
            refine oh_get (v := .ref (a 8)) hC hP inX8_channel_X8 0 rfl rfl 23 (by decide) (by decide +kernel) rfl dX8_channel_100 ?_
            refine lv_iload_n hx hb dX8_channel_103 rfl (lv_at hl 2 rfl) ?_
            refine lv_aload_n hx hb dX8_channel_104 rfl (lv_at hl 1 rfl) ?_
            refine oh_get (v := .ref (a 8)) hC hP inX8_channel_X8 0 rfl rfl 23 (by decide) (by decide +kernel) rfl dX8_channel_105 ?_
            refine lv_iload_n hx hb dX8_channel_108 rfl (lv_at hl 2 rfl) ?_
            refine oh_iald hC hP 8 0 rfl rfl hi1 dX8_channel_109 ?_
            refine oh_csp (As := [.int (s8 6 p1.toNatClampNeg)]) (rest := [.int p1, .ref (a 8)]) hC hP hD hS (mtX8_more l a k D (oh_up (oh_up s8 3 ((σ 9 p1.toNatClampNeg) &&& (63 : Int32)).toNatClampNeg (0 : Int32)) 4 ((σ 9 p1.toNatClampNeg) &&& (63 : Int32)).toNatClampNeg (0 : Int32)) (s8 6 p1.toNatClampNeg)) (va_cwS 1 hts gX8_channel_X8_more rfl rfl rfl (by decide +kernel) ⟨Nat.le_of_ble_eq_true rfl, Nat.le_of_ble_eq_true rfl⟩) rfl hl.1 rfl (Nat.le_of_ble_eq_true rfl) dX8_channel_110 (fun r9 H locs hr9 hP hD hS => ?_)
            refine oh_iast (σ' := (oh_up (oh_up (oh_up s8 3 ((σ 9 p1.toNatClampNeg) &&& (63 : Int32)).toNatClampNeg (0 : Int32)) 4 ((σ 9 p1.toNatClampNeg) &&& (63 : Int32)).toNatClampNeg (0 : Int32)) 6 p1.toNatClampNeg r9)) hC hP hD hS 8 0 rfl rfl hi1 rfl dX8_channel_113 (fun H locs hP hD hS => ?_)
            refine lv_aload_n hx hb dX8_channel_114 rfl (lv_at hl 1 rfl) ?_
            refine oh_get (v := .ref (a 9)) hC hP inX8_channel_X8 0 rfl rfl 24 (by decide) (by decide +kernel) rfl dX8_channel_115 ?_
            refine lv_iload_n hx hb dX8_channel_118 rfl (lv_at hl 2 rfl) ?_
            refine lv_aload_n hx hb dX8_channel_119 rfl (lv_at hl 1 rfl) ?_
            refine oh_get (v := .ref (a 9)) hC hP inX8_channel_X8 0 rfl rfl 24 (by decide) (by decide +kernel) rfl dX8_channel_120 ?_
            refine lv_iload_n hx hb dX8_channel_123 rfl (lv_at hl 2 rfl) ?_
            refine oh_iald hC hP 9 0 rfl rfl hi1 dX8_channel_124 ?_
            refine lv_iconst (v := (1 : Int32)) hx hb dX8_channel_125 (by decide) ?_
            refine lv_iadd hx hb dX8_channel_126 ?_
            refine lv_ldc (v := (65535 : Int32)) hx hb hown (hts (.constant RX8 102 (65535)) (by decide +kernel)) dX8_channel_127 ?_
            refine lv_iand hx hb dX8_channel_129 ?_
            refine oh_iast (σ' := (oh_up (oh_up (oh_up (oh_up s8 3 ((σ 9 p1.toNatClampNeg) &&& (63 : Int32)).toNatClampNeg (0 : Int32)) 4 ((σ 9 p1.toNatClampNeg) &&& (63 : Int32)).toNatClampNeg (0 : Int32)) 6 p1.toNatClampNeg r9) 7 p1.toNatClampNeg (((s8 7 p1.toNatClampNeg) + (1 : Int32)) &&& (65535 : Int32)))) hC hP hD hS 9 0 rfl rfl hi1 rfl dX8_channel_130 (fun H locs hP hD hS => ?_)
            refine lv_aload_n hx hb dX8_channel_131 rfl (lv_at hl 1 rfl) ?_
            refine oh_get (v := .ref (a 11)) hC hP inX8_channel_X8 0 rfl rfl 26 (by decide) (by decide +kernel) rfl dX8_channel_132 ?_
            refine lv_iload_n hx hb dX8_channel_135 rfl (lv_at hl 2 rfl) ?_
            refine lv_dup2_11 hx hb dX8_channel_136 rfl rfl ?_
            refine oh_iald hC hP 11 0 rfl rfl hi1 dX8_channel_137 ?_
            refine lv_iconst (v := (1 : Int32)) hx hb dX8_channel_138 (by decide) ?_
            refine lv_iadd hx hb dX8_channel_139 ?_
            refine oh_iast (σ' := (oh_up (oh_up (oh_up (oh_up (oh_up s8 3 ((σ 9 p1.toNatClampNeg) &&& (63 : Int32)).toNatClampNeg (0 : Int32)) 4 ((σ 9 p1.toNatClampNeg) &&& (63 : Int32)).toNatClampNeg (0 : Int32)) 6 p1.toNatClampNeg r9) 7 p1.toNatClampNeg (((s8 7 p1.toNatClampNeg) + (1 : Int32)) &&& (65535 : Int32))) 10 p1.toNatClampNeg ((s8 10 p1.toNatClampNeg) + (1 : Int32)))) hC hP hD hS 11 0 rfl rfl hi1 rfl dX8_channel_140 (fun H locs hP hD hS => ?_)
            refine lv_aload_n hx hb dX8_channel_141 rfl (lv_at hl 1 rfl) ?_
            refine oh_get (v := .ref (a 9)) hC hP inX8_channel_X8 0 rfl rfl 24 (by decide) (by decide +kernel) rfl dX8_channel_142 ?_
            refine lv_iload_n hx hb dX8_channel_145 rfl (lv_at hl 2 rfl) ?_
            refine oh_iald hC hP 9 0 rfl rfl hi1 dX8_channel_146 ?_
            refine lv_if_ne (tgt := 196) hx hb dX8_channel_147 (by decide) (fun c10 => ?_) (fun c10 => ?_)
            · refine lv_aload_n hx hb dX8_channel_196 rfl (lv_at hl 1 rfl) ?_
              refine oh_get (v := .ref (a 10)) hC hP inX8_channel_X8 0 rfl rfl 25 (by decide) (by decide +kernel) rfl dX8_channel_197 ?_
              refine lv_iload_n hx hb dX8_channel_200 rfl (lv_at hl 2 rfl) ?_
              refine oh_iald hC hP 10 0 rfl rfl hi1 dX8_channel_201 ?_
              refine lv_bipush (v := (15 : Int32)) hx hb dX8_channel_202 (by decide) ?_
              refine lv_ishr hx hb dX8_channel_204 ?_
              refine lv_iconst (v := (1 : Int32)) hx hb dX8_channel_205 (by decide) ?_
              refine lv_icmp_ne (tgt := 221) hx hb dX8_channel_206 (by decide) (fun c11 => ?_) (fun c11 => ?_)
              · exact oh_retv (u := (oh_up (oh_up (oh_up (oh_up (oh_up s8 3 ((σ 9 p1.toNatClampNeg) &&& (63 : Int32)).toNatClampNeg (0 : Int32)) 4 ((σ 9 p1.toNatClampNeg) &&& (63 : Int32)).toNatClampNeg (0 : Int32)) 6 p1.toNatClampNeg r9) 7 p1.toNatClampNeg (((s8 7 p1.toNatClampNeg) + (1 : Int32)) &&& (65535 : Int32))) 10 p1.toNatClampNeg ((s8 10 p1.toNatClampNeg) + (1 : Int32)))) hC hP hD hS (by subst hr9; exact (((if_neg c10).trans (if_neg c11)).symm).trans hK14) dX8_channel_221
              · refine lv_aload_n hx hb dX8_channel_209 rfl (lv_at hl 1 rfl) ?_
                refine oh_get (v := .ref (a 2)) hC hP inX8_channel_X8 0 rfl rfl 17 (by decide) (by decide +kernel) rfl dX8_channel_210 ?_
                refine lv_iload_n hx hb dX8_channel_213 rfl (lv_at hl 0 rfl) ?_
                refine lv_iconst (v := (1 : Int32)) hx hb dX8_channel_214 (by decide) ?_
                refine oh_zast (σ' := (oh_up (oh_up (oh_up (oh_up (oh_up (oh_up s8 3 ((σ 9 p1.toNatClampNeg) &&& (63 : Int32)).toNatClampNeg (0 : Int32)) 4 ((σ 9 p1.toNatClampNeg) &&& (63 : Int32)).toNatClampNeg (0 : Int32)) 6 p1.toNatClampNeg r9) 7 p1.toNatClampNeg (((s8 7 p1.toNatClampNeg) + (1 : Int32)) &&& (65535 : Int32))) 10 p1.toNatClampNeg ((s8 10 p1.toNatClampNeg) + (1 : Int32))) 2 ((σ 9 p1.toNatClampNeg) &&& (63 : Int32)).toNatClampNeg (1 : Int32))) hC hP hD hS 2 4 rfl rfl (oh_in8 c2 c3) (by decide) rfl dX8_channel_215 (fun H locs hP hD hS => ?_)
                refine lv_aload_n hx hb dX8_channel_216 rfl (lv_at hl 1 rfl) ?_
                refine lv_iload_n hx hb dX8_channel_217 rfl (lv_at hl 0 rfl) ?_
                refine oh_cvv (As := [.int ((σ 9 p1.toNatClampNeg) &&& (63 : Int32))]) (rest := []) hC hP hD hS (mtX8_started l a k D (oh_up (oh_up (oh_up (oh_up (oh_up (oh_up s8 3 ((σ 9 p1.toNatClampNeg) &&& (63 : Int32)).toNatClampNeg (0 : Int32)) 4 ((σ 9 p1.toNatClampNeg) &&& (63 : Int32)).toNatClampNeg (0 : Int32)) 6 p1.toNatClampNeg r9) 7 p1.toNatClampNeg (((s8 7 p1.toNatClampNeg) + (1 : Int32)) &&& (65535 : Int32))) 10 p1.toNatClampNeg ((s8 10 p1.toNatClampNeg) + (1 : Int32))) 2 ((σ 9 p1.toNatClampNeg) &&& (63 : Int32)).toNatClampNeg (1 : Int32)) ((σ 9 p1.toNatClampNeg) &&& (63 : Int32)) (oh_in8 c2 c3)) (cwV 1 hts gX8_channel_X8_started rfl rfl rfl (by decide +kernel) ⟨Nat.le_of_ble_eq_true rfl, Nat.le_of_ble_eq_true rfl⟩) 0 8 rfl rfl rfl hl.1 rfl (Nat.le_of_ble_eq_true rfl) dX8_channel_218 (fun s12 H locs hs12 hP hD hS => ?_)
                exact oh_retv (u := s12) hC hP hD hS (by subst hs12 hr9; exact (((if_neg c10).trans (if_pos c11)).symm).trans hK14) dX8_channel_221
            · refine lv_aload_n hx hb dX8_channel_150 rfl (lv_at hl 1 rfl) ?_
              refine oh_get (v := .ref (a 3)) hC hP inX8_channel_X8 0 rfl rfl 18 (by decide) (by decide +kernel) rfl dX8_channel_151 ?_
              refine lv_iload_n hx hb dX8_channel_154 rfl (lv_at hl 2 rfl) ?_
              refine lv_iconst (v := (1 : Int32)) hx hb dX8_channel_155 (by decide) ?_
              refine oh_zast (σ' := (oh_up (oh_up (oh_up (oh_up (oh_up (oh_up s8 3 ((σ 9 p1.toNatClampNeg) &&& (63 : Int32)).toNatClampNeg (0 : Int32)) 4 ((σ 9 p1.toNatClampNeg) &&& (63 : Int32)).toNatClampNeg (0 : Int32)) 6 p1.toNatClampNeg r9) 7 p1.toNatClampNeg (((s8 7 p1.toNatClampNeg) + (1 : Int32)) &&& (65535 : Int32))) 10 p1.toNatClampNeg ((s8 10 p1.toNatClampNeg) + (1 : Int32))) 3 p1.toNatClampNeg (1 : Int32))) hC hP hD hS 3 4 rfl rfl hi1 (by decide) rfl dX8_channel_156 (fun H locs hP hD hS => ?_)
              refine lv_aload_n hx hb dX8_channel_157 rfl (lv_at hl 1 rfl) ?_
              refine oh_get (v := .ref (a 4)) hC hP inX8_channel_X8 0 rfl rfl 19 (by decide) (by decide +kernel) rfl dX8_channel_158 ?_
              refine lv_iload_n hx hb dX8_channel_161 rfl (lv_at hl 2 rfl) ?_
              refine lv_iconst (v := (1 : Int32)) hx hb dX8_channel_162 (by decide) ?_
              refine oh_zast (σ' := (oh_up (oh_up (oh_up (oh_up (oh_up (oh_up (oh_up s8 3 ((σ 9 p1.toNatClampNeg) &&& (63 : Int32)).toNatClampNeg (0 : Int32)) 4 ((σ 9 p1.toNatClampNeg) &&& (63 : Int32)).toNatClampNeg (0 : Int32)) 6 p1.toNatClampNeg r9) 7 p1.toNatClampNeg (((s8 7 p1.toNatClampNeg) + (1 : Int32)) &&& (65535 : Int32))) 10 p1.toNatClampNeg ((s8 10 p1.toNatClampNeg) + (1 : Int32))) 3 p1.toNatClampNeg (1 : Int32)) 4 p1.toNatClampNeg (1 : Int32))) hC hP hD hS 4 4 rfl rfl hi1 (by decide) rfl dX8_channel_163 (fun H locs hP hD hS => ?_)
              refine lv_aload_n hx hb dX8_channel_164 rfl (lv_at hl 1 rfl) ?_
              refine oh_get (v := .ref (a 5)) hC hP inX8_channel_X8 0 rfl rfl 20 (by decide) (by decide +kernel) rfl dX8_channel_165 ?_
              refine lv_iload_n hx hb dX8_channel_168 rfl (lv_at hl 2 rfl) ?_
              refine lv_iconst (v := (0 : Int32)) hx hb dX8_channel_169 (by decide) ?_
              refine oh_zast (σ' := (oh_up (oh_up (oh_up (oh_up (oh_up (oh_up (oh_up (oh_up s8 3 ((σ 9 p1.toNatClampNeg) &&& (63 : Int32)).toNatClampNeg (0 : Int32)) 4 ((σ 9 p1.toNatClampNeg) &&& (63 : Int32)).toNatClampNeg (0 : Int32)) 6 p1.toNatClampNeg r9) 7 p1.toNatClampNeg (((s8 7 p1.toNatClampNeg) + (1 : Int32)) &&& (65535 : Int32))) 10 p1.toNatClampNeg ((s8 10 p1.toNatClampNeg) + (1 : Int32))) 3 p1.toNatClampNeg (1 : Int32)) 4 p1.toNatClampNeg (1 : Int32)) 5 p1.toNatClampNeg (0 : Int32))) hC hP hD hS 5 4 rfl rfl hi1 (by decide) rfl dX8_channel_170 (fun H locs hP hD hS => ?_)
              refine lv_aload_n hx hb dX8_channel_171 rfl (lv_at hl 1 rfl) ?_
              refine oh_get (v := .ref (a 10)) hC hP inX8_channel_X8 0 rfl rfl 25 (by decide) (by decide +kernel) rfl dX8_channel_172 ?_
              refine lv_iload_n hx hb dX8_channel_175 rfl (lv_at hl 2 rfl) ?_
              refine oh_iald hC hP 10 0 rfl rfl hi1 dX8_channel_176 ?_
              refine lv_bipush (v := (13 : Int32)) hx hb dX8_channel_177 (by decide) ?_
              refine lv_ishr hx hb dX8_channel_179 ?_
              refine lv_iconst (v := (1 : Int32)) hx hb dX8_channel_180 (by decide) ?_
              refine lv_iand hx hb dX8_channel_181 ?_
              refine lv_iconst (v := (1 : Int32)) hx hb dX8_channel_182 (by decide) ?_
              refine lv_icmp_ne (tgt := 221) hx hb dX8_channel_183 (by decide) (fun c13 => ?_) (fun c13 => ?_)
              · exact oh_retv (u := (oh_up (oh_up (oh_up (oh_up (oh_up (oh_up (oh_up (oh_up s8 3 ((σ 9 p1.toNatClampNeg) &&& (63 : Int32)).toNatClampNeg (0 : Int32)) 4 ((σ 9 p1.toNatClampNeg) &&& (63 : Int32)).toNatClampNeg (0 : Int32)) 6 p1.toNatClampNeg r9) 7 p1.toNatClampNeg (((s8 7 p1.toNatClampNeg) + (1 : Int32)) &&& (65535 : Int32))) 10 p1.toNatClampNeg ((s8 10 p1.toNatClampNeg) + (1 : Int32))) 3 p1.toNatClampNeg (1 : Int32)) 4 p1.toNatClampNeg (1 : Int32)) 5 p1.toNatClampNeg (0 : Int32))) hC hP hD hS (by subst hr9; exact (((if_pos c10).trans (if_neg c13)).symm).trans hK14) dX8_channel_221
              · refine lv_aload_n hx hb dX8_channel_186 rfl (lv_at hl 1 rfl) ?_
                refine oh_get (v := .ref (a 2)) hC hP inX8_channel_X8 0 rfl rfl 17 (by decide) (by decide +kernel) rfl dX8_channel_187 ?_
                refine lv_iload_n hx hb dX8_channel_190 rfl (lv_at hl 0 rfl) ?_
                refine lv_iconst (v := (0 : Int32)) hx hb dX8_channel_191 (by decide) ?_
                refine oh_zast (σ' := (oh_up (oh_up (oh_up (oh_up (oh_up (oh_up (oh_up (oh_up (oh_up s8 3 ((σ 9 p1.toNatClampNeg) &&& (63 : Int32)).toNatClampNeg (0 : Int32)) 4 ((σ 9 p1.toNatClampNeg) &&& (63 : Int32)).toNatClampNeg (0 : Int32)) 6 p1.toNatClampNeg r9) 7 p1.toNatClampNeg (((s8 7 p1.toNatClampNeg) + (1 : Int32)) &&& (65535 : Int32))) 10 p1.toNatClampNeg ((s8 10 p1.toNatClampNeg) + (1 : Int32))) 3 p1.toNatClampNeg (1 : Int32)) 4 p1.toNatClampNeg (1 : Int32)) 5 p1.toNatClampNeg (0 : Int32)) 2 ((σ 9 p1.toNatClampNeg) &&& (63 : Int32)).toNatClampNeg (0 : Int32))) hC hP hD hS 2 4 rfl rfl (oh_in8 c2 c3) (by decide) rfl dX8_channel_192 (fun H locs hP hD hS => ?_)
                refine lv_goto (tgt := 221) hx hb dX8_channel_193 (by decide) ?_
                exact oh_retv (u := (oh_up (oh_up (oh_up (oh_up (oh_up (oh_up (oh_up (oh_up (oh_up s8 3 ((σ 9 p1.toNatClampNeg) &&& (63 : Int32)).toNatClampNeg (0 : Int32)) 4 ((σ 9 p1.toNatClampNeg) &&& (63 : Int32)).toNatClampNeg (0 : Int32)) 6 p1.toNatClampNeg r9) 7 p1.toNatClampNeg (((s8 7 p1.toNatClampNeg) + (1 : Int32)) &&& (65535 : Int32))) 10 p1.toNatClampNeg ((s8 10 p1.toNatClampNeg) + (1 : Int32))) 3 p1.toNatClampNeg (1 : Int32)) 4 p1.toNatClampNeg (1 : Int32)) 5 p1.toNatClampNeg (0 : Int32)) 2 ((σ 9 p1.toNatClampNeg) &&& (63 : Int32)).toNatClampNeg (0 : Int32))) hC hP hD hS (by subst hr9; exact (((if_pos c10).trans (if_pos c13)).symm).trans hK14) dX8_channel_221
          refine lv_if_eq (tgt := 69) hx hb dX8_channel_47 (by decide) (fun c5 => ?_) (fun c5 => ?_)
          · refine lv_aload_n hx hb dX8_channel_69 rfl (lv_at hl 1 rfl) ?_
            refine oh_get (v := .ref (a 14)) hC hP inX8_channel_X8 0 rfl rfl 29 (by decide) (by decide +kernel) rfl dX8_channel_70 ?_
            refine lv_iload_n hx hb dX8_channel_73 rfl (lv_at hl 0 rfl) ?_
            refine lv_aload_n hx hb dX8_channel_74 rfl (lv_at hl 1 rfl) ?_
            refine lv_aload_n hx hb dX8_channel_75 rfl (lv_at hl 1 rfl) ?_
            refine oh_get (v := .ref (a 8)) hC hP inX8_channel_X8 0 rfl rfl 23 (by decide) (by decide +kernel) rfl dX8_channel_76 ?_
            refine lv_iload_n hx hb dX8_channel_79 rfl (lv_at hl 2 rfl) ?_
            refine oh_iald hC hP 8 0 rfl rfl hi1 dX8_channel_80 ?_
            refine oh_cvp (As := [.int (σ 6 p1.toNatClampNeg)]) (rest := [.int ((σ 9 p1.toNatClampNeg) &&& (63 : Int32)), .ref (a 14)]) hC hP hD hS (mtX8_at l a k D σ (σ 6 p1.toNatClampNeg) ha) (cwV 1 hts gX8_channel_X8_at rfl rfl rfl (by decide +kernel) ⟨Nat.le_of_ble_eq_true rfl, Nat.le_of_ble_eq_true rfl⟩) 0 8 rfl rfl rfl hl.1 rfl (Nat.le_of_ble_eq_true rfl) dX8_channel_81 (fun r6 H locs hr6 hP hD hS => ?_)
            refine oh_iast (σ' := (oh_up σ 14 ((σ 9 p1.toNatClampNeg) &&& (63 : Int32)).toNatClampNeg r6)) hC hP hD hS 14 0 rfl rfl (oh_in8 c2 c3) rfl dX8_channel_84 (fun H locs hP hD hS => ?_)
            exact K14 _ (by subst hr6; exact (if_pos c5).symm) ls _ _ hP hD hS (lv_sub hl [0, 1, 2] rfl)
          · refine lv_aload_n hx hb dX8_channel_50 rfl (lv_at hl 1 rfl) ?_
            refine lv_aload_n hx hb dX8_channel_51 rfl (lv_at hl 1 rfl) ?_
            refine oh_get (v := .ref (a 8)) hC hP inX8_channel_X8 0 rfl rfl 23 (by decide) (by decide +kernel) rfl dX8_channel_52 ?_
            refine lv_iload_n hx hb dX8_channel_55 rfl (lv_at hl 2 rfl) ?_
            refine oh_iald hC hP 8 0 rfl rfl hi1 dX8_channel_56 ?_
            refine lv_aload_n hx hb dX8_channel_57 rfl (lv_at hl 1 rfl) ?_
            refine oh_get (v := .ref (a 14)) hC hP inX8_channel_X8 0 rfl rfl 29 (by decide) (by decide +kernel) rfl dX8_channel_58 ?_
            refine lv_iload_n hx hb dX8_channel_61 rfl (lv_at hl 0 rfl) ?_
            refine oh_iald hC hP 14 0 rfl rfl (oh_in8 c2 c3) dX8_channel_62 ?_
            refine oh_cvv (As := [.int (σ 6 p1.toNatClampNeg), .int (σ 14 ((σ 9 p1.toNatClampNeg) &&& (63 : Int32)).toNatClampNeg)]) (rest := []) hC hP hD hS (mtX8_put l a k D σ (σ 6 p1.toNatClampNeg) (σ 14 ((σ 9 p1.toNatClampNeg) &&& (63 : Int32)).toNatClampNeg) ha) (cwV 2 hts gX8_channel_X8_put rfl rfl rfl (by decide +kernel) ⟨Nat.le_of_ble_eq_true rfl, Nat.le_of_ble_eq_true rfl⟩) 0 8 rfl rfl rfl hl.1 rfl (Nat.le_of_ble_eq_true rfl) dX8_channel_63 (fun s7 H locs hs7 hP hD hS => ?_)
            refine lv_goto (tgt := 85) hx hb dX8_channel_66 (by decide) ?_
            exact K14 _ (by subst hs7; exact (if_neg c5).symm) ls _ _ hP hD hS (lv_sub hl [0, 1, 2] rfl)
        · exact oh_retv (u := σ) hC hP hD hS (by exact ((((if_neg c1).trans (if_neg c2)).trans (if_neg c3)).trans (if_pos c4)).symm) dX8_channel_40
theorem oh_gv {σ s2 : oh_St} {p1 x5 : Int32} (h : ¬ p1 < 0 ∧ ¬ (4 : Int32) ≤ p1) (ht : ∀ i : Nat, ∃ t : Nat, t ≤ 100 ∧ σ 16 i = nI t) (hs : s2 = (spX8_lacks σ p1 (4 : Int32)).2) (hx : x5 = (if (s2 16 ((8 : Int32) + p1).toNatClampNeg) = (100 : Int32) then (2 : Int32) else (0 : Int32))) (c : x5 ≤ (0 : Int32)) : vp_in (((100 : Int32) * ((8 : Int32) + p1)) + (s2 16 ((8 : Int32) + p1).toNatClampNeg)) 1200 := by
  have e : ∀ i : Nat, s2 16 i = σ 16 i := by
    intro i
    rw [hs]
    unfold spX8_lacks
    split <;> rfl
  obtain ⟨t, ht1, e2⟩ := ht ((8 : Int32) + p1).toNatClampNeg
  rw [e, e2] at hx ⊢
  have h1 : t ≠ 100 := by
    intro e3
    subst e3
    rw [if_pos (show nI 100 = (100 : Int32) from rfl)] at hx
    rw [hx] at c
    exact absurd c (by decide)
  exact oh_ix8 (C := 100) h rfl (by decide) rfl (by omega)
-- OctalHouseModel.give
theorem inX8_give_X8 : ∀ w ∈ u_ws RX8 TX8 35, w ∈ wsX8_give := by decide +kernel
def spX8_give_k7 (p1 : Int32) (p2 : Int32) (s2 : oh_St) (x5 : Int32) : Int32 × oh_St := (if x5 ≤ (0 : Int32) then (((oh_up (oh_up (oh_up s2 0 12 x5) 20 (((100 : Int32) * ((8 : Int32) + p1)) + (s2 16 ((8 : Int32) + p1).toNatClampNeg)).toNatClampNeg (p2 &&& (65535 : Int32))) 16 ((8 : Int32) + p1).toNatClampNeg ((s2 16 ((8 : Int32) + p1).toNatClampNeg) + (1 : Int32))) 16 ((8 : Int32) + p1).toNatClampNeg), (oh_up (oh_up (oh_up s2 0 12 x5) 20 (((100 : Int32) * ((8 : Int32) + p1)) + (s2 16 ((8 : Int32) + p1).toNatClampNeg)).toNatClampNeg (p2 &&& (65535 : Int32))) 16 ((8 : Int32) + p1).toNatClampNeg ((s2 16 ((8 : Int32) + p1).toNatClampNeg) + (1 : Int32)))) else ((0 : Int32), (oh_up s2 0 12 x5)))
def spX8_give (σ : oh_St) (p1 : Int32) (p2 : Int32) : Int32 × oh_St := (let r1 : Int32 := (spX8_lacks σ p1 (4 : Int32)).1; (let s2 : oh_St := (spX8_lacks σ p1 (4 : Int32)).2; (if r1 = (0 : Int32) then (let x5 : Int32 := (if (s2 16 ((8 : Int32) + p1).toNatClampNeg) = (100 : Int32) then (2 : Int32) else (0 : Int32)); (spX8_give_k7 p1 p2 s2 x5)) else ((0 : Int32), s2))))
set_option maxHeartbeats 8000000 in
set_option maxRecDepth 100000 in
theorem mtX8_give (l : Launch) (a : Nat → Nat) (k : Nat → ClassId) (D : va_G) (σ : oh_St) (p1 : Int32) (p2 : Int32) (ht : ∀ i : Nat, ∃ t : Nat, t ≤ 100 ∧ σ 16 i = nI t) : oh_Mi l yX8_give wsX8_give { frames := 1, cells := 0, slots := 0, locals := 22 } D (oh_ty k) (oh_V a k) [.ref (a 0), .int p1, .int p2] σ (fun r u => r = (spX8_give σ p1 p2).1 ∧ u = (spX8_give σ p1 p2).2) := by
  refine oh_ini (cc := cX8_give) (nL := 4) (rt := some .int) (by decide) rfl (Nat.le_of_ble_eq_true rfl) ?_
  intro p e s m below meth c A ls hC hP hD hS hl
  obtain ⟨hx, hb, hml, hown, hts, hr, hlocks, hK, hN, hA⟩ := id hC
  have hl : lv_has ls 4 [(0, .ref (a 0)), (1, .int p1), (2, .int p2)] := hl
  refine lv_aload_n hx hb dX8_give_0 rfl (lv_at hl 0 rfl) ?_
  refine lv_iload_n hx hb dX8_give_1 rfl (lv_at hl 1 rfl) ?_
  refine lv_iconst (v := (4 : Int32)) hx hb dX8_give_2 (by decide) ?_
  refine oh_cvi (As := [.int p1, .int (4 : Int32)]) (rest := []) hC hP hD hS (mtX8_lacks l a k D σ p1 (4 : Int32)) (cwV 2 hts gX8_give_X8_lacks rfl rfl rfl (by decide +kernel) ⟨Nat.le_of_ble_eq_true rfl, Nat.le_of_ble_eq_true rfl⟩) 0 8 rfl rfl rfl hl.1 rfl (Nat.le_of_ble_eq_true rfl) dX8_give_3 (fun r1 s2 H locs hw hP hD hS => ?_)
  obtain ⟨hr1, hs2⟩ := hw
  refine lv_if_eq (tgt := 11) hx hb dX8_give_6 (by decide) (fun c3 => ?_) (fun c3 => ?_)
  · refine lv_bipush (v := (8 : Int32)) hx hb dX8_give_11 (by decide) ?_
    refine lv_iload_n hx hb dX8_give_13 rfl (lv_at hl 1 rfl) ?_
    refine lv_iadd hx hb dX8_give_14 ?_
    refine lv_istore_n (lv' := [(3, .int ((8 : Int32) + p1)), (0, .ref (a 0)), (1, .int p1), (2, .int p2)]) hx hb dX8_give_15 rfl hl (by decide) rfl (fun ls hl => ?_)
    refine lv_aload_n hx hb dX8_give_16 rfl (lv_at hl 1 rfl) ?_
    refine lv_aload_n hx hb dX8_give_17 rfl (lv_at hl 1 rfl) ?_
    refine oh_get (v := .ref (a 16)) hC hP inX8_give_X8 0 rfl rfl 31 (by decide) (by decide +kernel) rfl dX8_give_18 ?_
    refine lv_iload_n hx hb dX8_give_21 rfl (lv_at hl 0 rfl) ?_
    refine oh_iald hC hP 16 0 rfl rfl (oh_i8 (oh_lk hr1 c3)) dX8_give_22 ?_
    refine lv_bipush (v := (100 : Int32)) hx hb dX8_give_23 (by decide) ?_
    have K7 : ∀ x5 : Int32, x5 = (if (s2 16 ((8 : Int32) + p1).toNatClampNeg) = (100 : Int32) then (2 : Int32) else (0 : Int32)) → ∀ (ls : Array Slot) (H : Heap) (locs : List Loc), va_P D vwCl (oh_V a k s2) H → va_D A (oh_V a k s2) → va_S A s.heap H locs → lv_has ls 4 [(3, .int ((8 : Int32) + p1)), (0, .ref (a 0)), (1, .int p1), (2, .int p2)] → W p l e ({ frames := 1, cells := 0, slots := 0, locals := 22 } : Room) s m (([.ref (a 0), .int p1, .int p2] : List Value).toArray) below meth c H locs 0 0 (oh_Ei below (fun r u => r = (spX8_give σ p1 p2).1 ∧ u = (spX8_give σ p1 p2).2) D (oh_V a k) A [.ref (a 0), .int p1, .int p2] s) (F0 m 33 ls [.int x5, .ref (a 0)]) := by
      intro x5 hx5 ls H locs hP hD hS hl
      have hK7 : spX8_give_k7 p1 p2 s2 x5 = spX8_give σ p1 p2 := by
        subst hx5 hs2 hr1
        exact (if_pos c3).symm
      refine oh_put (σ' := (oh_up s2 0 12 x5)) (v := .int x5) hC hP hD hS inX8_give_X8 tyX8 tyX8_ok nmX8 0 rfl rfl 0 (by decide) (by decide +kernel) rfl rfl rfl (by simp) rfl dX8_give_33 (fun H locs hP hD hS => ?_)
      refine lv_aload_n hx hb dX8_give_36 rfl (lv_at hl 1 rfl) ?_
      refine oh_get (v := .int x5) hC hP inX8_give_X8 0 rfl rfl 0 (by decide) (by decide +kernel) rfl dX8_give_37 ?_
      refine lv_if_le (tgt := 45) hx hb dX8_give_40 (by decide) (fun c6 => ?_) (fun c6 => ?_)
      · refine lv_aload_n hx hb dX8_give_45 rfl (lv_at hl 1 rfl) ?_
        refine oh_get (v := .ref (a 18)) hC hP inX8_give_X8 0 rfl rfl 33 (by decide) (by decide +kernel) rfl dX8_give_46 ?_
        refine lv_bipush (v := (100 : Int32)) hx hb dX8_give_49 (by decide) ?_
        refine lv_iload_n hx hb dX8_give_51 rfl (lv_at hl 0 rfl) ?_
        refine lv_imul hx hb dX8_give_52 ?_
        refine lv_aload_n hx hb dX8_give_53 rfl (lv_at hl 1 rfl) ?_
        refine oh_get (v := .ref (a 16)) hC hP inX8_give_X8 0 rfl rfl 31 (by decide) (by decide +kernel) rfl dX8_give_54 ?_
        refine lv_iload_n hx hb dX8_give_57 rfl (lv_at hl 0 rfl) ?_
        refine oh_iald hC hP 16 0 rfl rfl (oh_i8 (oh_lk hr1 c3)) dX8_give_58 ?_
        refine lv_iadd hx hb dX8_give_59 ?_
        refine lv_iload_n hx hb dX8_give_60 rfl (lv_at hl 3 rfl) ?_
        refine lv_ldc (v := (65535 : Int32)) hx hb hown (hts (.constant RX8 102 (65535)) (by decide +kernel)) dX8_give_61 ?_
        refine lv_iand hx hb dX8_give_63 ?_
        refine oh_iast (σ' := (oh_up (oh_up s2 0 12 x5) 20 (((100 : Int32) * ((8 : Int32) + p1)) + (s2 16 ((8 : Int32) + p1).toNatClampNeg)).toNatClampNeg (p2 &&& (65535 : Int32)))) hC hP hD hS 18 0 rfl rfl (oh_gv (oh_lk hr1 c3) ht hs2 hx5 c6) rfl dX8_give_64 (fun H locs hP hD hS => ?_)
        refine lv_aload_n hx hb dX8_give_65 rfl (lv_at hl 1 rfl) ?_
        refine oh_get (v := .ref (a 16)) hC hP inX8_give_X8 0 rfl rfl 31 (by decide) (by decide +kernel) rfl dX8_give_66 ?_
        refine lv_iload_n hx hb dX8_give_69 rfl (lv_at hl 0 rfl) ?_
        refine lv_dup2_11 hx hb dX8_give_70 rfl rfl ?_
        refine oh_iald hC hP 16 0 rfl rfl (oh_i8 (oh_lk hr1 c3)) dX8_give_71 ?_
        refine lv_iconst (v := (1 : Int32)) hx hb dX8_give_72 (by decide) ?_
        refine lv_iadd hx hb dX8_give_73 ?_
        refine oh_iast (σ' := (oh_up (oh_up (oh_up s2 0 12 x5) 20 (((100 : Int32) * ((8 : Int32) + p1)) + (s2 16 ((8 : Int32) + p1).toNatClampNeg)).toNatClampNeg (p2 &&& (65535 : Int32))) 16 ((8 : Int32) + p1).toNatClampNeg ((s2 16 ((8 : Int32) + p1).toNatClampNeg) + (1 : Int32)))) hC hP hD hS 16 0 rfl rfl (oh_i8 (oh_lk hr1 c3)) rfl dX8_give_74 (fun H locs hP hD hS => ?_)
        refine lv_aload_n hx hb dX8_give_75 rfl (lv_at hl 1 rfl) ?_
        refine oh_get (v := .ref (a 16)) hC hP inX8_give_X8 0 rfl rfl 31 (by decide) (by decide +kernel) rfl dX8_give_76 ?_
        refine lv_iload_n hx hb dX8_give_79 rfl (lv_at hl 0 rfl) ?_
        refine oh_iald hC hP 16 0 rfl rfl (oh_i8 (oh_lk hr1 c3)) dX8_give_80 ?_
        exact oh_reti (v := ((oh_up (oh_up (oh_up s2 0 12 x5) 20 (((100 : Int32) * ((8 : Int32) + p1)) + (s2 16 ((8 : Int32) + p1).toNatClampNeg)).toNatClampNeg (p2 &&& (65535 : Int32))) 16 ((8 : Int32) + p1).toNatClampNeg ((s2 16 ((8 : Int32) + p1).toNatClampNeg) + (1 : Int32))) 16 ((8 : Int32) + p1).toNatClampNeg)) (u := (oh_up (oh_up (oh_up s2 0 12 x5) 20 (((100 : Int32) * ((8 : Int32) + p1)) + (s2 16 ((8 : Int32) + p1).toNatClampNeg)).toNatClampNeg (p2 &&& (65535 : Int32))) 16 ((8 : Int32) + p1).toNatClampNeg ((s2 16 ((8 : Int32) + p1).toNatClampNeg) + (1 : Int32)))) hC hP hD hS (oh_pair (by exact ((if_pos c6).symm).trans hK7)) dX8_give_81
      · refine lv_iconst (v := (0 : Int32)) hx hb dX8_give_43 (by decide) ?_
        exact oh_reti (v := (0 : Int32)) (u := (oh_up s2 0 12 x5)) hC hP hD hS (oh_pair (by exact ((if_neg c6).symm).trans hK7)) dX8_give_44
    refine lv_icmp_ne (tgt := 32) hx hb dX8_give_25 (by decide) (fun c4 => ?_) (fun c4 => ?_)
    · refine lv_iconst (v := (0 : Int32)) hx hb dX8_give_32 (by decide) ?_
      exact K7 _ (if_neg c4).symm ls _ _ hP hD hS (lv_sub hl [0, 1, 2, 3] rfl)
    · refine lv_iconst (v := (2 : Int32)) hx hb dX8_give_28 (by decide) ?_
      refine lv_goto (tgt := 33) hx hb dX8_give_29 (by decide) ?_
      exact K7 _ (if_pos c4).symm ls _ _ hP hD hS (lv_sub hl [0, 1, 2, 3] rfl)
  · refine lv_iconst (v := (0 : Int32)) hx hb dX8_give_9 (by decide) ?_
    exact oh_reti (v := (0 : Int32)) (u := s2) hC hP hD hS (oh_pair (by subst hs2 hr1; exact (if_neg c3).symm)) dX8_give_10
