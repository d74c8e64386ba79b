-- OctalHouseModel.channel
theorem inX8_channel_X8 : ∀ w ∈ u_ws RX8 TX8 35, w ∈ wsX8_channel := by decide +kernel
def spX8_channel_k26 (p1 : Int32) (y1 : Int32) (s10 : oh_St) : oh_St := (let s11 : oh_St := (oh_up s10 3 y1.toNatClampNeg (0 : Int32)); (let s12 : oh_St := (oh_up s11 4 y1.toNatClampNeg (0 : Int32)); (let r13 : Int32 := (spX8_more (s12 6 p1.toNatClampNeg)); (let s14 : oh_St := (oh_up s12 6 p1.toNatClampNeg r13); (let s15 : oh_St := (oh_up s14 7 p1.toNatClampNeg (((s14 7 p1.toNatClampNeg) + (1 : Int32)) &&& (65535 : Int32))); (let s16 : oh_St := (oh_up s15 10 p1.toNatClampNeg ((s15 10 p1.toNatClampNeg) + (1 : Int32))); (if (s16 7 p1.toNatClampNeg) = (0 : Int32) then (let s21 : oh_St := (oh_up s16 3 p1.toNatClampNeg (1 : Int32)); (let s22 : oh_St := (oh_up s21 4 p1.toNatClampNeg (1 : Int32)); (let s23 : oh_St := (oh_up s22 5 p1.toNatClampNeg (0 : Int32)); (if (((s23 9 p1.toNatClampNeg) >>> ((13 : Int32) &&& 31)) &&& (1 : Int32)) = (1 : Int32) then (let s25 : oh_St := (oh_up s23 2 y1.toNatClampNeg (0 : Int32)); s25) else s23)))) else (if ((s16 9 p1.toNatClampNeg) >>> ((15 : Int32) &&& 31)) = (1 : Int32) then (let s19 : oh_St := (oh_up s16 2 y1.toNatClampNeg (1 : Int32)); (let s20 : oh_St := (spX8_started s19 y1); s20)) else s16))))))))
def spX8_channel (σ : oh_St) (p1 : Int32) : oh_St := (let y1 : Int32 := ((σ 9 p1.toNatClampNeg) &&& (63 : Int32)); (if (σ 5 p1.toNatClampNeg) = (0 : Int32) then σ else (if y1 < (8 : Int32) then σ else (if (12 : Int32) ≤ y1 then σ else (if (σ 3 y1.toNatClampNeg) = (0 : Int32) then σ else (let s10 : oh_St := (if (σ 8 p1.toNatClampNeg) = (0 : Int32) then (let r7 : Int32 := (spX8_at σ (σ 6 p1.toNatClampNeg)); (let s8 : oh_St := (oh_up σ 14 y1.toNatClampNeg r7); s8)) else (let s9 : oh_St := (spX8_put σ (σ 6 p1.toNatClampNeg) (σ 14 y1.toNatClampNeg)); s9)); (spX8_channel_k26 p1 y1 s10)))))))
set_option maxHeartbeats 8000000 in
set_option maxRecDepth 100000 in
theorem mtX8_channel (l : Launch) (a : Nat → Nat) (k : Nat → ClassId) (D : va_G) (σ : oh_St) (p1 : Int32) (hi1 : vp_in p1 12) (ha : ¬ σ 6 p1.toNatClampNeg < 0) : oh_Mv l yX8_channel wsX8_channel { frames := 1, cells := 0, slots := 0, locals := 22 } D (oh_ty k) (oh_V a k) [.ref (a 0), .int p1] σ (fun u => u = spX8_channel σ p1) := by
  refine oh_inv (cc := cX8_channel) (nL := 3) (rt := none) (by decide) rfl (Nat.le_of_ble_eq_true rfl) ?_
  intro p e s m below meth c A ls hC hP hD hS hl
  obtain ⟨hx, hb, hml, hown, hts, hr, hlocks, hK, hN, hA⟩ := id hC
  have hl : lv_has ls 3 [(0, .ref (a 0)), (1, .int p1)] := hl
  refine lv_aload_n hx hb dX8_channel_0 rfl (lv_at hl 0 rfl) ?_
  refine oh_get (v := .ref (a 10)) hC hP inX8_channel_X8 0 rfl rfl 25 (by decide) (by decide +kernel) rfl dX8_channel_1 ?_
  refine lv_iload_n hx hb dX8_channel_4 rfl (lv_at hl 1 rfl) ?_
  refine oh_iald hC hP 10 0 rfl rfl hi1 dX8_channel_5 ?_
  refine lv_bipush (v := (63 : Int32)) hx hb dX8_channel_6 (by decide) ?_
  refine lv_iand hx hb dX8_channel_8 ?_
  refine lv_topi (fun y1 hy1 => ?_)
  refine lv_istore_n (lv' := [(2, .int y1), (0, .ref (a 0)), (1, .int p1)]) hx hb dX8_channel_9 rfl hl (by decide) rfl (fun ls hl => ?_)
  refine lv_aload_n hx hb dX8_channel_10 rfl (lv_at hl 1 rfl) ?_
  refine oh_get (v := .ref (a 5)) hC hP inX8_channel_X8 0 rfl rfl 20 (by decide) (by decide +kernel) rfl dX8_channel_11 ?_
  refine lv_iload_n hx hb dX8_channel_14 rfl (lv_at hl 2 rfl) ?_
  refine oh_zald hC hP 5 4 rfl rfl hi1 dX8_channel_15 ?_
  refine lv_if_eq (tgt := 40) hx hb dX8_channel_16 (by decide) (fun c2 => ?_) (fun c2 => ?_)
  · exact oh_retv (u := σ) hC hP hD hS (by subst hy1; exact (if_pos c2).symm) dX8_channel_40
  · refine lv_iload_n hx hb dX8_channel_19 rfl (lv_at hl 0 rfl) ?_
    refine lv_bipush (v := (8 : Int32)) hx hb dX8_channel_20 (by decide) ?_
    refine lv_icmp_lt (tgt := 40) hx hb dX8_channel_22 (by decide) (fun c3 => ?_) (fun c3 => ?_)
    · exact oh_retv (u := σ) hC hP hD hS (by subst hy1; exact ((if_neg c2).trans (if_pos c3)).symm) dX8_channel_40
    · refine lv_iload_n hx hb dX8_channel_25 rfl (lv_at hl 0 rfl) ?_
      refine lv_bipush (v := (12 : Int32)) hx hb dX8_channel_26 (by decide) ?_
      refine lv_icmp_ge (tgt := 40) hx hb dX8_channel_28 (by decide) (fun c4 => ?_) (fun c4 => ?_)
      · exact oh_retv (u := σ) hC hP hD hS (by subst hy1; exact (((if_neg c2).trans (if_neg c3)).trans (if_pos c4)).symm) dX8_channel_40
      · refine lv_aload_n hx hb dX8_channel_31 rfl (lv_at hl 1 rfl) ?_
        refine oh_get (v := .ref (a 3)) hC hP inX8_channel_X8 0 rfl rfl 18 (by decide) (by decide +kernel) rfl dX8_channel_32 ?_
        refine lv_iload_n hx hb dX8_channel_35 rfl (lv_at hl 0 rfl) ?_
        refine oh_zald hC hP 3 4 rfl rfl (oh_in8 c3 c4) dX8_channel_36 ?_
        refine lv_if_ne (tgt := 41) hx hb dX8_channel_37 (by decide) (fun c5 => ?_) (fun c5 => ?_)
        · refine lv_aload_n hx hb dX8_channel_41 rfl (lv_at hl 1 rfl) ?_
          refine oh_get (v := .ref (a 6)) hC hP inX8_channel_X8 0 rfl rfl 21 (by decide) (by decide +kernel) rfl dX8_channel_42 ?_
          refine lv_iload_n hx hb dX8_channel_45 rfl (lv_at hl 2 rfl) ?_
          refine oh_zald hC hP 6 4 rfl rfl hi1 dX8_channel_46 ?_
          have K26 : ∀ s10 : oh_St, s10 = (if (σ 8 p1.toNatClampNeg) = (0 : Int32) then (let r7 : Int32 := (spX8_at σ (σ 6 p1.toNatClampNeg)); (let s8 : oh_St := (oh_up σ 14 y1.toNatClampNeg r7); s8)) else (let s9 : oh_St := (spX8_put σ (σ 6 p1.toNatClampNeg) (σ 14 y1.toNatClampNeg)); s9)) → ∀ (ls : Array Slot) (H : Heap) (locs : List Loc), va_P D vwCl (oh_V a k s10) H → va_D A (oh_V a k s10) → va_S A s.heap H locs → lv_has ls 3 [(2, .int y1), (0, .ref (a 0)), (1, .int p1)] → W p l e ({ frames := 1, cells := 0, slots := 0, locals := 22 } : Room) s m (([.ref (a 0), .int p1] : List Value).toArray) below meth c H locs 0 0 (oh_Ev below (fun u => u = spX8_channel σ p1) D (oh_V a k) A [.ref (a 0), .int p1] s) (F0 m 85 ls []) := by
            intro s10 hs10 ls H locs hP hD hS hl
            have hK26 : spX8_channel_k26 p1 y1 s10 = spX8_channel σ p1 := by
              subst hs10 hy1
              exact ((((if_neg c2).trans (if_neg c3)).trans (if_neg c4)).trans (if_neg c5)).symm
            refine lv_aload_n hx hb dX8_channel_85 rfl (lv_at hl 1 rfl) ?_
            refine oh_get (v := .ref (a 3)) hC hP inX8_channel_X8 0 rfl rfl 18 (by decide) (by decide +kernel) rfl dX8_channel_86 ?_
            refine lv_iload_n hx hb dX8_channel_89 rfl (lv_at hl 0 rfl) ?_
            refine lv_iconst (v := (0 : Int32)) hx hb dX8_channel_90 (by decide) ?_
            refine oh_zast (σ' := (oh_up s10 3 y1.toNatClampNeg (0 : Int32))) hC hP hD hS 3 4 rfl rfl (oh_in8 c3 c4) (by decide) rfl dX8_channel_91 (fun H locs hP hD hS => ?_)
            obtain ⟨s11, hs11⟩ : ∃ z : oh_St, z = (oh_up s10 3 y1.toNatClampNeg (0 : Int32)) := ⟨_, rfl⟩
            rw [← hs11] at hP hD
            refine lv_aload_n hx hb dX8_channel_92 rfl (lv_at hl 1 rfl) ?_
            refine oh_get (v := .ref (a 4)) hC hP inX8_channel_X8 0 rfl rfl 19 (by decide) (by decide +kernel) rfl dX8_channel_93 ?_
            refine lv_iload_n hx hb dX8_channel_96 rfl (lv_at hl 0 rfl) ?_
            refine lv_iconst (v := (0 : Int32)) hx hb dX8_channel_97 (by decide) ?_
            refine oh_zast (σ' := (oh_up s11 4 y1.toNatClampNeg (0 : Int32))) hC hP hD hS 4 4 rfl rfl (oh_in8 c3 c4) (by decide) rfl dX8_channel_98 (fun H locs hP hD hS => ?_)
            obtain ⟨s12, hs12⟩ : ∃ z : oh_St, z = (oh_up s11 4 y1.toNatClampNeg (0 : Int32)) := ⟨_, rfl⟩
            rw [← hs12] at hP hD
            refine lv_aload_n hx hb dX8_channel_99 rfl (lv_at hl 1 rfl) ?_
            refine oh_get (v := .ref (a 8)) hC hP inX8_channel_X8 0 rfl rfl 23 (by decide) (by decide +kernel) rfl dX8_channel_100 ?_
            refine lv_iload_n hx hb dX8_channel_103 rfl (lv_at hl 2 rfl) ?_
            refine lv_aload_n hx hb dX8_channel_104 rfl (lv_at hl 1 rfl) ?_
            refine oh_get (v := .ref (a 8)) hC hP inX8_channel_X8 0 rfl rfl 23 (by decide) (by decide +kernel) rfl dX8_channel_105 ?_
            refine lv_iload_n hx hb dX8_channel_108 rfl (lv_at hl 2 rfl) ?_
            refine oh_iald hC hP 8 0 rfl rfl hi1 dX8_channel_109 ?_
            refine oh_csp (As := [.int (s12 6 p1.toNatClampNeg)]) (rest := [.int p1, .ref (a 8)]) hC hP hD hS (mtX8_more l a k D s12 (s12 6 p1.toNatClampNeg)) (va_cwS 1 hts gX8_channel_X8_more rfl rfl rfl (by decide +kernel) ⟨Nat.le_of_ble_eq_true rfl, Nat.le_of_ble_eq_true rfl⟩) rfl hl.1 rfl (Nat.le_of_ble_eq_true rfl) dX8_channel_110 (fun r13 H locs hr13 hP hD hS => ?_)
            refine oh_iast (σ' := (oh_up s12 6 p1.toNatClampNeg r13)) hC hP hD hS 8 0 rfl rfl hi1 rfl dX8_channel_113 (fun H locs hP hD hS => ?_)
            obtain ⟨s14, hs14⟩ : ∃ z : oh_St, z = (oh_up s12 6 p1.toNatClampNeg r13) := ⟨_, rfl⟩
            rw [← hs14] at hP hD
            refine lv_aload_n hx hb dX8_channel_114 rfl (lv_at hl 1 rfl) ?_
            refine oh_get (v := .ref (a 9)) hC hP inX8_channel_X8 0 rfl rfl 24 (by decide) (by decide +kernel) rfl dX8_channel_115 ?_
            refine lv_iload_n hx hb dX8_channel_118 rfl (lv_at hl 2 rfl) ?_
            refine lv_aload_n hx hb dX8_channel_119 rfl (lv_at hl 1 rfl) ?_
            refine oh_get (v := .ref (a 9)) hC hP inX8_channel_X8 0 rfl rfl 24 (by decide) (by decide +kernel) rfl dX8_channel_120 ?_
            refine lv_iload_n hx hb dX8_channel_123 rfl (lv_at hl 2 rfl) ?_
            refine oh_iald hC hP 9 0 rfl rfl hi1 dX8_channel_124 ?_
            refine lv_iconst (v := (1 : Int32)) hx hb dX8_channel_125 (by decide) ?_
            refine lv_iadd hx hb dX8_channel_126 ?_
            refine lv_ldc (v := (65535 : Int32)) hx hb hown (hts (.constant RX8 102 (65535)) (by decide +kernel)) dX8_channel_127 ?_
            refine lv_iand hx hb dX8_channel_129 ?_
            refine oh_iast (σ' := (oh_up s14 7 p1.toNatClampNeg (((s14 7 p1.toNatClampNeg) + (1 : Int32)) &&& (65535 : Int32)))) hC hP hD hS 9 0 rfl rfl hi1 rfl dX8_channel_130 (fun H locs hP hD hS => ?_)
            obtain ⟨s15, hs15⟩ : ∃ z : oh_St, z = (oh_up s14 7 p1.toNatClampNeg (((s14 7 p1.toNatClampNeg) + (1 : Int32)) &&& (65535 : Int32))) := ⟨_, rfl⟩
            rw [← hs15] at hP hD
            refine lv_aload_n hx hb dX8_channel_131 rfl (lv_at hl 1 rfl) ?_
            refine oh_get (v := .ref (a 11)) hC hP inX8_channel_X8 0 rfl rfl 26 (by decide) (by decide +kernel) rfl dX8_channel_132 ?_
            refine lv_iload_n hx hb dX8_channel_135 rfl (lv_at hl 2 rfl) ?_
            refine lv_dup2_11 hx hb dX8_channel_136 rfl rfl ?_
            refine oh_iald hC hP 11 0 rfl rfl hi1 dX8_channel_137 ?_
            refine lv_iconst (v := (1 : Int32)) hx hb dX8_channel_138 (by decide) ?_
            refine lv_iadd hx hb dX8_channel_139 ?_
            refine oh_iast (σ' := (oh_up s15 10 p1.toNatClampNeg ((s15 10 p1.toNatClampNeg) + (1 : Int32)))) hC hP hD hS 11 0 rfl rfl hi1 rfl dX8_channel_140 (fun H locs hP hD hS => ?_)
            obtain ⟨s16, hs16⟩ : ∃ z : oh_St, z = (oh_up s15 10 p1.toNatClampNeg ((s15 10 p1.toNatClampNeg) + (1 : Int32))) := ⟨_, rfl⟩
            rw [← hs16] at hP hD
            refine lv_aload_n hx hb dX8_channel_141 rfl (lv_at hl 1 rfl) ?_
            refine oh_get (v := .ref (a 9)) hC hP inX8_channel_X8 0 rfl rfl 24 (by decide) (by decide +kernel) rfl dX8_channel_142 ?_
            refine lv_iload_n hx hb dX8_channel_145 rfl (lv_at hl 2 rfl) ?_
            refine oh_iald hC hP 9 0 rfl rfl hi1 dX8_channel_146 ?_
            refine lv_if_ne (tgt := 196) hx hb dX8_channel_147 (by decide) (fun c17 => ?_) (fun c17 => ?_)
            · refine lv_aload_n hx hb dX8_channel_196 rfl (lv_at hl 1 rfl) ?_
              refine oh_get (v := .ref (a 10)) hC hP inX8_channel_X8 0 rfl rfl 25 (by decide) (by decide +kernel) rfl dX8_channel_197 ?_
              refine lv_iload_n hx hb dX8_channel_200 rfl (lv_at hl 2 rfl) ?_
              refine oh_iald hC hP 10 0 rfl rfl hi1 dX8_channel_201 ?_
              refine lv_bipush (v := (15 : Int32)) hx hb dX8_channel_202 (by decide) ?_
              refine lv_ishr hx hb dX8_channel_204 ?_
              refine lv_iconst (v := (1 : Int32)) hx hb dX8_channel_205 (by decide) ?_
              refine lv_icmp_ne (tgt := 221) hx hb dX8_channel_206 (by decide) (fun c18 => ?_) (fun c18 => ?_)
              · exact oh_retv (u := s16) hC hP hD hS (by subst hs16 hs15 hs14 hr13 hs12 hs11; exact (((if_neg c17).trans (if_neg c18)).symm).trans hK26) dX8_channel_221
              · refine lv_aload_n hx hb dX8_channel_209 rfl (lv_at hl 1 rfl) ?_
                refine oh_get (v := .ref (a 2)) hC hP inX8_channel_X8 0 rfl rfl 17 (by decide) (by decide +kernel) rfl dX8_channel_210 ?_
                refine lv_iload_n hx hb dX8_channel_213 rfl (lv_at hl 0 rfl) ?_
                refine lv_iconst (v := (1 : Int32)) hx hb dX8_channel_214 (by decide) ?_
                refine oh_zast (σ' := (oh_up s16 2 y1.toNatClampNeg (1 : Int32))) hC hP hD hS 2 4 rfl rfl (oh_in8 c3 c4) (by decide) rfl dX8_channel_215 (fun H locs hP hD hS => ?_)
                obtain ⟨s19, hs19⟩ : ∃ z : oh_St, z = (oh_up s16 2 y1.toNatClampNeg (1 : Int32)) := ⟨_, rfl⟩
                rw [← hs19] at hP hD
                refine lv_aload_n hx hb dX8_channel_216 rfl (lv_at hl 1 rfl) ?_
                refine lv_iload_n hx hb dX8_channel_217 rfl (lv_at hl 0 rfl) ?_
                refine oh_cvv (As := [.int y1]) (rest := []) hC hP hD hS (mtX8_started l a k D s19 y1 (oh_in8 c3 c4)) (cwV 1 hts gX8_channel_X8_started rfl rfl rfl (by decide +kernel) ⟨Nat.le_of_ble_eq_true rfl, Nat.le_of_ble_eq_true rfl⟩) 0 8 rfl rfl rfl hl.1 rfl (Nat.le_of_ble_eq_true rfl) dX8_channel_218 (fun s20 H locs hs20 hP hD hS => ?_)
                exact oh_retv (u := s20) hC hP hD hS (by subst hs20 hs19 hs16 hs15 hs14 hr13 hs12 hs11; exact (((if_neg c17).trans (if_pos c18)).symm).trans hK26) dX8_channel_221
            · refine lv_aload_n hx hb dX8_channel_150 rfl (lv_at hl 1 rfl) ?_
              refine oh_get (v := .ref (a 3)) hC hP inX8_channel_X8 0 rfl rfl 18 (by decide) (by decide +kernel) rfl dX8_channel_151 ?_
              refine lv_iload_n hx hb dX8_channel_154 rfl (lv_at hl 2 rfl) ?_
              refine lv_iconst (v := (1 : Int32)) hx hb dX8_channel_155 (by decide) ?_
              refine oh_zast (σ' := (oh_up s16 3 p1.toNatClampNeg (1 : Int32))) hC hP hD hS 3 4 rfl rfl hi1 (by decide) rfl dX8_channel_156 (fun H locs hP hD hS => ?_)
              obtain ⟨s21, hs21⟩ : ∃ z : oh_St, z = (oh_up s16 3 p1.toNatClampNeg (1 : Int32)) := ⟨_, rfl⟩
              rw [← hs21] at hP hD
              refine lv_aload_n hx hb dX8_channel_157 rfl (lv_at hl 1 rfl) ?_
              refine oh_get (v := .ref (a 4)) hC hP inX8_channel_X8 0 rfl rfl 19 (by decide) (by decide +kernel) rfl dX8_channel_158 ?_
              refine lv_iload_n hx hb dX8_channel_161 rfl (lv_at hl 2 rfl) ?_
              refine lv_iconst (v := (1 : Int32)) hx hb dX8_channel_162 (by decide) ?_
              refine oh_zast (σ' := (oh_up s21 4 p1.toNatClampNeg (1 : Int32))) hC hP hD hS 4 4 rfl rfl hi1 (by decide) rfl dX8_channel_163 (fun H locs hP hD hS => ?_)
              obtain ⟨s22, hs22⟩ : ∃ z : oh_St, z = (oh_up s21 4 p1.toNatClampNeg (1 : Int32)) := ⟨_, rfl⟩
              rw [← hs22] at hP hD
              refine lv_aload_n hx hb dX8_channel_164 rfl (lv_at hl 1 rfl) ?_
              refine oh_get (v := .ref (a 5)) hC hP inX8_channel_X8 0 rfl rfl 20 (by decide) (by decide +kernel) rfl dX8_channel_165 ?_
              refine lv_iload_n hx hb dX8_channel_168 rfl (lv_at hl 2 rfl) ?_
              refine lv_iconst (v := (0 : Int32)) hx hb dX8_channel_169 (by decide) ?_
              refine oh_zast (σ' := (oh_up s22 5 p1.toNatClampNeg (0 : Int32))) hC hP hD hS 5 4 rfl rfl hi1 (by decide) rfl dX8_channel_170 (fun H locs hP hD hS => ?_)
              obtain ⟨s23, hs23⟩ : ∃ z : oh_St, z = (oh_up s22 5 p1.toNatClampNeg (0 : Int32)) := ⟨_, rfl⟩
              rw [← hs23] at hP hD
              refine lv_aload_n hx hb dX8_channel_171 rfl (lv_at hl 1 rfl) ?_
              refine oh_get (v := .ref (a 10)) hC hP inX8_channel_X8 0 rfl rfl 25 (by decide) (by decide +kernel) rfl dX8_channel_172 ?_
              refine lv_iload_n hx hb dX8_channel_175 rfl (lv_at hl 2 rfl) ?_
              refine oh_iald hC hP 10 0 rfl rfl hi1 dX8_channel_176 ?_
              refine lv_bipush (v := (13 : Int32)) hx hb dX8_channel_177 (by decide) ?_
              refine lv_ishr hx hb dX8_channel_179 ?_
              refine lv_iconst (v := (1 : Int32)) hx hb dX8_channel_180 (by decide) ?_
              refine lv_iand hx hb dX8_channel_181 ?_
              refine lv_iconst (v := (1 : Int32)) hx hb dX8_channel_182 (by decide) ?_
              refine lv_icmp_ne (tgt := 221) hx hb dX8_channel_183 (by decide) (fun c24 => ?_) (fun c24 => ?_)
              · exact oh_retv (u := s23) hC hP hD hS (by subst hs23 hs22 hs21 hs16 hs15 hs14 hr13 hs12 hs11; exact (((if_pos c17).trans (if_neg c24)).symm).trans hK26) dX8_channel_221
              · refine lv_aload_n hx hb dX8_channel_186 rfl (lv_at hl 1 rfl) ?_
                refine oh_get (v := .ref (a 2)) hC hP inX8_channel_X8 0 rfl rfl 17 (by decide) (by decide +kernel) rfl dX8_channel_187 ?_
                refine lv_iload_n hx hb dX8_channel_190 rfl (lv_at hl 0 rfl) ?_
                refine lv_iconst (v := (0 : Int32)) hx hb dX8_channel_191 (by decide) ?_
                refine oh_zast (σ' := (oh_up s23 2 y1.toNatClampNeg (0 : Int32))) hC hP hD hS 2 4 rfl rfl (oh_in8 c3 c4) (by decide) rfl dX8_channel_192 (fun H locs hP hD hS => ?_)
                obtain ⟨s25, hs25⟩ : ∃ z : oh_St, z = (oh_up s23 2 y1.toNatClampNeg (0 : Int32)) := ⟨_, rfl⟩
                rw [← hs25] at hP hD
                refine lv_goto (tgt := 221) hx hb dX8_channel_193 (by decide) ?_
                exact oh_retv (u := s25) hC hP hD hS (by subst hs25 hs23 hs22 hs21 hs16 hs15 hs14 hr13 hs12 hs11; exact (((if_pos c17).trans (if_pos c24)).symm).trans hK26) dX8_channel_221
          refine lv_if_eq (tgt := 69) hx hb dX8_channel_47 (by decide) (fun c6 => ?_) (fun c6 => ?_)
          · refine lv_aload_n hx hb dX8_channel_69 rfl (lv_at hl 1 rfl) ?_
            refine oh_get (v := .ref (a 14)) hC hP inX8_channel_X8 0 rfl rfl 29 (by decide) (by decide +kernel) rfl dX8_channel_70 ?_
            refine lv_iload_n hx hb dX8_channel_73 rfl (lv_at hl 0 rfl) ?_
            refine lv_aload_n hx hb dX8_channel_74 rfl (lv_at hl 1 rfl) ?_
            refine lv_aload_n hx hb dX8_channel_75 rfl (lv_at hl 1 rfl) ?_
            refine oh_get (v := .ref (a 8)) hC hP inX8_channel_X8 0 rfl rfl 23 (by decide) (by decide +kernel) rfl dX8_channel_76 ?_
            refine lv_iload_n hx hb dX8_channel_79 rfl (lv_at hl 2 rfl) ?_
            refine oh_iald hC hP 8 0 rfl rfl hi1 dX8_channel_80 ?_
            refine oh_cvp (As := [.int (σ 6 p1.toNatClampNeg)]) (rest := [.int y1, .ref (a 14)]) hC hP hD hS (mtX8_at l a k D σ (σ 6 p1.toNatClampNeg) ha) (cwV 1 hts gX8_channel_X8_at rfl rfl rfl (by decide +kernel) ⟨Nat.le_of_ble_eq_true rfl, Nat.le_of_ble_eq_true rfl⟩) 0 8 rfl rfl rfl hl.1 rfl (Nat.le_of_ble_eq_true rfl) dX8_channel_81 (fun r7 H locs hr7 hP hD hS => ?_)
            refine oh_iast (σ' := (oh_up σ 14 y1.toNatClampNeg r7)) hC hP hD hS 14 0 rfl rfl (oh_in8 c3 c4) rfl dX8_channel_84 (fun H locs hP hD hS => ?_)
            obtain ⟨s8, hs8⟩ : ∃ z : oh_St, z = (oh_up σ 14 y1.toNatClampNeg r7) := ⟨_, rfl⟩
            rw [← hs8] at hP hD
            exact K26 _ (by subst hs8 hr7; exact (if_pos c6).symm) ls _ _ hP hD hS (lv_sub hl [0, 1, 2] rfl)
          · refine lv_aload_n hx hb dX8_channel_50 rfl (lv_at hl 1 rfl) ?_
            refine lv_aload_n hx hb dX8_channel_51 rfl (lv_at hl 1 rfl) ?_
            refine oh_get (v := .ref (a 8)) hC hP inX8_channel_X8 0 rfl rfl 23 (by decide) (by decide +kernel) rfl dX8_channel_52 ?_
            refine lv_iload_n hx hb dX8_channel_55 rfl (lv_at hl 2 rfl) ?_
            refine oh_iald hC hP 8 0 rfl rfl hi1 dX8_channel_56 ?_
            refine lv_aload_n hx hb dX8_channel_57 rfl (lv_at hl 1 rfl) ?_
            refine oh_get (v := .ref (a 14)) hC hP inX8_channel_X8 0 rfl rfl 29 (by decide) (by decide +kernel) rfl dX8_channel_58 ?_
            refine lv_iload_n hx hb dX8_channel_61 rfl (lv_at hl 0 rfl) ?_
            refine oh_iald hC hP 14 0 rfl rfl (oh_in8 c3 c4) dX8_channel_62 ?_
            refine oh_cvv (As := [.int (σ 6 p1.toNatClampNeg), .int (σ 14 y1.toNatClampNeg)]) (rest := []) hC hP hD hS (mtX8_put l a k D σ (σ 6 p1.toNatClampNeg) (σ 14 y1.toNatClampNeg) ha) (cwV 2 hts gX8_channel_X8_put rfl rfl rfl (by decide +kernel) ⟨Nat.le_of_ble_eq_true rfl, Nat.le_of_ble_eq_true rfl⟩) 0 8 rfl rfl rfl hl.1 rfl (Nat.le_of_ble_eq_true rfl) dX8_channel_63 (fun s9 H locs hs9 hP hD hS => ?_)
            refine lv_goto (tgt := 85) hx hb dX8_channel_66 (by decide) ?_
            exact K26 _ (by subst hs9; exact (if_neg c6).symm) ls _ _ hP hD hS (lv_sub hl [0, 1, 2] rfl)
        · exact oh_retv (u := σ) hC hP hD hS (by subst hy1; exact ((((if_neg c2).trans (if_neg c3)).trans (if_neg c4)).trans (if_pos c5)).symm) dX8_channel_40
theorem oh_gv {σ s2 s7 : oh_St} {p1 y4 x6 : Int32} (h : ¬ p1 < 0 ∧ ¬ (4 : Int32) ≤ p1) (ht : ∀ i : Nat, ∃ t : Nat, t ≤ 100 ∧ σ 16 i = nI t) (hs : s2 = (spX8_lacks σ p1 (4 : Int32)).2) (hy : y4 = (8 : Int32) + p1) (hx : x6 = (if (s2 16 y4.toNatClampNeg) = (100 : Int32) then (2 : Int32) else (0 : Int32))) (h7 : s7 = oh_up s2 0 12 x6) (c : s7 0 12 ≤ (0 : Int32)) : vp_in (((100 : Int32) * y4) + (s7 16 y4.toNatClampNeg)) 1200 := by
  have e : ∀ i : Nat, s7 16 i = σ 16 i := by
    intro i
    rw [h7, oh_upk (by decide), hs]
    unfold spX8_lacks
    (try dsimp only)
    (repeat' split) <;> rfl
  have e0 : ∀ i : Nat, s2 16 i = σ 16 i := by
    intro i
    rw [hs]
    unfold spX8_lacks
    (try dsimp only)
    (repeat' split) <;> rfl
  have e7 : s7 0 12 = x6 := by rw [h7, oh_ups]
  rw [e7] at c
  obtain ⟨t, ht1, e2⟩ := ht y4.toNatClampNeg
  rw [e0, e2] at hx
  rw [e, e2]
  have h1 : t ≠ 100 := by
    intro e3
    subst e3
    rw [if_pos (show nI 100 = (100 : Int32) from rfl)] at hx
    rw [hx] at c
    exact absurd c (by decide)
  rw [hy]
  exact oh_ix8 (C := 100) h rfl (by decide) rfl (by omega)
-- OctalHouseModel.give
theorem inX8_give_X8 : ∀ w ∈ u_ws RX8 TX8 35, w ∈ wsX8_give := by decide +kernel
def spX8_give_k11 (p2 : Int32) (s2 : oh_St) (y4 : Int32) (x6 : Int32) : Int32 × oh_St := (let s7 : oh_St := (oh_up s2 0 12 x6); (if (s7 0 12) ≤ (0 : Int32) then (let s9 : oh_St := (oh_up s7 20 (((100 : Int32) * y4) + (s7 16 y4.toNatClampNeg)).toNatClampNeg (p2 &&& (65535 : Int32))); (let s10 : oh_St := (oh_up s9 16 y4.toNatClampNeg ((s9 16 y4.toNatClampNeg) + (1 : Int32))); ((s10 16 y4.toNatClampNeg), s10))) else ((0 : Int32), s7)))
def spX8_give (σ : oh_St) (p1 : Int32) (p2 : Int32) : Int32 × oh_St := (let r1 : Int32 := (spX8_lacks σ p1 (4 : Int32)).1; (let s2 : oh_St := (spX8_lacks σ p1 (4 : Int32)).2; (if r1 = (0 : Int32) then (let y4 : Int32 := ((8 : Int32) + p1); (let x6 : Int32 := (if (s2 16 y4.toNatClampNeg) = (100 : Int32) then (2 : Int32) else (0 : Int32)); (spX8_give_k11 p2 s2 y4 x6))) else ((0 : Int32), s2))))
set_option maxHeartbeats 8000000 in
set_option maxRecDepth 100000 in
theorem mtX8_give (l : Launch) (a : Nat → Nat) (k : Nat → ClassId) (D : va_G) (σ : oh_St) (p1 : Int32) (p2 : Int32) (ht : ∀ i : Nat, ∃ t : Nat, t ≤ 100 ∧ σ 16 i = nI t) : oh_Mi l yX8_give wsX8_give { frames := 1, cells := 0, slots := 0, locals := 22 } D (oh_ty k) (oh_V a k) [.ref (a 0), .int p1, .int p2] σ (fun r u => r = (spX8_give σ p1 p2).1 ∧ u = (spX8_give σ p1 p2).2) := by
  refine oh_ini (cc := cX8_give) (nL := 4) (rt := some .int) (by decide) rfl (Nat.le_of_ble_eq_true rfl) ?_
  intro p e s m below meth c A ls hC hP hD hS hl
  obtain ⟨hx, hb, hml, hown, hts, hr, hlocks, hK, hN, hA⟩ := id hC
  have hl : lv_has ls 4 [(0, .ref (a 0)), (1, .int p1), (2, .int p2)] := hl
  refine lv_aload_n hx hb dX8_give_0 rfl (lv_at hl 0 rfl) ?_
  refine lv_iload_n hx hb dX8_give_1 rfl (lv_at hl 1 rfl) ?_
  refine lv_iconst (v := (4 : Int32)) hx hb dX8_give_2 (by decide) ?_
  refine oh_cvi (As := [.int p1, .int (4 : Int32)]) (rest := []) hC hP hD hS (mtX8_lacks l a k D σ p1 (4 : Int32)) (cwV 2 hts gX8_give_X8_lacks rfl rfl rfl (by decide +kernel) ⟨Nat.le_of_ble_eq_true rfl, Nat.le_of_ble_eq_true rfl⟩) 0 8 rfl rfl rfl hl.1 rfl (Nat.le_of_ble_eq_true rfl) dX8_give_3 (fun r1 s2 H locs hw hP hD hS => ?_)
  obtain ⟨hr1, hs2⟩ := hw
  refine lv_if_eq (tgt := 11) hx hb dX8_give_6 (by decide) (fun c3 => ?_) (fun c3 => ?_)
  · refine lv_bipush (v := (8 : Int32)) hx hb dX8_give_11 (by decide) ?_
    refine lv_iload_n hx hb dX8_give_13 rfl (lv_at hl 1 rfl) ?_
    refine lv_iadd hx hb dX8_give_14 ?_
    refine lv_topi (fun y4 hy4 => ?_)
    refine lv_istore_n (lv' := [(3, .int y4), (0, .ref (a 0)), (1, .int p1), (2, .int p2)]) hx hb dX8_give_15 rfl hl (by decide) rfl (fun ls hl => ?_)
    refine lv_aload_n hx hb dX8_give_16 rfl (lv_at hl 1 rfl) ?_
    refine lv_aload_n hx hb dX8_give_17 rfl (lv_at hl 1 rfl) ?_
    refine oh_get (v := .ref (a 16)) hC hP inX8_give_X8 0 rfl rfl 31 (by decide) (by decide +kernel) rfl dX8_give_18 ?_
    refine lv_iload_n hx hb dX8_give_21 rfl (lv_at hl 0 rfl) ?_
    refine oh_iald hC hP 16 0 rfl rfl (by rw [hy4]; exact oh_i8 (oh_lk hr1 c3)) dX8_give_22 ?_
    refine lv_bipush (v := (100 : Int32)) hx hb dX8_give_23 (by decide) ?_
    have K11 : ∀ x6 : Int32, x6 = (if (s2 16 y4.toNatClampNeg) = (100 : Int32) then (2 : Int32) else (0 : Int32)) → ∀ (ls : Array Slot) (H : Heap) (locs : List Loc), va_P D vwCl (oh_V a k s2) H → va_D A (oh_V a k s2) → va_S A s.heap H locs → lv_has ls 4 [(3, .int y4), (0, .ref (a 0)), (1, .int p1), (2, .int p2)] → W p l e ({ frames := 1, cells := 0, slots := 0, locals := 22 } : Room) s m (([.ref (a 0), .int p1, .int p2] : List Value).toArray) below meth c H locs 0 0 (oh_Ei below (fun r u => r = (spX8_give σ p1 p2).1 ∧ u = (spX8_give σ p1 p2).2) D (oh_V a k) A [.ref (a 0), .int p1, .int p2] s) (F0 m 33 ls [.int x6, .ref (a 0)]) := by
      intro x6 hx6 ls H locs hP hD hS hl
      have hK11 : spX8_give_k11 p2 s2 y4 x6 = spX8_give σ p1 p2 := by
        subst hx6 hy4 hs2 hr1
        exact (if_pos c3).symm
      refine oh_put (σ' := (oh_up s2 0 12 x6)) (v := .int x6) hC hP hD hS inX8_give_X8 tyX8 tyX8_ok nmX8 0 rfl rfl 0 (by decide) (by decide +kernel) rfl rfl rfl (by simp) rfl dX8_give_33 (fun H locs hP hD hS => ?_)
      obtain ⟨s7, hs7⟩ : ∃ z : oh_St, z = (oh_up s2 0 12 x6) := ⟨_, rfl⟩
      rw [← hs7] at hP hD
      refine lv_aload_n hx hb dX8_give_36 rfl (lv_at hl 1 rfl) ?_
      refine oh_get (v := .int (s7 0 12)) hC hP inX8_give_X8 0 rfl rfl 0 (by decide) (by decide +kernel) rfl dX8_give_37 ?_
      refine lv_if_le (tgt := 45) hx hb dX8_give_40 (by decide) (fun c8 => ?_) (fun c8 => ?_)
      · refine lv_aload_n hx hb dX8_give_45 rfl (lv_at hl 1 rfl) ?_
        refine oh_get (v := .ref (a 18)) hC hP inX8_give_X8 0 rfl rfl 33 (by decide) (by decide +kernel) rfl dX8_give_46 ?_
        refine lv_bipush (v := (100 : Int32)) hx hb dX8_give_49 (by decide) ?_
        refine lv_iload_n hx hb dX8_give_51 rfl (lv_at hl 0 rfl) ?_
        refine lv_imul hx hb dX8_give_52 ?_
        refine lv_aload_n hx hb dX8_give_53 rfl (lv_at hl 1 rfl) ?_
        refine oh_get (v := .ref (a 16)) hC hP inX8_give_X8 0 rfl rfl 31 (by decide) (by decide +kernel) rfl dX8_give_54 ?_
        refine lv_iload_n hx hb dX8_give_57 rfl (lv_at hl 0 rfl) ?_
        refine oh_iald hC hP 16 0 rfl rfl (by rw [hy4]; exact oh_i8 (oh_lk hr1 c3)) dX8_give_58 ?_
        refine lv_iadd hx hb dX8_give_59 ?_
        refine lv_iload_n hx hb dX8_give_60 rfl (lv_at hl 3 rfl) ?_
        refine lv_ldc (v := (65535 : Int32)) hx hb hown (hts (.constant RX8 102 (65535)) (by decide +kernel)) dX8_give_61 ?_
        refine lv_iand hx hb dX8_give_63 ?_
        refine oh_iast (σ' := (oh_up s7 20 (((100 : Int32) * y4) + (s7 16 y4.toNatClampNeg)).toNatClampNeg (p2 &&& (65535 : Int32)))) hC hP hD hS 18 0 rfl rfl (oh_gv (oh_lk hr1 c3) ht hs2 hy4 hx6 hs7 c8) rfl dX8_give_64 (fun H locs hP hD hS => ?_)
        obtain ⟨s9, hs9⟩ : ∃ z : oh_St, z = (oh_up s7 20 (((100 : Int32) * y4) + (s7 16 y4.toNatClampNeg)).toNatClampNeg (p2 &&& (65535 : Int32))) := ⟨_, rfl⟩
        rw [← hs9] at hP hD
        refine lv_aload_n hx hb dX8_give_65 rfl (lv_at hl 1 rfl) ?_
        refine oh_get (v := .ref (a 16)) hC hP inX8_give_X8 0 rfl rfl 31 (by decide) (by decide +kernel) rfl dX8_give_66 ?_
        refine lv_iload_n hx hb dX8_give_69 rfl (lv_at hl 0 rfl) ?_
        refine lv_dup2_11 hx hb dX8_give_70 rfl rfl ?_
        refine oh_iald hC hP 16 0 rfl rfl (by rw [hy4]; exact oh_i8 (oh_lk hr1 c3)) dX8_give_71 ?_
        refine lv_iconst (v := (1 : Int32)) hx hb dX8_give_72 (by decide) ?_
        refine lv_iadd hx hb dX8_give_73 ?_
        refine oh_iast (σ' := (oh_up s9 16 y4.toNatClampNeg ((s9 16 y4.toNatClampNeg) + (1 : Int32)))) hC hP hD hS 16 0 rfl rfl (by rw [hy4]; exact oh_i8 (oh_lk hr1 c3)) rfl dX8_give_74 (fun H locs hP hD hS => ?_)
        obtain ⟨s10, hs10⟩ : ∃ z : oh_St, z = (oh_up s9 16 y4.toNatClampNeg ((s9 16 y4.toNatClampNeg) + (1 : Int32))) := ⟨_, rfl⟩
        rw [← hs10] at hP hD
        refine lv_aload_n hx hb dX8_give_75 rfl (lv_at hl 1 rfl) ?_
        refine oh_get (v := .ref (a 16)) hC hP inX8_give_X8 0 rfl rfl 31 (by decide) (by decide +kernel) rfl dX8_give_76 ?_
        refine lv_iload_n hx hb dX8_give_79 rfl (lv_at hl 0 rfl) ?_
        refine oh_iald hC hP 16 0 rfl rfl (by rw [hy4]; exact oh_i8 (oh_lk hr1 c3)) dX8_give_80 ?_
        exact oh_reti (v := (s10 16 y4.toNatClampNeg)) (u := s10) hC hP hD hS (oh_pair (by subst hs10 hs9 hs7; exact ((if_pos c8).symm).trans hK11)) dX8_give_81
      · refine lv_iconst (v := (0 : Int32)) hx hb dX8_give_43 (by decide) ?_
        exact oh_reti (v := (0 : Int32)) (u := s7) hC hP hD hS (oh_pair (by subst hs7; exact ((if_neg c8).symm).trans hK11)) dX8_give_44
    refine lv_icmp_ne (tgt := 32) hx hb dX8_give_25 (by decide) (fun c5 => ?_) (fun c5 => ?_)
    · refine lv_iconst (v := (0 : Int32)) hx hb dX8_give_32 (by decide) ?_
      exact K11 _ (if_neg c5).symm ls _ _ hP hD hS (lv_sub hl [0, 1, 2, 3] rfl)
    · refine lv_iconst (v := (2 : Int32)) hx hb dX8_give_28 (by decide) ?_
      refine lv_goto (tgt := 33) hx hb dX8_give_29 (by decide) ?_
      exact K11 _ (if_pos c5).symm ls _ _ hP hD hS (lv_sub hl [0, 1, 2, 3] rfl)
  · refine lv_iconst (v := (0 : Int32)) hx hb dX8_give_9 (by decide) ?_
    exact oh_reti (v := (0 : Int32)) (u := s2) hC hP hD hS (oh_pair (by subst hs2 hr1; exact (if_neg c3).symm)) dX8_give_10
