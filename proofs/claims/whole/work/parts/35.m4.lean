/-- no word is negative -/
def oh_Dn (σ : oh_St) : Prop := ∀ y : Int32, ¬ y < 0 → ¬ spX8_at σ y < 0
theorem oh_dirL {σ : oh_St} (h : oh_Dn σ) : ∀ (f : Nat) (x i : Int32), ¬ x < 0 → (lpX8_direct σ f x i).1 = -1 ∨ ¬ (lpX8_direct σ f x i).1 < 0
  | 0, x, i, hx => Or.inr hx
  | f + 1, x, i, hx => by
    unfold lpX8_direct
    split
    · split
      · exact Or.inl rfl
      · exact oh_dirL h f _ _ (h _ (oh_nnand _ (by decide)))
    · exact Or.inr hx
theorem oh_dir {σ : oh_St} (h : oh_Dn σ) {y : Int32} (hy : ¬ y < 0) : (spX8_direct σ y).1 = -1 ∨ ¬ (spX8_direct σ y).1 < 0 := oh_dirL h _ _ _ hy
theorem oh_nnor {x y : Int32} (hx : ¬ x < 0) (hy : ¬ y < 0) : ¬ (x ||| y) < 0 := by
  have e : ∀ z : Int32, (¬ z < 0) ↔ z.toBitVec.msb = false := by
    intro z
    rw [oh_nnI]
    have h3 : z.toInt = z.toBitVec.toInt := rfl
    rw [h3, BitVec.msb_eq_false_iff_two_mul_lt, BitVec.toInt_eq_toNat_cond]
    split <;> omega
  rw [e] at hx hy ⊢
  have e2 : (x ||| y).toBitVec = x.toBitVec ||| y.toBitVec := rfl
  rw [e2, BitVec.msb_or, hx, hy]
  rfl
theorem oh_mw {σ : oh_St} {p1 p2 x2 x4 x8 : Int32} (hq : ¬ p2 < 0) (hd : oh_Dn σ) (h2 : x2 = (if ((p1 >>> ((10 : Int32) &&& 31)) &&& (1 : Int32)) = (1 : Int32) then ((p1 &&& (1023 : Int32)) ||| p2) else (p1 &&& (1023 : Int32)))) (h8 : x8 = (if x4 = (0 : Int32) then x2 else (spX8_direct σ (x2 ||| (32768 : Int32))).1)) (c : ¬ x8 = -1) : ¬ x8 < 0 := by
  have n2 : ¬ x2 < 0 := by
    rw [h2]
    split
    · exact oh_nnor (oh_nnand _ (by decide)) hq
    · exact oh_nnand _ (by decide)
  by_cases h4 : x4 = 0
  · rw [h8, if_pos h4]; exact n2
  · rw [if_neg h4] at h8
    rcases oh_dir hd (oh_nnor n2 (show ¬ (32768 : Int32) < 0 by decide)) with e | e
    · exact absurd (h8.trans e) c
    · rw [h8]; exact e
theorem oh_ex {σ : oh_St} {r22 r23 r24 : Int32} (h3 : ¬ σ 0 3 < 0) (hd : oh_Dn σ) (h23 : r23 = spX8_at (oh_up σ 0 3 r22) (σ 0 3)) (h24 : r24 = (spX8_direct (oh_up σ 0 3 r22) r23).1) (c : ¬ r24 = -1) : ¬ r24 < 0 := by
  have hd2 : oh_Dn (oh_up σ 0 3 r22) := hd
  rcases oh_dir hd2 (y := r23) (by rw [h23]; exact hd2 _ h3) with e | e
  · exact absurd (h24.trans e) c
  · rw [h24]; exact e
-- OctalHouseModel.extended
theorem inX8_extended_X8 : ∀ w ∈ u_ws RX8 TX8 35, w ∈ wsX8_extended := by decide +kernel
def spX8_extended (σ : oh_St) (p1 : Int32) : oh_St := (let k29 : oh_St := (let r22 : Int32 := (spX8_more (σ 0 3)); (let r23 : Int32 := (spX8_at (oh_up σ 0 3 r22) (σ 0 3)); (let r24 : Int32 := (spX8_direct (oh_up σ 0 3 r22) r23).1; (let s25 : oh_St := (spX8_direct (oh_up σ 0 3 r22) r23).2; (if r24 = (-1 : Int32) then s25 else (let s27 : oh_St := (spX8_twoWords s25 p1 r24); s27)))))); (if p1 = (32896 : Int32) then k29 else (if p1 = (33024 : Int32) then k29 else (if p1 = (34944 : Int32) then k29 else (if p1 = (35072 : Int32) then k29 else (let x6 : Int32 := (if (p1 &&& (15 : Int32)) = (0 : Int32) then (16 : Int32) else (p1 &&& (15 : Int32))); (let r7 : Int64 := (spX8_both σ); (let y8 : Int32 := (p1 &&& (-16 : Int32)); (if y8 = (32784 : Int32) then (let s10 : oh_St := (spX8_leftSigned σ x6); s10) else (if y8 = (32800 : Int32) then (let s12 : oh_St := (spX8_both_ σ (r7 <<< (x6.toInt64 &&& 63))); s12) else (if y8 = (32832 : Int32) then (let s14 : oh_St := (spX8_both_ σ ((r7 <<< (x6.toInt64 &&& 63)) ||| (r7 >>> (((32 : Int32) - x6).toInt64 &&& 63)))); s14) else (if y8 = (33296 : Int32) then (let s16 : oh_St := (spX8_both_ σ (((r7.toInt32).toInt64) >>> (x6.toInt64 &&& 63))); (oh_up s16 0 5 (0 : Int32))) else (if y8 = (33312 : Int32) then (let s18 : oh_St := (spX8_both_ σ (r7 >>> (x6.toInt64 &&& 63))); s18) else (if y8 = (33344 : Int32) then (let s20 : oh_St := (spX8_both_ σ ((r7 >>> (x6.toInt64 &&& 63)) ||| (r7 <<< (((32 : Int32) - x6).toInt64 &&& 63)))); s20) else σ))))))))))))))
set_option maxHeartbeats 8000000 in
set_option maxRecDepth 100000 in
theorem mtX8_extended (l : Launch) (a : Nat → Nat) (k : Nat → ClassId) (D : va_G) (σ : oh_St) (p1 : Int32) (h3 : ¬ σ 0 3 < 0) (hd : oh_Dn σ) : oh_Mv l yX8_extended wsX8_extended { frames := 2, cells := 0, slots := 0, locals := 50 } D (oh_ty k) (oh_V a k) [.ref (a 0), .int p1] σ (fun u => u = spX8_extended σ p1) := by
  refine oh_inv (cc := cX8_extended) (nL := 5) (rt := none) (by decide) rfl (Nat.le_of_ble_eq_true rfl) ?_
  intro p e s m below meth c A ls hC hP hD hS hl
  obtain ⟨hx, hb, hml, hown, hts, hr, hlocks, hK, hN, hA⟩ := id hC
  have hl : lv_has ls 5 [(0, .ref (a 0)), (1, .int p1)] := hl
  refine lv_iload_n hx hb dX8_extended_0 rfl (lv_at hl 1 rfl) ?_
  refine lv_ldc (v := (32896 : Int32)) hx hb hown (hts (.constant RX8 198 (32896)) (by decide +kernel)) dX8_extended_1 ?_
  have K28 : (let r22 : Int32 := (spX8_more (σ 0 3)); (let r23 : Int32 := (spX8_at (oh_up σ 0 3 r22) (σ 0 3)); (let r24 : Int32 := (spX8_direct (oh_up σ 0 3 r22) r23).1; (let s25 : oh_St := (spX8_direct (oh_up σ 0 3 r22) r23).2; (if r24 = (-1 : Int32) then s25 else (let s27 : oh_St := (spX8_twoWords s25 p1 r24); s27)))))) = spX8_extended σ p1 → ∀ (ls : Array Slot) (H : Heap) (locs : List Loc), va_P D vwCl (oh_V a k σ) H → va_D A (oh_V a k σ) → va_S A s.heap H locs → lv_has ls 5 [(0, .ref (a 0)), (1, .int p1)] → W p l e ({ frames := 2, cells := 0, slots := 0, locals := 50 } : Room) s m (([.ref (a 0), .int p1] : List Value).toArray) below meth c H locs 0 0 (oh_Ev below (fun u => u = spX8_extended σ p1) D (oh_V a k) A [.ref (a 0), .int p1] s) (F0 m 24 ls []) := by
    intro hK28 ls H locs hP hD hS hl
    refine lv_aload_n hx hb dX8_extended_24 rfl (lv_at hl 0 rfl) ?_
    refine oh_get (v := .int (σ 0 3)) hC hP inX8_extended_X8 0 rfl rfl 4 (by decide) (by decide +kernel) rfl dX8_extended_25 ?_
    refine lv_istore_n (lv' := [(2, .int (σ 0 3)), (0, .ref (a 0)), (1, .int p1)]) hx hb dX8_extended_28 rfl hl (by decide) rfl (fun ls hl => ?_)
    refine lv_aload_n hx hb dX8_extended_29 rfl (lv_at hl 1 rfl) ?_
    refine lv_aload_n hx hb dX8_extended_30 rfl (lv_at hl 1 rfl) ?_
    refine oh_get (v := .int (σ 0 3)) hC hP inX8_extended_X8 0 rfl rfl 4 (by decide) (by decide +kernel) rfl dX8_extended_31 ?_
    refine oh_csp (As := [.int (σ 0 3)]) (rest := [.ref (a 0)]) hC hP hD hS (mtX8_more l a k D σ (σ 0 3)) (va_cwS 1 hts gX8_extended_X8_more rfl rfl rfl (by decide +kernel) ⟨Nat.le_of_ble_eq_true rfl, Nat.le_of_ble_eq_true rfl⟩) rfl hl.1 rfl (Nat.le_of_ble_eq_true rfl) dX8_extended_34 (fun r22 H locs hr22 hP hD hS => ?_)
    refine oh_put (σ' := (oh_up σ 0 3 r22)) (v := .int r22) hC hP hD hS inX8_extended_X8 tyX8 tyX8_ok nmX8 0 rfl rfl 4 (by decide) (by decide +kernel) rfl rfl rfl (by simp) rfl dX8_extended_37 (fun H locs hP hD hS => ?_)
    refine lv_aload_n hx hb dX8_extended_40 rfl (lv_at hl 1 rfl) ?_
    refine lv_aload_n hx hb dX8_extended_41 rfl (lv_at hl 1 rfl) ?_
    refine lv_iload_n hx hb dX8_extended_42 rfl (lv_at hl 0 rfl) ?_
    refine oh_cvp (As := [.int (σ 0 3)]) (rest := [.ref (a 0)]) hC hP hD hS (mtX8_at l a k D (oh_up σ 0 3 r22) (σ 0 3) h3) (cwV 1 hts gX8_extended_X8_at rfl rfl rfl (by decide +kernel) ⟨Nat.le_of_ble_eq_true rfl, Nat.le_of_ble_eq_true rfl⟩) 0 8 rfl rfl rfl hl.1 rfl (Nat.le_of_ble_eq_true rfl) dX8_extended_43 (fun r23 H locs hr23 hP hD hS => ?_)
    refine oh_cvi (As := [.int r23]) (rest := []) hC hP hD hS (mtX8_direct l a k D (oh_up σ 0 3 r22) r23) (cwV 1 hts gX8_extended_X8_direct rfl rfl rfl (by decide +kernel) ⟨Nat.le_of_ble_eq_true rfl, Nat.le_of_ble_eq_true rfl⟩) 0 8 rfl rfl rfl hl.1 rfl (Nat.le_of_ble_eq_true rfl) dX8_extended_46 (fun r24 s25 H locs hw hP hD hS => ?_)
    obtain ⟨hr24, hs25⟩ := hw
    refine lv_istore_n (lv' := [(3, .int r24), (2, .int (σ 0 3)), (0, .ref (a 0)), (1, .int p1)]) hx hb dX8_extended_49 rfl hl (by decide) rfl (fun ls hl => ?_)
    refine lv_iload_n hx hb dX8_extended_50 rfl (lv_at hl 0 rfl) ?_
    refine lv_iconst (v := (-1 : Int32)) hx hb dX8_extended_51 (by decide) ?_
    refine lv_icmp_eq (tgt := 61) hx hb dX8_extended_52 (by decide) (fun c26 => ?_) (fun c26 => ?_)
    · exact oh_retv (u := s25) hC hP hD hS (by subst hs25 hr24 hr23 hr22; exact ((if_pos c26).symm).trans hK28) dX8_extended_61
    · refine lv_aload_n hx hb dX8_extended_55 rfl (lv_at hl 2 rfl) ?_
      refine lv_iload_n hx hb dX8_extended_56 rfl (lv_at hl 3 rfl) ?_
      refine lv_iload_n hx hb dX8_extended_57 rfl (lv_at hl 0 rfl) ?_
      refine oh_cvv (As := [.int p1, .int r24]) (rest := []) hC hP hD hS (mtX8_twoWords l a k D s25 p1 r24 (oh_ex h3 hd hr23 hr24 c26)) (cwV 2 hts gX8_extended_X8_twoWords rfl rfl rfl (by decide +kernel) ⟨Nat.le_of_ble_eq_true rfl, Nat.le_of_ble_eq_true rfl⟩) 0 8 rfl rfl rfl hl.1 rfl (Nat.le_of_ble_eq_true rfl) dX8_extended_58 (fun s27 H locs hs27 hP hD hS => ?_)
      exact oh_retv (u := s27) hC hP hD hS (by subst hs27 hs25 hr24 hr23 hr22; exact ((if_neg c26).symm).trans hK28) dX8_extended_61
  refine lv_icmp_eq (tgt := 24) hx hb dX8_extended_3 (by decide) (fun c1 => ?_) (fun c1 => ?_)
  · exact K28 ((if_pos c1).symm) ls _ _ hP hD hS (lv_sub hl [0, 1] rfl)
  · refine lv_iload_n hx hb dX8_extended_6 rfl (lv_at hl 1 rfl) ?_
    refine lv_ldc (v := (33024 : Int32)) hx hb hown (hts (.constant RX8 199 (33024)) (by decide +kernel)) dX8_extended_7 ?_
    refine lv_icmp_eq (tgt := 24) hx hb dX8_extended_9 (by decide) (fun c2 => ?_) (fun c2 => ?_)
    · exact K28 (((if_neg c1).trans (if_pos c2)).symm) ls _ _ hP hD hS (lv_sub hl [0, 1] rfl)
    · refine lv_iload_n hx hb dX8_extended_12 rfl (lv_at hl 1 rfl) ?_
      refine lv_ldc (v := (34944 : Int32)) hx hb hown (hts (.constant RX8 200 (34944)) (by decide +kernel)) dX8_extended_13 ?_
      refine lv_icmp_eq (tgt := 24) hx hb dX8_extended_15 (by decide) (fun c3 => ?_) (fun c3 => ?_)
      · exact K28 ((((if_neg c1).trans (if_neg c2)).trans (if_pos c3)).symm) ls _ _ hP hD hS (lv_sub hl [0, 1] rfl)
      · refine lv_iload_n hx hb dX8_extended_18 rfl (lv_at hl 1 rfl) ?_
        refine lv_ldc (v := (35072 : Int32)) hx hb hown (hts (.constant RX8 201 (35072)) (by decide +kernel)) dX8_extended_19 ?_
        refine lv_icmp_ne (tgt := 62) hx hb dX8_extended_21 (by decide) (fun c4 => ?_) (fun c4 => ?_)
        · refine lv_iload_n hx hb dX8_extended_62 rfl (lv_at hl 1 rfl) ?_
          refine lv_bipush (v := (15 : Int32)) hx hb dX8_extended_63 (by decide) ?_
          refine lv_iand hx hb dX8_extended_65 ?_
          have K21 : ∀ x6 : Int32, x6 = (if (p1 &&& (15 : Int32)) = (0 : Int32) then (16 : Int32) else (p1 &&& (15 : Int32))) → ∀ (ls : Array Slot) (H : Heap) (locs : List Loc), va_P D vwCl (oh_V a k σ) H → va_D A (oh_V a k σ) → va_S A s.heap H locs → lv_has ls 5 [(0, .ref (a 0)), (1, .int p1)] → W p l e ({ frames := 2, cells := 0, slots := 0, locals := 50 } : Room) s m (([.ref (a 0), .int p1] : List Value).toArray) below meth c H locs 0 0 (oh_Ev below (fun u => u = spX8_extended σ p1) D (oh_V a k) A [.ref (a 0), .int p1] s) (F0 m 78 ls [.int x6]) := by
            intro x6 hx6 ls H locs hP hD hS hl
            refine lv_istore_n (lv' := [(2, .int x6), (0, .ref (a 0)), (1, .int p1)]) hx hb dX8_extended_78 rfl hl (by decide) rfl (fun ls hl => ?_)
            refine lv_aload_n hx hb dX8_extended_79 rfl (lv_at hl 1 rfl) ?_
            refine oh_cvlp (As := []) (rest := []) hC hP hD hS (mtX8_both l a k D σ) (cwV 0 hts gX8_extended_X8_both rfl rfl rfl (by decide +kernel) ⟨Nat.le_of_ble_eq_true rfl, Nat.le_of_ble_eq_true rfl⟩) 0 8 rfl rfl rfl hl.1 rfl (Nat.le_of_ble_eq_true rfl) dX8_extended_80 (fun r7 H locs hr7 hP hD hS => ?_)
            refine lv_lstore_n (lv' := [(3, .long r7), (2, .int x6), (0, .ref (a 0)), (1, .int p1)]) hx hb dX8_extended_83 rfl hl (by decide) rfl (fun ls hl => ?_)
            refine lv_iload_n hx hb dX8_extended_84 rfl (lv_at hl 3 rfl) ?_
            refine lv_bipush (v := (-16 : Int32)) hx hb dX8_extended_85 (by decide) ?_
            refine lv_iand hx hb dX8_extended_87 ?_
            refine lv_topi (fun y8 hy8 => ?_)
            by_cases c9 : y8 = (32784 : Int32)
            · refine lv_lookup (tgt := 148) (off := 60) hx hb dX8_extended_88 (by decide) (by rw [c9]; first | done | rfl) (by decide) ?_
              refine lv_aload_n hx hb dX8_extended_148 rfl (lv_at hl 2 rfl) ?_
              refine lv_iload_n hx hb dX8_extended_149 rfl (lv_at hl 1 rfl) ?_
              refine oh_cvv (As := [.int x6]) (rest := []) hC hP hD hS (mtX8_leftSigned l a k D σ x6) (cwV 1 hts gX8_extended_X8_leftSigned rfl rfl rfl (by decide +kernel) ⟨Nat.le_of_ble_eq_true rfl, Nat.le_of_ble_eq_true rfl⟩) 0 8 rfl rfl rfl hl.1 rfl (Nat.le_of_ble_eq_true rfl) dX8_extended_150 (fun s10 H locs hs10 hP hD hS => ?_)
              refine lv_goto (tgt := 227) hx hb dX8_extended_153 (by decide) ?_
              exact oh_retv (u := s10) hC hP hD hS (by subst hs10 hy8 hr7 hx6; exact (((((if_neg c1).trans (if_neg c2)).trans (if_neg c3)).trans (if_neg c4)).trans (if_pos c9)).symm) dX8_extended_227
            by_cases c11 : y8 = (32800 : Int32)
            · refine lv_lookup (tgt := 173) (off := 85) hx hb dX8_extended_88 (by decide) (by rw [c11]; first | done | rfl) (by decide) ?_
              refine lv_aload_n hx hb dX8_extended_173 rfl (lv_at hl 2 rfl) ?_
              refine lv_lload_n hx hb dX8_extended_174 rfl (lv_at hl 0 rfl) ?_
              refine lv_iload_n hx hb dX8_extended_175 rfl (lv_at hl 1 rfl) ?_
              refine lv_lshl (v := (r7 <<< (x6.toInt64 &&& 63))) hx hb dX8_extended_176 rfl ?_
              refine oh_cvv (As := [.long (r7 <<< (x6.toInt64 &&& 63))]) (rest := []) hC hP hD hS (mtX8_both_ l a k D σ (r7 <<< (x6.toInt64 &&& 63))) (cwV 1 hts gX8_extended_X8_both_ rfl rfl rfl (by decide +kernel) ⟨Nat.le_of_ble_eq_true rfl, Nat.le_of_ble_eq_true rfl⟩) 0 8 rfl rfl rfl hl.1 rfl (Nat.le_of_ble_eq_true rfl) dX8_extended_177 (fun s12 H locs hs12 hP hD hS => ?_)
              refine lv_goto (tgt := 227) hx hb dX8_extended_180 (by decide) ?_
              exact oh_retv (u := s12) hC hP hD hS (by subst hs12 hy8 hr7 hx6; exact ((((((if_neg c1).trans (if_neg c2)).trans (if_neg c3)).trans (if_neg c4)).trans (if_neg c9)).trans (if_pos c11)).symm) dX8_extended_227
            by_cases c13 : y8 = (32832 : Int32)
            · refine lv_lookup (tgt := 193) (off := 105) hx hb dX8_extended_88 (by decide) (by rw [c13]; first | done | rfl) (by decide) ?_
              refine lv_aload_n hx hb dX8_extended_193 rfl (lv_at hl 2 rfl) ?_
              refine lv_lload_n hx hb dX8_extended_194 rfl (lv_at hl 0 rfl) ?_
              refine lv_iload_n hx hb dX8_extended_195 rfl (lv_at hl 1 rfl) ?_
              refine lv_lshl (v := (r7 <<< (x6.toInt64 &&& 63))) hx hb dX8_extended_196 rfl ?_
              refine lv_lload_n hx hb dX8_extended_197 rfl (lv_at hl 0 rfl) ?_
              refine lv_bipush (v := (32 : Int32)) hx hb dX8_extended_198 (by decide) ?_
              refine lv_iload_n hx hb dX8_extended_200 rfl (lv_at hl 1 rfl) ?_
              refine lv_isub hx hb dX8_extended_201 ?_
              refine lv_lshr (v := (r7 >>> (((32 : Int32) - x6).toInt64 &&& 63))) hx hb dX8_extended_202 rfl ?_
              refine lv_lor hx hb dX8_extended_203 ?_
              refine oh_cvv (As := [.long ((r7 <<< (x6.toInt64 &&& 63)) ||| (r7 >>> (((32 : Int32) - x6).toInt64 &&& 63)))]) (rest := []) hC hP hD hS (mtX8_both_ l a k D σ ((r7 <<< (x6.toInt64 &&& 63)) ||| (r7 >>> (((32 : Int32) - x6).toInt64 &&& 63)))) (cwV 1 hts gX8_extended_X8_both_ rfl rfl rfl (by decide +kernel) ⟨Nat.le_of_ble_eq_true rfl, Nat.le_of_ble_eq_true rfl⟩) 0 8 rfl rfl rfl hl.1 rfl (Nat.le_of_ble_eq_true rfl) dX8_extended_204 (fun s14 H locs hs14 hP hD hS => ?_)
              refine lv_goto (tgt := 227) hx hb dX8_extended_207 (by decide) ?_
              exact oh_retv (u := s14) hC hP hD hS (by subst hs14 hy8 hr7 hx6; exact (((((((if_neg c1).trans (if_neg c2)).trans (if_neg c3)).trans (if_neg c4)).trans (if_neg c9)).trans (if_neg c11)).trans (if_pos c13)).symm) dX8_extended_227
            by_cases c15 : y8 = (33296 : Int32)
            · refine lv_lookup (tgt := 156) (off := 68) hx hb dX8_extended_88 (by decide) (by rw [c15]; first | done | rfl) (by decide) ?_
              refine lv_aload_n hx hb dX8_extended_156 rfl (lv_at hl 2 rfl) ?_
              refine lv_lload_n hx hb dX8_extended_157 rfl (lv_at hl 0 rfl) ?_
              refine lv_l2i (v := (r7.toInt32)) hx hb dX8_extended_158 rfl ?_
              refine lv_i2l (v := ((r7.toInt32).toInt64)) hx hb dX8_extended_159 rfl ?_
              refine lv_iload_n hx hb dX8_extended_160 rfl (lv_at hl 1 rfl) ?_
              refine lv_lshr (v := (((r7.toInt32).toInt64) >>> (x6.toInt64 &&& 63))) hx hb dX8_extended_161 rfl ?_
              refine oh_cvv (As := [.long (((r7.toInt32).toInt64) >>> (x6.toInt64 &&& 63))]) (rest := []) hC hP hD hS (mtX8_both_ l a k D σ (((r7.toInt32).toInt64) >>> (x6.toInt64 &&& 63))) (cwV 1 hts gX8_extended_X8_both_ rfl rfl rfl (by decide +kernel) ⟨Nat.le_of_ble_eq_true rfl, Nat.le_of_ble_eq_true rfl⟩) 0 8 rfl rfl rfl hl.1 rfl (Nat.le_of_ble_eq_true rfl) dX8_extended_162 (fun s16 H locs hs16 hP hD hS => ?_)
              refine lv_aload_n hx hb dX8_extended_165 rfl (lv_at hl 2 rfl) ?_
              refine lv_iconst (v := (0 : Int32)) hx hb dX8_extended_166 (by decide) ?_
              refine oh_put (σ' := (oh_up s16 0 5 (0 : Int32))) (v := .int (0 : Int32)) hC hP hD hS inX8_extended_X8 tyX8 tyX8_ok nmX8 0 rfl rfl 6 (by decide) (by decide +kernel) rfl rfl rfl (by simp) rfl dX8_extended_167 (fun H locs hP hD hS => ?_)
              refine lv_goto (tgt := 227) hx hb dX8_extended_170 (by decide) ?_
              exact oh_retv (u := (oh_up s16 0 5 (0 : Int32))) hC hP hD hS (by subst hs16 hy8 hr7 hx6; exact ((((((((if_neg c1).trans (if_neg c2)).trans (if_neg c3)).trans (if_neg c4)).trans (if_neg c9)).trans (if_neg c11)).trans (if_neg c13)).trans (if_pos c15)).symm) dX8_extended_227
            by_cases c17 : y8 = (33312 : Int32)
            · refine lv_lookup (tgt := 183) (off := 95) hx hb dX8_extended_88 (by decide) (by rw [c17]; first | done | rfl) (by decide) ?_
              refine lv_aload_n hx hb dX8_extended_183 rfl (lv_at hl 2 rfl) ?_
              refine lv_lload_n hx hb dX8_extended_184 rfl (lv_at hl 0 rfl) ?_
              refine lv_iload_n hx hb dX8_extended_185 rfl (lv_at hl 1 rfl) ?_
              refine lv_lshr (v := (r7 >>> (x6.toInt64 &&& 63))) hx hb dX8_extended_186 rfl ?_
              refine oh_cvv (As := [.long (r7 >>> (x6.toInt64 &&& 63))]) (rest := []) hC hP hD hS (mtX8_both_ l a k D σ (r7 >>> (x6.toInt64 &&& 63))) (cwV 1 hts gX8_extended_X8_both_ rfl rfl rfl (by decide +kernel) ⟨Nat.le_of_ble_eq_true rfl, Nat.le_of_ble_eq_true rfl⟩) 0 8 rfl rfl rfl hl.1 rfl (Nat.le_of_ble_eq_true rfl) dX8_extended_187 (fun s18 H locs hs18 hP hD hS => ?_)
              refine lv_goto (tgt := 227) hx hb dX8_extended_190 (by decide) ?_
              exact oh_retv (u := s18) hC hP hD hS (by subst hs18 hy8 hr7 hx6; exact (((((((((if_neg c1).trans (if_neg c2)).trans (if_neg c3)).trans (if_neg c4)).trans (if_neg c9)).trans (if_neg c11)).trans (if_neg c13)).trans (if_neg c15)).trans (if_pos c17)).symm) dX8_extended_227
            by_cases c19 : y8 = (33344 : Int32)
            · refine lv_lookup (tgt := 210) (off := 122) hx hb dX8_extended_88 (by decide) (by rw [c19]; first | done | rfl) (by decide) ?_
              refine lv_aload_n hx hb dX8_extended_210 rfl (lv_at hl 2 rfl) ?_
              refine lv_lload_n hx hb dX8_extended_211 rfl (lv_at hl 0 rfl) ?_
              refine lv_iload_n hx hb dX8_extended_212 rfl (lv_at hl 1 rfl) ?_
              refine lv_lshr (v := (r7 >>> (x6.toInt64 &&& 63))) hx hb dX8_extended_213 rfl ?_
              refine lv_lload_n hx hb dX8_extended_214 rfl (lv_at hl 0 rfl) ?_
              refine lv_bipush (v := (32 : Int32)) hx hb dX8_extended_215 (by decide) ?_
              refine lv_iload_n hx hb dX8_extended_217 rfl (lv_at hl 1 rfl) ?_
              refine lv_isub hx hb dX8_extended_218 ?_
              refine lv_lshl (v := (r7 <<< (((32 : Int32) - x6).toInt64 &&& 63))) hx hb dX8_extended_219 rfl ?_
              refine lv_lor hx hb dX8_extended_220 ?_
              refine oh_cvv (As := [.long ((r7 >>> (x6.toInt64 &&& 63)) ||| (r7 <<< (((32 : Int32) - x6).toInt64 &&& 63)))]) (rest := []) hC hP hD hS (mtX8_both_ l a k D σ ((r7 >>> (x6.toInt64 &&& 63)) ||| (r7 <<< (((32 : Int32) - x6).toInt64 &&& 63)))) (cwV 1 hts gX8_extended_X8_both_ rfl rfl rfl (by decide +kernel) ⟨Nat.le_of_ble_eq_true rfl, Nat.le_of_ble_eq_true rfl⟩) 0 8 rfl rfl rfl hl.1 rfl (Nat.le_of_ble_eq_true rfl) dX8_extended_221 (fun s20 H locs hs20 hP hD hS => ?_)
              refine lv_goto (tgt := 227) hx hb dX8_extended_224 (by decide) ?_
              exact oh_retv (u := s20) hC hP hD hS (by subst hs20 hy8 hr7 hx6; exact ((((((((((if_neg c1).trans (if_neg c2)).trans (if_neg c3)).trans (if_neg c4)).trans (if_neg c9)).trans (if_neg c11)).trans (if_neg c13)).trans (if_neg c15)).trans (if_neg c17)).trans (if_pos c19)).symm) dX8_extended_227
            refine lv_lookup (tgt := 227) (off := 139) hx hb dX8_extended_88 (by decide) ((lv_osw (a := 32784) c9 rfl).trans ((lv_osw (a := 32800) c11 rfl).trans ((lv_osw (a := 32832) c13 rfl).trans ((lv_osw (a := 33296) c15 rfl).trans ((lv_osw (a := 33312) c17 rfl).trans ((lv_osw (a := 33344) c19 rfl).trans rfl)))))) (by decide) ?_
            exact oh_retv (u := σ) hC hP hD hS (by subst hy8 hr7 hx6; exact ((((((((((if_neg c1).trans (if_neg c2)).trans (if_neg c3)).trans (if_neg c4)).trans (if_neg c9)).trans (if_neg c11)).trans (if_neg c13)).trans (if_neg c15)).trans (if_neg c17)).trans (if_neg c19)).symm) dX8_extended_227
          refine lv_if_ne (tgt := 74) hx hb dX8_extended_66 (by decide) (fun c5 => ?_) (fun c5 => ?_)
          · refine lv_iload_n hx hb dX8_extended_74 rfl (lv_at hl 1 rfl) ?_
            refine lv_bipush (v := (15 : Int32)) hx hb dX8_extended_75 (by decide) ?_
            refine lv_iand hx hb dX8_extended_77 ?_
            exact K21 _ (if_neg c5).symm ls _ _ hP hD hS (lv_sub hl [0, 1] rfl)
          · refine lv_bipush (v := (16 : Int32)) hx hb dX8_extended_69 (by decide) ?_
            refine lv_goto (tgt := 78) hx hb dX8_extended_71 (by decide) ?_
            exact K21 _ (if_pos c5).symm ls _ _ hP hD hS (lv_sub hl [0, 1] rfl)
        · exact K28 (((((if_neg c1).trans (if_neg c2)).trans (if_neg c3)).trans (if_pos c4)).symm) ls _ _ hP hD hS (lv_sub hl [0, 1] rfl)
-- OctalHouseModel.memoryWord
theorem inX8_memoryWord_X8 : ∀ w ∈ u_ws RX8 TX8 35, w ∈ wsX8_memoryWord := by decide +kernel
def spX8_memoryWord_k48 (s9 : oh_St) (x46 : Int32) : oh_St := (let s47 : oh_St := (spX8_skip s9 x46); s47)
def spX8_memoryWord_k42 (s9 : oh_St) (x40 : Int32) : oh_St := (let s41 : oh_St := (spX8_skip s9 x40); s41)
def spX8_memoryWord_k28 (s24 : oh_St) (x26 : Int32) : oh_St := (let s27 : oh_St := (spX8_skip s24 x26); s27)
def spX8_memoryWord_k56 (p1 : Int32) (x4 : Int32) (x8 : Int32) (s9 : oh_St) : oh_St := (if x8 = (-1 : Int32) then s9 else (let y11 : Int32 := ((p1 >>> ((11 : Int32) &&& 31)) &&& (15 : Int32)); (if y11 = (2 : Int32) then (let r13 : Int32 := (spX8_at s9 x8); (oh_up s9 0 14 ((s9 0 14) &&& r13))) else (if y11 = (3 : Int32) then (let s15 : oh_St := (spX8_put s9 x8 (s9 0 3)); (let r16 : Int32 := (spX8_more x8); (oh_up (oh_up s15 0 3 r16) 0 13 x4))) else (if y11 = (4 : Int32) then (let r18 : Int32 := (spX8_at s9 x8); (oh_up s9 0 14 ((s9 0 14) ^^^ r18))) else (if y11 = (5 : Int32) then (oh_up (oh_up s9 0 3 x8) 0 13 x4) else (if y11 = (6 : Int32) then (let r21 : Int32 := (spX8_at s9 x8); (oh_up s9 0 14 ((s9 0 14) ||| r21))) else (if y11 = (7 : Int32) then (let r23 : Int32 := (spX8_at s9 x8); (let s24 : oh_St := (spX8_put s9 x8 ((r23 + (1 : Int32)) &&& (65535 : Int32))); (let x26 : Int32 := (if ((r23 + (1 : Int32)) &&& (65535 : Int32)) = (0 : Int32) then (1 : Int32) else (0 : Int32)); (spX8_memoryWord_k28 s24 x26)))) else (if y11 = (8 : Int32) then (let r30 : Int32 := (spX8_at s9 x8); (let r31 : Int32 := (spX8_sum s9 (s9 0 14) r30).1; (let s32 : oh_St := (spX8_sum s9 (s9 0 14) r30).2; (oh_up s32 0 14 r31)))) else (if y11 = (9 : Int32) then (let r34 : Int32 := (spX8_at s9 x8); (let r35 : Int32 := (spX8_sum s9 (s9 0 15) r34).1; (let s36 : oh_St := (spX8_sum s9 (s9 0 15) r34).2; (oh_up s36 0 15 r35)))) else (if y11 = (10 : Int32) then (let r38 : Int32 := (spX8_at s9 x8); (let x40 : Int32 := (if (s9 0 14) = r38 then (0 : Int32) else (1 : Int32)); (spX8_memoryWord_k42 s9 x40))) else (if y11 = (11 : Int32) then (let r44 : Int32 := (spX8_at s9 x8); (let x46 : Int32 := (if (s9 0 15) = r44 then (0 : Int32) else (1 : Int32)); (spX8_memoryWord_k48 s9 x46))) else (if y11 = (12 : Int32) then (let r50 : Int32 := (spX8_at s9 x8); (oh_up s9 0 14 r50)) else (if y11 = (13 : Int32) then (let r52 : Int32 := (spX8_at s9 x8); (oh_up s9 0 15 r52)) else (if y11 = (14 : Int32) then (let s54 : oh_St := (spX8_put s9 x8 (s9 0 14)); s54) else (let s55 : oh_St := (spX8_put s9 x8 (s9 0 15)); s55))))))))))))))))
def spX8_memoryWord_k57 (σ : oh_St) (p1 : Int32) (x2 : Int32) (x4 : Int32) : oh_St := (let x8 : Int32 := (if x4 = (0 : Int32) then x2 else (let r6 : Int32 := (spX8_direct σ (x2 ||| (32768 : Int32))).1; (let s7 : oh_St := (spX8_direct σ (x2 ||| (32768 : Int32))).2; r6))); (let s9 : oh_St := (if x4 = (0 : Int32) then σ else (let r6 : Int32 := (spX8_direct σ (x2 ||| (32768 : Int32))).1; (let s7 : oh_St := (spX8_direct σ (x2 ||| (32768 : Int32))).2; s7))); (spX8_memoryWord_k56 p1 x4 x8 s9)))
def spX8_memoryWord_k58 (σ : oh_St) (p1 : Int32) (x2 : Int32) : oh_St := (let x4 : Int32 := (if (p1 >>> ((15 : Int32) &&& 31)) = (1 : Int32) then (1 : Int32) else (0 : Int32)); (spX8_memoryWord_k57 σ p1 x2 x4))
def spX8_memoryWord (σ : oh_St) (p1 : Int32) (p2 : Int32) : oh_St := (let x2 : Int32 := (if ((p1 >>> ((10 : Int32) &&& 31)) &&& (1 : Int32)) = (1 : Int32) then ((p1 &&& (1023 : Int32)) ||| p2) else (p1 &&& (1023 : Int32))); (spX8_memoryWord_k58 σ p1 x2))
set_option maxHeartbeats 8000000 in
set_option maxRecDepth 100000 in
theorem mtX8_memoryWord (l : Launch) (a : Nat → Nat) (k : Nat → ClassId) (D : va_G) (σ : oh_St) (p1 : Int32) (p2 : Int32) (hn2 : ¬ p2 < 0) (hd : oh_Dn σ) : oh_Mv l yX8_memoryWord wsX8_memoryWord { frames := 2, cells := 0, slots := 0, locals := 44 } D (oh_ty k) (oh_V a k) [.ref (a 0), .int p1, .int p2] σ (fun u => u = spX8_memoryWord σ p1 p2) := by
  refine oh_inv (cc := cX8_memoryWord) (nL := 7) (rt := none) (by decide) rfl (Nat.le_of_ble_eq_true rfl) ?_
  intro p e s m below meth c A ls hC hP hD hS hl
  obtain ⟨hx, hb, hml, hown, hts, hr, hlocks, hK, hN, hA⟩ := id hC
  have hl : lv_has ls 7 [(0, .ref (a 0)), (1, .int p1), (2, .int p2)] := hl
  refine lv_iload_n hx hb dX8_memoryWord_0 rfl (lv_at hl 1 rfl) ?_
  refine lv_sipush (v := (1023 : Int32)) hx hb dX8_memoryWord_1 (by decide) ?_
  refine lv_iand hx hb dX8_memoryWord_4 ?_
  refine lv_istore_n (lv' := [(3, .int (p1 &&& (1023 : Int32))), (0, .ref (a 0)), (1, .int p1), (2, .int p2)]) hx hb dX8_memoryWord_5 rfl hl (by decide) rfl (fun ls hl => ?_)
  refine lv_iload_n hx hb dX8_memoryWord_6 rfl (lv_at hl 2 rfl) ?_
  refine lv_bipush (v := (10 : Int32)) hx hb dX8_memoryWord_7 (by decide) ?_
  refine lv_ishr hx hb dX8_memoryWord_9 ?_
  refine lv_iconst (v := (1 : Int32)) hx hb dX8_memoryWord_10 (by decide) ?_
  refine lv_iand hx hb dX8_memoryWord_11 ?_
  refine lv_iconst (v := (1 : Int32)) hx hb dX8_memoryWord_12 (by decide) ?_
  have K58 : ∀ x2 : Int32, x2 = (if ((p1 >>> ((10 : Int32) &&& 31)) &&& (1 : Int32)) = (1 : Int32) then ((p1 &&& (1023 : Int32)) ||| p2) else (p1 &&& (1023 : Int32))) → ∀ (ls : Array Slot) (H : Heap) (locs : List Loc), va_P D vwCl (oh_V a k σ) H → va_D A (oh_V a k σ) → va_S A s.heap H locs → lv_has ls 7 [(3, .int x2), (0, .ref (a 0)), (1, .int p1), (2, .int p2)] → W p l e ({ frames := 2, cells := 0, slots := 0, locals := 44 } : Room) s m (([.ref (a 0), .int p1, .int p2] : List Value).toArray) below meth c H locs 0 0 (oh_Ev below (fun u => u = spX8_memoryWord σ p1 p2) D (oh_V a k) A [.ref (a 0), .int p1, .int p2] s) (F0 m 20 ls []) := by
    intro x2 hx2 ls H locs hP hD hS hl
    have hK58 : spX8_memoryWord_k58 σ p1 x2 = spX8_memoryWord σ p1 p2 := by
      subst hx2
      exact rfl
    refine lv_iload_n hx hb dX8_memoryWord_20 rfl (lv_at hl 2 rfl) ?_
    refine lv_bipush (v := (15 : Int32)) hx hb dX8_memoryWord_21 (by decide) ?_
    refine lv_ishr hx hb dX8_memoryWord_23 ?_
    refine lv_iconst (v := (1 : Int32)) hx hb dX8_memoryWord_24 (by decide) ?_
    have K57 : ∀ x4 : Int32, x4 = (if (p1 >>> ((15 : Int32) &&& 31)) = (1 : Int32) then (1 : Int32) else (0 : Int32)) → ∀ (ls : Array Slot) (H : Heap) (locs : List Loc), va_P D vwCl (oh_V a k σ) H → va_D A (oh_V a k σ) → va_S A s.heap H locs → lv_has ls 7 [(3, .int x2), (0, .ref (a 0)), (1, .int p1), (2, .int p2)] → W p l e ({ frames := 2, cells := 0, slots := 0, locals := 44 } : Room) s m (([.ref (a 0), .int p1, .int p2] : List Value).toArray) below meth c H locs 0 0 (oh_Ev below (fun u => u = spX8_memoryWord σ p1 p2) D (oh_V a k) A [.ref (a 0), .int p1, .int p2] s) (F0 m 33 ls [.int x4]) := by
      intro x4 hx4 ls H locs hP hD hS hl
      have hK57 : spX8_memoryWord_k57 σ p1 x2 x4 = spX8_memoryWord σ p1 p2 := by
        subst hx4
        exact hK58
      refine lv_istore (lv' := [(4, .int x4), (3, .int x2), (0, .ref (a 0)), (1, .int p1), (2, .int p2)]) hx hb dX8_memoryWord_33 hl (by decide) rfl (fun ls hl => ?_)
      refine lv_iload hx hb dX8_memoryWord_35 (lv_at hl 0 rfl) ?_
      have K56 : ∀ x8 : Int32, x8 = (if x4 = (0 : Int32) then x2 else (let r6 : Int32 := (spX8_direct σ (x2 ||| (32768 : Int32))).1; (let s7 : oh_St := (spX8_direct σ (x2 ||| (32768 : Int32))).2; r6))) → ∀ s9 : oh_St, s9 = (if x4 = (0 : Int32) then σ else (let r6 : Int32 := (spX8_direct σ (x2 ||| (32768 : Int32))).1; (let s7 : oh_St := (spX8_direct σ (x2 ||| (32768 : Int32))).2; s7))) → ∀ (ls : Array Slot) (H : Heap) (locs : List Loc), va_P D vwCl (oh_V a k s9) H → va_D A (oh_V a k s9) → va_S A s.heap H locs → lv_has ls 7 [(4, .int x4), (3, .int x8), (0, .ref (a 0)), (1, .int p1), (2, .int p2)] → W p l e ({ frames := 2, cells := 0, slots := 0, locals := 44 } : Room) s m (([.ref (a 0), .int p1, .int p2] : List Value).toArray) below meth c H locs 0 0 (oh_Ev below (fun u => u = spX8_memoryWord σ p1 p2) D (oh_V a k) A [.ref (a 0), .int p1, .int p2] s) (F0 m 49 ls []) := by
        intro x8 hx8 s9 hs9 ls H locs hP hD hS hl
        have hK56 : spX8_memoryWord_k56 p1 x4 x8 s9 = spX8_memoryWord σ p1 p2 := by
          subst hs9 hx8
          exact hK57
        refine lv_iload_n hx hb dX8_memoryWord_49 rfl (lv_at hl 1 rfl) ?_
        refine lv_iconst (v := (-1 : Int32)) hx hb dX8_memoryWord_50 (by decide) ?_
        refine lv_icmp_ne (tgt := 55) hx hb dX8_memoryWord_51 (by decide) (fun c10 => ?_) (fun c10 => ?_)
        · refine lv_iload_n hx hb dX8_memoryWord_55 rfl (lv_at hl 3 rfl) ?_
          refine lv_bipush (v := (11 : Int32)) hx hb dX8_memoryWord_56 (by decide) ?_
          refine lv_ishr hx hb dX8_memoryWord_58 ?_
          refine lv_bipush (v := (15 : Int32)) hx hb dX8_memoryWord_59 (by decide) ?_
          refine lv_iand hx hb dX8_memoryWord_61 ?_
          refine lv_istore (lv' := [(5, .int ((p1 >>> ((11 : Int32) &&& 31)) &&& (15 : Int32))), (4, .int x4), (3, .int x8), (0, .ref (a 0)), (1, .int p1), (2, .int p2)]) hx hb dX8_memoryWord_62 hl (by decide) rfl (fun ls hl => ?_)
          refine lv_iload hx hb dX8_memoryWord_64 (lv_at hl 0 rfl) ?_
          refine lv_topi (fun y11 hy11 => ?_)
          by_cases c12 : y11 = (2 : Int32)
          · refine lv_tableIn (tgt := 132) hx hb dX8_memoryWord_66 (by rw [c12]; decide) (by rw [c12]; decide) (by rw [c12]; rfl) (by decide) ?_
            refine lv_aload_n hx hb dX8_memoryWord_132 rfl (lv_at hl 3 rfl) ?_
            refine lv_dup hx hb dX8_memoryWord_133 rfl ?_
            refine oh_get (v := .int (s9 0 14)) hC hP inX8_memoryWord_X8 0 rfl rfl 2 (by decide) (by decide +kernel) rfl dX8_memoryWord_134 ?_
            refine lv_aload_n hx hb dX8_memoryWord_137 rfl (lv_at hl 3 rfl) ?_
            refine lv_iload_n hx hb dX8_memoryWord_138 rfl (lv_at hl 2 rfl) ?_
            refine oh_cvp (As := [.int x8]) (rest := [.int (s9 0 14), .ref (a 0)]) hC hP hD hS (mtX8_at l a k D s9 x8 (oh_mw hn2 hd hx2 hx8 c10)) (cwV 1 hts gX8_memoryWord_X8_at rfl rfl rfl (by decide +kernel) ⟨Nat.le_of_ble_eq_true rfl, Nat.le_of_ble_eq_true rfl⟩) 0 8 rfl rfl rfl hl.1 rfl (Nat.le_of_ble_eq_true rfl) dX8_memoryWord_139 (fun r13 H locs hr13 hP hD hS => ?_)
            refine lv_iand hx hb dX8_memoryWord_142 ?_
            refine oh_put (σ' := (oh_up s9 0 14 ((s9 0 14) &&& r13))) (v := .int ((s9 0 14) &&& r13)) hC hP hD hS inX8_memoryWord_X8 tyX8 tyX8_ok nmX8 0 rfl rfl 2 (by decide) (by decide +kernel) rfl rfl rfl (by simp) rfl dX8_memoryWord_143 (fun H locs hP hD hS => ?_)
            refine lv_goto (tgt := 392) hx hb dX8_memoryWord_146 (by decide) ?_
            exact oh_retv (u := (oh_up s9 0 14 ((s9 0 14) &&& r13))) hC hP hD hS (by subst hr13 hy11; exact (((if_neg c10).trans (if_pos c12)).symm).trans hK56) dX8_memoryWord_392
          by_cases c14 : y11 = (3 : Int32)
          · refine lv_tableIn (tgt := 149) hx hb dX8_memoryWord_66 (by rw [c14]; decide) (by rw [c14]; decide) (by rw [c14]; rfl) (by decide) ?_
            refine lv_aload_n hx hb dX8_memoryWord_149 rfl (lv_at hl 3 rfl) ?_
            refine lv_iload_n hx hb dX8_memoryWord_150 rfl (lv_at hl 2 rfl) ?_
            refine lv_aload_n hx hb dX8_memoryWord_151 rfl (lv_at hl 3 rfl) ?_
            refine oh_get (v := .int (s9 0 3)) hC hP inX8_memoryWord_X8 0 rfl rfl 4 (by decide) (by decide +kernel) rfl dX8_memoryWord_152 ?_
            refine oh_cvv (As := [.int x8, .int (s9 0 3)]) (rest := []) hC hP hD hS (mtX8_put l a k D s9 x8 (s9 0 3) (oh_mw hn2 hd hx2 hx8 c10)) (cwV 2 hts gX8_memoryWord_X8_put rfl rfl rfl (by decide +kernel) ⟨Nat.le_of_ble_eq_true rfl, Nat.le_of_ble_eq_true rfl⟩) 0 8 rfl rfl rfl hl.1 rfl (Nat.le_of_ble_eq_true rfl) dX8_memoryWord_155 (fun s15 H locs hs15 hP hD hS => ?_)
            refine lv_aload_n hx hb dX8_memoryWord_158 rfl (lv_at hl 3 rfl) ?_
            refine lv_iload_n hx hb dX8_memoryWord_159 rfl (lv_at hl 2 rfl) ?_
            refine oh_csp (As := [.int x8]) (rest := [.ref (a 0)]) hC hP hD hS (mtX8_more l a k D s15 x8) (va_cwS 1 hts gX8_memoryWord_X8_more rfl rfl rfl (by decide +kernel) ⟨Nat.le_of_ble_eq_true rfl, Nat.le_of_ble_eq_true rfl⟩) rfl hl.1 rfl (Nat.le_of_ble_eq_true rfl) dX8_memoryWord_160 (fun r16 H locs hr16 hP hD hS => ?_)
            refine oh_put (σ' := (oh_up s15 0 3 r16)) (v := .int r16) hC hP hD hS inX8_memoryWord_X8 tyX8 tyX8_ok nmX8 0 rfl rfl 4 (by decide) (by decide +kernel) rfl rfl rfl (by simp) rfl dX8_memoryWord_163 (fun H locs hP hD hS => ?_)
            refine lv_aload_n hx hb dX8_memoryWord_166 rfl (lv_at hl 3 rfl) ?_
            refine lv_iload hx hb dX8_memoryWord_167 (lv_at hl 1 rfl) ?_
            refine oh_put (σ' := (oh_up (oh_up s15 0 3 r16) 0 13 x4)) (v := .int x4) hC hP hD hS inX8_memoryWord_X8 tyX8 tyX8_ok nmX8 0 rfl rfl 9 (by decide) (by decide +kernel) rfl (oh_nb (by rw [hx4]; (repeat' split) <;> first | exact Or.inl rfl | exact Or.inr rfl)) (oh_fb (by rw [hx4]; (repeat' split) <;> first | exact Or.inl rfl | exact Or.inr rfl)) (by simp) rfl dX8_memoryWord_169 (fun H locs hP hD hS => ?_)
            refine lv_goto (tgt := 392) hx hb dX8_memoryWord_172 (by decide) ?_
            exact oh_retv (u := (oh_up (oh_up s15 0 3 r16) 0 13 x4)) hC hP hD hS (by subst hr16 hs15 hy11; exact ((((if_neg c10).trans (if_neg c12)).trans (if_pos c14)).symm).trans hK56) dX8_memoryWord_392
          by_cases c17 : y11 = (4 : Int32)
          · refine lv_tableIn (tgt := 175) hx hb dX8_memoryWord_66 (by rw [c17]; decide) (by rw [c17]; decide) (by rw [c17]; rfl) (by decide) ?_
            refine lv_aload_n hx hb dX8_memoryWord_175 rfl (lv_at hl 3 rfl) ?_
            refine lv_dup hx hb dX8_memoryWord_176 rfl ?_
            refine oh_get (v := .int (s9 0 14)) hC hP inX8_memoryWord_X8 0 rfl rfl 2 (by decide) (by decide +kernel) rfl dX8_memoryWord_177 ?_
            refine lv_aload_n hx hb dX8_memoryWord_180 rfl (lv_at hl 3 rfl) ?_
            refine lv_iload_n hx hb dX8_memoryWord_181 rfl (lv_at hl 2 rfl) ?_
            refine oh_cvp (As := [.int x8]) (rest := [.int (s9 0 14), .ref (a 0)]) hC hP hD hS (mtX8_at l a k D s9 x8 (oh_mw hn2 hd hx2 hx8 c10)) (cwV 1 hts gX8_memoryWord_X8_at rfl rfl rfl (by decide +kernel) ⟨Nat.le_of_ble_eq_true rfl, Nat.le_of_ble_eq_true rfl⟩) 0 8 rfl rfl rfl hl.1 rfl (Nat.le_of_ble_eq_true rfl) dX8_memoryWord_182 (fun r18 H locs hr18 hP hD hS => ?_)
            refine lv_ixor hx hb dX8_memoryWord_185 ?_
            refine oh_put (σ' := (oh_up s9 0 14 ((s9 0 14) ^^^ r18))) (v := .int ((s9 0 14) ^^^ r18)) hC hP hD hS inX8_memoryWord_X8 tyX8 tyX8_ok nmX8 0 rfl rfl 2 (by decide) (by decide +kernel) rfl rfl rfl (by simp) rfl dX8_memoryWord_186 (fun H locs hP hD hS => ?_)
            refine lv_goto (tgt := 392) hx hb dX8_memoryWord_189 (by decide) ?_
            exact oh_retv (u := (oh_up s9 0 14 ((s9 0 14) ^^^ r18))) hC hP hD hS (by subst hr18 hy11; exact (((((if_neg c10).trans (if_neg c12)).trans (if_neg c14)).trans (if_pos c17)).symm).trans hK56) dX8_memoryWord_392
          by_cases c19 : y11 = (5 : Int32)
          · refine lv_tableIn (tgt := 192) hx hb dX8_memoryWord_66 (by rw [c19]; decide) (by rw [c19]; decide) (by rw [c19]; rfl) (by decide) ?_
            refine lv_aload_n hx hb dX8_memoryWord_192 rfl (lv_at hl 3 rfl) ?_
            refine lv_iload_n hx hb dX8_memoryWord_193 rfl (lv_at hl 2 rfl) ?_
            refine oh_put (σ' := (oh_up s9 0 3 x8)) (v := .int x8) hC hP hD hS inX8_memoryWord_X8 tyX8 tyX8_ok nmX8 0 rfl rfl 4 (by decide) (by decide +kernel) rfl rfl rfl (by simp) rfl dX8_memoryWord_194 (fun H locs hP hD hS => ?_)
            refine lv_aload_n hx hb dX8_memoryWord_197 rfl (lv_at hl 3 rfl) ?_
            refine lv_iload hx hb dX8_memoryWord_198 (lv_at hl 1 rfl) ?_
            refine oh_put (σ' := (oh_up (oh_up s9 0 3 x8) 0 13 x4)) (v := .int x4) hC hP hD hS inX8_memoryWord_X8 tyX8 tyX8_ok nmX8 0 rfl rfl 9 (by decide) (by decide +kernel) rfl (oh_nb (by rw [hx4]; (repeat' split) <;> first | exact Or.inl rfl | exact Or.inr rfl)) (oh_fb (by rw [hx4]; (repeat' split) <;> first | exact Or.inl rfl | exact Or.inr rfl)) (by simp) rfl dX8_memoryWord_200 (fun H locs hP hD hS => ?_)
            refine lv_goto (tgt := 392) hx hb dX8_memoryWord_203 (by decide) ?_
            exact oh_retv (u := (oh_up (oh_up s9 0 3 x8) 0 13 x4)) hC hP hD hS (by subst hy11; exact ((((((if_neg c10).trans (if_neg c12)).trans (if_neg c14)).trans (if_neg c17)).trans (if_pos c19)).symm).trans hK56) dX8_memoryWord_392
          by_cases c20 : y11 = (6 : Int32)
          · refine lv_tableIn (tgt := 206) hx hb dX8_memoryWord_66 (by rw [c20]; decide) (by rw [c20]; decide) (by rw [c20]; rfl) (by decide) ?_
            refine lv_aload_n hx hb dX8_memoryWord_206 rfl (lv_at hl 3 rfl) ?_
            refine lv_dup hx hb dX8_memoryWord_207 rfl ?_
            refine oh_get (v := .int (s9 0 14)) hC hP inX8_memoryWord_X8 0 rfl rfl 2 (by decide) (by decide +kernel) rfl dX8_memoryWord_208 ?_
            refine lv_aload_n hx hb dX8_memoryWord_211 rfl (lv_at hl 3 rfl) ?_
            refine lv_iload_n hx hb dX8_memoryWord_212 rfl (lv_at hl 2 rfl) ?_
            refine oh_cvp (As := [.int x8]) (rest := [.int (s9 0 14), .ref (a 0)]) hC hP hD hS (mtX8_at l a k D s9 x8 (oh_mw hn2 hd hx2 hx8 c10)) (cwV 1 hts gX8_memoryWord_X8_at rfl rfl rfl (by decide +kernel) ⟨Nat.le_of_ble_eq_true rfl, Nat.le_of_ble_eq_true rfl⟩) 0 8 rfl rfl rfl hl.1 rfl (Nat.le_of_ble_eq_true rfl) dX8_memoryWord_213 (fun r21 H locs hr21 hP hD hS => ?_)
            refine lv_ior hx hb dX8_memoryWord_216 ?_
            refine oh_put (σ' := (oh_up s9 0 14 ((s9 0 14) ||| r21))) (v := .int ((s9 0 14) ||| r21)) hC hP hD hS inX8_memoryWord_X8 tyX8 tyX8_ok nmX8 0 rfl rfl 2 (by decide) (by decide +kernel) rfl rfl rfl (by simp) rfl dX8_memoryWord_217 (fun H locs hP hD hS => ?_)
            refine lv_goto (tgt := 392) hx hb dX8_memoryWord_220 (by decide) ?_
            exact oh_retv (u := (oh_up s9 0 14 ((s9 0 14) ||| r21))) hC hP hD hS (by subst hr21 hy11; exact (((((((if_neg c10).trans (if_neg c12)).trans (if_neg c14)).trans (if_neg c17)).trans (if_neg c19)).trans (if_pos c20)).symm).trans hK56) dX8_memoryWord_392
          by_cases c22 : y11 = (7 : Int32)
          · refine lv_tableIn (tgt := 223) hx hb dX8_memoryWord_66 (by rw [c22]; decide) (by rw [c22]; decide) (by rw [c22]; rfl) (by decide) ?_
            refine lv_aload_n hx hb dX8_memoryWord_223 rfl (lv_at hl 3 rfl) ?_
            refine lv_iload_n hx hb dX8_memoryWord_224 rfl (lv_at hl 2 rfl) ?_
            refine oh_cvp (As := [.int x8]) (rest := []) hC hP hD hS (mtX8_at l a k D s9 x8 (oh_mw hn2 hd hx2 hx8 c10)) (cwV 1 hts gX8_memoryWord_X8_at rfl rfl rfl (by decide +kernel) ⟨Nat.le_of_ble_eq_true rfl, Nat.le_of_ble_eq_true rfl⟩) 0 8 rfl rfl rfl hl.1 rfl (Nat.le_of_ble_eq_true rfl) dX8_memoryWord_225 (fun r23 H locs hr23 hP hD hS => ?_)
            refine lv_iconst (v := (1 : Int32)) hx hb dX8_memoryWord_228 (by decide) ?_
            refine lv_iadd hx hb dX8_memoryWord_229 ?_
            refine lv_ldc (v := (65535 : Int32)) hx hb hown (hts (.constant RX8 102 (65535)) (by decide +kernel)) dX8_memoryWord_230 ?_
            refine lv_iand hx hb dX8_memoryWord_232 ?_
            refine lv_istore (lv' := [(6, .int ((r23 + (1 : Int32)) &&& (65535 : Int32))), (5, .int ((p1 >>> ((11 : Int32) &&& 31)) &&& (15 : Int32))), (4, .int x4), (3, .int x8), (0, .ref (a 0)), (1, .int p1), (2, .int p2)]) hx hb dX8_memoryWord_233 hl (by decide) rfl (fun ls hl => ?_)
            refine lv_aload_n hx hb dX8_memoryWord_235 rfl (lv_at hl 4 rfl) ?_
            refine lv_iload_n hx hb dX8_memoryWord_236 rfl (lv_at hl 3 rfl) ?_
            refine lv_iload hx hb dX8_memoryWord_237 (lv_at hl 0 rfl) ?_
            refine oh_cvv (As := [.int x8, .int ((r23 + (1 : Int32)) &&& (65535 : Int32))]) (rest := []) hC hP hD hS (mtX8_put l a k D s9 x8 ((r23 + (1 : Int32)) &&& (65535 : Int32)) (oh_mw hn2 hd hx2 hx8 c10)) (cwV 2 hts gX8_memoryWord_X8_put rfl rfl rfl (by decide +kernel) ⟨Nat.le_of_ble_eq_true rfl, Nat.le_of_ble_eq_true rfl⟩) 0 8 rfl rfl rfl hl.1 rfl (Nat.le_of_ble_eq_true rfl) dX8_memoryWord_239 (fun s24 H locs hs24 hP hD hS => ?_)
            refine lv_aload_n hx hb dX8_memoryWord_242 rfl (lv_at hl 4 rfl) ?_
            refine lv_iload hx hb dX8_memoryWord_243 (lv_at hl 0 rfl) ?_
            have K28 : ∀ x26 : Int32, x26 = (if ((r23 + (1 : Int32)) &&& (65535 : Int32)) = (0 : Int32) then (1 : Int32) else (0 : Int32)) → ∀ (ls : Array Slot) (H : Heap) (locs : List Loc), va_P D vwCl (oh_V a k s24) H → va_D A (oh_V a k s24) → va_S A s.heap H locs → lv_has ls 7 [(6, .int ((r23 + (1 : Int32)) &&& (65535 : Int32))), (5, .int ((p1 >>> ((11 : Int32) &&& 31)) &&& (15 : Int32))), (4, .int x4), (3, .int x8), (0, .ref (a 0)), (1, .int p1), (2, .int p2)] → W p l e ({ frames := 2, cells := 0, slots := 0, locals := 44 } : Room) s m (([.ref (a 0), .int p1, .int p2] : List Value).toArray) below meth c H locs 0 0 (oh_Ev below (fun u => u = spX8_memoryWord σ p1 p2) D (oh_V a k) A [.ref (a 0), .int p1, .int p2] s) (F0 m 253 ls [.int x26, .ref (a 0)]) := by
              intro x26 hx26 ls H locs hP hD hS hl
              have hK28 : spX8_memoryWord_k28 s24 x26 = spX8_memoryWord σ p1 p2 := by
                subst hx26 hs24 hr23 hy11
                exact ((((((((if_neg c10).trans (if_neg c12)).trans (if_neg c14)).trans (if_neg c17)).trans (if_neg c19)).trans (if_neg c20)).trans (if_pos c22)).symm).trans hK56
              refine oh_cvv (As := [.int x26]) (rest := []) hC hP hD hS (mtX8_skip l a k D s24 x26) (cwV 1 hts gX8_memoryWord_X8_skip rfl rfl rfl (by decide +kernel) ⟨Nat.le_of_ble_eq_true rfl, Nat.le_of_ble_eq_true rfl⟩) 0 8 rfl rfl rfl hl.1 rfl (Nat.le_of_ble_eq_true rfl) dX8_memoryWord_253 (fun s27 H locs hs27 hP hD hS => ?_)
              refine lv_goto (tgt := 392) hx hb dX8_memoryWord_256 (by decide) ?_
              exact oh_retv (u := s27) hC hP hD hS (by subst hs27; exact hK28) dX8_memoryWord_392
            refine lv_if_ne (tgt := 252) hx hb dX8_memoryWord_245 (by decide) (fun c25 => ?_) (fun c25 => ?_)
            · refine lv_iconst (v := (0 : Int32)) hx hb dX8_memoryWord_252 (by decide) ?_
              exact K28 _ (if_neg c25).symm ls _ _ hP hD hS (lv_sub hl [0, 1, 2, 3, 4, 5, 6] rfl)
            · refine lv_iconst (v := (1 : Int32)) hx hb dX8_memoryWord_248 (by decide) ?_
              refine lv_goto (tgt := 253) hx hb dX8_memoryWord_249 (by decide) ?_
              exact K28 _ (if_pos c25).symm ls _ _ hP hD hS (lv_sub hl [0, 1, 2, 3, 4, 5, 6] rfl)
          by_cases c29 : y11 = (8 : Int32)
          · refine lv_tableIn (tgt := 259) hx hb dX8_memoryWord_66 (by rw [c29]; decide) (by rw [c29]; decide) (by rw [c29]; rfl) (by decide) ?_
            refine lv_aload_n hx hb dX8_memoryWord_259 rfl (lv_at hl 3 rfl) ?_
            refine lv_aload_n hx hb dX8_memoryWord_260 rfl (lv_at hl 3 rfl) ?_
            refine lv_aload_n hx hb dX8_memoryWord_261 rfl (lv_at hl 3 rfl) ?_
            refine oh_get (v := .int (s9 0 14)) hC hP inX8_memoryWord_X8 0 rfl rfl 2 (by decide) (by decide +kernel) rfl dX8_memoryWord_262 ?_
            refine lv_aload_n hx hb dX8_memoryWord_265 rfl (lv_at hl 3 rfl) ?_
            refine lv_iload_n hx hb dX8_memoryWord_266 rfl (lv_at hl 2 rfl) ?_
            refine oh_cvp (As := [.int x8]) (rest := [.int (s9 0 14), .ref (a 0), .ref (a 0)]) hC hP hD hS (mtX8_at l a k D s9 x8 (oh_mw hn2 hd hx2 hx8 c10)) (cwV 1 hts gX8_memoryWord_X8_at rfl rfl rfl (by decide +kernel) ⟨Nat.le_of_ble_eq_true rfl, Nat.le_of_ble_eq_true rfl⟩) 0 8 rfl rfl rfl hl.1 rfl (Nat.le_of_ble_eq_true rfl) dX8_memoryWord_267 (fun r30 H locs hr30 hP hD hS => ?_)
            refine oh_cvi (As := [.int (s9 0 14), .int r30]) (rest := [.ref (a 0)]) hC hP hD hS (mtX8_sum l a k D s9 (s9 0 14) r30) (cwV 2 hts gX8_memoryWord_X8_sum rfl rfl rfl (by decide +kernel) ⟨Nat.le_of_ble_eq_true rfl, Nat.le_of_ble_eq_true rfl⟩) 0 8 rfl rfl rfl hl.1 rfl (Nat.le_of_ble_eq_true rfl) dX8_memoryWord_270 (fun r31 s32 H locs hw hP hD hS => ?_)
            obtain ⟨hr31, hs32⟩ := hw
            refine oh_put (σ' := (oh_up s32 0 14 r31)) (v := .int r31) hC hP hD hS inX8_memoryWord_X8 tyX8 tyX8_ok nmX8 0 rfl rfl 2 (by decide) (by decide +kernel) rfl rfl rfl (by simp) rfl dX8_memoryWord_273 (fun H locs hP hD hS => ?_)
            refine lv_goto (tgt := 392) hx hb dX8_memoryWord_276 (by decide) ?_
            exact oh_retv (u := (oh_up s32 0 14 r31)) hC hP hD hS (by subst hs32 hr31 hr30 hy11; exact (((((((((if_neg c10).trans (if_neg c12)).trans (if_neg c14)).trans (if_neg c17)).trans (if_neg c19)).trans (if_neg c20)).trans (if_neg c22)).trans (if_pos c29)).symm).trans hK56) dX8_memoryWord_392
          by_cases c33 : y11 = (9 : Int32)
          · refine lv_tableIn (tgt := 279) hx hb dX8_memoryWord_66 (by rw [c33]; decide) (by rw [c33]; decide) (by rw [c33]; rfl) (by decide) ?_
            refine lv_aload_n hx hb dX8_memoryWord_279 rfl (lv_at hl 3 rfl) ?_
            refine lv_aload_n hx hb dX8_memoryWord_280 rfl (lv_at hl 3 rfl) ?_
            refine lv_aload_n hx hb dX8_memoryWord_281 rfl (lv_at hl 3 rfl) ?_
            refine oh_get (v := .int (s9 0 15)) hC hP inX8_memoryWord_X8 0 rfl rfl 3 (by decide) (by decide +kernel) rfl dX8_memoryWord_282 ?_
            refine lv_aload_n hx hb dX8_memoryWord_285 rfl (lv_at hl 3 rfl) ?_
            refine lv_iload_n hx hb dX8_memoryWord_286 rfl (lv_at hl 2 rfl) ?_
            refine oh_cvp (As := [.int x8]) (rest := [.int (s9 0 15), .ref (a 0), .ref (a 0)]) hC hP hD hS (mtX8_at l a k D s9 x8 (oh_mw hn2 hd hx2 hx8 c10)) (cwV 1 hts gX8_memoryWord_X8_at rfl rfl rfl (by decide +kernel) ⟨Nat.le_of_ble_eq_true rfl, Nat.le_of_ble_eq_true rfl⟩) 0 8 rfl rfl rfl hl.1 rfl (Nat.le_of_ble_eq_true rfl) dX8_memoryWord_287 (fun r34 H locs hr34 hP hD hS => ?_)
            refine oh_cvi (As := [.int (s9 0 15), .int r34]) (rest := [.ref (a 0)]) hC hP hD hS (mtX8_sum l a k D s9 (s9 0 15) r34) (cwV 2 hts gX8_memoryWord_X8_sum rfl rfl rfl (by decide +kernel) ⟨Nat.le_of_ble_eq_true rfl, Nat.le_of_ble_eq_true rfl⟩) 0 8 rfl rfl rfl hl.1 rfl (Nat.le_of_ble_eq_true rfl) dX8_memoryWord_290 (fun r35 s36 H locs hw hP hD hS => ?_)
            obtain ⟨hr35, hs36⟩ := hw
            refine oh_put (σ' := (oh_up s36 0 15 r35)) (v := .int r35) hC hP hD hS inX8_memoryWord_X8 tyX8 tyX8_ok nmX8 0 rfl rfl 3 (by decide) (by decide +kernel) rfl rfl rfl (by simp) rfl dX8_memoryWord_293 (fun H locs hP hD hS => ?_)
            refine lv_goto (tgt := 392) hx hb dX8_memoryWord_296 (by decide) ?_
            exact oh_retv (u := (oh_up s36 0 15 r35)) hC hP hD hS (by subst hs36 hr35 hr34 hy11; exact ((((((((((if_neg c10).trans (if_neg c12)).trans (if_neg c14)).trans (if_neg c17)).trans (if_neg c19)).trans (if_neg c20)).trans (if_neg c22)).trans (if_neg c29)).trans (if_pos c33)).symm).trans hK56) dX8_memoryWord_392
          by_cases c37 : y11 = (10 : Int32)
          · refine lv_tableIn (tgt := 299) hx hb dX8_memoryWord_66 (by rw [c37]; decide) (by rw [c37]; decide) (by rw [c37]; rfl) (by decide) ?_
            refine lv_aload_n hx hb dX8_memoryWord_299 rfl (lv_at hl 3 rfl) ?_
            refine lv_aload_n hx hb dX8_memoryWord_300 rfl (lv_at hl 3 rfl) ?_
            refine oh_get (v := .int (s9 0 14)) hC hP inX8_memoryWord_X8 0 rfl rfl 2 (by decide) (by decide +kernel) rfl dX8_memoryWord_301 ?_
            refine lv_aload_n hx hb dX8_memoryWord_304 rfl (lv_at hl 3 rfl) ?_
            refine lv_iload_n hx hb dX8_memoryWord_305 rfl (lv_at hl 2 rfl) ?_
            refine oh_cvp (As := [.int x8]) (rest := [.int (s9 0 14), .ref (a 0)]) hC hP hD hS (mtX8_at l a k D s9 x8 (oh_mw hn2 hd hx2 hx8 c10)) (cwV 1 hts gX8_memoryWord_X8_at rfl rfl rfl (by decide +kernel) ⟨Nat.le_of_ble_eq_true rfl, Nat.le_of_ble_eq_true rfl⟩) 0 8 rfl rfl rfl hl.1 rfl (Nat.le_of_ble_eq_true rfl) dX8_memoryWord_306 (fun r38 H locs hr38 hP hD hS => ?_)
            have K42 : ∀ x40 : Int32, x40 = (if (s9 0 14) = r38 then (0 : Int32) else (1 : Int32)) → ∀ (ls : Array Slot) (H : Heap) (locs : List Loc), va_P D vwCl (oh_V a k s9) H → va_D A (oh_V a k s9) → va_S A s.heap H locs → lv_has ls 7 [(5, .int ((p1 >>> ((11 : Int32) &&& 31)) &&& (15 : Int32))), (4, .int x4), (3, .int x8), (0, .ref (a 0)), (1, .int p1), (2, .int p2)] → W p l e ({ frames := 2, cells := 0, slots := 0, locals := 44 } : Room) s m (([.ref (a 0), .int p1, .int p2] : List Value).toArray) below meth c H locs 0 0 (oh_Ev below (fun u => u = spX8_memoryWord σ p1 p2) D (oh_V a k) A [.ref (a 0), .int p1, .int p2] s) (F0 m 317 ls [.int x40, .ref (a 0)]) := by
              intro x40 hx40 ls H locs hP hD hS hl
              have hK42 : spX8_memoryWord_k42 s9 x40 = spX8_memoryWord σ p1 p2 := by
                subst hx40 hr38 hy11
                exact (((((((((((if_neg c10).trans (if_neg c12)).trans (if_neg c14)).trans (if_neg c17)).trans (if_neg c19)).trans (if_neg c20)).trans (if_neg c22)).trans (if_neg c29)).trans (if_neg c33)).trans (if_pos c37)).symm).trans hK56
              refine oh_cvv (As := [.int x40]) (rest := []) hC hP hD hS (mtX8_skip l a k D s9 x40) (cwV 1 hts gX8_memoryWord_X8_skip rfl rfl rfl (by decide +kernel) ⟨Nat.le_of_ble_eq_true rfl, Nat.le_of_ble_eq_true rfl⟩) 0 8 rfl rfl rfl hl.1 rfl (Nat.le_of_ble_eq_true rfl) dX8_memoryWord_317 (fun s41 H locs hs41 hP hD hS => ?_)
              refine lv_goto (tgt := 392) hx hb dX8_memoryWord_320 (by decide) ?_
              exact oh_retv (u := s41) hC hP hD hS (by subst hs41; exact hK42) dX8_memoryWord_392
            refine lv_icmp_eq (tgt := 316) hx hb dX8_memoryWord_309 (by decide) (fun c39 => ?_) (fun c39 => ?_)
            · refine lv_iconst (v := (0 : Int32)) hx hb dX8_memoryWord_316 (by decide) ?_
              exact K42 _ (if_pos c39).symm ls _ _ hP hD hS (lv_sub hl [0, 1, 2, 3, 4, 5] rfl)
            · refine lv_iconst (v := (1 : Int32)) hx hb dX8_memoryWord_312 (by decide) ?_
              refine lv_goto (tgt := 317) hx hb dX8_memoryWord_313 (by decide) ?_
              exact K42 _ (if_neg c39).symm ls _ _ hP hD hS (lv_sub hl [0, 1, 2, 3, 4, 5] rfl)
          by_cases c43 : y11 = (11 : Int32)
          · refine lv_tableIn (tgt := 323) hx hb dX8_memoryWord_66 (by rw [c43]; decide) (by rw [c43]; decide) (by rw [c43]; rfl) (by decide) ?_
            refine lv_aload_n hx hb dX8_memoryWord_323 rfl (lv_at hl 3 rfl) ?_
            refine lv_aload_n hx hb dX8_memoryWord_324 rfl (lv_at hl 3 rfl) ?_
            refine oh_get (v := .int (s9 0 15)) hC hP inX8_memoryWord_X8 0 rfl rfl 3 (by decide) (by decide +kernel) rfl dX8_memoryWord_325 ?_
            refine lv_aload_n hx hb dX8_memoryWord_328 rfl (lv_at hl 3 rfl) ?_
            refine lv_iload_n hx hb dX8_memoryWord_329 rfl (lv_at hl 2 rfl) ?_
            refine oh_cvp (As := [.int x8]) (rest := [.int (s9 0 15), .ref (a 0)]) hC hP hD hS (mtX8_at l a k D s9 x8 (oh_mw hn2 hd hx2 hx8 c10)) (cwV 1 hts gX8_memoryWord_X8_at rfl rfl rfl (by decide +kernel) ⟨Nat.le_of_ble_eq_true rfl, Nat.le_of_ble_eq_true rfl⟩) 0 8 rfl rfl rfl hl.1 rfl (Nat.le_of_ble_eq_true rfl) dX8_memoryWord_330 (fun r44 H locs hr44 hP hD hS => ?_)
            have K48 : ∀ x46 : Int32, x46 = (if (s9 0 15) = r44 then (0 : Int32) else (1 : Int32)) → ∀ (ls : Array Slot) (H : Heap) (locs : List Loc), va_P D vwCl (oh_V a k s9) H → va_D A (oh_V a k s9) → va_S A s.heap H locs → lv_has ls 7 [(5, .int ((p1 >>> ((11 : Int32) &&& 31)) &&& (15 : Int32))), (4, .int x4), (3, .int x8), (0, .ref (a 0)), (1, .int p1), (2, .int p2)] → W p l e ({ frames := 2, cells := 0, slots := 0, locals := 44 } : Room) s m (([.ref (a 0), .int p1, .int p2] : List Value).toArray) below meth c H locs 0 0 (oh_Ev below (fun u => u = spX8_memoryWord σ p1 p2) D (oh_V a k) A [.ref (a 0), .int p1, .int p2] s) (F0 m 341 ls [.int x46, .ref (a 0)]) := by
              intro x46 hx46 ls H locs hP hD hS hl
              have hK48 : spX8_memoryWord_k48 s9 x46 = spX8_memoryWord σ p1 p2 := by
                subst hx46 hr44 hy11
                exact ((((((((((((if_neg c10).trans (if_neg c12)).trans (if_neg c14)).trans (if_neg c17)).trans (if_neg c19)).trans (if_neg c20)).trans (if_neg c22)).trans (if_neg c29)).trans (if_neg c33)).trans (if_neg c37)).trans (if_pos c43)).symm).trans hK56
              refine oh_cvv (As := [.int x46]) (rest := []) hC hP hD hS (mtX8_skip l a k D s9 x46) (cwV 1 hts gX8_memoryWord_X8_skip rfl rfl rfl (by decide +kernel) ⟨Nat.le_of_ble_eq_true rfl, Nat.le_of_ble_eq_true rfl⟩) 0 8 rfl rfl rfl hl.1 rfl (Nat.le_of_ble_eq_true rfl) dX8_memoryWord_341 (fun s47 H locs hs47 hP hD hS => ?_)
              refine lv_goto (tgt := 392) hx hb dX8_memoryWord_344 (by decide) ?_
              exact oh_retv (u := s47) hC hP hD hS (by subst hs47; exact hK48) dX8_memoryWord_392
            refine lv_icmp_eq (tgt := 340) hx hb dX8_memoryWord_333 (by decide) (fun c45 => ?_) (fun c45 => ?_)
            · refine lv_iconst (v := (0 : Int32)) hx hb dX8_memoryWord_340 (by decide) ?_
              exact K48 _ (if_pos c45).symm ls _ _ hP hD hS (lv_sub hl [0, 1, 2, 3, 4, 5] rfl)
            · refine lv_iconst (v := (1 : Int32)) hx hb dX8_memoryWord_336 (by decide) ?_
              refine lv_goto (tgt := 341) hx hb dX8_memoryWord_337 (by decide) ?_
              exact K48 _ (if_neg c45).symm ls _ _ hP hD hS (lv_sub hl [0, 1, 2, 3, 4, 5] rfl)
          by_cases c49 : y11 = (12 : Int32)
          · refine lv_tableIn (tgt := 347) hx hb dX8_memoryWord_66 (by rw [c49]; decide) (by rw [c49]; decide) (by rw [c49]; rfl) (by decide) ?_
            refine lv_aload_n hx hb dX8_memoryWord_347 rfl (lv_at hl 3 rfl) ?_
            refine lv_aload_n hx hb dX8_memoryWord_348 rfl (lv_at hl 3 rfl) ?_
            refine lv_iload_n hx hb dX8_memoryWord_349 rfl (lv_at hl 2 rfl) ?_
            refine oh_cvp (As := [.int x8]) (rest := [.ref (a 0)]) hC hP hD hS (mtX8_at l a k D s9 x8 (oh_mw hn2 hd hx2 hx8 c10)) (cwV 1 hts gX8_memoryWord_X8_at rfl rfl rfl (by decide +kernel) ⟨Nat.le_of_ble_eq_true rfl, Nat.le_of_ble_eq_true rfl⟩) 0 8 rfl rfl rfl hl.1 rfl (Nat.le_of_ble_eq_true rfl) dX8_memoryWord_350 (fun r50 H locs hr50 hP hD hS => ?_)
            refine oh_put (σ' := (oh_up s9 0 14 r50)) (v := .int r50) hC hP hD hS inX8_memoryWord_X8 tyX8 tyX8_ok nmX8 0 rfl rfl 2 (by decide) (by decide +kernel) rfl rfl rfl (by simp) rfl dX8_memoryWord_353 (fun H locs hP hD hS => ?_)
            refine lv_goto (tgt := 392) hx hb dX8_memoryWord_356 (by decide) ?_
            exact oh_retv (u := (oh_up s9 0 14 r50)) hC hP hD hS (by subst hr50 hy11; exact (((((((((((((if_neg c10).trans (if_neg c12)).trans (if_neg c14)).trans (if_neg c17)).trans (if_neg c19)).trans (if_neg c20)).trans (if_neg c22)).trans (if_neg c29)).trans (if_neg c33)).trans (if_neg c37)).trans (if_neg c43)).trans (if_pos c49)).symm).trans hK56) dX8_memoryWord_392
          by_cases c51 : y11 = (13 : Int32)
          · refine lv_tableIn (tgt := 359) hx hb dX8_memoryWord_66 (by rw [c51]; decide) (by rw [c51]; decide) (by rw [c51]; rfl) (by decide) ?_
            refine lv_aload_n hx hb dX8_memoryWord_359 rfl (lv_at hl 3 rfl) ?_
            refine lv_aload_n hx hb dX8_memoryWord_360 rfl (lv_at hl 3 rfl) ?_
            refine lv_iload_n hx hb dX8_memoryWord_361 rfl (lv_at hl 2 rfl) ?_
            refine oh_cvp (As := [.int x8]) (rest := [.ref (a 0)]) hC hP hD hS (mtX8_at l a k D s9 x8 (oh_mw hn2 hd hx2 hx8 c10)) (cwV 1 hts gX8_memoryWord_X8_at rfl rfl rfl (by decide +kernel) ⟨Nat.le_of_ble_eq_true rfl, Nat.le_of_ble_eq_true rfl⟩) 0 8 rfl rfl rfl hl.1 rfl (Nat.le_of_ble_eq_true rfl) dX8_memoryWord_362 (fun r52 H locs hr52 hP hD hS => ?_)
            refine oh_put (σ' := (oh_up s9 0 15 r52)) (v := .int r52) hC hP hD hS inX8_memoryWord_X8 tyX8 tyX8_ok nmX8 0 rfl rfl 3 (by decide) (by decide +kernel) rfl rfl rfl (by simp) rfl dX8_memoryWord_365 (fun H locs hP hD hS => ?_)
            refine lv_goto (tgt := 392) hx hb dX8_memoryWord_368 (by decide) ?_
            exact oh_retv (u := (oh_up s9 0 15 r52)) hC hP hD hS (by subst hr52 hy11; exact ((((((((((((((if_neg c10).trans (if_neg c12)).trans (if_neg c14)).trans (if_neg c17)).trans (if_neg c19)).trans (if_neg c20)).trans (if_neg c22)).trans (if_neg c29)).trans (if_neg c33)).trans (if_neg c37)).trans (if_neg c43)).trans (if_neg c49)).trans (if_pos c51)).symm).trans hK56) dX8_memoryWord_392
          by_cases c53 : y11 = (14 : Int32)
          · refine lv_tableIn (tgt := 371) hx hb dX8_memoryWord_66 (by rw [c53]; decide) (by rw [c53]; decide) (by rw [c53]; rfl) (by decide) ?_
            refine lv_aload_n hx hb dX8_memoryWord_371 rfl (lv_at hl 3 rfl) ?_
            refine lv_iload_n hx hb dX8_memoryWord_372 rfl (lv_at hl 2 rfl) ?_
            refine lv_aload_n hx hb dX8_memoryWord_373 rfl (lv_at hl 3 rfl) ?_
            refine oh_get (v := .int (s9 0 14)) hC hP inX8_memoryWord_X8 0 rfl rfl 2 (by decide) (by decide +kernel) rfl dX8_memoryWord_374 ?_
            refine oh_cvv (As := [.int x8, .int (s9 0 14)]) (rest := []) hC hP hD hS (mtX8_put l a k D s9 x8 (s9 0 14) (oh_mw hn2 hd hx2 hx8 c10)) (cwV 2 hts gX8_memoryWord_X8_put rfl rfl rfl (by decide +kernel) ⟨Nat.le_of_ble_eq_true rfl, Nat.le_of_ble_eq_true rfl⟩) 0 8 rfl rfl rfl hl.1 rfl (Nat.le_of_ble_eq_true rfl) dX8_memoryWord_377 (fun s54 H locs hs54 hP hD hS => ?_)
            refine lv_goto (tgt := 392) hx hb dX8_memoryWord_380 (by decide) ?_
            exact oh_retv (u := s54) hC hP hD hS (by subst hs54 hy11; exact (((((((((((((((if_neg c10).trans (if_neg c12)).trans (if_neg c14)).trans (if_neg c17)).trans (if_neg c19)).trans (if_neg c20)).trans (if_neg c22)).trans (if_neg c29)).trans (if_neg c33)).trans (if_neg c37)).trans (if_neg c43)).trans (if_neg c49)).trans (if_neg c51)).trans (if_pos c53)).symm).trans hK56) dX8_memoryWord_392
          refine lv_tableOut (tgt := 383) hx hb dX8_memoryWord_66 (by have hh := True.intro; have : (∀ z : Int32, y11.toInt = z.toInt → y11 = z) := fun z e => Int32.toInt_inj.mp e; have hc12 : y11.toInt ≠ 2 := oh_ne c12; have hc14 : y11.toInt ≠ 3 := oh_ne c14; have hc17 : y11.toInt ≠ 4 := oh_ne c17; have hc19 : y11.toInt ≠ 5 := oh_ne c19; have hc20 : y11.toInt ≠ 6 := oh_ne c20; have hc22 : y11.toInt ≠ 7 := oh_ne c22; have hc29 : y11.toInt ≠ 8 := oh_ne c29; have hc33 : y11.toInt ≠ 9 := oh_ne c33; have hc37 : y11.toInt ≠ 10 := oh_ne c37; have hc43 : y11.toInt ≠ 11 := oh_ne c43; have hc49 : y11.toInt ≠ 12 := oh_ne c49; have hc51 : y11.toInt ≠ 13 := oh_ne c51; have hc53 : y11.toInt ≠ 14 := oh_ne c53; omega) (by decide) ?_
          refine lv_aload_n hx hb dX8_memoryWord_383 rfl (lv_at hl 3 rfl) ?_
          refine lv_iload_n hx hb dX8_memoryWord_384 rfl (lv_at hl 2 rfl) ?_
          refine lv_aload_n hx hb dX8_memoryWord_385 rfl (lv_at hl 3 rfl) ?_
          refine oh_get (v := .int (s9 0 15)) hC hP inX8_memoryWord_X8 0 rfl rfl 3 (by decide) (by decide +kernel) rfl dX8_memoryWord_386 ?_
          refine oh_cvv (As := [.int x8, .int (s9 0 15)]) (rest := []) hC hP hD hS (mtX8_put l a k D s9 x8 (s9 0 15) (oh_mw hn2 hd hx2 hx8 c10)) (cwV 2 hts gX8_memoryWord_X8_put rfl rfl rfl (by decide +kernel) ⟨Nat.le_of_ble_eq_true rfl, Nat.le_of_ble_eq_true rfl⟩) 0 8 rfl rfl rfl hl.1 rfl (Nat.le_of_ble_eq_true rfl) dX8_memoryWord_389 (fun s55 H locs hs55 hP hD hS => ?_)
          exact oh_retv (u := s55) hC hP hD hS (by subst hs55 hy11; exact (((((((((((((((if_neg c10).trans (if_neg c12)).trans (if_neg c14)).trans (if_neg c17)).trans (if_neg c19)).trans (if_neg c20)).trans (if_neg c22)).trans (if_neg c29)).trans (if_neg c33)).trans (if_neg c37)).trans (if_neg c43)).trans (if_neg c49)).trans (if_neg c51)).trans (if_neg c53)).symm).trans hK56) dX8_memoryWord_392
        · exact oh_retv (u := s9) hC hP hD hS (by exact ((if_pos c10).symm).trans hK56) dX8_memoryWord_54
      refine lv_if_eq (tgt := 49) hx hb dX8_memoryWord_37 (by decide) (fun c5 => ?_) (fun c5 => ?_)
      · exact K56 _ (if_pos c5).symm _ (if_pos c5).symm ls _ _ hP hD hS (lv_sub hl [0, 1, 2, 3, 4] rfl)
      · refine lv_aload_n hx hb dX8_memoryWord_40 rfl (lv_at hl 2 rfl) ?_
        refine lv_iload_n hx hb dX8_memoryWord_41 rfl (lv_at hl 1 rfl) ?_
        refine lv_ldc (v := (32768 : Int32)) hx hb hown (hts (.constant RX8 143 (32768)) (by decide +kernel)) dX8_memoryWord_42 ?_
        refine lv_ior hx hb dX8_memoryWord_44 ?_
        refine oh_cvi (As := [.int (x2 ||| (32768 : Int32))]) (rest := []) hC hP hD hS (mtX8_direct l a k D σ (x2 ||| (32768 : Int32))) (cwV 1 hts gX8_memoryWord_X8_direct rfl rfl rfl (by decide +kernel) ⟨Nat.le_of_ble_eq_true rfl, Nat.le_of_ble_eq_true rfl⟩) 0 8 rfl rfl rfl hl.1 rfl (Nat.le_of_ble_eq_true rfl) dX8_memoryWord_45 (fun r6 s7 H locs hw hP hD hS => ?_)
        obtain ⟨hr6, hs7⟩ := hw
        refine lv_istore_n (lv' := [(3, .int r6), (4, .int x4), (0, .ref (a 0)), (1, .int p1), (2, .int p2)]) hx hb dX8_memoryWord_48 rfl hl (by decide) rfl (fun ls hl => ?_)
        exact K56 _ (by subst hs7 hr6; exact (if_neg c5).symm) _ (by subst hs7 hr6; exact (if_neg c5).symm) ls _ _ hP hD hS (lv_sub hl [1, 0, 2, 3, 4] rfl)
    refine lv_icmp_ne (tgt := 32) hx hb dX8_memoryWord_25 (by decide) (fun c3 => ?_) (fun c3 => ?_)
    · refine lv_iconst (v := (0 : Int32)) hx hb dX8_memoryWord_32 (by decide) ?_
      exact K57 _ (if_neg c3).symm ls _ _ hP hD hS (lv_sub hl [0, 1, 2, 3] rfl)
    · refine lv_iconst (v := (1 : Int32)) hx hb dX8_memoryWord_28 (by decide) ?_
      refine lv_goto (tgt := 33) hx hb dX8_memoryWord_29 (by decide) ?_
      exact K57 _ (if_pos c3).symm ls _ _ hP hD hS (lv_sub hl [0, 1, 2, 3] rfl)
  refine lv_icmp_ne (tgt := 20) hx hb dX8_memoryWord_13 (by decide) (fun c1 => ?_) (fun c1 => ?_)
  · exact K58 _ (if_neg c1).symm ls _ _ hP hD hS (lv_sub hl [0, 1, 2, 3] rfl)
  · refine lv_iload_n hx hb dX8_memoryWord_16 rfl (lv_at hl 0 rfl) ?_
    refine lv_iload_n hx hb dX8_memoryWord_17 rfl (lv_at hl 3 rfl) ?_
    refine lv_ior hx hb dX8_memoryWord_18 ?_
    refine lv_istore_n (lv' := [(3, .int ((p1 &&& (1023 : Int32)) ||| p2)), (0, .ref (a 0)), (1, .int p1), (2, .int p2)]) hx hb dX8_memoryWord_19 rfl hl (by decide) rfl (fun ls hl => ?_)
    exact K58 _ (if_pos c1).symm ls _ _ hP hD hS (lv_sub hl [0, 1, 2, 3] rfl)
-- OctalHouseModel.codes
theorem inX8_codes_X8 : ∀ w ∈ u_ws RX8 TX8 35, w ∈ wsX8_codes := by decide +kernel
def spX8_codes_k50 (s43 : oh_St) (x49 : Int32) : oh_St := (oh_up s43 0 13 x49)
def spX8_codes_k51 (p1 : Int32) (r2 : Int32) (s43 : oh_St) : oh_St := (let x49 : Int32 := (if ((p1 >>> ((6 : Int32) &&& 31)) &&& (7 : Int32)) = (1 : Int32) then (1 : Int32) else (if ((p1 >>> ((6 : Int32) &&& 31)) &&& (7 : Int32)) = (7 : Int32) then (1 : Int32) else (if r2 = (0 : Int32) then (0 : Int32) else (if ((p1 >>> ((6 : Int32) &&& 31)) &&& (7 : Int32)) = (2 : Int32) then (0 : Int32) else (if ((p1 >>> ((6 : Int32) &&& 31)) &&& (7 : Int32)) = (3 : Int32) then (0 : Int32) else (1 : Int32)))))); (spX8_codes_k50 s43 x49))
def spX8_codes_k52 (p1 : Int32) (r2 : Int32) (s37 : oh_St) : oh_St := (let s43 : oh_St := (if r2 = (0 : Int32) then s37 else (if ((p1 >>> ((6 : Int32) &&& 31)) &&& (7 : Int32)) = (1 : Int32) then s37 else (if ((p1 >>> ((6 : Int32) &&& 31)) &&& (7 : Int32)) = (2 : Int32) then s37 else (if ((p1 >>> ((6 : Int32) &&& 31)) &&& (7 : Int32)) = (3 : Int32) then s37 else (let s42 : oh_St := (spX8_setFlag s37 (p1 &&& (63 : Int32)) (0 : Int32)); s42))))); (spX8_codes_k51 p1 r2 s43))
def spX8_codes_k53 (p1 : Int32) (r1 : Int32) (r2 : Int32) (x31 : Int32) (s32 : oh_St) : oh_St := (let s37 : oh_St := (if ((p1 >>> ((6 : Int32) &&& 31)) &&& (7 : Int32)) = (4 : Int32) then (if r1 = (0 : Int32) then (oh_up s32 0 14 x31) else (oh_up s32 0 15 x31)) else (if ((p1 >>> ((6 : Int32) &&& 31)) &&& (7 : Int32)) = (5 : Int32) then (if r1 = (0 : Int32) then (oh_up s32 0 14 x31) else (oh_up s32 0 15 x31)) else s32)); (spX8_codes_k52 p1 r2 s37))
def spX8_codes_k54 (σ : oh_St) (p1 : Int32) (r1 : Int32) (r2 : Int32) (x4 : Int32) : oh_St := (let y5 : Int32 := ((p1 >>> ((6 : Int32) &&& 31)) &&& (7 : Int32)); (let x31 : Int32 := (if y5 = (0 : Int32) then x4 else (if y5 = (1 : Int32) then (let x9 : Int32 := (if r2 = (0 : Int32) then (1 : Int32) else (0 : Int32)); (let s10 : oh_St := (spX8_setFlag σ (p1 &&& (63 : Int32)) x9); x4)) else (if y5 = (2 : Int32) then (let r13 : Int32 := (spX8_flagOf σ (p1 &&& (63 : Int32))); (let x15 : Int32 := (if r13 = (0 : Int32) then (1 : Int32) else (0 : Int32)); (let s16 : oh_St := (spX8_skip σ x15); x4))) else (if y5 = (3 : Int32) then (let r19 : Int32 := (spX8_flagOf σ (p1 &&& (63 : Int32))); (let s20 : oh_St := (spX8_skip σ r19); x4)) else (if y5 = (4 : Int32) then (let r22 : Int32 := (spX8_told σ (p1 &&& (63 : Int32))); (x4 ||| r22)) else (if y5 = (5 : Int32) then (let r24 : Int32 := (spX8_told σ (p1 &&& (63 : Int32))); r24) else (if y5 = (6 : Int32) then (let s26 : oh_St := (spX8_goes σ (p1 &&& (63 : Int32)) x4); x4) else (let x28 : Int32 := (if r1 = (0 : Int32) then (1 : Int32) else (0 : Int32)); (let s29 : oh_St := (spX8_setControl σ (p1 &&& (63 : Int32)) x28); x4))))))))); (let s32 : oh_St := (if y5 = (0 : Int32) then (oh_up (oh_up σ 0 7 (1 : Int32)) 0 8 (p1 &&& (63 : Int32))) else (if y5 = (1 : Int32) then (let x9 : Int32 := (if r2 = (0 : Int32) then (1 : Int32) else (0 : Int32)); (let s10 : oh_St := (spX8_setFlag σ (p1 &&& (63 : Int32)) x9); s10)) else (if y5 = (2 : Int32) then (let r13 : Int32 := (spX8_flagOf σ (p1 &&& (63 : Int32))); (let x15 : Int32 := (if r13 = (0 : Int32) then (1 : Int32) else (0 : Int32)); (let s16 : oh_St := (spX8_skip σ x15); s16))) else (if y5 = (3 : Int32) then (let r19 : Int32 := (spX8_flagOf σ (p1 &&& (63 : Int32))); (let s20 : oh_St := (spX8_skip σ r19); s20)) else (if y5 = (4 : Int32) then (let r22 : Int32 := (spX8_told σ (p1 &&& (63 : Int32))); σ) else (if y5 = (5 : Int32) then (let r24 : Int32 := (spX8_told σ (p1 &&& (63 : Int32))); σ) else (if y5 = (6 : Int32) then (let s26 : oh_St := (spX8_goes σ (p1 &&& (63 : Int32)) x4); s26) else (let x28 : Int32 := (if r1 = (0 : Int32) then (1 : Int32) else (0 : Int32)); (let s29 : oh_St := (spX8_setControl σ (p1 &&& (63 : Int32)) x28); s29))))))))); (spX8_codes_k53 p1 r1 r2 x31 s32))))
def spX8_codes (σ : oh_St) (p1 : Int32) : oh_St := (let r1 : Int32 := (spX8_is p1 (11 : Int32)); (let r2 : Int32 := (spX8_is p1 (9 : Int32)); (let x4 : Int32 := (if r1 = (0 : Int32) then (σ 0 14) else (σ 0 15)); (spX8_codes_k54 σ p1 r1 r2 x4))))
set_option maxHeartbeats 8000000 in
set_option maxRecDepth 100000 in
theorem mtX8_codes (l : Launch) (a : Nat → Nat) (k : Nat → ClassId) (D : va_G) (σ : oh_St) (p1 : Int32) (h9 : σ 0 9 = 0 ∨ σ 0 9 = 1) : oh_Mv l yX8_codes wsX8_codes { frames := 2, cells := 0, slots := 0, locals := 44 } D (oh_ty k) (oh_V a k) [.ref (a 0), .int p1] σ (fun u => u = spX8_codes σ p1) := by
  refine oh_inv (cc := cX8_codes) (nL := 7) (rt := none) (by decide) rfl (Nat.le_of_ble_eq_true rfl) ?_
  intro p e s m below meth c A ls hC hP hD hS hl
  obtain ⟨hx, hb, hml, hown, hts, hr, hlocks, hK, hN, hA⟩ := id hC
  have hl : lv_has ls 7 [(0, .ref (a 0)), (1, .int p1)] := hl
  refine lv_iload_n hx hb dX8_codes_0 rfl (lv_at hl 1 rfl) ?_
  refine lv_bipush (v := (63 : Int32)) hx hb dX8_codes_1 (by decide) ?_
  refine lv_iand hx hb dX8_codes_3 ?_
  refine lv_istore_n (lv' := [(2, .int (p1 &&& (63 : Int32))), (0, .ref (a 0)), (1, .int p1)]) hx hb dX8_codes_4 rfl hl (by decide) rfl (fun ls hl => ?_)
  refine lv_iload_n hx hb dX8_codes_5 rfl (lv_at hl 2 rfl) ?_
  refine lv_bipush (v := (11 : Int32)) hx hb dX8_codes_6 (by decide) ?_
  refine oh_csp (As := [.int p1, .int (11 : Int32)]) (rest := []) hC hP hD hS (mtX8_is l a k D σ p1 (11 : Int32)) (va_cwS 2 hts gX8_codes_X8_is rfl rfl rfl (by decide +kernel) ⟨Nat.le_of_ble_eq_true rfl, Nat.le_of_ble_eq_true rfl⟩) rfl hl.1 rfl (Nat.le_of_ble_eq_true rfl) dX8_codes_8 (fun r1 H locs hr1 hP hD hS => ?_)
  refine lv_istore_n (lv' := [(3, .int r1), (2, .int (p1 &&& (63 : Int32))), (0, .ref (a 0)), (1, .int p1)]) hx hb dX8_codes_11 rfl hl (by decide) rfl (fun ls hl => ?_)
  refine lv_iload_n hx hb dX8_codes_12 rfl (lv_at hl 3 rfl) ?_
  refine lv_bipush (v := (9 : Int32)) hx hb dX8_codes_13 (by decide) ?_
  refine oh_csp (As := [.int p1, .int (9 : Int32)]) (rest := []) hC hP hD hS (mtX8_is l a k D σ p1 (9 : Int32)) (va_cwS 2 hts gX8_codes_X8_is rfl rfl rfl (by decide +kernel) ⟨Nat.le_of_ble_eq_true rfl, Nat.le_of_ble_eq_true rfl⟩) rfl hl.1 rfl (Nat.le_of_ble_eq_true rfl) dX8_codes_15 (fun r2 H locs hr2 hP hD hS => ?_)
  refine lv_istore (lv' := [(4, .int r2), (3, .int r1), (2, .int (p1 &&& (63 : Int32))), (0, .ref (a 0)), (1, .int p1)]) hx hb dX8_codes_18 hl (by decide) rfl (fun ls hl => ?_)
  refine lv_iload_n hx hb dX8_codes_20 rfl (lv_at hl 4 rfl) ?_
  refine lv_bipush (v := (6 : Int32)) hx hb dX8_codes_21 (by decide) ?_
  refine lv_ishr hx hb dX8_codes_23 ?_
  refine lv_bipush (v := (7 : Int32)) hx hb dX8_codes_24 (by decide) ?_
  refine lv_iand hx hb dX8_codes_26 ?_
  refine lv_istore (lv' := [(5, .int ((p1 >>> ((6 : Int32) &&& 31)) &&& (7 : Int32))), (4, .int r2), (3, .int r1), (2, .int (p1 &&& (63 : Int32))), (0, .ref (a 0)), (1, .int p1)]) hx hb dX8_codes_27 hl (by decide) rfl (fun ls hl => ?_)
  refine lv_iload_n hx hb dX8_codes_29 rfl (lv_at hl 2 rfl) ?_
  have K54 : ∀ x4 : Int32, x4 = (if r1 = (0 : Int32) then (σ 0 14) else (σ 0 15)) → ∀ (ls : Array Slot) (H : Heap) (locs : List Loc), va_P D vwCl (oh_V a k σ) H → va_D A (oh_V a k σ) → va_S A s.heap H locs → lv_has ls 7 [(5, .int ((p1 >>> ((6 : Int32) &&& 31)) &&& (7 : Int32))), (4, .int r2), (3, .int r1), (2, .int (p1 &&& (63 : Int32))), (0, .ref (a 0)), (1, .int p1)] → W p l e ({ frames := 2, cells := 0, slots := 0, locals := 44 } : Room) s m (([.ref (a 0), .int p1] : List Value).toArray) below meth c H locs 0 0 (oh_Ev below (fun u => u = spX8_codes σ p1) D (oh_V a k) A [.ref (a 0), .int p1] s) (F0 m 44 ls [.int x4]) := by
    intro x4 hx4 ls H locs hP hD hS hl
    have hK54 : spX8_codes_k54 σ p1 r1 r2 x4 = spX8_codes σ p1 := by
      subst hx4 hr2 hr1
      exact rfl
    refine lv_istore (lv' := [(6, .int x4), (5, .int ((p1 >>> ((6 : Int32) &&& 31)) &&& (7 : Int32))), (4, .int r2), (3, .int r1), (2, .int (p1 &&& (63 : Int32))), (0, .ref (a 0)), (1, .int p1)]) hx hb dX8_codes_44 hl (by decide) rfl (fun ls hl => ?_)
    refine lv_iload hx hb dX8_codes_46 (lv_at hl 1 rfl) ?_
    refine lv_topi (fun y5 hy5 => ?_)
    have K53 : ∀ x31 : Int32, x31 = (if y5 = (0 : Int32) then x4 else (if y5 = (1 : Int32) then (let x9 : Int32 := (if r2 = (0 : Int32) then (1 : Int32) else (0 : Int32)); (let s10 : oh_St := (spX8_setFlag σ (p1 &&& (63 : Int32)) x9); x4)) else (if y5 = (2 : Int32) then (let r13 : Int32 := (spX8_flagOf σ (p1 &&& (63 : Int32))); (let x15 : Int32 := (if r13 = (0 : Int32) then (1 : Int32) else (0 : Int32)); (let s16 : oh_St := (spX8_skip σ x15); x4))) else (if y5 = (3 : Int32) then (let r19 : Int32 := (spX8_flagOf σ (p1 &&& (63 : Int32))); (let s20 : oh_St := (spX8_skip σ r19); x4)) else (if y5 = (4 : Int32) then (let r22 : Int32 := (spX8_told σ (p1 &&& (63 : Int32))); (x4 ||| r22)) else (if y5 = (5 : Int32) then (let r24 : Int32 := (spX8_told σ (p1 &&& (63 : Int32))); r24) else (if y5 = (6 : Int32) then (let s26 : oh_St := (spX8_goes σ (p1 &&& (63 : Int32)) x4); x4) else (let x28 : Int32 := (if r1 = (0 : Int32) then (1 : Int32) else (0 : Int32)); (let s29 : oh_St := (spX8_setControl σ (p1 &&& (63 : Int32)) x28); x4))))))))) → ∀ s32 : oh_St, s32 = (if y5 = (0 : Int32) then (oh_up (oh_up σ 0 7 (1 : Int32)) 0 8 (p1 &&& (63 : Int32))) else (if y5 = (1 : Int32) then (let x9 : Int32 := (if r2 = (0 : Int32) then (1 : Int32) else (0 : Int32)); (let s10 : oh_St := (spX8_setFlag σ (p1 &&& (63 : Int32)) x9); s10)) else (if y5 = (2 : Int32) then (let r13 : Int32 := (spX8_flagOf σ (p1 &&& (63 : Int32))); (let x15 : Int32 := (if r13 = (0 : Int32) then (1 : Int32) else (0 : Int32)); (let s16 : oh_St := (spX8_skip σ x15); s16))) else (if y5 = (3 : Int32) then (let r19 : Int32 := (spX8_flagOf σ (p1 &&& (63 : Int32))); (let s20 : oh_St := (spX8_skip σ r19); s20)) else (if y5 = (4 : Int32) then (let r22 : Int32 := (spX8_told σ (p1 &&& (63 : Int32))); σ) else (if y5 = (5 : Int32) then (let r24 : Int32 := (spX8_told σ (p1 &&& (63 : Int32))); σ) else (if y5 = (6 : Int32) then (let s26 : oh_St := (spX8_goes σ (p1 &&& (63 : Int32)) x4); s26) else (let x28 : Int32 := (if r1 = (0 : Int32) then (1 : Int32) else (0 : Int32)); (let s29 : oh_St := (spX8_setControl σ (p1 &&& (63 : Int32)) x28); s29))))))))) → ∀ (ls : Array Slot) (H : Heap) (locs : List Loc), va_P D vwCl (oh_V a k s32) H → va_D A (oh_V a k s32) → va_S A s.heap H locs → lv_has ls 7 [(6, .int x31), (5, .int ((p1 >>> ((6 : Int32) &&& 31)) &&& (7 : Int32))), (4, .int r2), (3, .int r1), (2, .int (p1 &&& (63 : Int32))), (0, .ref (a 0)), (1, .int p1)] → W p l e ({ frames := 2, cells := 0, slots := 0, locals := 44 } : Room) s m (([.ref (a 0), .int p1] : List Value).toArray) below meth c H locs 0 0 (oh_Ev below (fun u => u = spX8_codes σ p1) D (oh_V a k) A [.ref (a 0), .int p1] s) (F0 m 202 ls []) := by
      intro x31 hx31 s32 hs32 ls H locs hP hD hS hl
      have hK53 : spX8_codes_k53 p1 r1 r2 x31 s32 = spX8_codes σ p1 := by
        subst hs32 hx31 hy5
        exact hK54
      refine lv_iload hx hb dX8_codes_202 (lv_at hl 1 rfl) ?_
      refine lv_iconst (v := (4 : Int32)) hx hb dX8_codes_204 (by decide) ?_
      have K52 : ∀ s37 : oh_St, s37 = (if ((p1 >>> ((6 : Int32) &&& 31)) &&& (7 : Int32)) = (4 : Int32) then (if r1 = (0 : Int32) then (oh_up s32 0 14 x31) else (oh_up s32 0 15 x31)) else (if ((p1 >>> ((6 : Int32) &&& 31)) &&& (7 : Int32)) = (5 : Int32) then (if r1 = (0 : Int32) then (oh_up s32 0 14 x31) else (oh_up s32 0 15 x31)) else s32)) → ∀ (ls : Array Slot) (H : Heap) (locs : List Loc), va_P D vwCl (oh_V a k s37) H → va_D A (oh_V a k s37) → va_S A s.heap H locs → lv_has ls 7 [(6, .int x31), (5, .int ((p1 >>> ((6 : Int32) &&& 31)) &&& (7 : Int32))), (4, .int r2), (3, .int r1), (2, .int (p1 &&& (63 : Int32))), (0, .ref (a 0)), (1, .int p1)] → W p l e ({ frames := 2, cells := 0, slots := 0, locals := 44 } : Room) s m (([.ref (a 0), .int p1] : List Value).toArray) below meth c H locs 0 0 (oh_Ev below (fun u => u = spX8_codes σ p1) D (oh_V a k) A [.ref (a 0), .int p1] s) (F0 m 233 ls []) := by
        intro s37 hs37 ls H locs hP hD hS hl
        have hK52 : spX8_codes_k52 p1 r2 s37 = spX8_codes σ p1 := by
          subst hs37
          exact hK53
        refine lv_iload hx hb dX8_codes_233 (lv_at hl 2 rfl) ?_
        have K51 : ∀ s43 : oh_St, s43 = (if r2 = (0 : Int32) then s37 else (if ((p1 >>> ((6 : Int32) &&& 31)) &&& (7 : Int32)) = (1 : Int32) then s37 else (if ((p1 >>> ((6 : Int32) &&& 31)) &&& (7 : Int32)) = (2 : Int32) then s37 else (if ((p1 >>> ((6 : Int32) &&& 31)) &&& (7 : Int32)) = (3 : Int32) then s37 else (let s42 : oh_St := (spX8_setFlag s37 (p1 &&& (63 : Int32)) (0 : Int32)); s42))))) → ∀ (ls : Array Slot) (H : Heap) (locs : List Loc), va_P D vwCl (oh_V a k s43) H → va_D A (oh_V a k s43) → va_S A s.heap H locs → lv_has ls 7 [(6, .int x31), (5, .int ((p1 >>> ((6 : Int32) &&& 31)) &&& (7 : Int32))), (4, .int r2), (3, .int r1), (2, .int (p1 &&& (63 : Int32))), (0, .ref (a 0)), (1, .int p1)] → W p l e ({ frames := 2, cells := 0, slots := 0, locals := 44 } : Room) s m (([.ref (a 0), .int p1] : List Value).toArray) below meth c H locs 0 0 (oh_Ev below (fun u => u = spX8_codes σ p1) D (oh_V a k) A [.ref (a 0), .int p1] s) (F0 m 262 ls []) := by
          intro s43 hs43 ls H locs hP hD hS hl
          have hK51 : spX8_codes_k51 p1 r2 s43 = spX8_codes σ p1 := by
            subst hs43
            exact hK52
          refine lv_aload_n hx hb dX8_codes_262 rfl (lv_at hl 5 rfl) ?_
          refine lv_iload hx hb dX8_codes_263 (lv_at hl 1 rfl) ?_
          refine lv_iconst (v := (1 : Int32)) hx hb dX8_codes_265 (by decide) ?_
          have K50 : ∀ x49 : Int32, x49 = (if ((p1 >>> ((6 : Int32) &&& 31)) &&& (7 : Int32)) = (1 : Int32) then (1 : Int32) else (if ((p1 >>> ((6 : Int32) &&& 31)) &&& (7 : Int32)) = (7 : Int32) then (1 : Int32) else (if r2 = (0 : Int32) then (0 : Int32) else (if ((p1 >>> ((6 : Int32) &&& 31)) &&& (7 : Int32)) = (2 : Int32) then (0 : Int32) else (if ((p1 >>> ((6 : Int32) &&& 31)) &&& (7 : Int32)) = (3 : Int32) then (0 : Int32) else (1 : Int32)))))) → ∀ (ls : Array Slot) (H : Heap) (locs : List Loc), va_P D vwCl (oh_V a k s43) H → va_D A (oh_V a k s43) → va_S A s.heap H locs → lv_has ls 7 [(6, .int x31), (5, .int ((p1 >>> ((6 : Int32) &&& 31)) &&& (7 : Int32))), (4, .int r2), (3, .int r1), (2, .int (p1 &&& (63 : Int32))), (0, .ref (a 0)), (1, .int p1)] → W p l e ({ frames := 2, cells := 0, slots := 0, locals := 44 } : Room) s m (([.ref (a 0), .int p1] : List Value).toArray) below meth c H locs 0 0 (oh_Ev below (fun u => u = spX8_codes σ p1) D (oh_V a k) A [.ref (a 0), .int p1] s) (F0 m 298 ls [.int x49, .ref (a 0)]) := by
            intro x49 hx49 ls H locs hP hD hS hl
            have hK50 : spX8_codes_k50 s43 x49 = spX8_codes σ p1 := by
              subst hx49
              exact hK51
            refine oh_put (σ' := (oh_up s43 0 13 x49)) (v := .int x49) hC hP hD hS inX8_codes_X8 tyX8 tyX8_ok nmX8 0 rfl rfl 9 (by decide) (by decide +kernel) rfl (oh_nb (by rw [hx49]; (repeat' split) <;> first | exact Or.inl rfl | exact Or.inr rfl)) (oh_fb (by rw [hx49]; (repeat' split) <;> first | exact Or.inl rfl | exact Or.inr rfl)) (by simp) rfl dX8_codes_298 (fun H locs hP hD hS => ?_)
            exact oh_retv (u := (oh_up s43 0 13 x49)) hC hP hD hS (by exact hK50) dX8_codes_301
          refine lv_icmp_eq (tgt := 293) hx hb dX8_codes_266 (by decide) (fun c44 => ?_) (fun c44 => ?_)
          · refine lv_iconst (v := (1 : Int32)) hx hb dX8_codes_293 (by decide) ?_
            refine lv_goto (tgt := 298) hx hb dX8_codes_294 (by decide) ?_
            exact K50 _ (if_pos c44).symm ls _ _ hP hD hS (lv_sub hl [0, 1, 2, 3, 4, 5, 6] rfl)
          · refine lv_iload hx hb dX8_codes_269 (lv_at hl 1 rfl) ?_
            refine lv_bipush (v := (7 : Int32)) hx hb dX8_codes_271 (by decide) ?_
            refine lv_icmp_eq (tgt := 293) hx hb dX8_codes_273 (by decide) (fun c45 => ?_) (fun c45 => ?_)
            · refine lv_iconst (v := (1 : Int32)) hx hb dX8_codes_293 (by decide) ?_
              refine lv_goto (tgt := 298) hx hb dX8_codes_294 (by decide) ?_
              exact K50 _ ((if_neg c44).trans (if_pos c45)).symm ls _ _ hP hD hS (lv_sub hl [0, 1, 2, 3, 4, 5, 6] rfl)
            · refine lv_iload hx hb dX8_codes_276 (lv_at hl 2 rfl) ?_
              refine lv_if_eq (tgt := 297) hx hb dX8_codes_278 (by decide) (fun c46 => ?_) (fun c46 => ?_)
              · refine lv_iconst (v := (0 : Int32)) hx hb dX8_codes_297 (by decide) ?_
                exact K50 _ (((if_neg c44).trans (if_neg c45)).trans (if_pos c46)).symm ls _ _ hP hD hS (lv_sub hl [0, 1, 2, 3, 4, 5, 6] rfl)
              · refine lv_iload hx hb dX8_codes_281 (lv_at hl 1 rfl) ?_
                refine lv_iconst (v := (2 : Int32)) hx hb dX8_codes_283 (by decide) ?_
                refine lv_icmp_eq (tgt := 297) hx hb dX8_codes_284 (by decide) (fun c47 => ?_) (fun c47 => ?_)
                · refine lv_iconst (v := (0 : Int32)) hx hb dX8_codes_297 (by decide) ?_
                  exact K50 _ ((((if_neg c44).trans (if_neg c45)).trans (if_neg c46)).trans (if_pos c47)).symm ls _ _ hP hD hS (lv_sub hl [0, 1, 2, 3, 4, 5, 6] rfl)
                · refine lv_iload hx hb dX8_codes_287 (lv_at hl 1 rfl) ?_
                  refine lv_iconst (v := (3 : Int32)) hx hb dX8_codes_289 (by decide) ?_
                  refine lv_icmp_eq (tgt := 297) hx hb dX8_codes_290 (by decide) (fun c48 => ?_) (fun c48 => ?_)
                  · refine lv_iconst (v := (0 : Int32)) hx hb dX8_codes_297 (by decide) ?_
                    exact K50 _ (((((if_neg c44).trans (if_neg c45)).trans (if_neg c46)).trans (if_neg c47)).trans (if_pos c48)).symm ls _ _ hP hD hS (lv_sub hl [0, 1, 2, 3, 4, 5, 6] rfl)
                  · refine lv_iconst (v := (1 : Int32)) hx hb dX8_codes_293 (by decide) ?_
                    refine lv_goto (tgt := 298) hx hb dX8_codes_294 (by decide) ?_
                    exact K50 _ (((((if_neg c44).trans (if_neg c45)).trans (if_neg c46)).trans (if_neg c47)).trans (if_neg c48)).symm ls _ _ hP hD hS (lv_sub hl [0, 1, 2, 3, 4, 5, 6] rfl)
        refine lv_if_eq (tgt := 262) hx hb dX8_codes_235 (by decide) (fun c38 => ?_) (fun c38 => ?_)
        · exact K51 _ (if_pos c38).symm ls _ _ hP hD hS (lv_sub hl [0, 1, 2, 3, 4, 5, 6] rfl)
        · refine lv_iload hx hb dX8_codes_238 (lv_at hl 1 rfl) ?_
          refine lv_iconst (v := (1 : Int32)) hx hb dX8_codes_240 (by decide) ?_
          refine lv_icmp_eq (tgt := 262) hx hb dX8_codes_241 (by decide) (fun c39 => ?_) (fun c39 => ?_)
          · exact K51 _ ((if_neg c38).trans (if_pos c39)).symm ls _ _ hP hD hS (lv_sub hl [0, 1, 2, 3, 4, 5, 6] rfl)
          · refine lv_iload hx hb dX8_codes_244 (lv_at hl 1 rfl) ?_
            refine lv_iconst (v := (2 : Int32)) hx hb dX8_codes_246 (by decide) ?_
            refine lv_icmp_eq (tgt := 262) hx hb dX8_codes_247 (by decide) (fun c40 => ?_) (fun c40 => ?_)
            · exact K51 _ (((if_neg c38).trans (if_neg c39)).trans (if_pos c40)).symm ls _ _ hP hD hS (lv_sub hl [0, 1, 2, 3, 4, 5, 6] rfl)
            · refine lv_iload hx hb dX8_codes_250 (lv_at hl 1 rfl) ?_
              refine lv_iconst (v := (3 : Int32)) hx hb dX8_codes_252 (by decide) ?_
              refine lv_icmp_eq (tgt := 262) hx hb dX8_codes_253 (by decide) (fun c41 => ?_) (fun c41 => ?_)
              · exact K51 _ ((((if_neg c38).trans (if_neg c39)).trans (if_neg c40)).trans (if_pos c41)).symm ls _ _ hP hD hS (lv_sub hl [0, 1, 2, 3, 4, 5, 6] rfl)
              · refine lv_aload_n hx hb dX8_codes_256 rfl (lv_at hl 5 rfl) ?_
                refine lv_iload_n hx hb dX8_codes_257 rfl (lv_at hl 4 rfl) ?_
                refine lv_iconst (v := (0 : Int32)) hx hb dX8_codes_258 (by decide) ?_
                refine oh_cvv (As := [.int (p1 &&& (63 : Int32)), .int (0 : Int32)]) (rest := []) hC hP hD hS (mtX8_setFlag l a k D s37 (p1 &&& (63 : Int32)) (0 : Int32) (by decide)) (cwV 2 hts gX8_codes_X8_setFlag rfl rfl rfl (by decide +kernel) ⟨Nat.le_of_ble_eq_true rfl, Nat.le_of_ble_eq_true rfl⟩) 0 8 rfl rfl rfl hl.1 rfl (Nat.le_of_ble_eq_true rfl) dX8_codes_259 (fun s42 H locs hs42 hP hD hS => ?_)
                exact K51 _ (by subst hs42; exact ((((if_neg c38).trans (if_neg c39)).trans (if_neg c40)).trans (if_neg c41)).symm) ls _ _ hP hD hS (lv_sub hl [0, 1, 2, 3, 4, 5, 6] rfl)
      refine lv_icmp_eq (tgt := 214) hx hb dX8_codes_205 (by decide) (fun c33 => ?_) (fun c33 => ?_)
      · refine lv_iload_n hx hb dX8_codes_214 rfl (lv_at hl 3 rfl) ?_
        refine lv_if_eq (tgt := 227) hx hb dX8_codes_215 (by decide) (fun c34 => ?_) (fun c34 => ?_)
        · refine lv_aload_n hx hb dX8_codes_227 rfl (lv_at hl 5 rfl) ?_
          refine lv_iload hx hb dX8_codes_228 (lv_at hl 0 rfl) ?_
          refine oh_put (σ' := (oh_up s32 0 14 x31)) (v := .int x31) hC hP hD hS inX8_codes_X8 tyX8 tyX8_ok nmX8 0 rfl rfl 2 (by decide) (by decide +kernel) rfl rfl rfl (by simp) rfl dX8_codes_230 (fun H locs hP hD hS => ?_)
          exact K52 _ ((if_pos c33).trans (if_pos c34)).symm ls _ _ hP hD hS (lv_sub hl [0, 1, 2, 3, 4, 5, 6] rfl)
        · refine lv_aload_n hx hb dX8_codes_218 rfl (lv_at hl 5 rfl) ?_
          refine lv_iload hx hb dX8_codes_219 (lv_at hl 0 rfl) ?_
          refine oh_put (σ' := (oh_up s32 0 15 x31)) (v := .int x31) hC hP hD hS inX8_codes_X8 tyX8 tyX8_ok nmX8 0 rfl rfl 3 (by decide) (by decide +kernel) rfl rfl rfl (by simp) rfl dX8_codes_221 (fun H locs hP hD hS => ?_)
          refine lv_goto (tgt := 233) hx hb dX8_codes_224 (by decide) ?_
          exact K52 _ ((if_pos c33).trans (if_neg c34)).symm ls _ _ hP hD hS (lv_sub hl [0, 1, 2, 3, 4, 5, 6] rfl)
      · refine lv_iload hx hb dX8_codes_208 (lv_at hl 1 rfl) ?_
        refine lv_iconst (v := (5 : Int32)) hx hb dX8_codes_210 (by decide) ?_
        refine lv_icmp_ne (tgt := 233) hx hb dX8_codes_211 (by decide) (fun c35 => ?_) (fun c35 => ?_)
        · exact K52 _ ((if_neg c33).trans (if_neg c35)).symm ls _ _ hP hD hS (lv_sub hl [0, 1, 2, 3, 4, 5, 6] rfl)
        · refine lv_iload_n hx hb dX8_codes_214 rfl (lv_at hl 3 rfl) ?_
          refine lv_if_eq (tgt := 227) hx hb dX8_codes_215 (by decide) (fun c36 => ?_) (fun c36 => ?_)
          · refine lv_aload_n hx hb dX8_codes_227 rfl (lv_at hl 5 rfl) ?_
            refine lv_iload hx hb dX8_codes_228 (lv_at hl 0 rfl) ?_
            refine oh_put (σ' := (oh_up s32 0 14 x31)) (v := .int x31) hC hP hD hS inX8_codes_X8 tyX8 tyX8_ok nmX8 0 rfl rfl 2 (by decide) (by decide +kernel) rfl rfl rfl (by simp) rfl dX8_codes_230 (fun H locs hP hD hS => ?_)
            exact K52 _ (((if_neg c33).trans (if_pos c35)).trans (if_pos c36)).symm ls _ _ hP hD hS (lv_sub hl [0, 1, 2, 3, 4, 5, 6] rfl)
          · refine lv_aload_n hx hb dX8_codes_218 rfl (lv_at hl 5 rfl) ?_
            refine lv_iload hx hb dX8_codes_219 (lv_at hl 0 rfl) ?_
            refine oh_put (σ' := (oh_up s32 0 15 x31)) (v := .int x31) hC hP hD hS inX8_codes_X8 tyX8 tyX8_ok nmX8 0 rfl rfl 3 (by decide) (by decide +kernel) rfl rfl rfl (by simp) rfl dX8_codes_221 (fun H locs hP hD hS => ?_)
            refine lv_goto (tgt := 233) hx hb dX8_codes_224 (by decide) ?_
            exact K52 _ (((if_neg c33).trans (if_pos c35)).trans (if_neg c36)).symm ls _ _ hP hD hS (lv_sub hl [0, 1, 2, 3, 4, 5, 6] rfl)
    by_cases c6 : y5 = (0 : Int32)
    · refine lv_tableIn (tgt := 92) hx hb dX8_codes_48 (by rw [c6]; decide) (by rw [c6]; decide) (by rw [c6]; rfl) (by decide) ?_
      refine lv_aload_n hx hb dX8_codes_92 rfl (lv_at hl 5 rfl) ?_
      refine lv_iconst (v := (1 : Int32)) hx hb dX8_codes_93 (by decide) ?_
      refine oh_put (σ' := (oh_up σ 0 7 (1 : Int32))) (v := .int (1 : Int32)) hC hP hD hS inX8_codes_X8 tyX8 tyX8_ok nmX8 0 rfl rfl 10 (by decide) (by decide +kernel) rfl (oh_nb (by decide)) (oh_fb (by decide)) (by simp) rfl dX8_codes_94 (fun H locs hP hD hS => ?_)
      refine lv_aload_n hx hb dX8_codes_97 rfl (lv_at hl 5 rfl) ?_
      refine lv_iload_n hx hb dX8_codes_98 rfl (lv_at hl 4 rfl) ?_
      refine oh_put (σ' := (oh_up (oh_up σ 0 7 (1 : Int32)) 0 8 (p1 &&& (63 : Int32)))) (v := .int (p1 &&& (63 : Int32))) hC hP hD hS inX8_codes_X8 tyX8 tyX8_ok nmX8 0 rfl rfl 11 (by decide) (by decide +kernel) rfl rfl rfl (by simp) rfl dX8_codes_99 (fun H locs hP hD hS => ?_)
      refine lv_goto (tgt := 202) hx hb dX8_codes_102 (by decide) ?_
      exact K53 _ (if_pos c6).symm _ (if_pos c6).symm ls _ _ hP hD hS (lv_sub hl [0, 1, 2, 3, 4, 5, 6] rfl)
    by_cases c7 : y5 = (1 : Int32)
    · refine lv_tableIn (tgt := 105) hx hb dX8_codes_48 (by rw [c7]; decide) (by rw [c7]; decide) (by rw [c7]; rfl) (by decide) ?_
      refine lv_aload_n hx hb dX8_codes_105 rfl (lv_at hl 5 rfl) ?_
      refine lv_iload_n hx hb dX8_codes_106 rfl (lv_at hl 4 rfl) ?_
      refine lv_iload hx hb dX8_codes_107 (lv_at hl 2 rfl) ?_
      have K11 : ∀ x9 : Int32, x9 = (if r2 = (0 : Int32) then (1 : Int32) else (0 : Int32)) → ∀ (ls : Array Slot) (H : Heap) (locs : List Loc), va_P D vwCl (oh_V a k σ) H → va_D A (oh_V a k σ) → va_S A s.heap H locs → lv_has ls 7 [(6, .int x4), (5, .int ((p1 >>> ((6 : Int32) &&& 31)) &&& (7 : Int32))), (4, .int r2), (3, .int r1), (2, .int (p1 &&& (63 : Int32))), (0, .ref (a 0)), (1, .int p1)] → W p l e ({ frames := 2, cells := 0, slots := 0, locals := 44 } : Room) s m (([.ref (a 0), .int p1] : List Value).toArray) below meth c H locs 0 0 (oh_Ev below (fun u => u = spX8_codes σ p1) D (oh_V a k) A [.ref (a 0), .int p1] s) (F0 m 117 ls [.int x9, .int (p1 &&& (63 : Int32)), .ref (a 0)]) := by
        intro x9 hx9 ls H locs hP hD hS hl
        refine oh_cvv (As := [.int (p1 &&& (63 : Int32)), .int x9]) (rest := []) hC hP hD hS (mtX8_setFlag l a k D σ (p1 &&& (63 : Int32)) x9 (by rw [hx9]; (repeat' split) <;> first | exact Or.inl rfl | exact Or.inr rfl)) (cwV 2 hts gX8_codes_X8_setFlag rfl rfl rfl (by decide +kernel) ⟨Nat.le_of_ble_eq_true rfl, Nat.le_of_ble_eq_true rfl⟩) 0 8 rfl rfl rfl hl.1 rfl (Nat.le_of_ble_eq_true rfl) dX8_codes_117 (fun s10 H locs hs10 hP hD hS => ?_)
        refine lv_goto (tgt := 202) hx hb dX8_codes_120 (by decide) ?_
        exact K53 _ (by subst hs10 hx9; exact ((if_neg c6).trans (if_pos c7)).symm) _ (by subst hs10 hx9; exact ((if_neg c6).trans (if_pos c7)).symm) ls _ _ hP hD hS (lv_sub hl [0, 1, 2, 3, 4, 5, 6] rfl)
      refine lv_if_ne (tgt := 116) hx hb dX8_codes_109 (by decide) (fun c8 => ?_) (fun c8 => ?_)
      · refine lv_iconst (v := (0 : Int32)) hx hb dX8_codes_116 (by decide) ?_
        exact K11 _ (if_neg c8).symm ls _ _ hP hD hS (lv_sub hl [0, 1, 2, 3, 4, 5, 6] rfl)
      · refine lv_iconst (v := (1 : Int32)) hx hb dX8_codes_112 (by decide) ?_
        refine lv_goto (tgt := 117) hx hb dX8_codes_113 (by decide) ?_
        exact K11 _ (if_pos c8).symm ls _ _ hP hD hS (lv_sub hl [0, 1, 2, 3, 4, 5, 6] rfl)
    by_cases c12 : y5 = (2 : Int32)
    · refine lv_tableIn (tgt := 123) hx hb dX8_codes_48 (by rw [c12]; decide) (by rw [c12]; decide) (by rw [c12]; rfl) (by decide) ?_
      refine lv_aload_n hx hb dX8_codes_123 rfl (lv_at hl 5 rfl) ?_
      refine lv_aload_n hx hb dX8_codes_124 rfl (lv_at hl 5 rfl) ?_
      refine lv_iload_n hx hb dX8_codes_125 rfl (lv_at hl 4 rfl) ?_
      refine oh_cvp (As := [.int (p1 &&& (63 : Int32))]) (rest := [.ref (a 0)]) hC hP hD hS (mtX8_flagOf l a k D σ (p1 &&& (63 : Int32)) h9) (cwV 1 hts gX8_codes_X8_flagOf rfl rfl rfl (by decide +kernel) ⟨Nat.le_of_ble_eq_true rfl, Nat.le_of_ble_eq_true rfl⟩) 0 8 rfl rfl rfl hl.1 rfl (Nat.le_of_ble_eq_true rfl) dX8_codes_126 (fun r13 H locs hr13 hP hD hS => ?_)
      have K17 : ∀ x15 : Int32, x15 = (if r13 = (0 : Int32) then (1 : Int32) else (0 : Int32)) → ∀ (ls : Array Slot) (H : Heap) (locs : List Loc), va_P D vwCl (oh_V a k σ) H → va_D A (oh_V a k σ) → va_S A s.heap H locs → lv_has ls 7 [(6, .int x4), (5, .int ((p1 >>> ((6 : Int32) &&& 31)) &&& (7 : Int32))), (4, .int r2), (3, .int r1), (2, .int (p1 &&& (63 : Int32))), (0, .ref (a 0)), (1, .int p1)] → W p l e ({ frames := 2, cells := 0, slots := 0, locals := 44 } : Room) s m (([.ref (a 0), .int p1] : List Value).toArray) below meth c H locs 0 0 (oh_Ev below (fun u => u = spX8_codes σ p1) D (oh_V a k) A [.ref (a 0), .int p1] s) (F0 m 137 ls [.int x15, .ref (a 0)]) := by
        intro x15 hx15 ls H locs hP hD hS hl
        refine oh_cvv (As := [.int x15]) (rest := []) hC hP hD hS (mtX8_skip l a k D σ x15) (cwV 1 hts gX8_codes_X8_skip rfl rfl rfl (by decide +kernel) ⟨Nat.le_of_ble_eq_true rfl, Nat.le_of_ble_eq_true rfl⟩) 0 8 rfl rfl rfl hl.1 rfl (Nat.le_of_ble_eq_true rfl) dX8_codes_137 (fun s16 H locs hs16 hP hD hS => ?_)
        refine lv_goto (tgt := 202) hx hb dX8_codes_140 (by decide) ?_
        exact K53 _ (by subst hs16 hx15 hr13; exact (((if_neg c6).trans (if_neg c7)).trans (if_pos c12)).symm) _ (by subst hs16 hx15 hr13; exact (((if_neg c6).trans (if_neg c7)).trans (if_pos c12)).symm) ls _ _ hP hD hS (lv_sub hl [0, 1, 2, 3, 4, 5, 6] rfl)
      refine lv_if_ne (tgt := 136) hx hb dX8_codes_129 (by decide) (fun c14 => ?_) (fun c14 => ?_)
      · refine lv_iconst (v := (0 : Int32)) hx hb dX8_codes_136 (by decide) ?_
        exact K17 _ (if_neg c14).symm ls _ _ hP hD hS (lv_sub hl [0, 1, 2, 3, 4, 5, 6] rfl)
      · refine lv_iconst (v := (1 : Int32)) hx hb dX8_codes_132 (by decide) ?_
        refine lv_goto (tgt := 137) hx hb dX8_codes_133 (by decide) ?_
        exact K17 _ (if_pos c14).symm ls _ _ hP hD hS (lv_sub hl [0, 1, 2, 3, 4, 5, 6] rfl)
    by_cases c18 : y5 = (3 : Int32)
    · refine lv_tableIn (tgt := 143) hx hb dX8_codes_48 (by rw [c18]; decide) (by rw [c18]; decide) (by rw [c18]; rfl) (by decide) ?_
      refine lv_aload_n hx hb dX8_codes_143 rfl (lv_at hl 5 rfl) ?_
      refine lv_aload_n hx hb dX8_codes_144 rfl (lv_at hl 5 rfl) ?_
      refine lv_iload_n hx hb dX8_codes_145 rfl (lv_at hl 4 rfl) ?_
      refine oh_cvp (As := [.int (p1 &&& (63 : Int32))]) (rest := [.ref (a 0)]) hC hP hD hS (mtX8_flagOf l a k D σ (p1 &&& (63 : Int32)) h9) (cwV 1 hts gX8_codes_X8_flagOf rfl rfl rfl (by decide +kernel) ⟨Nat.le_of_ble_eq_true rfl, Nat.le_of_ble_eq_true rfl⟩) 0 8 rfl rfl rfl hl.1 rfl (Nat.le_of_ble_eq_true rfl) dX8_codes_146 (fun r19 H locs hr19 hP hD hS => ?_)
      refine oh_cvv (As := [.int r19]) (rest := []) hC hP hD hS (mtX8_skip l a k D σ r19) (cwV 1 hts gX8_codes_X8_skip rfl rfl rfl (by decide +kernel) ⟨Nat.le_of_ble_eq_true rfl, Nat.le_of_ble_eq_true rfl⟩) 0 8 rfl rfl rfl hl.1 rfl (Nat.le_of_ble_eq_true rfl) dX8_codes_149 (fun s20 H locs hs20 hP hD hS => ?_)
      refine lv_goto (tgt := 202) hx hb dX8_codes_152 (by decide) ?_
      exact K53 _ (by subst hs20 hr19; exact ((((if_neg c6).trans (if_neg c7)).trans (if_neg c12)).trans (if_pos c18)).symm) _ (by subst hs20 hr19; exact ((((if_neg c6).trans (if_neg c7)).trans (if_neg c12)).trans (if_pos c18)).symm) ls _ _ hP hD hS (lv_sub hl [0, 1, 2, 3, 4, 5, 6] rfl)
    by_cases c21 : y5 = (4 : Int32)
    · refine lv_tableIn (tgt := 155) hx hb dX8_codes_48 (by rw [c21]; decide) (by rw [c21]; decide) (by rw [c21]; rfl) (by decide) ?_
      refine lv_iload hx hb dX8_codes_155 (lv_at hl 0 rfl) ?_
      refine lv_aload_n hx hb dX8_codes_157 rfl (lv_at hl 5 rfl) ?_
      refine lv_iload_n hx hb dX8_codes_158 rfl (lv_at hl 4 rfl) ?_
      refine oh_cvp (As := [.int (p1 &&& (63 : Int32))]) (rest := [.int x4]) hC hP hD hS (mtX8_told l a k D σ (p1 &&& (63 : Int32))) (cwV 1 hts gX8_codes_X8_told rfl rfl rfl (by decide +kernel) ⟨Nat.le_of_ble_eq_true rfl, Nat.le_of_ble_eq_true rfl⟩) 0 8 rfl rfl rfl hl.1 rfl (Nat.le_of_ble_eq_true rfl) dX8_codes_159 (fun r22 H locs hr22 hP hD hS => ?_)
      refine lv_ior hx hb dX8_codes_162 ?_
      refine lv_istore (lv' := [(6, .int (x4 ||| r22)), (5, .int ((p1 >>> ((6 : Int32) &&& 31)) &&& (7 : Int32))), (4, .int r2), (3, .int r1), (2, .int (p1 &&& (63 : Int32))), (0, .ref (a 0)), (1, .int p1)]) hx hb dX8_codes_163 hl (by decide) rfl (fun ls hl => ?_)
      refine lv_goto (tgt := 202) hx hb dX8_codes_165 (by decide) ?_
      exact K53 _ (by subst hr22; exact (((((if_neg c6).trans (if_neg c7)).trans (if_neg c12)).trans (if_neg c18)).trans (if_pos c21)).symm) _ (by subst hr22; exact (((((if_neg c6).trans (if_neg c7)).trans (if_neg c12)).trans (if_neg c18)).trans (if_pos c21)).symm) ls _ _ hP hD hS (lv_sub hl [0, 1, 2, 3, 4, 5, 6] rfl)
    by_cases c23 : y5 = (5 : Int32)
    · refine lv_tableIn (tgt := 168) hx hb dX8_codes_48 (by rw [c23]; decide) (by rw [c23]; decide) (by rw [c23]; rfl) (by decide) ?_
      refine lv_aload_n hx hb dX8_codes_168 rfl (lv_at hl 5 rfl) ?_
      refine lv_iload_n hx hb dX8_codes_169 rfl (lv_at hl 4 rfl) ?_
      refine oh_cvp (As := [.int (p1 &&& (63 : Int32))]) (rest := []) hC hP hD hS (mtX8_told l a k D σ (p1 &&& (63 : Int32))) (cwV 1 hts gX8_codes_X8_told rfl rfl rfl (by decide +kernel) ⟨Nat.le_of_ble_eq_true rfl, Nat.le_of_ble_eq_true rfl⟩) 0 8 rfl rfl rfl hl.1 rfl (Nat.le_of_ble_eq_true rfl) dX8_codes_170 (fun r24 H locs hr24 hP hD hS => ?_)
      refine lv_istore (lv' := [(6, .int r24), (5, .int ((p1 >>> ((6 : Int32) &&& 31)) &&& (7 : Int32))), (4, .int r2), (3, .int r1), (2, .int (p1 &&& (63 : Int32))), (0, .ref (a 0)), (1, .int p1)]) hx hb dX8_codes_173 hl (by decide) rfl (fun ls hl => ?_)
      refine lv_goto (tgt := 202) hx hb dX8_codes_175 (by decide) ?_
      exact K53 _ (by subst hr24; exact ((((((if_neg c6).trans (if_neg c7)).trans (if_neg c12)).trans (if_neg c18)).trans (if_neg c21)).trans (if_pos c23)).symm) _ (by subst hr24; exact ((((((if_neg c6).trans (if_neg c7)).trans (if_neg c12)).trans (if_neg c18)).trans (if_neg c21)).trans (if_pos c23)).symm) ls _ _ hP hD hS (lv_sub hl [0, 1, 2, 3, 4, 5, 6] rfl)
    by_cases c25 : y5 = (6 : Int32)
    · refine lv_tableIn (tgt := 178) hx hb dX8_codes_48 (by rw [c25]; decide) (by rw [c25]; decide) (by rw [c25]; rfl) (by decide) ?_
      refine lv_aload_n hx hb dX8_codes_178 rfl (lv_at hl 5 rfl) ?_
      refine lv_iload_n hx hb dX8_codes_179 rfl (lv_at hl 4 rfl) ?_
      refine lv_iload hx hb dX8_codes_180 (lv_at hl 0 rfl) ?_
      refine oh_cvv (As := [.int (p1 &&& (63 : Int32)), .int x4]) (rest := []) hC hP hD hS (mtX8_goes l a k D σ (p1 &&& (63 : Int32)) x4) (cwV 2 hts gX8_codes_X8_goes rfl rfl rfl (by decide +kernel) ⟨Nat.le_of_ble_eq_true rfl, Nat.le_of_ble_eq_true rfl⟩) 0 8 rfl rfl rfl hl.1 rfl (Nat.le_of_ble_eq_true rfl) dX8_codes_182 (fun s26 H locs hs26 hP hD hS => ?_)
      refine lv_goto (tgt := 202) hx hb dX8_codes_185 (by decide) ?_
      exact K53 _ (by subst hs26; exact (((((((if_neg c6).trans (if_neg c7)).trans (if_neg c12)).trans (if_neg c18)).trans (if_neg c21)).trans (if_neg c23)).trans (if_pos c25)).symm) _ (by subst hs26; exact (((((((if_neg c6).trans (if_neg c7)).trans (if_neg c12)).trans (if_neg c18)).trans (if_neg c21)).trans (if_neg c23)).trans (if_pos c25)).symm) ls _ _ hP hD hS (lv_sub hl [0, 1, 2, 3, 4, 5, 6] rfl)
    refine lv_tableOut (tgt := 188) hx hb dX8_codes_48 (by have hh := True.intro; have : (∀ z : Int32, y5.toInt = z.toInt → y5 = z) := fun z e => Int32.toInt_inj.mp e; have hc6 : y5.toInt ≠ 0 := oh_ne c6; have hc7 : y5.toInt ≠ 1 := oh_ne c7; have hc12 : y5.toInt ≠ 2 := oh_ne c12; have hc18 : y5.toInt ≠ 3 := oh_ne c18; have hc21 : y5.toInt ≠ 4 := oh_ne c21; have hc23 : y5.toInt ≠ 5 := oh_ne c23; have hc25 : y5.toInt ≠ 6 := oh_ne c25; omega) (by decide) ?_
    refine lv_aload_n hx hb dX8_codes_188 rfl (lv_at hl 5 rfl) ?_
    refine lv_iload_n hx hb dX8_codes_189 rfl (lv_at hl 4 rfl) ?_
    refine lv_iload_n hx hb dX8_codes_190 rfl (lv_at hl 3 rfl) ?_
    have K30 : ∀ x28 : Int32, x28 = (if r1 = (0 : Int32) then (1 : Int32) else (0 : Int32)) → ∀ (ls : Array Slot) (H : Heap) (locs : List Loc), va_P D vwCl (oh_V a k σ) H → va_D A (oh_V a k σ) → va_S A s.heap H locs → lv_has ls 7 [(6, .int x4), (5, .int ((p1 >>> ((6 : Int32) &&& 31)) &&& (7 : Int32))), (4, .int r2), (3, .int r1), (2, .int (p1 &&& (63 : Int32))), (0, .ref (a 0)), (1, .int p1)] → W p l e ({ frames := 2, cells := 0, slots := 0, locals := 44 } : Room) s m (([.ref (a 0), .int p1] : List Value).toArray) below meth c H locs 0 0 (oh_Ev below (fun u => u = spX8_codes σ p1) D (oh_V a k) A [.ref (a 0), .int p1] s) (F0 m 199 ls [.int x28, .int (p1 &&& (63 : Int32)), .ref (a 0)]) := by
      intro x28 hx28 ls H locs hP hD hS hl
      refine oh_cvv (As := [.int (p1 &&& (63 : Int32)), .int x28]) (rest := []) hC hP hD hS (mtX8_setControl l a k D σ (p1 &&& (63 : Int32)) x28 (by rw [hx28]; (repeat' split) <;> first | exact Or.inl rfl | exact Or.inr rfl)) (cwV 2 hts gX8_codes_X8_setControl rfl rfl rfl (by decide +kernel) ⟨Nat.le_of_ble_eq_true rfl, Nat.le_of_ble_eq_true rfl⟩) 0 8 rfl rfl rfl hl.1 rfl (Nat.le_of_ble_eq_true rfl) dX8_codes_199 (fun s29 H locs hs29 hP hD hS => ?_)
      exact K53 _ (by subst hs29 hx28; exact (((((((if_neg c6).trans (if_neg c7)).trans (if_neg c12)).trans (if_neg c18)).trans (if_neg c21)).trans (if_neg c23)).trans (if_neg c25)).symm) _ (by subst hs29 hx28; exact (((((((if_neg c6).trans (if_neg c7)).trans (if_neg c12)).trans (if_neg c18)).trans (if_neg c21)).trans (if_neg c23)).trans (if_neg c25)).symm) ls _ _ hP hD hS (lv_sub hl [0, 1, 2, 3, 4, 5, 6] rfl)
    refine lv_if_ne (tgt := 198) hx hb dX8_codes_191 (by decide) (fun c27 => ?_) (fun c27 => ?_)
    · refine lv_iconst (v := (0 : Int32)) hx hb dX8_codes_198 (by decide) ?_
      exact K30 _ (if_neg c27).symm ls _ _ hP hD hS (lv_sub hl [0, 1, 2, 3, 4, 5, 6] rfl)
    · refine lv_iconst (v := (1 : Int32)) hx hb dX8_codes_194 (by decide) ?_
      refine lv_goto (tgt := 199) hx hb dX8_codes_195 (by decide) ?_
      exact K30 _ (if_pos c27).symm ls _ _ hP hD hS (lv_sub hl [0, 1, 2, 3, 4, 5, 6] rfl)
  refine lv_if_eq (tgt := 40) hx hb dX8_codes_30 (by decide) (fun c3 => ?_) (fun c3 => ?_)
  · refine lv_aload_n hx hb dX8_codes_40 rfl (lv_at hl 4 rfl) ?_
    refine oh_get (v := .int (σ 0 14)) hC hP inX8_codes_X8 0 rfl rfl 2 (by decide) (by decide +kernel) rfl dX8_codes_41 ?_
    exact K54 _ (if_pos c3).symm ls _ _ hP hD hS (lv_sub hl [0, 1, 2, 3, 4, 5] rfl)
  · refine lv_aload_n hx hb dX8_codes_33 rfl (lv_at hl 4 rfl) ?_
    refine oh_get (v := .int (σ 0 15)) hC hP inX8_codes_X8 0 rfl rfl 3 (by decide) (by decide +kernel) rfl dX8_codes_34 ?_
    refine lv_goto (tgt := 44) hx hb dX8_codes_37 (by decide) ?_
    exact K54 _ (if_neg c3).symm ls _ _ hP hD hS (lv_sub hl [0, 1, 2, 3, 4, 5] rfl)
