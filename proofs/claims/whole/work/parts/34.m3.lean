-- OctalHouseModel.leftSigned
theorem inX8_leftSigned_X8 : ∀ w ∈ u_ws RX8 TX8 35, w ∈ wsX8_leftSigned := by decide +kernel
def lpX8_leftSigned (p1 : Int32) : Nat → oh_St → Int64 → Int64 → Int32 → oh_St
  | 0, z, v, w, i => z
  | f + 1, z, v, w, i => (if p1 ≤ i then (let s3 : oh_St := (spX8_both_ z v); s3) else (let s5 : oh_St := (if (lg_cmp ((v >>> ((30 : Int32).toInt64 &&& 63)) &&& (1 : Int64)) w) = (0 : Int32) then z else (oh_up z 0 5 (1 : Int32))); (lpX8_leftSigned p1 f s5 (((v <<< ((1 : Int32).toInt64 &&& 63)) &&& (2147483647 : Int64)) ||| (w <<< ((31 : Int32).toInt64 &&& 63))) w (i + (1 : Int32)))))
def spX8_leftSigned (σ : oh_St) (p1 : Int32) : oh_St := (let r1 : Int64 := (spX8_both σ); (lpX8_leftSigned p1 (p1.toNatClampNeg + 1) (oh_up σ 0 5 (0 : Int32)) r1 ((r1 >>> ((31 : Int32).toInt64 &&& 63)) &&& (1 : Int64)) (0 : Int32)))
set_option maxHeartbeats 8000000 in
set_option maxRecDepth 100000 in
theorem mtX8_leftSigned (l : Launch) (a : Nat → Nat) (k : Nat → ClassId) (D : va_G) (σ : oh_St) (p1 : Int32) : oh_Mv l yX8_leftSigned wsX8_leftSigned { frames := 1, cells := 0, slots := 0, locals := 22 } D (oh_ty k) (oh_V a k) [.ref (a 0), .int p1] σ (fun u => u = spX8_leftSigned σ p1) := by
  refine oh_inv (cc := cX8_leftSigned) (nL := 7) (rt := none) (by decide) rfl (Nat.le_of_ble_eq_true rfl) ?_
  intro p e s m below meth c A ls hC hP hD hS hl
  obtain ⟨hx, hb, hml, hown, hts, hr, hlocks, hK, hN, hA⟩ := id hC
  have hl : lv_has ls 7 [(0, .ref (a 0)), (1, .int p1)] := hl
  refine lv_aload_n hx hb dX8_leftSigned_0 rfl (lv_at hl 0 rfl) ?_
  refine oh_cvlp (As := []) (rest := []) hC hP hD hS (mtX8_both l a k D σ) (cwV 0 hts gX8_leftSigned_X8_both rfl rfl rfl (by decide +kernel) ⟨Nat.le_of_ble_eq_true rfl, Nat.le_of_ble_eq_true rfl⟩) 0 8 rfl rfl rfl hl.1 rfl (Nat.le_of_ble_eq_true rfl) dX8_leftSigned_1 (fun r1 H locs hr1 hP hD hS => ?_)
  refine lv_lstore_n (lv' := [(2, .long r1), (0, .ref (a 0)), (1, .int p1)]) hx hb dX8_leftSigned_4 rfl hl (by decide) rfl (fun ls hl => ?_)
  refine lv_lload_n hx hb dX8_leftSigned_5 rfl (lv_at hl 0 rfl) ?_
  refine lv_bipush (v := (31 : Int32)) hx hb dX8_leftSigned_6 (by decide) ?_
  refine lv_lshr (v := (r1 >>> ((31 : Int32).toInt64 &&& 63))) hx hb dX8_leftSigned_8 rfl ?_
  refine lv_lconst (v := (1 : Int64)) hx hb dX8_leftSigned_9 rfl ?_
  refine lv_land hx hb dX8_leftSigned_10 ?_
  refine lv_lstore (lv' := [(4, .long ((r1 >>> ((31 : Int32).toInt64 &&& 63)) &&& (1 : Int64))), (2, .long r1), (0, .ref (a 0)), (1, .int p1)]) hx hb dX8_leftSigned_11 hl (by decide) rfl (fun ls hl => ?_)
  refine lv_aload_n hx hb dX8_leftSigned_13 rfl (lv_at hl 2 rfl) ?_
  refine lv_iconst (v := (0 : Int32)) hx hb dX8_leftSigned_14 (by decide) ?_
  refine oh_put (σ' := (oh_up σ 0 5 (0 : Int32))) (v := .int (0 : Int32)) hC hP hD hS inX8_leftSigned_X8 tyX8 tyX8_ok nmX8 0 rfl rfl 6 (by decide) (by decide +kernel) rfl rfl rfl (by simp) rfl dX8_leftSigned_15 (fun H locs hP hD hS => ?_)
  refine lv_iconst (v := (0 : Int32)) hx hb dX8_leftSigned_18 (by decide) ?_
  refine lv_istore (lv' := [(6, .int (0 : Int32)), (4, .long ((r1 >>> ((31 : Int32).toInt64 &&& 63)) &&& (1 : Int64))), (2, .long r1), (0, .ref (a 0)), (1, .int p1)]) hx hb dX8_leftSigned_19 hl (by decide) rfl (fun ls hl => ?_)
  have LP : ∀ (f : Nat) (z : oh_St) (v : Int64) (w : Int64) (i : Int32), (∃ j : Nat, i = nI j ∧ j + f = p1.toNatClampNeg + 1 ∧ j ≤ p1.toNatClampNeg) → lpX8_leftSigned p1 f z v w i = spX8_leftSigned σ p1 → ∀ (ls : Array Slot) (H : Heap) (locs : List Loc), va_P D vwCl (oh_V a k z) H → va_D A (oh_V a k z) → va_S A s.heap H locs → lv_has ls 7 [(6, .int i), (4, .long w), (2, .long v), (0, .ref (a 0)), (1, .int p1)] → W p l e ({ frames := 1, cells := 0, slots := 0, locals := 22 } : Room) s m (([.ref (a 0), .int p1] : List Value).toArray) below meth c H locs 0 0 (oh_Ev below (fun u => u = spX8_leftSigned σ p1) D (oh_V a k) A [.ref (a 0), .int p1] s) (F0 m 21 ls []) := by
    intro f
    induction f with
    | zero => intro z v w i hI; exact absurd hI (oh_cntV0)
    | succ f ih =>
      intro z v w i hI hk ls H locs hP hD hS hl
      refine lv_iload hx hb dX8_leftSigned_21 (lv_at hl 0 rfl) ?_
      refine lv_iload_n hx hb dX8_leftSigned_23 rfl (lv_at hl 4 rfl) ?_
      refine lv_icmp_ge (tgt := 64) hx hb dX8_leftSigned_24 (by decide) (fun c2 => ?_) (fun c2 => ?_)
      · refine lv_aload_n hx hb dX8_leftSigned_64 rfl (lv_at hl 3 rfl) ?_
        refine lv_lload_n hx hb dX8_leftSigned_65 rfl (lv_at hl 2 rfl) ?_
        refine oh_cvv (As := [.long v]) (rest := []) hC hP hD hS (mtX8_both_ l a k D z v) (cwV 1 hts gX8_leftSigned_X8_both_ rfl rfl rfl (by decide +kernel) ⟨Nat.le_of_ble_eq_true rfl, Nat.le_of_ble_eq_true rfl⟩) 0 8 rfl rfl rfl hl.1 rfl (Nat.le_of_ble_eq_true rfl) dX8_leftSigned_66 (fun s3 H locs hs3 hP hD hS => ?_)
        exact oh_retv (u := s3) hC hP hD hS (by subst hs3; exact ((if_pos c2).symm).trans hk) dX8_leftSigned_69
      · refine lv_lload_n hx hb dX8_leftSigned_27 rfl (lv_at hl 2 rfl) ?_
        refine lv_bipush (v := (30 : Int32)) hx hb dX8_leftSigned_28 (by decide) ?_
        refine lv_lshr (v := (v >>> ((30 : Int32).toInt64 &&& 63))) hx hb dX8_leftSigned_30 rfl ?_
        refine lv_lconst (v := (1 : Int64)) hx hb dX8_leftSigned_31 rfl ?_
        refine lv_land hx hb dX8_leftSigned_32 ?_
        refine lv_lload hx hb dX8_leftSigned_33 (lv_at hl 1 rfl) ?_
        refine W.lcmp hx hb dX8_leftSigned_35 ?_
        have K6 : ∀ s5 : oh_St, s5 = (if (lg_cmp ((v >>> ((30 : Int32).toInt64 &&& 63)) &&& (1 : Int64)) w) = (0 : Int32) then z else (oh_up z 0 5 (1 : Int32))) → ∀ (ls : Array Slot) (H : Heap) (locs : List Loc), va_P D vwCl (oh_V a k s5) H → va_D A (oh_V a k s5) → va_S A s.heap H locs → lv_has ls 7 [(6, .int i), (4, .long w), (2, .long v), (0, .ref (a 0)), (1, .int p1)] → W p l e ({ frames := 1, cells := 0, slots := 0, locals := 22 } : Room) s m (([.ref (a 0), .int p1] : List Value).toArray) below meth c H locs 0 0 (oh_Ev below (fun u => u = spX8_leftSigned σ p1) D (oh_V a k) A [.ref (a 0), .int p1] s) (F0 m 44 ls []) := by
          intro s5 hs5 ls H locs hP hD hS hl
          refine lv_lload_n hx hb dX8_leftSigned_44 rfl (lv_at hl 2 rfl) ?_
          refine lv_iconst (v := (1 : Int32)) hx hb dX8_leftSigned_45 (by decide) ?_
          refine lv_lshl (v := (v <<< ((1 : Int32).toInt64 &&& 63))) hx hb dX8_leftSigned_46 rfl ?_
          refine lv_ldc2 (v := (2147483647 : Int64)) hx hb hown (hts (.constantLong RX8 215 (2147483647)) (by decide +kernel)) dX8_leftSigned_47 ?_
          refine lv_land hx hb dX8_leftSigned_50 ?_
          refine lv_lload hx hb dX8_leftSigned_51 (lv_at hl 1 rfl) ?_
          refine lv_bipush (v := (31 : Int32)) hx hb dX8_leftSigned_53 (by decide) ?_
          refine lv_lshl (v := (w <<< ((31 : Int32).toInt64 &&& 63))) hx hb dX8_leftSigned_55 rfl ?_
          refine lv_lor hx hb dX8_leftSigned_56 ?_
          refine lv_lstore_n (lv' := [(2, .long (((v <<< ((1 : Int32).toInt64 &&& 63)) &&& (2147483647 : Int64)) ||| (w <<< ((31 : Int32).toInt64 &&& 63)))), (6, .int i), (4, .long w), (0, .ref (a 0)), (1, .int p1)]) hx hb dX8_leftSigned_57 rfl hl (by decide) rfl (fun ls hl => ?_)
          refine lv_iinc (v := (i + (1 : Int32))) (lv' := [(6, .int (i + (1 : Int32))), (2, .long (((v <<< ((1 : Int32).toInt64 &&& 63)) &&& (2147483647 : Int64)) ||| (w <<< ((31 : Int32).toInt64 &&& 63)))), (4, .long w), (0, .ref (a 0)), (1, .int p1)]) hx hb dX8_leftSigned_58 hl (k := 1) rfl (by first | rfl | decide) (by decide) rfl (fun ls hl => ?_)
          refine lv_goto (tgt := 21) hx hb dX8_leftSigned_61 (by decide) ?_
          exact ih s5 (((v <<< ((1 : Int32).toInt64 &&& 63)) &&& (2147483647 : Int64)) ||| (w <<< ((31 : Int32).toInt64 &&& 63))) w (i + (1 : Int32)) (oh_cntV hI c2) ((by subst hs5; exact ((if_neg c2).symm).trans hk)) ls _ _ hP hD hS (lv_sub hl [0, 2, 1, 3, 4] rfl)
        refine lv_if_eq (tgt := 44) hx hb dX8_leftSigned_36 (by decide) (fun c4 => ?_) (fun c4 => ?_)
        · exact K6 _ (if_pos c4).symm ls _ _ hP hD hS (lv_sub hl [0, 1, 2, 3, 4] rfl)
        · refine lv_aload_n hx hb dX8_leftSigned_39 rfl (lv_at hl 3 rfl) ?_
          refine lv_iconst (v := (1 : Int32)) hx hb dX8_leftSigned_40 (by decide) ?_
          refine oh_put (σ' := (oh_up z 0 5 (1 : Int32))) (v := .int (1 : Int32)) hC hP hD hS inX8_leftSigned_X8 tyX8 tyX8_ok nmX8 0 rfl rfl 6 (by decide) (by decide +kernel) rfl rfl rfl (by simp) rfl dX8_leftSigned_41 (fun H locs hP hD hS => ?_)
          exact K6 _ (if_neg c4).symm ls _ _ hP hD hS (lv_sub hl [0, 1, 2, 3, 4] rfl)
  exact LP (p1.toNatClampNeg + 1) (oh_up σ 0 5 (0 : Int32)) r1 ((r1 >>> ((31 : Int32).toInt64 &&& 63)) &&& (1 : Int64)) (0 : Int32) ⟨0, rfl, by omega, by omega⟩ ((by subst hr1; exact rfl)) ls _ _ hP hD hS (lv_sub hl [0, 1, 2, 3, 4] rfl)
-- OctalHouseModel.twoWords
theorem inX8_twoWords_X8 : ∀ w ∈ u_ws RX8 TX8 35, w ∈ wsX8_twoWords := by decide +kernel
def spX8_twoWords (σ : oh_St) (p1 : Int32) (p2 : Int32) : oh_St := (let r1 : Int32 := (spX8_more p2); (if p1 = (32896 : Int32) then (let r17 : Int32 := (spX8_signed (σ 0 14)); (let r18 : Int32 := (spX8_at σ p2); (let r19 : Int32 := (spX8_signed r18); (let s20 : oh_St := (spX8_both_ σ ((r17.toInt64) * (r19.toInt64))); (oh_up s20 0 5 (0 : Int32)))))) else (if p1 = (33024 : Int32) then (let r9 : Int32 := (spX8_at σ p2); (let r10 : Int32 := (spX8_signed r9); (let r11 : Int64 := (spX8_both σ); (if (lg_cmp (r10.toInt64) (0 : Int64)) = (0 : Int32) then (oh_up σ 0 5 (1 : Int32)) else (if (lg_cmp (((r11.toInt32).toInt64) / (r10.toInt64)) (-32768 : Int64)) < (0 : Int32) then (oh_up σ 0 5 (1 : Int32)) else (if (lg_cmp (((r11.toInt32).toInt64) / (r10.toInt64)) (32767 : Int64)) ≤ (0 : Int32) then (let y15 : Int32 := (((((r11.toInt32).toInt64) / (r10.toInt64)).toInt32) &&& (65535 : Int32)); (let y16 : Int32 := (((((r11.toInt32).toInt64) - ((r11.toInt32).toInt64) / (r10.toInt64) * (r10.toInt64)).toInt32) &&& (65535 : Int32)); (oh_up (oh_up (oh_up (oh_up σ 0 5 (1 : Int32)) 0 5 (0 : Int32)) 0 14 y15) 0 15 y16))) else (oh_up σ 0 5 (1 : Int32)))))))) else (if p1 = (34944 : Int32) then (let r7 : Int32 := (spX8_at σ p2); (let r8 : Int32 := (spX8_at σ r1); (oh_up (oh_up σ 0 14 r7) 0 15 r8))) else (let s5 : oh_St := (spX8_put σ p2 (σ 0 14)); (let s6 : oh_St := (spX8_put s5 r1 (σ 0 15)); s6))))))
set_option maxHeartbeats 8000000 in
set_option maxRecDepth 100000 in
theorem mtX8_twoWords (l : Launch) (a : Nat → Nat) (k : Nat → ClassId) (D : va_G) (σ : oh_St) (p1 : Int32) (p2 : Int32) (hn2 : ¬ p2 < 0) : oh_Mv l yX8_twoWords wsX8_twoWords { frames := 1, cells := 0, slots := 0, locals := 22 } D (oh_ty k) (oh_V a k) [.ref (a 0), .int p1, .int p2] σ (fun u => u = spX8_twoWords σ p1 p2) := by
  refine oh_inv (cc := cX8_twoWords) (nL := 9) (rt := none) (by decide) rfl (Nat.le_of_ble_eq_true rfl) ?_
  intro p e s m below meth c A ls hC hP hD hS hl
  obtain ⟨hx, hb, hml, hown, hts, hr, hlocks, hK, hN, hA⟩ := id hC
  have hl : lv_has ls 9 [(0, .ref (a 0)), (1, .int p1), (2, .int p2)] := hl
  refine lv_iload_n hx hb dX8_twoWords_0 rfl (lv_at hl 2 rfl) ?_
  refine oh_csp (As := [.int p2]) (rest := []) hC hP hD hS (mtX8_more l a k D σ p2) (va_cwS 1 hts gX8_twoWords_X8_more rfl rfl rfl (by decide +kernel) ⟨Nat.le_of_ble_eq_true rfl, Nat.le_of_ble_eq_true rfl⟩) rfl hl.1 rfl (Nat.le_of_ble_eq_true rfl) dX8_twoWords_1 (fun r1 H locs hr1 hP hD hS => ?_)
  refine lv_istore_n (lv' := [(3, .int r1), (0, .ref (a 0)), (1, .int p1), (2, .int p2)]) hx hb dX8_twoWords_4 rfl hl (by decide) rfl (fun ls hl => ?_)
  refine lv_iload_n hx hb dX8_twoWords_5 rfl (lv_at hl 2 rfl) ?_
  refine lv_ldc (v := (32896 : Int32)) hx hb hown (hts (.constant RX8 198 (32896)) (by decide +kernel)) dX8_twoWords_6 ?_
  refine lv_icmp_ne (tgt := 41) hx hb dX8_twoWords_8 (by decide) (fun c2 => ?_) (fun c2 => ?_)
  · refine lv_iload_n hx hb dX8_twoWords_41 rfl (lv_at hl 2 rfl) ?_
    refine lv_ldc (v := (33024 : Int32)) hx hb hown (hts (.constant RX8 199 (33024)) (by decide +kernel)) dX8_twoWords_42 ?_
    refine lv_icmp_ne (tgt := 141) hx hb dX8_twoWords_44 (by decide) (fun c3 => ?_) (fun c3 => ?_)
    · refine lv_iload_n hx hb dX8_twoWords_141 rfl (lv_at hl 2 rfl) ?_
      refine lv_ldc (v := (34944 : Int32)) hx hb hown (hts (.constant RX8 200 (34944)) (by decide +kernel)) dX8_twoWords_142 ?_
      refine lv_icmp_ne (tgt := 176) hx hb dX8_twoWords_144 (by decide) (fun c4 => ?_) (fun c4 => ?_)
      · refine lv_aload_n hx hb dX8_twoWords_176 rfl (lv_at hl 1 rfl) ?_
        refine oh_get (v := .int (σ 0 14)) hC hP inX8_twoWords_X8 0 rfl rfl 2 (by decide) (by decide +kernel) rfl dX8_twoWords_177 ?_
        refine lv_istore (lv' := [(4, .int (σ 0 14)), (3, .int r1), (0, .ref (a 0)), (1, .int p1), (2, .int p2)]) hx hb dX8_twoWords_180 hl (by decide) rfl (fun ls hl => ?_)
        refine lv_aload_n hx hb dX8_twoWords_182 rfl (lv_at hl 2 rfl) ?_
        refine oh_get (v := .int (σ 0 15)) hC hP inX8_twoWords_X8 0 rfl rfl 3 (by decide) (by decide +kernel) rfl dX8_twoWords_183 ?_
        refine lv_istore (lv' := [(5, .int (σ 0 15)), (4, .int (σ 0 14)), (3, .int r1), (0, .ref (a 0)), (1, .int p1), (2, .int p2)]) hx hb dX8_twoWords_186 hl (by decide) rfl (fun ls hl => ?_)
        refine lv_aload_n hx hb dX8_twoWords_188 rfl (lv_at hl 3 rfl) ?_
        refine lv_iload_n hx hb dX8_twoWords_189 rfl (lv_at hl 5 rfl) ?_
        refine lv_iload hx hb dX8_twoWords_190 (lv_at hl 1 rfl) ?_
        refine oh_cvv (As := [.int p2, .int (σ 0 14)]) (rest := []) hC hP hD hS (mtX8_put l a k D σ p2 (σ 0 14) hn2) (cwV 2 hts gX8_twoWords_X8_put rfl rfl rfl (by decide +kernel) ⟨Nat.le_of_ble_eq_true rfl, Nat.le_of_ble_eq_true rfl⟩) 0 8 rfl rfl rfl hl.1 rfl (Nat.le_of_ble_eq_true rfl) dX8_twoWords_192 (fun s5 H locs hs5 hP hD hS => ?_)
        refine lv_aload_n hx hb dX8_twoWords_195 rfl (lv_at hl 3 rfl) ?_
        refine lv_iload_n hx hb dX8_twoWords_196 rfl (lv_at hl 2 rfl) ?_
        refine lv_iload hx hb dX8_twoWords_197 (lv_at hl 0 rfl) ?_
        refine oh_cvv (As := [.int r1, .int (σ 0 15)]) (rest := []) hC hP hD hS (mtX8_put l a k D s5 r1 (σ 0 15) (by rw [hr1]; exact oh_nnand _ (by decide))) (cwV 2 hts gX8_twoWords_X8_put rfl rfl rfl (by decide +kernel) ⟨Nat.le_of_ble_eq_true rfl, Nat.le_of_ble_eq_true rfl⟩) 0 8 rfl rfl rfl hl.1 rfl (Nat.le_of_ble_eq_true rfl) dX8_twoWords_199 (fun s6 H locs hs6 hP hD hS => ?_)
        exact oh_retv (u := s6) hC hP hD hS (by subst hs6 hs5 hr1; exact (((if_neg c2).trans (if_neg c3)).trans (if_neg c4)).symm) dX8_twoWords_202
      · refine lv_aload_n hx hb dX8_twoWords_147 rfl (lv_at hl 1 rfl) ?_
        refine lv_iload_n hx hb dX8_twoWords_148 rfl (lv_at hl 3 rfl) ?_
        refine oh_cvp (As := [.int p2]) (rest := []) hC hP hD hS (mtX8_at l a k D σ p2 hn2) (cwV 1 hts gX8_twoWords_X8_at rfl rfl rfl (by decide +kernel) ⟨Nat.le_of_ble_eq_true rfl, Nat.le_of_ble_eq_true rfl⟩) 0 8 rfl rfl rfl hl.1 rfl (Nat.le_of_ble_eq_true rfl) dX8_twoWords_149 (fun r7 H locs hr7 hP hD hS => ?_)
        refine lv_istore (lv' := [(4, .int r7), (3, .int r1), (0, .ref (a 0)), (1, .int p1), (2, .int p2)]) hx hb dX8_twoWords_152 hl (by decide) rfl (fun ls hl => ?_)
        refine lv_aload_n hx hb dX8_twoWords_154 rfl (lv_at hl 2 rfl) ?_
        refine lv_iload_n hx hb dX8_twoWords_155 rfl (lv_at hl 1 rfl) ?_
        refine oh_cvp (As := [.int r1]) (rest := []) hC hP hD hS (mtX8_at l a k D σ r1 (by rw [hr1]; exact oh_nnand _ (by decide))) (cwV 1 hts gX8_twoWords_X8_at rfl rfl rfl (by decide +kernel) ⟨Nat.le_of_ble_eq_true rfl, Nat.le_of_ble_eq_true rfl⟩) 0 8 rfl rfl rfl hl.1 rfl (Nat.le_of_ble_eq_true rfl) dX8_twoWords_156 (fun r8 H locs hr8 hP hD hS => ?_)
        refine lv_istore (lv' := [(5, .int r8), (4, .int r7), (3, .int r1), (0, .ref (a 0)), (1, .int p1), (2, .int p2)]) hx hb dX8_twoWords_159 hl (by decide) rfl (fun ls hl => ?_)
        refine lv_aload_n hx hb dX8_twoWords_161 rfl (lv_at hl 3 rfl) ?_
        refine lv_iload hx hb dX8_twoWords_162 (lv_at hl 1 rfl) ?_
        refine oh_put (σ' := (oh_up σ 0 14 r7)) (v := .int r7) hC hP hD hS inX8_twoWords_X8 tyX8 tyX8_ok nmX8 0 rfl rfl 2 (by decide) (by decide +kernel) rfl rfl rfl (by simp) rfl dX8_twoWords_164 (fun H locs hP hD hS => ?_)
        refine lv_aload_n hx hb dX8_twoWords_167 rfl (lv_at hl 3 rfl) ?_
        refine lv_iload hx hb dX8_twoWords_168 (lv_at hl 0 rfl) ?_
        refine oh_put (σ' := (oh_up (oh_up σ 0 14 r7) 0 15 r8)) (v := .int r8) hC hP hD hS inX8_twoWords_X8 tyX8 tyX8_ok nmX8 0 rfl rfl 3 (by decide) (by decide +kernel) rfl rfl rfl (by simp) rfl dX8_twoWords_170 (fun H locs hP hD hS => ?_)
        refine lv_goto (tgt := 202) hx hb dX8_twoWords_173 (by decide) ?_
        exact oh_retv (u := (oh_up (oh_up σ 0 14 r7) 0 15 r8)) hC hP hD hS (by subst hr8 hr7 hr1; exact (((if_neg c2).trans (if_neg c3)).trans (if_pos c4)).symm) dX8_twoWords_202
    · refine lv_aload_n hx hb dX8_twoWords_47 rfl (lv_at hl 1 rfl) ?_
      refine lv_iload_n hx hb dX8_twoWords_48 rfl (lv_at hl 3 rfl) ?_
      refine oh_cvp (As := [.int p2]) (rest := []) hC hP hD hS (mtX8_at l a k D σ p2 hn2) (cwV 1 hts gX8_twoWords_X8_at rfl rfl rfl (by decide +kernel) ⟨Nat.le_of_ble_eq_true rfl, Nat.le_of_ble_eq_true rfl⟩) 0 8 rfl rfl rfl hl.1 rfl (Nat.le_of_ble_eq_true rfl) dX8_twoWords_49 (fun r9 H locs hr9 hP hD hS => ?_)
      refine oh_csp (As := [.int r9]) (rest := []) hC hP hD hS (mtX8_signed l a k D σ r9) (va_cwS 1 hts gX8_twoWords_X8_signed rfl rfl rfl (by decide +kernel) ⟨Nat.le_of_ble_eq_true rfl, Nat.le_of_ble_eq_true rfl⟩) rfl hl.1 rfl (Nat.le_of_ble_eq_true rfl) dX8_twoWords_52 (fun r10 H locs hr10 hP hD hS => ?_)
      refine lv_i2l (v := (r10.toInt64)) hx hb dX8_twoWords_55 rfl ?_
      refine lv_lstore (lv' := [(4, .long (r10.toInt64)), (3, .int r1), (0, .ref (a 0)), (1, .int p1), (2, .int p2)]) hx hb dX8_twoWords_56 hl (by decide) rfl (fun ls hl => ?_)
      refine lv_aload_n hx hb dX8_twoWords_58 rfl (lv_at hl 2 rfl) ?_
      refine oh_cvlp (As := []) (rest := []) hC hP hD hS (mtX8_both l a k D σ) (cwV 0 hts gX8_twoWords_X8_both rfl rfl rfl (by decide +kernel) ⟨Nat.le_of_ble_eq_true rfl, Nat.le_of_ble_eq_true rfl⟩) 0 8 rfl rfl rfl hl.1 rfl (Nat.le_of_ble_eq_true rfl) dX8_twoWords_59 (fun r11 H locs hr11 hP hD hS => ?_)
      refine lv_l2i (v := (r11.toInt32)) hx hb dX8_twoWords_62 rfl ?_
      refine lv_i2l (v := ((r11.toInt32).toInt64)) hx hb dX8_twoWords_63 rfl ?_
      refine lv_lstore (lv' := [(6, .long ((r11.toInt32).toInt64)), (4, .long (r10.toInt64)), (3, .int r1), (0, .ref (a 0)), (1, .int p1), (2, .int p2)]) hx hb dX8_twoWords_64 hl (by decide) rfl (fun ls hl => ?_)
      refine lv_aload_n hx hb dX8_twoWords_66 rfl (lv_at hl 3 rfl) ?_
      refine lv_iconst (v := (1 : Int32)) hx hb dX8_twoWords_67 (by decide) ?_
      refine oh_put (σ' := (oh_up σ 0 5 (1 : Int32))) (v := .int (1 : Int32)) hC hP hD hS inX8_twoWords_X8 tyX8 tyX8_ok nmX8 0 rfl rfl 6 (by decide) (by decide +kernel) rfl rfl rfl (by simp) rfl dX8_twoWords_68 (fun H locs hP hD hS => ?_)
      refine lv_lload hx hb dX8_twoWords_71 (lv_at hl 1 rfl) ?_
      refine lv_lconst (v := (0 : Int64)) hx hb dX8_twoWords_73 rfl ?_
      refine W.lcmp hx hb dX8_twoWords_74 ?_
      refine lv_if_eq (tgt := 102) hx hb dX8_twoWords_75 (by decide) (fun c12 => ?_) (fun c12 => ?_)
      · exact oh_retv (u := (oh_up σ 0 5 (1 : Int32))) hC hP hD hS (by subst hr11 hr10 hr9 hr1; exact (((if_neg c2).trans (if_pos c3)).trans (if_pos c12)).symm) dX8_twoWords_102
      · refine lv_lload hx hb dX8_twoWords_78 (lv_at hl 0 rfl) ?_
        refine lv_lload hx hb dX8_twoWords_80 (lv_at hl 1 rfl) ?_
        refine lv_ldiv hx hb dX8_twoWords_82 (oh_lcne c12) ?_
        refine lv_ldc2 (v := (-32768 : Int64)) hx hb hown (hts (.constantLong RX8 217 (-32768)) (by decide +kernel)) dX8_twoWords_83 ?_
        refine W.lcmp hx hb dX8_twoWords_86 ?_
        refine lv_if_lt (tgt := 102) hx hb dX8_twoWords_87 (by decide) (fun c13 => ?_) (fun c13 => ?_)
        · exact oh_retv (u := (oh_up σ 0 5 (1 : Int32))) hC hP hD hS (by subst hr11 hr10 hr9 hr1; exact ((((if_neg c2).trans (if_pos c3)).trans (if_neg c12)).trans (if_pos c13)).symm) dX8_twoWords_102
        · refine lv_lload hx hb dX8_twoWords_90 (lv_at hl 0 rfl) ?_
          refine lv_lload hx hb dX8_twoWords_92 (lv_at hl 1 rfl) ?_
          refine lv_ldiv hx hb dX8_twoWords_94 (oh_lcne c12) ?_
          refine lv_ldc2 (v := (32767 : Int64)) hx hb hown (hts (.constantLong RX8 219 (32767)) (by decide +kernel)) dX8_twoWords_95 ?_
          refine W.lcmp hx hb dX8_twoWords_98 ?_
          refine lv_if_le (tgt := 103) hx hb dX8_twoWords_99 (by decide) (fun c14 => ?_) (fun c14 => ?_)
          · refine lv_aload_n hx hb dX8_twoWords_103 rfl (lv_at hl 3 rfl) ?_
            refine lv_iconst (v := (0 : Int32)) hx hb dX8_twoWords_104 (by decide) ?_
            refine oh_put (σ' := (oh_up (oh_up σ 0 5 (1 : Int32)) 0 5 (0 : Int32))) (v := .int (0 : Int32)) hC hP hD hS inX8_twoWords_X8 tyX8 tyX8_ok nmX8 0 rfl rfl 6 (by decide) (by decide +kernel) rfl rfl rfl (by simp) rfl dX8_twoWords_105 (fun H locs hP hD hS => ?_)
            refine lv_lload hx hb dX8_twoWords_108 (lv_at hl 0 rfl) ?_
            refine lv_lload hx hb dX8_twoWords_110 (lv_at hl 1 rfl) ?_
            refine lv_lrem hx hb dX8_twoWords_112 (oh_lcne c12) ?_
            refine lv_l2i (v := ((((r11.toInt32).toInt64) - ((r11.toInt32).toInt64) / (r10.toInt64) * (r10.toInt64)).toInt32)) hx hb dX8_twoWords_113 rfl ?_
            refine lv_ldc (v := (65535 : Int32)) hx hb hown (hts (.constant RX8 102 (65535)) (by decide +kernel)) dX8_twoWords_114 ?_
            refine lv_iand hx hb dX8_twoWords_116 ?_
            refine lv_istore (lv' := [(8, .int (((((r11.toInt32).toInt64) - ((r11.toInt32).toInt64) / (r10.toInt64) * (r10.toInt64)).toInt32) &&& (65535 : Int32))), (6, .long ((r11.toInt32).toInt64)), (4, .long (r10.toInt64)), (3, .int r1), (0, .ref (a 0)), (1, .int p1), (2, .int p2)]) hx hb dX8_twoWords_117 hl (by decide) rfl (fun ls hl => ?_)
            refine lv_aload_n hx hb dX8_twoWords_119 rfl (lv_at hl 4 rfl) ?_
            refine lv_lload hx hb dX8_twoWords_120 (lv_at hl 1 rfl) ?_
            refine lv_lload hx hb dX8_twoWords_122 (lv_at hl 2 rfl) ?_
            refine lv_ldiv hx hb dX8_twoWords_124 (oh_lcne c12) ?_
            refine lv_l2i (v := ((((r11.toInt32).toInt64) / (r10.toInt64)).toInt32)) hx hb dX8_twoWords_125 rfl ?_
            refine lv_ldc (v := (65535 : Int32)) hx hb hown (hts (.constant RX8 102 (65535)) (by decide +kernel)) dX8_twoWords_126 ?_
            refine lv_iand hx hb dX8_twoWords_128 ?_
            refine lv_topi (fun y15 hy15 => ?_)
            refine oh_put (σ' := (oh_up (oh_up (oh_up σ 0 5 (1 : Int32)) 0 5 (0 : Int32)) 0 14 y15)) (v := .int y15) hC hP hD hS inX8_twoWords_X8 tyX8 tyX8_ok nmX8 0 rfl rfl 2 (by decide) (by decide +kernel) rfl rfl rfl (by simp) rfl dX8_twoWords_129 (fun H locs hP hD hS => ?_)
            refine lv_aload_n hx hb dX8_twoWords_132 rfl (lv_at hl 4 rfl) ?_
            refine lv_iload hx hb dX8_twoWords_133 (lv_at hl 0 rfl) ?_
            refine lv_topi (fun y16 hy16 => ?_)
            refine oh_put (σ' := (oh_up (oh_up (oh_up (oh_up σ 0 5 (1 : Int32)) 0 5 (0 : Int32)) 0 14 y15) 0 15 y16)) (v := .int y16) hC hP hD hS inX8_twoWords_X8 tyX8 tyX8_ok nmX8 0 rfl rfl 3 (by decide) (by decide +kernel) rfl rfl rfl (by simp) rfl dX8_twoWords_135 (fun H locs hP hD hS => ?_)
            refine lv_goto (tgt := 202) hx hb dX8_twoWords_138 (by decide) ?_
            exact oh_retv (u := (oh_up (oh_up (oh_up (oh_up σ 0 5 (1 : Int32)) 0 5 (0 : Int32)) 0 14 y15) 0 15 y16)) hC hP hD hS (by subst hy16 hy15 hr11 hr10 hr9 hr1; exact (((((if_neg c2).trans (if_pos c3)).trans (if_neg c12)).trans (if_neg c13)).trans (if_pos c14)).symm) dX8_twoWords_202
          · exact oh_retv (u := (oh_up σ 0 5 (1 : Int32))) hC hP hD hS (by subst hr11 hr10 hr9 hr1; exact (((((if_neg c2).trans (if_pos c3)).trans (if_neg c12)).trans (if_neg c13)).trans (if_neg c14)).symm) dX8_twoWords_102
  · refine lv_aload_n hx hb dX8_twoWords_11 rfl (lv_at hl 1 rfl) ?_
    refine lv_aload_n hx hb dX8_twoWords_12 rfl (lv_at hl 1 rfl) ?_
    refine oh_get (v := .int (σ 0 14)) hC hP inX8_twoWords_X8 0 rfl rfl 2 (by decide) (by decide +kernel) rfl dX8_twoWords_13 ?_
    refine oh_csp (As := [.int (σ 0 14)]) (rest := [.ref (a 0)]) hC hP hD hS (mtX8_signed l a k D σ (σ 0 14)) (va_cwS 1 hts gX8_twoWords_X8_signed rfl rfl rfl (by decide +kernel) ⟨Nat.le_of_ble_eq_true rfl, Nat.le_of_ble_eq_true rfl⟩) rfl hl.1 rfl (Nat.le_of_ble_eq_true rfl) dX8_twoWords_16 (fun r17 H locs hr17 hP hD hS => ?_)
    refine lv_i2l (v := (r17.toInt64)) hx hb dX8_twoWords_19 rfl ?_
    refine lv_aload_n hx hb dX8_twoWords_20 rfl (lv_at hl 1 rfl) ?_
    refine lv_iload_n hx hb dX8_twoWords_21 rfl (lv_at hl 3 rfl) ?_
    refine oh_cvp (As := [.int p2]) (rest := [.long (r17.toInt64), .ref (a 0)]) hC hP hD hS (mtX8_at l a k D σ p2 hn2) (cwV 1 hts gX8_twoWords_X8_at rfl rfl rfl (by decide +kernel) ⟨Nat.le_of_ble_eq_true rfl, Nat.le_of_ble_eq_true rfl⟩) 0 8 rfl rfl rfl hl.1 rfl (Nat.le_of_ble_eq_true rfl) dX8_twoWords_22 (fun r18 H locs hr18 hP hD hS => ?_)
    refine oh_csp (As := [.int r18]) (rest := [.long (r17.toInt64), .ref (a 0)]) hC hP hD hS (mtX8_signed l a k D σ r18) (va_cwS 1 hts gX8_twoWords_X8_signed rfl rfl rfl (by decide +kernel) ⟨Nat.le_of_ble_eq_true rfl, Nat.le_of_ble_eq_true rfl⟩) rfl hl.1 rfl (Nat.le_of_ble_eq_true rfl) dX8_twoWords_25 (fun r19 H locs hr19 hP hD hS => ?_)
    refine lv_i2l (v := (r19.toInt64)) hx hb dX8_twoWords_28 rfl ?_
    refine lv_lmul hx hb dX8_twoWords_29 ?_
    refine oh_cvv (As := [.long ((r17.toInt64) * (r19.toInt64))]) (rest := []) hC hP hD hS (mtX8_both_ l a k D σ ((r17.toInt64) * (r19.toInt64))) (cwV 1 hts gX8_twoWords_X8_both_ rfl rfl rfl (by decide +kernel) ⟨Nat.le_of_ble_eq_true rfl, Nat.le_of_ble_eq_true rfl⟩) 0 8 rfl rfl rfl hl.1 rfl (Nat.le_of_ble_eq_true rfl) dX8_twoWords_30 (fun s20 H locs hs20 hP hD hS => ?_)
    refine lv_aload_n hx hb dX8_twoWords_33 rfl (lv_at hl 1 rfl) ?_
    refine lv_iconst (v := (0 : Int32)) hx hb dX8_twoWords_34 (by decide) ?_
    refine oh_put (σ' := (oh_up s20 0 5 (0 : Int32))) (v := .int (0 : Int32)) hC hP hD hS inX8_twoWords_X8 tyX8 tyX8_ok nmX8 0 rfl rfl 6 (by decide) (by decide +kernel) rfl rfl rfl (by simp) rfl dX8_twoWords_35 (fun H locs hP hD hS => ?_)
    refine lv_goto (tgt := 202) hx hb dX8_twoWords_38 (by decide) ?_
    exact oh_retv (u := (oh_up s20 0 5 (0 : Int32))) hC hP hD hS (by subst hs20 hr19 hr18 hr17 hr1; exact (if_pos c2).symm) dX8_twoWords_202
