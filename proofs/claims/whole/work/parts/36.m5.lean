-- OctalHouseModel.does
def spX8_does (σ : oh_St) (p1 : Int32) (p2 : Int32) : oh_St := (if ((p1 >>> ((12 : Int32) &&& 31)) &&& (7 : Int32)) = (0 : Int32) then (if (p1 >>> ((15 : Int32) &&& 31)) = (0 : Int32) then (let s6 : oh_St := (spX8_registers σ p1); s6) else (if ((p1 >>> ((10 : Int32) &&& 31)) &&& (1 : Int32)) = (1 : Int32) then (let s5 : oh_St := (spX8_codes σ p1); s5) else (let s4 : oh_St := (spX8_extended σ p1); s4))) else (let s7 : oh_St := (spX8_memoryWord σ p1 p2); s7))
set_option maxHeartbeats 8000000 in
set_option maxRecDepth 100000 in
theorem mtX8_does (l : Launch) (a : Nat → Nat) (k : Nat → ClassId) (D : va_G) (σ : oh_St) (p1 : Int32) (p2 : Int32) (hn2 : ¬ p2 < 0) (h3 : ¬ σ 0 3 < 0) (hd : oh_Dn σ) (h9 : σ 0 9 = 0 ∨ σ 0 9 = 1) : oh_Mv l yX8_does wsX8_does { frames := 4, cells := 0, slots := 0, locals := 94 } D (oh_ty k) (oh_V a k) [.ref (a 0), .int p1, .int p2] σ (fun u => u = spX8_does σ p1 p2) := by
  refine oh_inv (cc := cX8_does) (nL := 3) (rt := none) (by decide) rfl (Nat.le_of_ble_eq_true rfl) ?_
  intro p e s m below meth c A ls hC hP hD hS hl
  obtain ⟨hx, hb, hml, hown, hts, hr, hlocks, hK, hN, hA⟩ := id hC
  have hl : lv_has ls 3 [(0, .ref (a 0)), (1, .int p1), (2, .int p2)] := hl
  refine lv_iload_n hx hb dX8_does_0 rfl (lv_at hl 1 rfl) ?_
  refine lv_bipush (v := (12 : Int32)) hx hb dX8_does_1 (by decide) ?_
  refine lv_ishr hx hb dX8_does_3 ?_
  refine lv_bipush (v := (7 : Int32)) hx hb dX8_does_4 (by decide) ?_
  refine lv_iand hx hb dX8_does_6 ?_
  refine lv_if_eq (tgt := 19) hx hb dX8_does_7 (by decide) (fun c1 => ?_) (fun c1 => ?_)
  · refine lv_iload_n hx hb dX8_does_19 rfl (lv_at hl 1 rfl) ?_
    refine lv_bipush (v := (15 : Int32)) hx hb dX8_does_20 (by decide) ?_
    refine lv_ishr hx hb dX8_does_22 ?_
    refine lv_if_ne (tgt := 34) hx hb dX8_does_23 (by decide) (fun c2 => ?_) (fun c2 => ?_)
    · refine lv_iload_n hx hb dX8_does_34 rfl (lv_at hl 1 rfl) ?_
      refine lv_bipush (v := (10 : Int32)) hx hb dX8_does_35 (by decide) ?_
      refine lv_ishr hx hb dX8_does_37 ?_
      refine lv_iconst (v := (1 : Int32)) hx hb dX8_does_38 (by decide) ?_
      refine lv_iand hx hb dX8_does_39 ?_
      refine lv_iconst (v := (1 : Int32)) hx hb dX8_does_40 (by decide) ?_
      refine lv_icmp_ne (tgt := 52) hx hb dX8_does_41 (by decide) (fun c3 => ?_) (fun c3 => ?_)
      · refine lv_aload_n hx hb dX8_does_52 rfl (lv_at hl 0 rfl) ?_
        refine lv_iload_n hx hb dX8_does_53 rfl (lv_at hl 1 rfl) ?_
        refine oh_cvv (As := [.int p1]) (rest := []) hC hP hD hS (mtX8_extended l a k D σ p1 h3 hd) (cwV 1 hts gX8_does_X8_extended rfl rfl rfl (by decide +kernel) ⟨Nat.le_of_ble_eq_true rfl, Nat.le_of_ble_eq_true rfl⟩) 0 8 rfl rfl rfl hl.1 rfl (Nat.le_of_ble_eq_true rfl) dX8_does_54 (fun s4 H locs hs4 hP hD hS => ?_)
        exact oh_retv (u := s4) hC hP hD hS (by subst hs4; exact (((if_pos c1).trans (if_neg c2)).trans (if_neg c3)).symm) dX8_does_57
      · refine lv_aload_n hx hb dX8_does_44 rfl (lv_at hl 0 rfl) ?_
        refine lv_iload_n hx hb dX8_does_45 rfl (lv_at hl 1 rfl) ?_
        refine oh_cvv (As := [.int p1]) (rest := []) hC hP hD hS (mtX8_codes l a k D σ p1 h9) (cwV 1 hts gX8_does_X8_codes rfl rfl rfl (by decide +kernel) ⟨Nat.le_of_ble_eq_true rfl, Nat.le_of_ble_eq_true rfl⟩) 0 8 rfl rfl rfl hl.1 rfl (Nat.le_of_ble_eq_true rfl) dX8_does_46 (fun s5 H locs hs5 hP hD hS => ?_)
        refine lv_goto (tgt := 57) hx hb dX8_does_49 (by decide) ?_
        exact oh_retv (u := s5) hC hP hD hS (by subst hs5; exact (((if_pos c1).trans (if_neg c2)).trans (if_pos c3)).symm) dX8_does_57
    · refine lv_aload_n hx hb dX8_does_26 rfl (lv_at hl 0 rfl) ?_
      refine lv_iload_n hx hb dX8_does_27 rfl (lv_at hl 1 rfl) ?_
      refine oh_cvv (As := [.int p1]) (rest := []) hC hP hD hS (mtX8_registers l a k D σ p1) (cwV 1 hts gX8_does_X8_registers rfl rfl rfl (by decide +kernel) ⟨Nat.le_of_ble_eq_true rfl, Nat.le_of_ble_eq_true rfl⟩) 0 8 rfl rfl rfl hl.1 rfl (Nat.le_of_ble_eq_true rfl) dX8_does_28 (fun s6 H locs hs6 hP hD hS => ?_)
      refine lv_goto (tgt := 57) hx hb dX8_does_31 (by decide) ?_
      exact oh_retv (u := s6) hC hP hD hS (by subst hs6; exact ((if_pos c1).trans (if_pos c2)).symm) dX8_does_57
  · refine lv_aload_n hx hb dX8_does_10 rfl (lv_at hl 0 rfl) ?_
    refine lv_iload_n hx hb dX8_does_11 rfl (lv_at hl 1 rfl) ?_
    refine lv_iload_n hx hb dX8_does_12 rfl (lv_at hl 2 rfl) ?_
    refine oh_cvv (As := [.int p1, .int p2]) (rest := []) hC hP hD hS (mtX8_memoryWord l a k D σ p1 p2 hn2 hd) (cwV 2 hts gX8_does_X8_memoryWord rfl rfl rfl (by decide +kernel) ⟨Nat.le_of_ble_eq_true rfl, Nat.le_of_ble_eq_true rfl⟩) 0 8 rfl rfl rfl hl.1 rfl (Nat.le_of_ble_eq_true rfl) dX8_does_13 (fun s7 H locs hs7 hP hD hS => ?_)
    refine lv_goto (tgt := 57) hx hb dX8_does_16 (by decide) ?_
    exact oh_retv (u := s7) hC hP hD hS (by subst hs7; exact (if_neg c1).symm) dX8_does_57
-- OctalHouseModel.lacks
theorem inX8_lacks_X8 : ∀ w ∈ u_ws RX8 TX8 35, w ∈ wsX8_lacks := by decide +kernel
def spX8_lacks (σ : oh_St) (p1 : Int32) (p2 : Int32) : Int32 × oh_St := (let x3 : Int32 := (if p1 < (0 : Int32) then (1 : Int32) else (if p1 < p2 then (0 : Int32) else (1 : Int32))); (if x3 ≤ (0 : Int32) then ((0 : Int32), (oh_up σ 0 12 x3)) else ((1 : Int32), (oh_up σ 0 12 x3))))
set_option maxHeartbeats 8000000 in
set_option maxRecDepth 100000 in
theorem mtX8_lacks (l : Launch) (a : Nat → Nat) (k : Nat → ClassId) (D : va_G) (σ : oh_St) (p1 : Int32) (p2 : Int32) : oh_Mi l yX8_lacks wsX8_lacks { frames := 0, cells := 0, slots := 0, locals := 0 } D (oh_ty k) (oh_V a k) [.ref (a 0), .int p1, .int p2] σ (fun r u => r = (spX8_lacks σ p1 p2).1 ∧ u = (spX8_lacks σ p1 p2).2) := by
  refine oh_ini (cc := cX8_lacks) (nL := 3) (rt := some .boolean) (by decide) rfl (Nat.le_of_ble_eq_true rfl) ?_
  intro p e s m below meth c A ls hC hP hD hS hl
  obtain ⟨hx, hb, hml, hown, hts, hr, hlocks, hK, hN, hA⟩ := id hC
  have hl : lv_has ls 3 [(0, .ref (a 0)), (1, .int p1), (2, .int p2)] := hl
  refine lv_aload_n hx hb dX8_lacks_0 rfl (lv_at hl 0 rfl) ?_
  refine lv_iload_n hx hb dX8_lacks_1 rfl (lv_at hl 1 rfl) ?_
  have K5 : ∀ x3 : Int32, x3 = (if p1 < (0 : Int32) then (1 : Int32) else (if p1 < p2 then (0 : Int32) else (1 : Int32))) → ∀ (ls : Array Slot) (H : Heap) (locs : List Loc), va_P D vwCl (oh_V a k σ) H → va_D A (oh_V a k σ) → va_S A s.heap H locs → lv_has ls 3 [(0, .ref (a 0)), (1, .int p1), (2, .int p2)] → W p l e ({ frames := 0, cells := 0, slots := 0, locals := 0 } : Room) s m (([.ref (a 0), .int p1, .int p2] : List Value).toArray) below meth c H locs 0 0 (oh_Ei below (fun r u => r = (spX8_lacks σ p1 p2).1 ∧ u = (spX8_lacks σ p1 p2).2) D (oh_V a k) A [.ref (a 0), .int p1, .int p2] s) (F0 m 15 ls [.int x3, .ref (a 0)]) := by
    intro x3 hx3 ls H locs hP hD hS hl
    refine oh_put (σ' := (oh_up σ 0 12 x3)) (v := .int x3) hC hP hD hS inX8_lacks_X8 tyX8 tyX8_ok nmX8 0 rfl rfl 0 (by decide) (by decide +kernel) rfl rfl rfl (by simp) rfl dX8_lacks_15 (fun H locs hP hD hS => ?_)
    refine lv_aload_n hx hb dX8_lacks_18 rfl (lv_at hl 0 rfl) ?_
    refine oh_get (v := .int x3) hC hP inX8_lacks_X8 0 rfl rfl 0 (by decide) (by decide +kernel) rfl dX8_lacks_19 ?_
    refine lv_if_le (tgt := 29) hx hb dX8_lacks_22 (by decide) (fun c4 => ?_) (fun c4 => ?_)
    · refine lv_iconst (v := (0 : Int32)) hx hb dX8_lacks_29 (by decide) ?_
      exact oh_retz (v := (0 : Int32)) (u := (oh_up σ 0 12 x3)) hC (oh_nb (by decide)) hP hD hS (oh_pair (by subst hx3; exact (if_pos c4).symm)) dX8_lacks_30
    · refine lv_iconst (v := (1 : Int32)) hx hb dX8_lacks_25 (by decide) ?_
      refine lv_goto (tgt := 30) hx hb dX8_lacks_26 (by decide) ?_
      exact oh_retz (v := (1 : Int32)) (u := (oh_up σ 0 12 x3)) hC (oh_nb (by decide)) hP hD hS (oh_pair (by subst hx3; exact (if_neg c4).symm)) dX8_lacks_30
  refine lv_if_lt (tgt := 10) hx hb dX8_lacks_2 (by decide) (fun c1 => ?_) (fun c1 => ?_)
  · refine lv_iconst (v := (1 : Int32)) hx hb dX8_lacks_10 (by decide) ?_
    refine lv_goto (tgt := 15) hx hb dX8_lacks_11 (by decide) ?_
    exact K5 _ (if_pos c1).symm ls _ _ hP hD hS (lv_sub hl [0, 1, 2] rfl)
  · refine lv_iload_n hx hb dX8_lacks_5 rfl (lv_at hl 1 rfl) ?_
    refine lv_iload_n hx hb dX8_lacks_6 rfl (lv_at hl 2 rfl) ?_
    refine lv_icmp_lt (tgt := 14) hx hb dX8_lacks_7 (by decide) (fun c2 => ?_) (fun c2 => ?_)
    · refine lv_iconst (v := (0 : Int32)) hx hb dX8_lacks_14 (by decide) ?_
      exact K5 _ ((if_neg c1).trans (if_pos c2)).symm ls _ _ hP hD hS (lv_sub hl [0, 1, 2] rfl)
    · refine lv_iconst (v := (1 : Int32)) hx hb dX8_lacks_10 (by decide) ?_
      refine lv_goto (tgt := 15) hx hb dX8_lacks_11 (by decide) ?_
      exact K5 _ ((if_neg c1).trans (if_neg c2)).symm ls _ _ hP hD hS (lv_sub hl [0, 1, 2] rfl)
theorem oh_lk {σ : oh_St} {k many r : Int32} (h : r = (spX8_lacks σ k many).1) (c : r = 0) : ¬ k < 0 ∧ ¬ many ≤ k := by
  rw [h] at c
  unfold spX8_lacks at c
  by_cases h1 : k < 0
  · rw [if_pos h1, if_neg (show ¬ (1 : Int32) ≤ 0 by decide)] at c
    exact absurd (show (1 : Int32) = 0 from c) (by decide)
  · rw [if_neg h1] at c
    by_cases h2 : k < many
    · exact ⟨h1, oh_lt2 h2⟩
    · rw [if_neg h2, if_neg (show ¬ (1 : Int32) ≤ 0 by decide)] at c
      exact absurd (show (1 : Int32) = 0 from c) (by decide)
theorem oh_l8 {p1 : Int32} (h : ¬ p1 < 0 ∧ ¬ (4 : Int32) ≤ p1) : ∃ j : Nat, j < 4 ∧ p1 = nI j := by
  obtain ⟨h1, h2⟩ := h
  exact vp_in_of (oh_in h1 h2 rfl) (by decide)
theorem oh_i8 {p1 : Int32} (h : ¬ p1 < 0 ∧ ¬ (4 : Int32) ≤ p1) : vp_in ((8 : Int32) + p1) 12 := by
  obtain ⟨j, hj, rfl⟩ := oh_l8 h
  rcases (show j = 0 ∨ j = 1 ∨ j = 2 ∨ j = 3 by omega) with rfl | rfl | rfl | rfl <;> exact vp_in_iff.mpr (by decide)
theorem oh_ix8 {p1 : Int32} (h : ¬ p1 < 0 ∧ ¬ (4 : Int32) ≤ p1) {c p2 : Int32} {C : Nat} (hc : c = nI C) (hC : C ≤ 200) {j2 : Nat} (h2 : p2 = nI j2) (hj : j2 < C) : vp_in ((c * ((8 : Int32) + p1)) + p2) (12 * C) := by
  obtain ⟨j, hj4, rfl⟩ := oh_l8 h
  subst hc h2
  have e : nI C * ((8 : Int32) + nI j) + nI j2 = nI (C * (8 + j) + j2) := by
    rw [show (8 : Int32) = nI 8 from rfl, nI_add, pk_mul, nI_add]
  rw [e]
  have h3 : C * (8 + j) ≤ C * 11 := Nat.mul_le_mul_left C (by omega)
  exact vp_in_nI (by omega) (by omega)
-- OctalHouseModel.word
def spX8_word (σ : oh_St) (p1 : Int32) : Int32 × oh_St := (let r1 : Int32 := (spX8_lacks σ p1 (4096 : Int32)).1; (let s2 : oh_St := (spX8_lacks σ p1 (4096 : Int32)).2; (if r1 = (0 : Int32) then (let r4 : Int32 := (spX8_at s2 p1); (r4, s2)) else ((0 : Int32), s2))))
set_option maxHeartbeats 8000000 in
set_option maxRecDepth 100000 in
theorem mtX8_word (l : Launch) (a : Nat → Nat) (k : Nat → ClassId) (D : va_G) (σ : oh_St) (p1 : Int32) : oh_Mi l yX8_word wsX8_word { frames := 1, cells := 0, slots := 0, locals := 22 } D (oh_ty k) (oh_V a k) [.ref (a 0), .int p1] σ (fun r u => r = (spX8_word σ p1).1 ∧ u = (spX8_word σ p1).2) := by
  refine oh_ini (cc := cX8_word) (nL := 2) (rt := some .int) (by decide) rfl (Nat.le_of_ble_eq_true rfl) ?_
  intro p e s m below meth c A ls hC hP hD hS hl
  obtain ⟨hx, hb, hml, hown, hts, hr, hlocks, hK, hN, hA⟩ := id hC
  have hl : lv_has ls 2 [(0, .ref (a 0)), (1, .int p1)] := hl
  refine lv_aload_n hx hb dX8_word_0 rfl (lv_at hl 0 rfl) ?_
  refine lv_iload_n hx hb dX8_word_1 rfl (lv_at hl 1 rfl) ?_
  refine lv_sipush (v := (4096 : Int32)) hx hb dX8_word_2 (by decide) ?_
  refine oh_cvi (As := [.int p1, .int (4096 : Int32)]) (rest := []) hC hP hD hS (mtX8_lacks l a k D σ p1 (4096 : Int32)) (cwV 2 hts gX8_word_X8_lacks rfl rfl rfl (by decide +kernel) ⟨Nat.le_of_ble_eq_true rfl, Nat.le_of_ble_eq_true rfl⟩) 0 8 rfl rfl rfl hl.1 rfl (Nat.le_of_ble_eq_true rfl) dX8_word_5 (fun r1 s2 H locs hw hP hD hS => ?_)
  obtain ⟨hr1, hs2⟩ := hw
  refine lv_if_eq (tgt := 15) hx hb dX8_word_8 (by decide) (fun c3 => ?_) (fun c3 => ?_)
  · refine lv_aload_n hx hb dX8_word_15 rfl (lv_at hl 0 rfl) ?_
    refine lv_iload_n hx hb dX8_word_16 rfl (lv_at hl 1 rfl) ?_
    refine oh_cvp (As := [.int p1]) (rest := []) hC hP hD hS (mtX8_at l a k D s2 p1 (oh_lk hr1 c3).1) (cwV 1 hts gX8_word_X8_at rfl rfl rfl (by decide +kernel) ⟨Nat.le_of_ble_eq_true rfl, Nat.le_of_ble_eq_true rfl⟩) 0 8 rfl rfl rfl hl.1 rfl (Nat.le_of_ble_eq_true rfl) dX8_word_17 (fun r4 H locs hr4 hP hD hS => ?_)
    exact oh_reti (v := r4) (u := s2) hC hP hD hS (oh_pair (by subst hr4 hs2 hr1; exact (if_pos c3).symm)) dX8_word_20
  · refine lv_iconst (v := (0 : Int32)) hx hb dX8_word_11 (by decide) ?_
    refine lv_goto (tgt := 20) hx hb dX8_word_12 (by decide) ?_
    exact oh_reti (v := (0 : Int32)) (u := s2) hC hP hD hS (oh_pair (by subst hs2 hr1; exact (if_neg c3).symm)) dX8_word_20
-- OctalHouseModel.set
def spX8_set (σ : oh_St) (p1 : Int32) (p2 : Int32) : oh_St := (let r1 : Int32 := (spX8_lacks σ p1 (4096 : Int32)).1; (let s2 : oh_St := (spX8_lacks σ p1 (4096 : Int32)).2; (if r1 = (0 : Int32) then (let s4 : oh_St := (spX8_put s2 p1 (p2 &&& (65535 : Int32))); s4) else s2)))
set_option maxHeartbeats 8000000 in
set_option maxRecDepth 100000 in
theorem mtX8_set (l : Launch) (a : Nat → Nat) (k : Nat → ClassId) (D : va_G) (σ : oh_St) (p1 : Int32) (p2 : Int32) : oh_Mv l yX8_set wsX8_set { frames := 1, cells := 0, slots := 0, locals := 22 } D (oh_ty k) (oh_V a k) [.ref (a 0), .int p1, .int p2] σ (fun u => u = spX8_set σ p1 p2) := by
  refine oh_inv (cc := cX8_set) (nL := 3) (rt := none) (by decide) rfl (Nat.le_of_ble_eq_true rfl) ?_
  intro p e s m below meth c A ls hC hP hD hS hl
  obtain ⟨hx, hb, hml, hown, hts, hr, hlocks, hK, hN, hA⟩ := id hC
  have hl : lv_has ls 3 [(0, .ref (a 0)), (1, .int p1), (2, .int p2)] := hl
  refine lv_aload_n hx hb dX8_set_0 rfl (lv_at hl 0 rfl) ?_
  refine lv_iload_n hx hb dX8_set_1 rfl (lv_at hl 1 rfl) ?_
  refine lv_sipush (v := (4096 : Int32)) hx hb dX8_set_2 (by decide) ?_
  refine oh_cvi (As := [.int p1, .int (4096 : Int32)]) (rest := []) hC hP hD hS (mtX8_lacks l a k D σ p1 (4096 : Int32)) (cwV 2 hts gX8_set_X8_lacks rfl rfl rfl (by decide +kernel) ⟨Nat.le_of_ble_eq_true rfl, Nat.le_of_ble_eq_true rfl⟩) 0 8 rfl rfl rfl hl.1 rfl (Nat.le_of_ble_eq_true rfl) dX8_set_5 (fun r1 s2 H locs hw hP hD hS => ?_)
  obtain ⟨hr1, hs2⟩ := hw
  refine lv_if_eq (tgt := 12) hx hb dX8_set_8 (by decide) (fun c3 => ?_) (fun c3 => ?_)
  · refine lv_aload_n hx hb dX8_set_12 rfl (lv_at hl 0 rfl) ?_
    refine lv_iload_n hx hb dX8_set_13 rfl (lv_at hl 1 rfl) ?_
    refine lv_iload_n hx hb dX8_set_14 rfl (lv_at hl 2 rfl) ?_
    refine lv_ldc (v := (65535 : Int32)) hx hb hown (hts (.constant RX8 102 (65535)) (by decide +kernel)) dX8_set_15 ?_
    refine lv_iand hx hb dX8_set_17 ?_
    refine oh_cvv (As := [.int p1, .int (p2 &&& (65535 : Int32))]) (rest := []) hC hP hD hS (mtX8_put l a k D s2 p1 (p2 &&& (65535 : Int32)) (oh_lk hr1 c3).1) (cwV 2 hts gX8_set_X8_put rfl rfl rfl (by decide +kernel) ⟨Nat.le_of_ble_eq_true rfl, Nat.le_of_ble_eq_true rfl⟩) 0 8 rfl rfl rfl hl.1 rfl (Nat.le_of_ble_eq_true rfl) dX8_set_18 (fun s4 H locs hs4 hP hD hS => ?_)
    exact oh_retv (u := s4) hC hP hD hS (by subst hs4 hs2 hr1; exact (if_pos c3).symm) dX8_set_21
  · exact oh_retv (u := s2) hC hP hD hS (by subst hs2 hr1; exact (if_neg c3).symm) dX8_set_11
-- OctalHouseModel.go
theorem inX8_go_X8 : ∀ w ∈ u_ws RX8 TX8 35, w ∈ wsX8_go := by decide +kernel
def spX8_go (σ : oh_St) (p1 : Int32) : oh_St := (if p1 = (-1 : Int32) then (oh_up (oh_up σ 0 12 (0 : Int32)) 0 7 (0 : Int32)) else (oh_up (oh_up (oh_up σ 0 12 (0 : Int32)) 0 7 (0 : Int32)) 0 3 (p1 &&& (32767 : Int32))))
set_option maxHeartbeats 8000000 in
set_option maxRecDepth 100000 in
theorem mtX8_go (l : Launch) (a : Nat → Nat) (k : Nat → ClassId) (D : va_G) (σ : oh_St) (p1 : Int32) : oh_Mv l yX8_go wsX8_go { frames := 0, cells := 0, slots := 0, locals := 0 } D (oh_ty k) (oh_V a k) [.ref (a 0), .int p1] σ (fun u => u = spX8_go σ p1) := by
  refine oh_inv (cc := cX8_go) (nL := 2) (rt := none) (by decide) rfl (Nat.le_of_ble_eq_true rfl) ?_
  intro p e s m below meth c A ls hC hP hD hS hl
  obtain ⟨hx, hb, hml, hown, hts, hr, hlocks, hK, hN, hA⟩ := id hC
  have hl : lv_has ls 2 [(0, .ref (a 0)), (1, .int p1)] := hl
  refine lv_aload_n hx hb dX8_go_0 rfl (lv_at hl 0 rfl) ?_
  refine lv_iconst (v := (0 : Int32)) hx hb dX8_go_1 (by decide) ?_
  refine oh_put (σ' := (oh_up σ 0 12 (0 : Int32))) (v := .int (0 : Int32)) hC hP hD hS inX8_go_X8 tyX8 tyX8_ok nmX8 0 rfl rfl 0 (by decide) (by decide +kernel) rfl rfl rfl (by simp) rfl dX8_go_2 (fun H locs hP hD hS => ?_)
  refine lv_aload_n hx hb dX8_go_5 rfl (lv_at hl 0 rfl) ?_
  refine lv_iconst (v := (0 : Int32)) hx hb dX8_go_6 (by decide) ?_
  refine oh_put (σ' := (oh_up (oh_up σ 0 12 (0 : Int32)) 0 7 (0 : Int32))) (v := .int (0 : Int32)) hC hP hD hS inX8_go_X8 tyX8 tyX8_ok nmX8 0 rfl rfl 10 (by decide) (by decide +kernel) rfl (oh_nb (by decide)) (oh_fb (by decide)) (by simp) rfl dX8_go_7 (fun H locs hP hD hS => ?_)
  refine lv_iload_n hx hb dX8_go_10 rfl (lv_at hl 1 rfl) ?_
  refine lv_iconst (v := (-1 : Int32)) hx hb dX8_go_11 (by decide) ?_
  refine lv_icmp_eq (tgt := 24) hx hb dX8_go_12 (by decide) (fun c1 => ?_) (fun c1 => ?_)
  · exact oh_retv (u := (oh_up (oh_up σ 0 12 (0 : Int32)) 0 7 (0 : Int32))) hC hP hD hS (by exact (if_pos c1).symm) dX8_go_24
  · refine lv_aload_n hx hb dX8_go_15 rfl (lv_at hl 0 rfl) ?_
    refine lv_iload_n hx hb dX8_go_16 rfl (lv_at hl 1 rfl) ?_
    refine lv_sipush (v := (32767 : Int32)) hx hb dX8_go_17 (by decide) ?_
    refine lv_iand hx hb dX8_go_20 ?_
    refine oh_put (σ' := (oh_up (oh_up (oh_up σ 0 12 (0 : Int32)) 0 7 (0 : Int32)) 0 3 (p1 &&& (32767 : Int32)))) (v := .int (p1 &&& (32767 : Int32))) hC hP hD hS inX8_go_X8 tyX8 tyX8_ok nmX8 0 rfl rfl 4 (by decide) (by decide +kernel) rfl rfl rfl (by simp) rfl dX8_go_21 (fun H locs hP hD hS => ?_)
    exact oh_retv (u := (oh_up (oh_up (oh_up σ 0 12 (0 : Int32)) 0 7 (0 : Int32)) 0 3 (p1 &&& (32767 : Int32)))) hC hP hD hS (by exact (if_neg c1).symm) dX8_go_24
-- OctalHouseModel.state
theorem inX8_state_X8 : ∀ w ∈ u_ws RX8 TX8 35, w ∈ wsX8_state := by decide +kernel
def spX8_state (σ : oh_St) (p1 : Int32) : Int32 × oh_St := (let y1 : Int32 := p1; (if y1 = (0 : Int32) then ((σ 0 14), (oh_up σ 0 12 (0 : Int32))) else (if y1 = (1 : Int32) then ((σ 0 15), (oh_up σ 0 12 (0 : Int32))) else (if y1 = (2 : Int32) then ((σ 0 3), (oh_up σ 0 12 (0 : Int32))) else (if y1 = (3 : Int32) then ((σ 0 4), (oh_up σ 0 12 (0 : Int32))) else (if y1 = (4 : Int32) then ((σ 0 5), (oh_up σ 0 12 (0 : Int32))) else (if y1 = (5 : Int32) then (if (σ 0 9) = (0 : Int32) then ((0 : Int32), (oh_up σ 0 12 (0 : Int32))) else ((1 : Int32), (oh_up σ 0 12 (0 : Int32)))) else (if y1 = (6 : Int32) then (if (σ 0 6) = (0 : Int32) then ((0 : Int32), (oh_up σ 0 12 (0 : Int32))) else ((1 : Int32), (oh_up σ 0 12 (0 : Int32)))) else (if y1 = (7 : Int32) then (if (σ 0 7) = (0 : Int32) then ((0 : Int32), (oh_up σ 0 12 (0 : Int32))) else ((1 : Int32), (oh_up σ 0 12 (0 : Int32)))) else (if y1 = (8 : Int32) then ((σ 0 8), (oh_up σ 0 12 (0 : Int32))) else (if y1 = (9 : Int32) then ((σ 0 11), (oh_up σ 0 12 (0 : Int32))) else (if y1 = (10 : Int32) then ((σ 0 0), (oh_up σ 0 12 (0 : Int32))) else (if y1 = (11 : Int32) then ((σ 0 1), (oh_up σ 0 12 (0 : Int32))) else (if y1 = (12 : Int32) then ((σ 0 2), (oh_up σ 0 12 (0 : Int32))) else ((-1 : Int32), (oh_up σ 0 12 (0 : Int32)))))))))))))))))
set_option maxHeartbeats 8000000 in
set_option maxRecDepth 100000 in
theorem mtX8_state (l : Launch) (a : Nat → Nat) (k : Nat → ClassId) (D : va_G) (σ : oh_St) (p1 : Int32) : oh_Mi l yX8_state wsX8_state { frames := 0, cells := 0, slots := 0, locals := 0 } D (oh_ty k) (oh_V a k) [.ref (a 0), .int p1] σ (fun r u => r = (spX8_state σ p1).1 ∧ u = (spX8_state σ p1).2) := by
  refine oh_ini (cc := cX8_state) (nL := 2) (rt := some .int) (by decide) rfl (Nat.le_of_ble_eq_true rfl) ?_
  intro p e s m below meth c A ls hC hP hD hS hl
  obtain ⟨hx, hb, hml, hown, hts, hr, hlocks, hK, hN, hA⟩ := id hC
  have hl : lv_has ls 2 [(0, .ref (a 0)), (1, .int p1)] := hl
  refine lv_aload_n hx hb dX8_state_0 rfl (lv_at hl 0 rfl) ?_
  refine lv_iconst (v := (0 : Int32)) hx hb dX8_state_1 (by decide) ?_
  refine oh_put (σ' := (oh_up σ 0 12 (0 : Int32))) (v := .int (0 : Int32)) hC hP hD hS inX8_state_X8 tyX8 tyX8_ok nmX8 0 rfl rfl 0 (by decide) (by decide +kernel) rfl rfl rfl (by simp) rfl dX8_state_2 (fun H locs hP hD hS => ?_)
  refine lv_iload_n hx hb dX8_state_5 rfl (lv_at hl 1 rfl) ?_
  refine lv_topi (fun y1 hy1 => ?_)
  by_cases c2 : y1 = (0 : Int32)
  · refine lv_tableIn (tgt := 72) hx hb dX8_state_6 (by rw [c2]; decide) (by rw [c2]; decide) (by rw [c2]; rfl) (by decide) ?_
    refine lv_aload_n hx hb dX8_state_72 rfl (lv_at hl 0 rfl) ?_
    refine oh_get (v := .int (σ 0 14)) hC hP inX8_state_X8 0 rfl rfl 2 (by decide) (by decide +kernel) rfl dX8_state_73 ?_
    exact oh_reti (v := (σ 0 14)) (u := (oh_up σ 0 12 (0 : Int32))) hC hP hD hS (oh_pair (by subst hy1; exact (if_pos c2).symm)) dX8_state_76
  by_cases c3 : y1 = (1 : Int32)
  · refine lv_tableIn (tgt := 77) hx hb dX8_state_6 (by rw [c3]; decide) (by rw [c3]; decide) (by rw [c3]; rfl) (by decide) ?_
    refine lv_aload_n hx hb dX8_state_77 rfl (lv_at hl 0 rfl) ?_
    refine oh_get (v := .int (σ 0 15)) hC hP inX8_state_X8 0 rfl rfl 3 (by decide) (by decide +kernel) rfl dX8_state_78 ?_
    exact oh_reti (v := (σ 0 15)) (u := (oh_up σ 0 12 (0 : Int32))) hC hP hD hS (oh_pair (by subst hy1; exact ((if_neg c2).trans (if_pos c3)).symm)) dX8_state_81
  by_cases c4 : y1 = (2 : Int32)
  · refine lv_tableIn (tgt := 82) hx hb dX8_state_6 (by rw [c4]; decide) (by rw [c4]; decide) (by rw [c4]; rfl) (by decide) ?_
    refine lv_aload_n hx hb dX8_state_82 rfl (lv_at hl 0 rfl) ?_
    refine oh_get (v := .int (σ 0 3)) hC hP inX8_state_X8 0 rfl rfl 4 (by decide) (by decide +kernel) rfl dX8_state_83 ?_
    exact oh_reti (v := (σ 0 3)) (u := (oh_up σ 0 12 (0 : Int32))) hC hP hD hS (oh_pair (by subst hy1; exact (((if_neg c2).trans (if_neg c3)).trans (if_pos c4)).symm)) dX8_state_86
  by_cases c5 : y1 = (3 : Int32)
  · refine lv_tableIn (tgt := 87) hx hb dX8_state_6 (by rw [c5]; decide) (by rw [c5]; decide) (by rw [c5]; rfl) (by decide) ?_
    refine lv_aload_n hx hb dX8_state_87 rfl (lv_at hl 0 rfl) ?_
    refine oh_get (v := .int (σ 0 4)) hC hP inX8_state_X8 0 rfl rfl 5 (by decide) (by decide +kernel) rfl dX8_state_88 ?_
    exact oh_reti (v := (σ 0 4)) (u := (oh_up σ 0 12 (0 : Int32))) hC hP hD hS (oh_pair (by subst hy1; exact ((((if_neg c2).trans (if_neg c3)).trans (if_neg c4)).trans (if_pos c5)).symm)) dX8_state_91
  by_cases c6 : y1 = (4 : Int32)
  · refine lv_tableIn (tgt := 92) hx hb dX8_state_6 (by rw [c6]; decide) (by rw [c6]; decide) (by rw [c6]; rfl) (by decide) ?_
    refine lv_aload_n hx hb dX8_state_92 rfl (lv_at hl 0 rfl) ?_
    refine oh_get (v := .int (σ 0 5)) hC hP inX8_state_X8 0 rfl rfl 6 (by decide) (by decide +kernel) rfl dX8_state_93 ?_
    exact oh_reti (v := (σ 0 5)) (u := (oh_up σ 0 12 (0 : Int32))) hC hP hD hS (oh_pair (by subst hy1; exact (((((if_neg c2).trans (if_neg c3)).trans (if_neg c4)).trans (if_neg c5)).trans (if_pos c6)).symm)) dX8_state_96
  by_cases c7 : y1 = (5 : Int32)
  · refine lv_tableIn (tgt := 97) hx hb dX8_state_6 (by rw [c7]; decide) (by rw [c7]; decide) (by rw [c7]; rfl) (by decide) ?_
    refine lv_aload_n hx hb dX8_state_97 rfl (lv_at hl 0 rfl) ?_
    refine oh_get (v := .int (σ 0 9)) hC hP inX8_state_X8 0 rfl rfl 7 (by decide) (by decide +kernel) rfl dX8_state_98 ?_
    refine lv_if_eq (tgt := 108) hx hb dX8_state_101 (by decide) (fun c8 => ?_) (fun c8 => ?_)
    · refine lv_iconst (v := (0 : Int32)) hx hb dX8_state_108 (by decide) ?_
      exact oh_reti (v := (0 : Int32)) (u := (oh_up σ 0 12 (0 : Int32))) hC hP hD hS (oh_pair (by subst hy1; exact (((((((if_neg c2).trans (if_neg c3)).trans (if_neg c4)).trans (if_neg c5)).trans (if_neg c6)).trans (if_pos c7)).trans (if_pos c8)).symm)) dX8_state_109
    · refine lv_iconst (v := (1 : Int32)) hx hb dX8_state_104 (by decide) ?_
      refine lv_goto (tgt := 109) hx hb dX8_state_105 (by decide) ?_
      exact oh_reti (v := (1 : Int32)) (u := (oh_up σ 0 12 (0 : Int32))) hC hP hD hS (oh_pair (by subst hy1; exact (((((((if_neg c2).trans (if_neg c3)).trans (if_neg c4)).trans (if_neg c5)).trans (if_neg c6)).trans (if_pos c7)).trans (if_neg c8)).symm)) dX8_state_109
  by_cases c9 : y1 = (6 : Int32)
  · refine lv_tableIn (tgt := 110) hx hb dX8_state_6 (by rw [c9]; decide) (by rw [c9]; decide) (by rw [c9]; rfl) (by decide) ?_
    refine lv_aload_n hx hb dX8_state_110 rfl (lv_at hl 0 rfl) ?_
    refine oh_get (v := .int (σ 0 6)) hC hP inX8_state_X8 0 rfl rfl 8 (by decide) (by decide +kernel) rfl dX8_state_111 ?_
    refine lv_if_eq (tgt := 121) hx hb dX8_state_114 (by decide) (fun c10 => ?_) (fun c10 => ?_)
    · refine lv_iconst (v := (0 : Int32)) hx hb dX8_state_121 (by decide) ?_
      exact oh_reti (v := (0 : Int32)) (u := (oh_up σ 0 12 (0 : Int32))) hC hP hD hS (oh_pair (by subst hy1; exact ((((((((if_neg c2).trans (if_neg c3)).trans (if_neg c4)).trans (if_neg c5)).trans (if_neg c6)).trans (if_neg c7)).trans (if_pos c9)).trans (if_pos c10)).symm)) dX8_state_122
    · refine lv_iconst (v := (1 : Int32)) hx hb dX8_state_117 (by decide) ?_
      refine lv_goto (tgt := 122) hx hb dX8_state_118 (by decide) ?_
      exact oh_reti (v := (1 : Int32)) (u := (oh_up σ 0 12 (0 : Int32))) hC hP hD hS (oh_pair (by subst hy1; exact ((((((((if_neg c2).trans (if_neg c3)).trans (if_neg c4)).trans (if_neg c5)).trans (if_neg c6)).trans (if_neg c7)).trans (if_pos c9)).trans (if_neg c10)).symm)) dX8_state_122
  by_cases c11 : y1 = (7 : Int32)
  · refine lv_tableIn (tgt := 123) hx hb dX8_state_6 (by rw [c11]; decide) (by rw [c11]; decide) (by rw [c11]; rfl) (by decide) ?_
    refine lv_aload_n hx hb dX8_state_123 rfl (lv_at hl 0 rfl) ?_
    refine oh_get (v := .int (σ 0 7)) hC hP inX8_state_X8 0 rfl rfl 10 (by decide) (by decide +kernel) rfl dX8_state_124 ?_
    refine lv_if_eq (tgt := 134) hx hb dX8_state_127 (by decide) (fun c12 => ?_) (fun c12 => ?_)
    · refine lv_iconst (v := (0 : Int32)) hx hb dX8_state_134 (by decide) ?_
      exact oh_reti (v := (0 : Int32)) (u := (oh_up σ 0 12 (0 : Int32))) hC hP hD hS (oh_pair (by subst hy1; exact (((((((((if_neg c2).trans (if_neg c3)).trans (if_neg c4)).trans (if_neg c5)).trans (if_neg c6)).trans (if_neg c7)).trans (if_neg c9)).trans (if_pos c11)).trans (if_pos c12)).symm)) dX8_state_135
    · refine lv_iconst (v := (1 : Int32)) hx hb dX8_state_130 (by decide) ?_
      refine lv_goto (tgt := 135) hx hb dX8_state_131 (by decide) ?_
      exact oh_reti (v := (1 : Int32)) (u := (oh_up σ 0 12 (0 : Int32))) hC hP hD hS (oh_pair (by subst hy1; exact (((((((((if_neg c2).trans (if_neg c3)).trans (if_neg c4)).trans (if_neg c5)).trans (if_neg c6)).trans (if_neg c7)).trans (if_neg c9)).trans (if_pos c11)).trans (if_neg c12)).symm)) dX8_state_135
  by_cases c13 : y1 = (8 : Int32)
  · refine lv_tableIn (tgt := 136) hx hb dX8_state_6 (by rw [c13]; decide) (by rw [c13]; decide) (by rw [c13]; rfl) (by decide) ?_
    refine lv_aload_n hx hb dX8_state_136 rfl (lv_at hl 0 rfl) ?_
    refine oh_get (v := .int (σ 0 8)) hC hP inX8_state_X8 0 rfl rfl 11 (by decide) (by decide +kernel) rfl dX8_state_137 ?_
    exact oh_reti (v := (σ 0 8)) (u := (oh_up σ 0 12 (0 : Int32))) hC hP hD hS (oh_pair (by subst hy1; exact (((((((((if_neg c2).trans (if_neg c3)).trans (if_neg c4)).trans (if_neg c5)).trans (if_neg c6)).trans (if_neg c7)).trans (if_neg c9)).trans (if_neg c11)).trans (if_pos c13)).symm)) dX8_state_140
  by_cases c14 : y1 = (9 : Int32)
  · refine lv_tableIn (tgt := 141) hx hb dX8_state_6 (by rw [c14]; decide) (by rw [c14]; decide) (by rw [c14]; rfl) (by decide) ?_
    refine lv_aload_n hx hb dX8_state_141 rfl (lv_at hl 0 rfl) ?_
    refine oh_get (v := .int (σ 0 11)) hC hP inX8_state_X8 0 rfl rfl 12 (by decide) (by decide +kernel) rfl dX8_state_142 ?_
    exact oh_reti (v := (σ 0 11)) (u := (oh_up σ 0 12 (0 : Int32))) hC hP hD hS (oh_pair (by subst hy1; exact ((((((((((if_neg c2).trans (if_neg c3)).trans (if_neg c4)).trans (if_neg c5)).trans (if_neg c6)).trans (if_neg c7)).trans (if_neg c9)).trans (if_neg c11)).trans (if_neg c13)).trans (if_pos c14)).symm)) dX8_state_145
  by_cases c15 : y1 = (10 : Int32)
  · refine lv_tableIn (tgt := 146) hx hb dX8_state_6 (by rw [c15]; decide) (by rw [c15]; decide) (by rw [c15]; rfl) (by decide) ?_
    refine lv_aload_n hx hb dX8_state_146 rfl (lv_at hl 0 rfl) ?_
    refine oh_get (v := .int (σ 0 0)) hC hP inX8_state_X8 0 rfl rfl 14 (by decide) (by decide +kernel) rfl dX8_state_147 ?_
    exact oh_reti (v := (σ 0 0)) (u := (oh_up σ 0 12 (0 : Int32))) hC hP hD hS (oh_pair (by subst hy1; exact (((((((((((if_neg c2).trans (if_neg c3)).trans (if_neg c4)).trans (if_neg c5)).trans (if_neg c6)).trans (if_neg c7)).trans (if_neg c9)).trans (if_neg c11)).trans (if_neg c13)).trans (if_neg c14)).trans (if_pos c15)).symm)) dX8_state_150
  by_cases c16 : y1 = (11 : Int32)
  · refine lv_tableIn (tgt := 151) hx hb dX8_state_6 (by rw [c16]; decide) (by rw [c16]; decide) (by rw [c16]; rfl) (by decide) ?_
    refine lv_aload_n hx hb dX8_state_151 rfl (lv_at hl 0 rfl) ?_
    refine oh_get (v := .int (σ 0 1)) hC hP inX8_state_X8 0 rfl rfl 15 (by decide) (by decide +kernel) rfl dX8_state_152 ?_
    exact oh_reti (v := (σ 0 1)) (u := (oh_up σ 0 12 (0 : Int32))) hC hP hD hS (oh_pair (by subst hy1; exact ((((((((((((if_neg c2).trans (if_neg c3)).trans (if_neg c4)).trans (if_neg c5)).trans (if_neg c6)).trans (if_neg c7)).trans (if_neg c9)).trans (if_neg c11)).trans (if_neg c13)).trans (if_neg c14)).trans (if_neg c15)).trans (if_pos c16)).symm)) dX8_state_155
  by_cases c17 : y1 = (12 : Int32)
  · refine lv_tableIn (tgt := 156) hx hb dX8_state_6 (by rw [c17]; decide) (by rw [c17]; decide) (by rw [c17]; rfl) (by decide) ?_
    refine lv_aload_n hx hb dX8_state_156 rfl (lv_at hl 0 rfl) ?_
    refine oh_get (v := .int (σ 0 2)) hC hP inX8_state_X8 0 rfl rfl 16 (by decide) (by decide +kernel) rfl dX8_state_157 ?_
    exact oh_reti (v := (σ 0 2)) (u := (oh_up σ 0 12 (0 : Int32))) hC hP hD hS (oh_pair (by subst hy1; exact (((((((((((((if_neg c2).trans (if_neg c3)).trans (if_neg c4)).trans (if_neg c5)).trans (if_neg c6)).trans (if_neg c7)).trans (if_neg c9)).trans (if_neg c11)).trans (if_neg c13)).trans (if_neg c14)).trans (if_neg c15)).trans (if_neg c16)).trans (if_pos c17)).symm)) dX8_state_160
  refine lv_tableOut (tgt := 161) hx hb dX8_state_6 (by have hh := True.intro; have : (∀ z : Int32, y1.toInt = z.toInt → y1 = z) := fun z e => Int32.toInt_inj.mp e; have hc2 : y1.toInt ≠ 0 := oh_ne c2; have hc3 : y1.toInt ≠ 1 := oh_ne c3; have hc4 : y1.toInt ≠ 2 := oh_ne c4; have hc5 : y1.toInt ≠ 3 := oh_ne c5; have hc6 : y1.toInt ≠ 4 := oh_ne c6; have hc7 : y1.toInt ≠ 5 := oh_ne c7; have hc9 : y1.toInt ≠ 6 := oh_ne c9; have hc11 : y1.toInt ≠ 7 := oh_ne c11; have hc13 : y1.toInt ≠ 8 := oh_ne c13; have hc14 : y1.toInt ≠ 9 := oh_ne c14; have hc15 : y1.toInt ≠ 10 := oh_ne c15; have hc16 : y1.toInt ≠ 11 := oh_ne c16; have hc17 : y1.toInt ≠ 12 := oh_ne c17; omega) (by decide) ?_
  refine lv_iconst (v := (-1 : Int32)) hx hb dX8_state_161 (by decide) ?_
  exact oh_reti (v := (-1 : Int32)) (u := (oh_up σ 0 12 (0 : Int32))) hC hP hD hS (oh_pair (by subst hy1; exact (((((((((((((if_neg c2).trans (if_neg c3)).trans (if_neg c4)).trans (if_neg c5)).trans (if_neg c6)).trans (if_neg c7)).trans (if_neg c9)).trans (if_neg c11)).trans (if_neg c13)).trans (if_neg c14)).trans (if_neg c15)).trans (if_neg c16)).trans (if_neg c17)).symm)) dX8_state_162
-- OctalHouseModel.switches
theorem inX8_switches_X8 : ∀ w ∈ u_ws RX8 TX8 35, w ∈ wsX8_switches := by decide +kernel
def spX8_switches (σ : oh_St) (p1 : Int32) : oh_St := (oh_up (oh_up σ 0 12 (0 : Int32)) 0 10 (p1 &&& (65535 : Int32)))
set_option maxHeartbeats 8000000 in
set_option maxRecDepth 100000 in
theorem mtX8_switches (l : Launch) (a : Nat → Nat) (k : Nat → ClassId) (D : va_G) (σ : oh_St) (p1 : Int32) : oh_Mv l yX8_switches wsX8_switches { frames := 0, cells := 0, slots := 0, locals := 0 } D (oh_ty k) (oh_V a k) [.ref (a 0), .int p1] σ (fun u => u = spX8_switches σ p1) := by
  refine oh_inv (cc := cX8_switches) (nL := 2) (rt := none) (by decide) rfl (Nat.le_of_ble_eq_true rfl) ?_
  intro p e s m below meth c A ls hC hP hD hS hl
  obtain ⟨hx, hb, hml, hown, hts, hr, hlocks, hK, hN, hA⟩ := id hC
  have hl : lv_has ls 2 [(0, .ref (a 0)), (1, .int p1)] := hl
  refine lv_aload_n hx hb dX8_switches_0 rfl (lv_at hl 0 rfl) ?_
  refine lv_iconst (v := (0 : Int32)) hx hb dX8_switches_1 (by decide) ?_
  refine oh_put (σ' := (oh_up σ 0 12 (0 : Int32))) (v := .int (0 : Int32)) hC hP hD hS inX8_switches_X8 tyX8 tyX8_ok nmX8 0 rfl rfl 0 (by decide) (by decide +kernel) rfl rfl rfl (by simp) rfl dX8_switches_2 (fun H locs hP hD hS => ?_)
  refine lv_aload_n hx hb dX8_switches_5 rfl (lv_at hl 0 rfl) ?_
  refine lv_iload_n hx hb dX8_switches_6 rfl (lv_at hl 1 rfl) ?_
  refine lv_ldc (v := (65535 : Int32)) hx hb hown (hts (.constant RX8 102 (65535)) (by decide +kernel)) dX8_switches_7 ?_
  refine lv_iand hx hb dX8_switches_9 ?_
  refine oh_put (σ' := (oh_up (oh_up σ 0 12 (0 : Int32)) 0 10 (p1 &&& (65535 : Int32)))) (v := .int (p1 &&& (65535 : Int32))) hC hP hD hS inX8_switches_X8 tyX8 tyX8_ok nmX8 0 rfl rfl 13 (by decide) (by decide +kernel) rfl rfl rfl (by simp) rfl dX8_switches_10 (fun H locs hP hD hS => ?_)
  exact oh_retv (u := (oh_up (oh_up σ 0 12 (0 : Int32)) 0 10 (p1 &&& (65535 : Int32)))) hC hP hD hS (by exact rfl) dX8_switches_13
-- OctalHouseModel.device
theorem inX8_device_X8 : ∀ w ∈ u_ws RX8 TX8 35, w ∈ wsX8_device := by decide +kernel
def spX8_device_k10 (p1 : Int32) (p3 : Int32) (s2 : oh_St) (x6 : Int32) (x9 : Int32) : oh_St := (oh_up (oh_up (oh_up (oh_up (oh_up s2 0 12 x6) 12 ((8 : Int32) + p1).toNatClampNeg x9) 13 ((8 : Int32) + p1).toNatClampNeg p3) 15 ((8 : Int32) + p1).toNatClampNeg (0 : Int32)) 14 ((8 : Int32) + p1).toNatClampNeg (0 : Int32))
def spX8_device_k11 (p1 : Int32) (p2 : Int32) (p3 : Int32) (s2 : oh_St) (x6 : Int32) : oh_St := (if x6 ≤ (0 : Int32) then (let x9 : Int32 := (if p2 = (0 : Int32) then (1 : Int32) else (0 : Int32)); (spX8_device_k10 p1 p3 s2 x6 x9)) else (oh_up s2 0 12 x6))
def spX8_device (σ : oh_St) (p1 : Int32) (p2 : Int32) (p3 : Int32) : oh_St := (let r1 : Int32 := (spX8_lacks σ p1 (4 : Int32)).1; (let s2 : oh_St := (spX8_lacks σ p1 (4 : Int32)).2; (if r1 = (0 : Int32) then (let x6 : Int32 := (if p3 < (1 : Int32) then (2 : Int32) else (if p3 ≤ (100 : Int32) then (0 : Int32) else (2 : Int32))); (spX8_device_k11 p1 p2 p3 s2 x6)) else s2)))
set_option maxHeartbeats 8000000 in
set_option maxRecDepth 100000 in
theorem mtX8_device (l : Launch) (a : Nat → Nat) (k : Nat → ClassId) (D : va_G) (σ : oh_St) (p1 : Int32) (p2 : Int32) (p3 : Int32) (hbp2 : p2 = 0 ∨ p2 = 1) : oh_Mv l yX8_device wsX8_device { frames := 1, cells := 0, slots := 0, locals := 22 } D (oh_ty k) (oh_V a k) [.ref (a 0), .int p1, .int p2, .int p3] σ (fun u => u = spX8_device σ p1 p2 p3) := by
  refine oh_inv (cc := cX8_device) (nL := 5) (rt := none) (by decide) rfl (Nat.le_of_ble_eq_true rfl) ?_
  intro p e s m below meth c A ls hC hP hD hS hl
  obtain ⟨hx, hb, hml, hown, hts, hr, hlocks, hK, hN, hA⟩ := id hC
  have hl : lv_has ls 5 [(0, .ref (a 0)), (1, .int p1), (2, .int p2), (3, .int p3)] := hl
  refine lv_aload_n hx hb dX8_device_0 rfl (lv_at hl 0 rfl) ?_
  refine lv_iload_n hx hb dX8_device_1 rfl (lv_at hl 1 rfl) ?_
  refine lv_iconst (v := (4 : Int32)) hx hb dX8_device_2 (by decide) ?_
  refine oh_cvi (As := [.int p1, .int (4 : Int32)]) (rest := []) hC hP hD hS (mtX8_lacks l a k D σ p1 (4 : Int32)) (cwV 2 hts gX8_device_X8_lacks rfl rfl rfl (by decide +kernel) ⟨Nat.le_of_ble_eq_true rfl, Nat.le_of_ble_eq_true rfl⟩) 0 8 rfl rfl rfl hl.1 rfl (Nat.le_of_ble_eq_true rfl) dX8_device_3 (fun r1 s2 H locs hw hP hD hS => ?_)
  obtain ⟨hr1, hs2⟩ := hw
  refine lv_if_eq (tgt := 10) hx hb dX8_device_6 (by decide) (fun c3 => ?_) (fun c3 => ?_)
  · refine lv_aload_n hx hb dX8_device_10 rfl (lv_at hl 0 rfl) ?_
    refine lv_iload_n hx hb dX8_device_11 rfl (lv_at hl 3 rfl) ?_
    refine lv_iconst (v := (1 : Int32)) hx hb dX8_device_12 (by decide) ?_
    have K11 : ∀ x6 : Int32, x6 = (if p3 < (1 : Int32) then (2 : Int32) else (if p3 ≤ (100 : Int32) then (0 : Int32) else (2 : Int32))) → ∀ (ls : Array Slot) (H : Heap) (locs : List Loc), va_P D vwCl (oh_V a k s2) H → va_D A (oh_V a k s2) → va_S A s.heap H locs → lv_has ls 5 [(0, .ref (a 0)), (1, .int p1), (2, .int p2), (3, .int p3)] → W p l e ({ frames := 1, cells := 0, slots := 0, locals := 22 } : Room) s m (([.ref (a 0), .int p1, .int p2, .int p3] : List Value).toArray) below meth c H locs 0 0 (oh_Ev below (fun u => u = spX8_device σ p1 p2 p3) D (oh_V a k) A [.ref (a 0), .int p1, .int p2, .int p3] s) (F0 m 27 ls [.int x6, .ref (a 0)]) := by
      intro x6 hx6 ls H locs hP hD hS hl
      have hK11 : spX8_device_k11 p1 p2 p3 s2 x6 = spX8_device σ p1 p2 p3 := by
        subst hx6 hs2 hr1
        exact (if_pos c3).symm
      refine oh_put (σ' := (oh_up s2 0 12 x6)) (v := .int x6) hC hP hD hS inX8_device_X8 tyX8 tyX8_ok nmX8 0 rfl rfl 0 (by decide) (by decide +kernel) rfl rfl rfl (by simp) rfl dX8_device_27 (fun H locs hP hD hS => ?_)
      refine lv_aload_n hx hb dX8_device_30 rfl (lv_at hl 0 rfl) ?_
      refine oh_get (v := .int x6) hC hP inX8_device_X8 0 rfl rfl 0 (by decide) (by decide +kernel) rfl dX8_device_31 ?_
      refine lv_if_le (tgt := 38) hx hb dX8_device_34 (by decide) (fun c7 => ?_) (fun c7 => ?_)
      · refine lv_bipush (v := (8 : Int32)) hx hb dX8_device_38 (by decide) ?_
        refine lv_iload_n hx hb dX8_device_40 rfl (lv_at hl 1 rfl) ?_
        refine lv_iadd hx hb dX8_device_41 ?_
        refine lv_istore (lv' := [(4, .int ((8 : Int32) + p1)), (0, .ref (a 0)), (1, .int p1), (2, .int p2), (3, .int p3)]) hx hb dX8_device_42 hl (by decide) rfl (fun ls hl => ?_)
        refine lv_aload_n hx hb dX8_device_44 rfl (lv_at hl 1 rfl) ?_
        refine oh_get (v := .ref (a 12)) hC hP inX8_device_X8 0 rfl rfl 27 (by decide) (by decide +kernel) rfl dX8_device_45 ?_
        refine lv_iload hx hb dX8_device_48 (lv_at hl 0 rfl) ?_
        refine lv_iload_n hx hb dX8_device_50 rfl (lv_at hl 3 rfl) ?_
        have K10 : ∀ x9 : Int32, x9 = (if p2 = (0 : Int32) then (1 : Int32) else (0 : Int32)) → ∀ (ls : Array Slot) (H : Heap) (locs : List Loc), va_P D vwCl (oh_V a k (oh_up s2 0 12 x6)) H → va_D A (oh_V a k (oh_up s2 0 12 x6)) → va_S A s.heap H locs → lv_has ls 5 [(4, .int ((8 : Int32) + p1)), (0, .ref (a 0)), (1, .int p1), (2, .int p2), (3, .int p3)] → W p l e ({ frames := 1, cells := 0, slots := 0, locals := 22 } : Room) s m (([.ref (a 0), .int p1, .int p2, .int p3] : List Value).toArray) below meth c H locs 0 0 (oh_Ev below (fun u => u = spX8_device σ p1 p2 p3) D (oh_V a k) A [.ref (a 0), .int p1, .int p2, .int p3] s) (F0 m 59 ls [.int x9, .int ((8 : Int32) + p1), .ref (a 12)]) := by
          intro x9 hx9 ls H locs hP hD hS hl
          have hK10 : spX8_device_k10 p1 p3 s2 x6 x9 = spX8_device σ p1 p2 p3 := by
            subst hx9
            exact ((if_pos c7).symm).trans hK11
          refine oh_zast (σ' := (oh_up (oh_up s2 0 12 x6) 12 ((8 : Int32) + p1).toNatClampNeg x9)) hC hP hD hS 12 4 rfl rfl (oh_i8 (oh_lk hr1 c3)) (by rw [hx9]; (repeat' split) <;> first | exact Or.inl rfl | exact Or.inr rfl) rfl dX8_device_59 (fun H locs hP hD hS => ?_)
          refine lv_aload_n hx hb dX8_device_60 rfl (lv_at hl 1 rfl) ?_
          refine oh_get (v := .ref (a 13)) hC hP inX8_device_X8 0 rfl rfl 28 (by decide) (by decide +kernel) rfl dX8_device_61 ?_
          refine lv_iload hx hb dX8_device_64 (lv_at hl 0 rfl) ?_
          refine lv_iload_n hx hb dX8_device_66 rfl (lv_at hl 4 rfl) ?_
          refine oh_iast (σ' := (oh_up (oh_up (oh_up s2 0 12 x6) 12 ((8 : Int32) + p1).toNatClampNeg x9) 13 ((8 : Int32) + p1).toNatClampNeg p3)) hC hP hD hS 13 0 rfl rfl (oh_i8 (oh_lk hr1 c3)) rfl dX8_device_67 (fun H locs hP hD hS => ?_)
          refine lv_aload_n hx hb dX8_device_68 rfl (lv_at hl 1 rfl) ?_
          refine oh_get (v := .ref (a 15)) hC hP inX8_device_X8 0 rfl rfl 30 (by decide) (by decide +kernel) rfl dX8_device_69 ?_
          refine lv_iload hx hb dX8_device_72 (lv_at hl 0 rfl) ?_
          refine lv_iconst (v := (0 : Int32)) hx hb dX8_device_74 (by decide) ?_
          refine oh_iast (σ' := (oh_up (oh_up (oh_up (oh_up s2 0 12 x6) 12 ((8 : Int32) + p1).toNatClampNeg x9) 13 ((8 : Int32) + p1).toNatClampNeg p3) 15 ((8 : Int32) + p1).toNatClampNeg (0 : Int32))) hC hP hD hS 15 0 rfl rfl (oh_i8 (oh_lk hr1 c3)) rfl dX8_device_75 (fun H locs hP hD hS => ?_)
          refine lv_aload_n hx hb dX8_device_76 rfl (lv_at hl 1 rfl) ?_
          refine oh_get (v := .ref (a 14)) hC hP inX8_device_X8 0 rfl rfl 29 (by decide) (by decide +kernel) rfl dX8_device_77 ?_
          refine lv_iload hx hb dX8_device_80 (lv_at hl 0 rfl) ?_
          refine lv_iconst (v := (0 : Int32)) hx hb dX8_device_82 (by decide) ?_
          refine oh_iast (σ' := (oh_up (oh_up (oh_up (oh_up (oh_up s2 0 12 x6) 12 ((8 : Int32) + p1).toNatClampNeg x9) 13 ((8 : Int32) + p1).toNatClampNeg p3) 15 ((8 : Int32) + p1).toNatClampNeg (0 : Int32)) 14 ((8 : Int32) + p1).toNatClampNeg (0 : Int32))) hC hP hD hS 14 0 rfl rfl (oh_i8 (oh_lk hr1 c3)) rfl dX8_device_83 (fun H locs hP hD hS => ?_)
          exact oh_retv (u := (oh_up (oh_up (oh_up (oh_up (oh_up s2 0 12 x6) 12 ((8 : Int32) + p1).toNatClampNeg x9) 13 ((8 : Int32) + p1).toNatClampNeg p3) 15 ((8 : Int32) + p1).toNatClampNeg (0 : Int32)) 14 ((8 : Int32) + p1).toNatClampNeg (0 : Int32))) hC hP hD hS (by exact hK10) dX8_device_84
        refine lv_if_ne (tgt := 58) hx hb dX8_device_51 (by decide) (fun c8 => ?_) (fun c8 => ?_)
        · refine lv_iconst (v := (0 : Int32)) hx hb dX8_device_58 (by decide) ?_
          exact K10 _ (if_neg c8).symm ls _ _ hP hD hS (lv_sub hl [0, 1, 2, 3, 4] rfl)
        · refine lv_iconst (v := (1 : Int32)) hx hb dX8_device_54 (by decide) ?_
          refine lv_goto (tgt := 59) hx hb dX8_device_55 (by decide) ?_
          exact K10 _ (if_pos c8).symm ls _ _ hP hD hS (lv_sub hl [0, 1, 2, 3, 4] rfl)
      · exact oh_retv (u := (oh_up s2 0 12 x6)) hC hP hD hS (by exact ((if_neg c7).symm).trans hK11) dX8_device_37
    refine lv_icmp_lt (tgt := 22) hx hb dX8_device_13 (by decide) (fun c4 => ?_) (fun c4 => ?_)
    · refine lv_iconst (v := (2 : Int32)) hx hb dX8_device_22 (by decide) ?_
      refine lv_goto (tgt := 27) hx hb dX8_device_23 (by decide) ?_
      exact K11 _ (if_pos c4).symm ls _ _ hP hD hS (lv_sub hl [0, 1, 2, 3] rfl)
    · refine lv_iload_n hx hb dX8_device_16 rfl (lv_at hl 3 rfl) ?_
      refine lv_bipush (v := (100 : Int32)) hx hb dX8_device_17 (by decide) ?_
      refine lv_icmp_le (tgt := 26) hx hb dX8_device_19 (by decide) (fun c5 => ?_) (fun c5 => ?_)
      · refine lv_iconst (v := (0 : Int32)) hx hb dX8_device_26 (by decide) ?_
        exact K11 _ ((if_neg c4).trans (if_pos c5)).symm ls _ _ hP hD hS (lv_sub hl [0, 1, 2, 3] rfl)
      · refine lv_iconst (v := (2 : Int32)) hx hb dX8_device_22 (by decide) ?_
        refine lv_goto (tgt := 27) hx hb dX8_device_23 (by decide) ?_
        exact K11 _ ((if_neg c4).trans (if_neg c5)).symm ls _ _ hP hD hS (lv_sub hl [0, 1, 2, 3] rfl)
  · exact oh_retv (u := s2) hC hP hD hS (by subst hs2 hr1; exact (if_neg c3).symm) dX8_device_9
-- OctalHouseModel.out
theorem inX8_out_X8 : ∀ w ∈ u_ws RX8 TX8 35, w ∈ wsX8_out := by decide +kernel
def spX8_out (σ : oh_St) (p1 : Int32) (p2 : Int32) : Int32 × oh_St := (let r1 : Int32 := (spX8_lacks σ p1 (4 : Int32)).1; (let s2 : oh_St := (spX8_lacks σ p1 (4 : Int32)).2; (if r1 = (0 : Int32) then (if p2 < (0 : Int32) then ((-1 : Int32), s2) else (if (s2 17 ((8 : Int32) + p1).toNatClampNeg) ≤ p2 then ((-1 : Int32), s2) else (if p2 < (200 : Int32) then ((s2 24 (((200 : Int32) * ((8 : Int32) + p1)) + p2).toNatClampNeg), s2) else ((-1 : Int32), s2)))) else ((0 : Int32), s2))))
set_option maxHeartbeats 8000000 in
set_option maxRecDepth 100000 in
theorem mtX8_out (l : Launch) (a : Nat → Nat) (k : Nat → ClassId) (D : va_G) (σ : oh_St) (p1 : Int32) (p2 : Int32) : oh_Mi l yX8_out wsX8_out { frames := 1, cells := 0, slots := 0, locals := 22 } D (oh_ty k) (oh_V a k) [.ref (a 0), .int p1, .int p2] σ (fun r u => r = (spX8_out σ p1 p2).1 ∧ u = (spX8_out σ p1 p2).2) := by
  refine oh_ini (cc := cX8_out) (nL := 4) (rt := some .int) (by decide) rfl (Nat.le_of_ble_eq_true rfl) ?_
  intro p e s m below meth c A ls hC hP hD hS hl
  obtain ⟨hx, hb, hml, hown, hts, hr, hlocks, hK, hN, hA⟩ := id hC
  have hl : lv_has ls 4 [(0, .ref (a 0)), (1, .int p1), (2, .int p2)] := hl
  refine lv_aload_n hx hb dX8_out_0 rfl (lv_at hl 0 rfl) ?_
  refine lv_iload_n hx hb dX8_out_1 rfl (lv_at hl 1 rfl) ?_
  refine lv_iconst (v := (4 : Int32)) hx hb dX8_out_2 (by decide) ?_
  refine oh_cvi (As := [.int p1, .int (4 : Int32)]) (rest := []) hC hP hD hS (mtX8_lacks l a k D σ p1 (4 : Int32)) (cwV 2 hts gX8_out_X8_lacks rfl rfl rfl (by decide +kernel) ⟨Nat.le_of_ble_eq_true rfl, Nat.le_of_ble_eq_true rfl⟩) 0 8 rfl rfl rfl hl.1 rfl (Nat.le_of_ble_eq_true rfl) dX8_out_3 (fun r1 s2 H locs hw hP hD hS => ?_)
  obtain ⟨hr1, hs2⟩ := hw
  refine lv_if_eq (tgt := 11) hx hb dX8_out_6 (by decide) (fun c3 => ?_) (fun c3 => ?_)
  · refine lv_bipush (v := (8 : Int32)) hx hb dX8_out_11 (by decide) ?_
    refine lv_iload_n hx hb dX8_out_13 rfl (lv_at hl 1 rfl) ?_
    refine lv_iadd hx hb dX8_out_14 ?_
    refine lv_istore_n (lv' := [(3, .int ((8 : Int32) + p1)), (0, .ref (a 0)), (1, .int p1), (2, .int p2)]) hx hb dX8_out_15 rfl hl (by decide) rfl (fun ls hl => ?_)
    refine lv_iload_n hx hb dX8_out_16 rfl (lv_at hl 3 rfl) ?_
    refine lv_if_lt (tgt := 37) hx hb dX8_out_17 (by decide) (fun c4 => ?_) (fun c4 => ?_)
    · refine lv_iconst (v := (-1 : Int32)) hx hb dX8_out_37 (by decide) ?_
      refine lv_goto (tgt := 53) hx hb dX8_out_38 (by decide) ?_
      exact oh_reti (v := (-1 : Int32)) (u := s2) hC hP hD hS (oh_pair (by subst hs2 hr1; exact ((if_pos c3).trans (if_pos c4)).symm)) dX8_out_53
    · refine lv_iload_n hx hb dX8_out_20 rfl (lv_at hl 3 rfl) ?_
      refine lv_aload_n hx hb dX8_out_21 rfl (lv_at hl 1 rfl) ?_
      refine oh_get (v := .ref (a 17)) hC hP inX8_out_X8 0 rfl rfl 32 (by decide) (by decide +kernel) rfl dX8_out_22 ?_
      refine lv_iload_n hx hb dX8_out_25 rfl (lv_at hl 0 rfl) ?_
      refine oh_iald hC hP 17 0 rfl rfl (oh_i8 (oh_lk hr1 c3)) dX8_out_26 ?_
      refine lv_icmp_ge (tgt := 37) hx hb dX8_out_27 (by decide) (fun c5 => ?_) (fun c5 => ?_)
      · refine lv_iconst (v := (-1 : Int32)) hx hb dX8_out_37 (by decide) ?_
        refine lv_goto (tgt := 53) hx hb dX8_out_38 (by decide) ?_
        exact oh_reti (v := (-1 : Int32)) (u := s2) hC hP hD hS (oh_pair (by subst hs2 hr1; exact (((if_pos c3).trans (if_neg c4)).trans (if_pos c5)).symm)) dX8_out_53
      · refine lv_iload_n hx hb dX8_out_30 rfl (lv_at hl 3 rfl) ?_
        refine lv_sipush (v := (200 : Int32)) hx hb dX8_out_31 (by decide) ?_
        refine lv_icmp_lt (tgt := 41) hx hb dX8_out_34 (by decide) (fun c6 => ?_) (fun c6 => ?_)
        · refine lv_aload_n hx hb dX8_out_41 rfl (lv_at hl 1 rfl) ?_
          refine oh_get (v := .ref (a 19)) hC hP inX8_out_X8 0 rfl rfl 34 (by decide) (by decide +kernel) rfl dX8_out_42 ?_
          refine lv_sipush (v := (200 : Int32)) hx hb dX8_out_45 (by decide) ?_
          refine lv_iload_n hx hb dX8_out_48 rfl (lv_at hl 0 rfl) ?_
          refine lv_imul hx hb dX8_out_49 ?_
          refine lv_iload_n hx hb dX8_out_50 rfl (lv_at hl 3 rfl) ?_
          refine lv_iadd hx hb dX8_out_51 ?_
          refine oh_iald hC hP 19 0 rfl rfl (by obtain ⟨j2, hj2, h2⟩ := vp_in_of (oh_in2 (N := 200) (n := 200) c4 c6 rfl) (by decide); exact oh_ix8 (C := 200) (oh_lk hr1 c3) rfl (by decide) h2 hj2) dX8_out_52 ?_
          exact oh_reti (v := (s2 24 (((200 : Int32) * ((8 : Int32) + p1)) + p2).toNatClampNeg)) (u := s2) hC hP hD hS (oh_pair (by subst hs2 hr1; exact ((((if_pos c3).trans (if_neg c4)).trans (if_neg c5)).trans (if_pos c6)).symm)) dX8_out_53
        · refine lv_iconst (v := (-1 : Int32)) hx hb dX8_out_37 (by decide) ?_
          refine lv_goto (tgt := 53) hx hb dX8_out_38 (by decide) ?_
          exact oh_reti (v := (-1 : Int32)) (u := s2) hC hP hD hS (oh_pair (by subst hs2 hr1; exact ((((if_pos c3).trans (if_neg c4)).trans (if_neg c5)).trans (if_neg c6)).symm)) dX8_out_53
  · refine lv_iconst (v := (0 : Int32)) hx hb dX8_out_9 (by decide) ?_
    exact oh_reti (v := (0 : Int32)) (u := s2) hC hP hD hS (oh_pair (by subst hs2 hr1; exact (if_neg c3).symm)) dX8_out_10
-- OctalHouseModel.code
theorem inX8_code_X8 : ∀ w ∈ u_ws RX8 TX8 35, w ∈ wsX8_code := by decide +kernel
def spX8_code (σ : oh_St) (p1 : Int32) (p2 : Int32) : Int32 × oh_St := (if p1 < (6 : Int32) then ((-1 : Int32), (oh_up σ 0 12 (0 : Int32))) else (if p1 < (12 : Int32) then (let y3 : Int32 := p2; (if y3 = (0 : Int32) then (if (σ 2 p1.toNatClampNeg) = (0 : Int32) then ((0 : Int32), (oh_up σ 0 12 (0 : Int32))) else ((1 : Int32), (oh_up σ 0 12 (0 : Int32)))) else (if y3 = (1 : Int32) then (if (σ 3 p1.toNatClampNeg) = (0 : Int32) then ((0 : Int32), (oh_up σ 0 12 (0 : Int32))) else ((1 : Int32), (oh_up σ 0 12 (0 : Int32)))) else (if y3 = (2 : Int32) then (if (σ 4 p1.toNatClampNeg) = (0 : Int32) then ((0 : Int32), (oh_up σ 0 12 (0 : Int32))) else ((1 : Int32), (oh_up σ 0 12 (0 : Int32)))) else (if y3 = (3 : Int32) then (if (8 : Int32) ≤ p1 then ((σ 15 p1.toNatClampNeg), (oh_up σ 0 12 (0 : Int32))) else (if (σ 5 p1.toNatClampNeg) = (0 : Int32) then ((0 : Int32), (oh_up σ 0 12 (0 : Int32))) else ((1 : Int32), (oh_up σ 0 12 (0 : Int32))))) else (if y3 = (4 : Int32) then (if (8 : Int32) ≤ p1 then ((σ 14 p1.toNatClampNeg), (oh_up σ 0 12 (0 : Int32))) else ((σ 6 p1.toNatClampNeg), (oh_up σ 0 12 (0 : Int32)))) else (if y3 = (5 : Int32) then (if (8 : Int32) ≤ p1 then ((σ 16 p1.toNatClampNeg), (oh_up σ 0 12 (0 : Int32))) else ((σ 7 p1.toNatClampNeg), (oh_up σ 0 12 (0 : Int32)))) else (if y3 = (6 : Int32) then (if (8 : Int32) ≤ p1 then (if (σ 12 p1.toNatClampNeg) = (0 : Int32) then ((1 : Int32), (oh_up σ 0 12 (0 : Int32))) else ((0 : Int32), (oh_up σ 0 12 (0 : Int32)))) else (if (σ 8 p1.toNatClampNeg) = (0 : Int32) then ((0 : Int32), (oh_up σ 0 12 (0 : Int32))) else ((1 : Int32), (oh_up σ 0 12 (0 : Int32))))) else (if y3 = (7 : Int32) then (if (8 : Int32) ≤ p1 then ((σ 13 p1.toNatClampNeg), (oh_up σ 0 12 (0 : Int32))) else ((σ 9 p1.toNatClampNeg), (oh_up σ 0 12 (0 : Int32)))) else (if y3 = (8 : Int32) then (if (8 : Int32) ≤ p1 then ((σ 17 p1.toNatClampNeg), (oh_up σ 0 12 (0 : Int32))) else ((σ 10 p1.toNatClampNeg), (oh_up σ 0 12 (0 : Int32)))) else ((-1 : Int32), (oh_up σ 0 12 (0 : Int32))))))))))))) else ((-1 : Int32), (oh_up σ 0 12 (0 : Int32)))))
set_option maxHeartbeats 8000000 in
set_option maxRecDepth 100000 in
theorem mtX8_code (l : Launch) (a : Nat → Nat) (k : Nat → ClassId) (D : va_G) (σ : oh_St) (p1 : Int32) (p2 : Int32) : oh_Mi l yX8_code wsX8_code { frames := 0, cells := 0, slots := 0, locals := 0 } D (oh_ty k) (oh_V a k) [.ref (a 0), .int p1, .int p2] σ (fun r u => r = (spX8_code σ p1 p2).1 ∧ u = (spX8_code σ p1 p2).2) := by
  refine oh_ini (cc := cX8_code) (nL := 3) (rt := some .int) (by decide) rfl (Nat.le_of_ble_eq_true rfl) ?_
  intro p e s m below meth c A ls hC hP hD hS hl
  obtain ⟨hx, hb, hml, hown, hts, hr, hlocks, hK, hN, hA⟩ := id hC
  have hl : lv_has ls 3 [(0, .ref (a 0)), (1, .int p1), (2, .int p2)] := hl
  refine lv_aload_n hx hb dX8_code_0 rfl (lv_at hl 0 rfl) ?_
  refine lv_iconst (v := (0 : Int32)) hx hb dX8_code_1 (by decide) ?_
  refine oh_put (σ' := (oh_up σ 0 12 (0 : Int32))) (v := .int (0 : Int32)) hC hP hD hS inX8_code_X8 tyX8 tyX8_ok nmX8 0 rfl rfl 0 (by decide) (by decide +kernel) rfl rfl rfl (by simp) rfl dX8_code_2 (fun H locs hP hD hS => ?_)
  refine lv_iload_n hx hb dX8_code_5 rfl (lv_at hl 1 rfl) ?_
  refine lv_bipush (v := (6 : Int32)) hx hb dX8_code_6 (by decide) ?_
  refine lv_icmp_lt (tgt := 17) hx hb dX8_code_8 (by decide) (fun c1 => ?_) (fun c1 => ?_)
  · refine lv_iconst (v := (-1 : Int32)) hx hb dX8_code_17 (by decide) ?_
    exact oh_reti (v := (-1 : Int32)) (u := (oh_up σ 0 12 (0 : Int32))) hC hP hD hS (oh_pair (by exact (if_pos c1).symm)) dX8_code_18
  · refine lv_iload_n hx hb dX8_code_11 rfl (lv_at hl 1 rfl) ?_
    refine lv_bipush (v := (12 : Int32)) hx hb dX8_code_12 (by decide) ?_
    refine lv_icmp_lt (tgt := 19) hx hb dX8_code_14 (by decide) (fun c2 => ?_) (fun c2 => ?_)
    · refine lv_iload_n hx hb dX8_code_19 rfl (lv_at hl 2 rfl) ?_
      refine lv_topi (fun y3 hy3 => ?_)
      by_cases c4 : y3 = (0 : Int32)
      · refine lv_tableIn (tgt := 72) hx hb dX8_code_20 (by rw [c4]; decide) (by rw [c4]; decide) (by rw [c4]; rfl) (by decide) ?_
        refine lv_aload_n hx hb dX8_code_72 rfl (lv_at hl 0 rfl) ?_
        refine oh_get (v := .ref (a 2)) hC hP inX8_code_X8 0 rfl rfl 17 (by decide) (by decide +kernel) rfl dX8_code_73 ?_
        refine lv_iload_n hx hb dX8_code_76 rfl (lv_at hl 1 rfl) ?_
        refine oh_zald hC hP 2 4 rfl rfl (oh_in6 c1 (oh_lt2 c2)) dX8_code_77 ?_
        refine lv_if_eq (tgt := 85) hx hb dX8_code_78 (by decide) (fun c5 => ?_) (fun c5 => ?_)
        · refine lv_iconst (v := (0 : Int32)) hx hb dX8_code_85 (by decide) ?_
          exact oh_reti (v := (0 : Int32)) (u := (oh_up σ 0 12 (0 : Int32))) hC hP hD hS (oh_pair (by subst hy3; exact ((((if_neg c1).trans (if_pos c2)).trans (if_pos c4)).trans (if_pos c5)).symm)) dX8_code_86
        · refine lv_iconst (v := (1 : Int32)) hx hb dX8_code_81 (by decide) ?_
          refine lv_goto (tgt := 86) hx hb dX8_code_82 (by decide) ?_
          exact oh_reti (v := (1 : Int32)) (u := (oh_up σ 0 12 (0 : Int32))) hC hP hD hS (oh_pair (by subst hy3; exact ((((if_neg c1).trans (if_pos c2)).trans (if_pos c4)).trans (if_neg c5)).symm)) dX8_code_86
      by_cases c6 : y3 = (1 : Int32)
      · refine lv_tableIn (tgt := 87) hx hb dX8_code_20 (by rw [c6]; decide) (by rw [c6]; decide) (by rw [c6]; rfl) (by decide) ?_
        refine lv_aload_n hx hb dX8_code_87 rfl (lv_at hl 0 rfl) ?_
        refine oh_get (v := .ref (a 3)) hC hP inX8_code_X8 0 rfl rfl 18 (by decide) (by decide +kernel) rfl dX8_code_88 ?_
        refine lv_iload_n hx hb dX8_code_91 rfl (lv_at hl 1 rfl) ?_
        refine oh_zald hC hP 3 4 rfl rfl (oh_in6 c1 (oh_lt2 c2)) dX8_code_92 ?_
        refine lv_if_eq (tgt := 100) hx hb dX8_code_93 (by decide) (fun c7 => ?_) (fun c7 => ?_)
        · refine lv_iconst (v := (0 : Int32)) hx hb dX8_code_100 (by decide) ?_
          exact oh_reti (v := (0 : Int32)) (u := (oh_up σ 0 12 (0 : Int32))) hC hP hD hS (oh_pair (by subst hy3; exact (((((if_neg c1).trans (if_pos c2)).trans (if_neg c4)).trans (if_pos c6)).trans (if_pos c7)).symm)) dX8_code_101
        · refine lv_iconst (v := (1 : Int32)) hx hb dX8_code_96 (by decide) ?_
          refine lv_goto (tgt := 101) hx hb dX8_code_97 (by decide) ?_
          exact oh_reti (v := (1 : Int32)) (u := (oh_up σ 0 12 (0 : Int32))) hC hP hD hS (oh_pair (by subst hy3; exact (((((if_neg c1).trans (if_pos c2)).trans (if_neg c4)).trans (if_pos c6)).trans (if_neg c7)).symm)) dX8_code_101
      by_cases c8 : y3 = (2 : Int32)
      · refine lv_tableIn (tgt := 102) hx hb dX8_code_20 (by rw [c8]; decide) (by rw [c8]; decide) (by rw [c8]; rfl) (by decide) ?_
        refine lv_aload_n hx hb dX8_code_102 rfl (lv_at hl 0 rfl) ?_
        refine oh_get (v := .ref (a 4)) hC hP inX8_code_X8 0 rfl rfl 19 (by decide) (by decide +kernel) rfl dX8_code_103 ?_
        refine lv_iload_n hx hb dX8_code_106 rfl (lv_at hl 1 rfl) ?_
        refine oh_zald hC hP 4 4 rfl rfl (oh_in6 c1 (oh_lt2 c2)) dX8_code_107 ?_
        refine lv_if_eq (tgt := 115) hx hb dX8_code_108 (by decide) (fun c9 => ?_) (fun c9 => ?_)
        · refine lv_iconst (v := (0 : Int32)) hx hb dX8_code_115 (by decide) ?_
          exact oh_reti (v := (0 : Int32)) (u := (oh_up σ 0 12 (0 : Int32))) hC hP hD hS (oh_pair (by subst hy3; exact ((((((if_neg c1).trans (if_pos c2)).trans (if_neg c4)).trans (if_neg c6)).trans (if_pos c8)).trans (if_pos c9)).symm)) dX8_code_116
        · refine lv_iconst (v := (1 : Int32)) hx hb dX8_code_111 (by decide) ?_
          refine lv_goto (tgt := 116) hx hb dX8_code_112 (by decide) ?_
          exact oh_reti (v := (1 : Int32)) (u := (oh_up σ 0 12 (0 : Int32))) hC hP hD hS (oh_pair (by subst hy3; exact ((((((if_neg c1).trans (if_pos c2)).trans (if_neg c4)).trans (if_neg c6)).trans (if_pos c8)).trans (if_neg c9)).symm)) dX8_code_116
      by_cases c10 : y3 = (3 : Int32)
      · refine lv_tableIn (tgt := 117) hx hb dX8_code_20 (by rw [c10]; decide) (by rw [c10]; decide) (by rw [c10]; rfl) (by decide) ?_
        refine lv_iload_n hx hb dX8_code_117 rfl (lv_at hl 1 rfl) ?_
        refine lv_bipush (v := (8 : Int32)) hx hb dX8_code_118 (by decide) ?_
        refine lv_icmp_ge (tgt := 140) hx hb dX8_code_120 (by decide) (fun c11 => ?_) (fun c11 => ?_)
        · refine lv_aload_n hx hb dX8_code_140 rfl (lv_at hl 0 rfl) ?_
          refine oh_get (v := .ref (a 15)) hC hP inX8_code_X8 0 rfl rfl 30 (by decide) (by decide +kernel) rfl dX8_code_141 ?_
          refine lv_iload_n hx hb dX8_code_144 rfl (lv_at hl 1 rfl) ?_
          refine oh_iald hC hP 15 0 rfl rfl (oh_in6 c1 (oh_lt2 c2)) dX8_code_145 ?_
          exact oh_reti (v := (σ 15 p1.toNatClampNeg)) (u := (oh_up σ 0 12 (0 : Int32))) hC hP hD hS (oh_pair (by subst hy3; exact (((((((if_neg c1).trans (if_pos c2)).trans (if_neg c4)).trans (if_neg c6)).trans (if_neg c8)).trans (if_pos c10)).trans (if_pos c11)).symm)) dX8_code_146
        · refine lv_aload_n hx hb dX8_code_123 rfl (lv_at hl 0 rfl) ?_
          refine oh_get (v := .ref (a 5)) hC hP inX8_code_X8 0 rfl rfl 20 (by decide) (by decide +kernel) rfl dX8_code_124 ?_
          refine lv_iload_n hx hb dX8_code_127 rfl (lv_at hl 1 rfl) ?_
          refine oh_zald hC hP 5 4 rfl rfl (oh_in6 c1 (oh_lt2 c2)) dX8_code_128 ?_
          refine lv_if_eq (tgt := 136) hx hb dX8_code_129 (by decide) (fun c12 => ?_) (fun c12 => ?_)
          · refine lv_iconst (v := (0 : Int32)) hx hb dX8_code_136 (by decide) ?_
            refine lv_goto (tgt := 146) hx hb dX8_code_137 (by decide) ?_
            exact oh_reti (v := (0 : Int32)) (u := (oh_up σ 0 12 (0 : Int32))) hC hP hD hS (oh_pair (by subst hy3; exact ((((((((if_neg c1).trans (if_pos c2)).trans (if_neg c4)).trans (if_neg c6)).trans (if_neg c8)).trans (if_pos c10)).trans (if_neg c11)).trans (if_pos c12)).symm)) dX8_code_146
          · refine lv_iconst (v := (1 : Int32)) hx hb dX8_code_132 (by decide) ?_
            refine lv_goto (tgt := 146) hx hb dX8_code_133 (by decide) ?_
            exact oh_reti (v := (1 : Int32)) (u := (oh_up σ 0 12 (0 : Int32))) hC hP hD hS (oh_pair (by subst hy3; exact ((((((((if_neg c1).trans (if_pos c2)).trans (if_neg c4)).trans (if_neg c6)).trans (if_neg c8)).trans (if_pos c10)).trans (if_neg c11)).trans (if_neg c12)).symm)) dX8_code_146
      by_cases c13 : y3 = (4 : Int32)
      · refine lv_tableIn (tgt := 147) hx hb dX8_code_20 (by rw [c13]; decide) (by rw [c13]; decide) (by rw [c13]; rfl) (by decide) ?_
        refine lv_iload_n hx hb dX8_code_147 rfl (lv_at hl 1 rfl) ?_
        refine lv_bipush (v := (8 : Int32)) hx hb dX8_code_148 (by decide) ?_
        refine lv_icmp_ge (tgt := 162) hx hb dX8_code_150 (by decide) (fun c14 => ?_) (fun c14 => ?_)
        · refine lv_aload_n hx hb dX8_code_162 rfl (lv_at hl 0 rfl) ?_
          refine oh_get (v := .ref (a 14)) hC hP inX8_code_X8 0 rfl rfl 29 (by decide) (by decide +kernel) rfl dX8_code_163 ?_
          refine lv_iload_n hx hb dX8_code_166 rfl (lv_at hl 1 rfl) ?_
          refine oh_iald hC hP 14 0 rfl rfl (oh_in6 c1 (oh_lt2 c2)) dX8_code_167 ?_
          exact oh_reti (v := (σ 14 p1.toNatClampNeg)) (u := (oh_up σ 0 12 (0 : Int32))) hC hP hD hS (oh_pair (by subst hy3; exact ((((((((if_neg c1).trans (if_pos c2)).trans (if_neg c4)).trans (if_neg c6)).trans (if_neg c8)).trans (if_neg c10)).trans (if_pos c13)).trans (if_pos c14)).symm)) dX8_code_168
        · refine lv_aload_n hx hb dX8_code_153 rfl (lv_at hl 0 rfl) ?_
          refine oh_get (v := .ref (a 8)) hC hP inX8_code_X8 0 rfl rfl 23 (by decide) (by decide +kernel) rfl dX8_code_154 ?_
          refine lv_iload_n hx hb dX8_code_157 rfl (lv_at hl 1 rfl) ?_
          refine oh_iald hC hP 8 0 rfl rfl (oh_in6 c1 (oh_lt2 c2)) dX8_code_158 ?_
          refine lv_goto (tgt := 168) hx hb dX8_code_159 (by decide) ?_
          exact oh_reti (v := (σ 6 p1.toNatClampNeg)) (u := (oh_up σ 0 12 (0 : Int32))) hC hP hD hS (oh_pair (by subst hy3; exact ((((((((if_neg c1).trans (if_pos c2)).trans (if_neg c4)).trans (if_neg c6)).trans (if_neg c8)).trans (if_neg c10)).trans (if_pos c13)).trans (if_neg c14)).symm)) dX8_code_168
      by_cases c15 : y3 = (5 : Int32)
      · refine lv_tableIn (tgt := 169) hx hb dX8_code_20 (by rw [c15]; decide) (by rw [c15]; decide) (by rw [c15]; rfl) (by decide) ?_
        refine lv_iload_n hx hb dX8_code_169 rfl (lv_at hl 1 rfl) ?_
        refine lv_bipush (v := (8 : Int32)) hx hb dX8_code_170 (by decide) ?_
        refine lv_icmp_ge (tgt := 184) hx hb dX8_code_172 (by decide) (fun c16 => ?_) (fun c16 => ?_)
        · refine lv_aload_n hx hb dX8_code_184 rfl (lv_at hl 0 rfl) ?_
          refine oh_get (v := .ref (a 16)) hC hP inX8_code_X8 0 rfl rfl 31 (by decide) (by decide +kernel) rfl dX8_code_185 ?_
          refine lv_iload_n hx hb dX8_code_188 rfl (lv_at hl 1 rfl) ?_
          refine oh_iald hC hP 16 0 rfl rfl (oh_in6 c1 (oh_lt2 c2)) dX8_code_189 ?_
          exact oh_reti (v := (σ 16 p1.toNatClampNeg)) (u := (oh_up σ 0 12 (0 : Int32))) hC hP hD hS (oh_pair (by subst hy3; exact (((((((((if_neg c1).trans (if_pos c2)).trans (if_neg c4)).trans (if_neg c6)).trans (if_neg c8)).trans (if_neg c10)).trans (if_neg c13)).trans (if_pos c15)).trans (if_pos c16)).symm)) dX8_code_190
        · refine lv_aload_n hx hb dX8_code_175 rfl (lv_at hl 0 rfl) ?_
          refine oh_get (v := .ref (a 9)) hC hP inX8_code_X8 0 rfl rfl 24 (by decide) (by decide +kernel) rfl dX8_code_176 ?_
          refine lv_iload_n hx hb dX8_code_179 rfl (lv_at hl 1 rfl) ?_
          refine oh_iald hC hP 9 0 rfl rfl (oh_in6 c1 (oh_lt2 c2)) dX8_code_180 ?_
          refine lv_goto (tgt := 190) hx hb dX8_code_181 (by decide) ?_
          exact oh_reti (v := (σ 7 p1.toNatClampNeg)) (u := (oh_up σ 0 12 (0 : Int32))) hC hP hD hS (oh_pair (by subst hy3; exact (((((((((if_neg c1).trans (if_pos c2)).trans (if_neg c4)).trans (if_neg c6)).trans (if_neg c8)).trans (if_neg c10)).trans (if_neg c13)).trans (if_pos c15)).trans (if_neg c16)).symm)) dX8_code_190
      by_cases c17 : y3 = (6 : Int32)
      · refine lv_tableIn (tgt := 191) hx hb dX8_code_20 (by rw [c17]; decide) (by rw [c17]; decide) (by rw [c17]; rfl) (by decide) ?_
        refine lv_iload_n hx hb dX8_code_191 rfl (lv_at hl 1 rfl) ?_
        refine lv_bipush (v := (8 : Int32)) hx hb dX8_code_192 (by decide) ?_
        refine lv_icmp_ge (tgt := 214) hx hb dX8_code_194 (by decide) (fun c18 => ?_) (fun c18 => ?_)
        · refine lv_aload_n hx hb dX8_code_214 rfl (lv_at hl 0 rfl) ?_
          refine oh_get (v := .ref (a 12)) hC hP inX8_code_X8 0 rfl rfl 27 (by decide) (by decide +kernel) rfl dX8_code_215 ?_
          refine lv_iload_n hx hb dX8_code_218 rfl (lv_at hl 1 rfl) ?_
          refine oh_zald hC hP 12 4 rfl rfl (oh_in6 c1 (oh_lt2 c2)) dX8_code_219 ?_
          refine lv_if_eq (tgt := 227) hx hb dX8_code_220 (by decide) (fun c19 => ?_) (fun c19 => ?_)
          · refine lv_iconst (v := (1 : Int32)) hx hb dX8_code_227 (by decide) ?_
            exact oh_reti (v := (1 : Int32)) (u := (oh_up σ 0 12 (0 : Int32))) hC hP hD hS (oh_pair (by subst hy3; exact (((((((((((if_neg c1).trans (if_pos c2)).trans (if_neg c4)).trans (if_neg c6)).trans (if_neg c8)).trans (if_neg c10)).trans (if_neg c13)).trans (if_neg c15)).trans (if_pos c17)).trans (if_pos c18)).trans (if_pos c19)).symm)) dX8_code_228
          · refine lv_iconst (v := (0 : Int32)) hx hb dX8_code_223 (by decide) ?_
            refine lv_goto (tgt := 228) hx hb dX8_code_224 (by decide) ?_
            exact oh_reti (v := (0 : Int32)) (u := (oh_up σ 0 12 (0 : Int32))) hC hP hD hS (oh_pair (by subst hy3; exact (((((((((((if_neg c1).trans (if_pos c2)).trans (if_neg c4)).trans (if_neg c6)).trans (if_neg c8)).trans (if_neg c10)).trans (if_neg c13)).trans (if_neg c15)).trans (if_pos c17)).trans (if_pos c18)).trans (if_neg c19)).symm)) dX8_code_228
        · refine lv_aload_n hx hb dX8_code_197 rfl (lv_at hl 0 rfl) ?_
          refine oh_get (v := .ref (a 6)) hC hP inX8_code_X8 0 rfl rfl 21 (by decide) (by decide +kernel) rfl dX8_code_198 ?_
          refine lv_iload_n hx hb dX8_code_201 rfl (lv_at hl 1 rfl) ?_
          refine oh_zald hC hP 6 4 rfl rfl (oh_in6 c1 (oh_lt2 c2)) dX8_code_202 ?_
          refine lv_if_eq (tgt := 210) hx hb dX8_code_203 (by decide) (fun c20 => ?_) (fun c20 => ?_)
          · refine lv_iconst (v := (0 : Int32)) hx hb dX8_code_210 (by decide) ?_
            refine lv_goto (tgt := 228) hx hb dX8_code_211 (by decide) ?_
            exact oh_reti (v := (0 : Int32)) (u := (oh_up σ 0 12 (0 : Int32))) hC hP hD hS (oh_pair (by subst hy3; exact (((((((((((if_neg c1).trans (if_pos c2)).trans (if_neg c4)).trans (if_neg c6)).trans (if_neg c8)).trans (if_neg c10)).trans (if_neg c13)).trans (if_neg c15)).trans (if_pos c17)).trans (if_neg c18)).trans (if_pos c20)).symm)) dX8_code_228
          · refine lv_iconst (v := (1 : Int32)) hx hb dX8_code_206 (by decide) ?_
            refine lv_goto (tgt := 228) hx hb dX8_code_207 (by decide) ?_
            exact oh_reti (v := (1 : Int32)) (u := (oh_up σ 0 12 (0 : Int32))) hC hP hD hS (oh_pair (by subst hy3; exact (((((((((((if_neg c1).trans (if_pos c2)).trans (if_neg c4)).trans (if_neg c6)).trans (if_neg c8)).trans (if_neg c10)).trans (if_neg c13)).trans (if_neg c15)).trans (if_pos c17)).trans (if_neg c18)).trans (if_neg c20)).symm)) dX8_code_228
      by_cases c21 : y3 = (7 : Int32)
      · refine lv_tableIn (tgt := 229) hx hb dX8_code_20 (by rw [c21]; decide) (by rw [c21]; decide) (by rw [c21]; rfl) (by decide) ?_
        refine lv_iload_n hx hb dX8_code_229 rfl (lv_at hl 1 rfl) ?_
        refine lv_bipush (v := (8 : Int32)) hx hb dX8_code_230 (by decide) ?_
        refine lv_icmp_ge (tgt := 244) hx hb dX8_code_232 (by decide) (fun c22 => ?_) (fun c22 => ?_)
        · refine lv_aload_n hx hb dX8_code_244 rfl (lv_at hl 0 rfl) ?_
          refine oh_get (v := .ref (a 13)) hC hP inX8_code_X8 0 rfl rfl 28 (by decide) (by decide +kernel) rfl dX8_code_245 ?_
          refine lv_iload_n hx hb dX8_code_248 rfl (lv_at hl 1 rfl) ?_
          refine oh_iald hC hP 13 0 rfl rfl (oh_in6 c1 (oh_lt2 c2)) dX8_code_249 ?_
          exact oh_reti (v := (σ 13 p1.toNatClampNeg)) (u := (oh_up σ 0 12 (0 : Int32))) hC hP hD hS (oh_pair (by subst hy3; exact (((((((((((if_neg c1).trans (if_pos c2)).trans (if_neg c4)).trans (if_neg c6)).trans (if_neg c8)).trans (if_neg c10)).trans (if_neg c13)).trans (if_neg c15)).trans (if_neg c17)).trans (if_pos c21)).trans (if_pos c22)).symm)) dX8_code_250
        · refine lv_aload_n hx hb dX8_code_235 rfl (lv_at hl 0 rfl) ?_
          refine oh_get (v := .ref (a 10)) hC hP inX8_code_X8 0 rfl rfl 25 (by decide) (by decide +kernel) rfl dX8_code_236 ?_
          refine lv_iload_n hx hb dX8_code_239 rfl (lv_at hl 1 rfl) ?_
          refine oh_iald hC hP 10 0 rfl rfl (oh_in6 c1 (oh_lt2 c2)) dX8_code_240 ?_
          refine lv_goto (tgt := 250) hx hb dX8_code_241 (by decide) ?_
          exact oh_reti (v := (σ 9 p1.toNatClampNeg)) (u := (oh_up σ 0 12 (0 : Int32))) hC hP hD hS (oh_pair (by subst hy3; exact (((((((((((if_neg c1).trans (if_pos c2)).trans (if_neg c4)).trans (if_neg c6)).trans (if_neg c8)).trans (if_neg c10)).trans (if_neg c13)).trans (if_neg c15)).trans (if_neg c17)).trans (if_pos c21)).trans (if_neg c22)).symm)) dX8_code_250
      by_cases c23 : y3 = (8 : Int32)
      · refine lv_tableIn (tgt := 251) hx hb dX8_code_20 (by rw [c23]; decide) (by rw [c23]; decide) (by rw [c23]; rfl) (by decide) ?_
        refine lv_iload_n hx hb dX8_code_251 rfl (lv_at hl 1 rfl) ?_
        refine lv_bipush (v := (8 : Int32)) hx hb dX8_code_252 (by decide) ?_
        refine lv_icmp_ge (tgt := 266) hx hb dX8_code_254 (by decide) (fun c24 => ?_) (fun c24 => ?_)
        · refine lv_aload_n hx hb dX8_code_266 rfl (lv_at hl 0 rfl) ?_
          refine oh_get (v := .ref (a 17)) hC hP inX8_code_X8 0 rfl rfl 32 (by decide) (by decide +kernel) rfl dX8_code_267 ?_
          refine lv_iload_n hx hb dX8_code_270 rfl (lv_at hl 1 rfl) ?_
          refine oh_iald hC hP 17 0 rfl rfl (oh_in6 c1 (oh_lt2 c2)) dX8_code_271 ?_
          exact oh_reti (v := (σ 17 p1.toNatClampNeg)) (u := (oh_up σ 0 12 (0 : Int32))) hC hP hD hS (oh_pair (by subst hy3; exact ((((((((((((if_neg c1).trans (if_pos c2)).trans (if_neg c4)).trans (if_neg c6)).trans (if_neg c8)).trans (if_neg c10)).trans (if_neg c13)).trans (if_neg c15)).trans (if_neg c17)).trans (if_neg c21)).trans (if_pos c23)).trans (if_pos c24)).symm)) dX8_code_272
        · refine lv_aload_n hx hb dX8_code_257 rfl (lv_at hl 0 rfl) ?_
          refine oh_get (v := .ref (a 11)) hC hP inX8_code_X8 0 rfl rfl 26 (by decide) (by decide +kernel) rfl dX8_code_258 ?_
          refine lv_iload_n hx hb dX8_code_261 rfl (lv_at hl 1 rfl) ?_
          refine oh_iald hC hP 11 0 rfl rfl (oh_in6 c1 (oh_lt2 c2)) dX8_code_262 ?_
          refine lv_goto (tgt := 272) hx hb dX8_code_263 (by decide) ?_
          exact oh_reti (v := (σ 10 p1.toNatClampNeg)) (u := (oh_up σ 0 12 (0 : Int32))) hC hP hD hS (oh_pair (by subst hy3; exact ((((((((((((if_neg c1).trans (if_pos c2)).trans (if_neg c4)).trans (if_neg c6)).trans (if_neg c8)).trans (if_neg c10)).trans (if_neg c13)).trans (if_neg c15)).trans (if_neg c17)).trans (if_neg c21)).trans (if_pos c23)).trans (if_neg c24)).symm)) dX8_code_272
      refine lv_tableOut (tgt := 273) hx hb dX8_code_20 (by have hh := True.intro; have : (∀ z : Int32, y3.toInt = z.toInt → y3 = z) := fun z e => Int32.toInt_inj.mp e; have hc4 : y3.toInt ≠ 0 := oh_ne c4; have hc6 : y3.toInt ≠ 1 := oh_ne c6; have hc8 : y3.toInt ≠ 2 := oh_ne c8; have hc10 : y3.toInt ≠ 3 := oh_ne c10; have hc13 : y3.toInt ≠ 4 := oh_ne c13; have hc15 : y3.toInt ≠ 5 := oh_ne c15; have hc17 : y3.toInt ≠ 6 := oh_ne c17; have hc21 : y3.toInt ≠ 7 := oh_ne c21; have hc23 : y3.toInt ≠ 8 := oh_ne c23; omega) (by decide) ?_
      refine lv_iconst (v := (-1 : Int32)) hx hb dX8_code_273 (by decide) ?_
      exact oh_reti (v := (-1 : Int32)) (u := (oh_up σ 0 12 (0 : Int32))) hC hP hD hS (oh_pair (by subst hy3; exact (((((((((((if_neg c1).trans (if_pos c2)).trans (if_neg c4)).trans (if_neg c6)).trans (if_neg c8)).trans (if_neg c10)).trans (if_neg c13)).trans (if_neg c15)).trans (if_neg c17)).trans (if_neg c21)).trans (if_neg c23)).symm)) dX8_code_274
    · refine lv_iconst (v := (-1 : Int32)) hx hb dX8_code_17 (by decide) ?_
      exact oh_reti (v := (-1 : Int32)) (u := (oh_up σ 0 12 (0 : Int32))) hC hP hD hS (oh_pair (by exact ((if_neg c1).trans (if_neg c2)).symm)) dX8_code_18
-- OctalHouseModel.sum
theorem inX8_sum__X8 : ∀ w ∈ u_ws RX8 TX8 35, w ∈ wsX8_sum_ := by decide +kernel
def lpX8_sum_ : Nat → oh_St → Int32 → Int32 → Int32 × oh_St
  | 0, z, x, i => (x, z)
  | f + 1, z, x, i => (if (4096 : Int32) ≤ i then (x, z) else (let r2 : Int32 := (spX8_at z i); (lpX8_sum_ f z (((31 : Int32) * x) + r2) (i + (1 : Int32)))))
def spX8_sum_ (σ : oh_St) : Int32 × oh_St := (lpX8_sum_ 4097 (oh_up σ 0 12 (0 : Int32)) (0 : Int32) (0 : Int32))
set_option maxHeartbeats 8000000 in
set_option maxRecDepth 100000 in
theorem mtX8_sum_ (l : Launch) (a : Nat → Nat) (k : Nat → ClassId) (D : va_G) (σ : oh_St)  : oh_Mi l yX8_sum_ wsX8_sum_ { frames := 1, cells := 0, slots := 0, locals := 21 } D (oh_ty k) (oh_V a k) [.ref (a 0)] σ (fun r u => r = (spX8_sum_ σ).1 ∧ u = (spX8_sum_ σ).2) := by
  refine oh_ini (cc := cX8_sum_) (nL := 3) (rt := some .int) (by decide) rfl (Nat.le_of_ble_eq_true rfl) ?_
  intro p e s m below meth c A ls hC hP hD hS hl
  obtain ⟨hx, hb, hml, hown, hts, hr, hlocks, hK, hN, hA⟩ := id hC
  have hl : lv_has ls 3 [(0, .ref (a 0))] := hl
  refine lv_aload_n hx hb dX8_sum__0 rfl (lv_at hl 0 rfl) ?_
  refine lv_iconst (v := (0 : Int32)) hx hb dX8_sum__1 (by decide) ?_
  refine oh_put (σ' := (oh_up σ 0 12 (0 : Int32))) (v := .int (0 : Int32)) hC hP hD hS inX8_sum__X8 tyX8 tyX8_ok nmX8 0 rfl rfl 0 (by decide) (by decide +kernel) rfl rfl rfl (by simp) rfl dX8_sum__2 (fun H locs hP hD hS => ?_)
  refine lv_iconst (v := (0 : Int32)) hx hb dX8_sum__5 (by decide) ?_
  refine lv_istore_n (lv' := [(1, .int (0 : Int32)), (0, .ref (a 0))]) hx hb dX8_sum__6 rfl hl (by decide) rfl (fun ls hl => ?_)
  refine lv_iconst (v := (0 : Int32)) hx hb dX8_sum__7 (by decide) ?_
  refine lv_istore_n (lv' := [(2, .int (0 : Int32)), (1, .int (0 : Int32)), (0, .ref (a 0))]) hx hb dX8_sum__8 rfl hl (by decide) rfl (fun ls hl => ?_)
  have LP : ∀ (f : Nat) (z : oh_St) (x : Int32) (i : Int32), (∃ j : Nat, i = nI j ∧ j + f = 4096 + 1 ∧ j ≤ 4096) → lpX8_sum_ f z x i = spX8_sum_ σ → ∀ (ls : Array Slot) (H : Heap) (locs : List Loc), va_P D vwCl (oh_V a k z) H → va_D A (oh_V a k z) → va_S A s.heap H locs → lv_has ls 3 [(2, .int i), (1, .int x), (0, .ref (a 0))] → W p l e ({ frames := 1, cells := 0, slots := 0, locals := 21 } : Room) s m (([.ref (a 0)] : List Value).toArray) below meth c H locs 0 0 (oh_Ei below (fun r u => r = (spX8_sum_ σ).1 ∧ u = (spX8_sum_ σ).2) D (oh_V a k) A [.ref (a 0)] s) (F0 m 9 ls []) := by
    intro f
    induction f with
    | zero => intro z x i hI; exact absurd hI (oh_cnt0)
    | succ f ih =>
      intro z x i hI hk ls H locs hP hD hS hl
      refine lv_iload_n hx hb dX8_sum__9 rfl (lv_at hl 0 rfl) ?_
      refine lv_sipush (v := (4096 : Int32)) hx hb dX8_sum__10 (by decide) ?_
      refine lv_icmp_ge (tgt := 33) hx hb dX8_sum__13 (by decide) (fun c1 => ?_) (fun c1 => ?_)
      · refine lv_iload_n hx hb dX8_sum__33 rfl (lv_at hl 1 rfl) ?_
        exact oh_reti (v := x) (u := z) hC hP hD hS (oh_pair (by exact ((if_pos c1).symm).trans hk)) dX8_sum__34
      · refine lv_bipush (v := (31 : Int32)) hx hb dX8_sum__16 (by decide) ?_
        refine lv_iload_n hx hb dX8_sum__18 rfl (lv_at hl 1 rfl) ?_
        refine lv_imul hx hb dX8_sum__19 ?_
        refine lv_aload_n hx hb dX8_sum__20 rfl (lv_at hl 2 rfl) ?_
        refine lv_iload_n hx hb dX8_sum__21 rfl (lv_at hl 0 rfl) ?_
        refine oh_cvp (As := [.int i]) (rest := [.int ((31 : Int32) * x)]) hC hP hD hS (mtX8_at l a k D z i (oh_cntn (by decide) hI)) (cwV 1 hts gX8_sum__X8_at rfl rfl rfl (by decide +kernel) ⟨Nat.le_of_ble_eq_true rfl, Nat.le_of_ble_eq_true rfl⟩) 0 8 rfl rfl rfl hl.1 rfl (Nat.le_of_ble_eq_true rfl) dX8_sum__22 (fun r2 H locs hr2 hP hD hS => ?_)
        refine lv_iadd hx hb dX8_sum__25 ?_
        refine lv_istore_n (lv' := [(1, .int (((31 : Int32) * x) + r2)), (2, .int i), (0, .ref (a 0))]) hx hb dX8_sum__26 rfl hl (by decide) rfl (fun ls hl => ?_)
        refine lv_iinc (v := (i + (1 : Int32))) (lv' := [(2, .int (i + (1 : Int32))), (1, .int (((31 : Int32) * x) + r2)), (0, .ref (a 0))]) hx hb dX8_sum__27 hl (k := 1) rfl (by first | rfl | decide) (by decide) rfl (fun ls hl => ?_)
        refine lv_goto (tgt := 9) hx hb dX8_sum__30 (by decide) ?_
        exact ih z (((31 : Int32) * x) + r2) (i + (1 : Int32)) (oh_cnt (M := 4096) rfl (by decide) hI c1) ((by subst hr2; exact ((if_neg c1).symm).trans hk)) ls _ _ hP hD hS (lv_sub hl [0, 1, 2] rfl)
  exact LP 4097 (oh_up σ 0 12 (0 : Int32)) (0 : Int32) (0 : Int32) ⟨0, rfl, rfl, by decide⟩ (rfl) ls _ _ hP hD hS (lv_sub hl [0, 1, 2] rfl)
