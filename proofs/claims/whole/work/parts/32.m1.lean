-- OctalHouseModel.thrown
theorem inX8_thrown_X8 : ∀ w ∈ u_ws RX8 TX8 35, w ∈ wsX8_thrown := by decide +kernel
def spX8_thrown (σ : oh_St) : Int32 := (σ 0 12)
set_option maxHeartbeats 8000000 in
set_option maxRecDepth 100000 in
theorem mtX8_thrown (l : Launch) (a : Nat → Nat) (k : Nat → ClassId) (D : va_G) (σ : oh_St)  : oh_Mi l yX8_thrown wsX8_thrown { frames := 0, cells := 0, slots := 0, locals := 0 } D (oh_ty k) (oh_V a k) [.ref (a 0)] σ (fun r u => r = spX8_thrown σ ∧ u = σ) := by
  refine oh_ini (cc := cX8_thrown) (nL := 1) (rt := some .int) (by decide) rfl (Nat.le_of_ble_eq_true rfl) ?_
  intro p e s m below meth c A ls hC hP hD hS hl
  obtain ⟨hx, hb, hml, hown, hts, hr, hlocks, hK, hN, hA⟩ := id hC
  have hl : lv_has ls 1 [(0, .ref (a 0))] := hl
  refine lv_aload_n hx hb dX8_thrown_0 rfl (lv_at hl 0 rfl) ?_
  refine oh_get (v := .int (σ 0 12)) hC hP inX8_thrown_X8 0 rfl rfl 0 (by decide) (by decide +kernel) rfl dX8_thrown_1 ?_
  exact oh_reti (v := (σ 0 12)) (u := σ) hC hP hD hS ⟨(by exact rfl), rfl⟩ dX8_thrown_4
-- OctalHouseModel.at
theorem inX8_at_X8 : ∀ w ∈ u_ws RX8 TX8 35, w ∈ wsX8_at := by decide +kernel
def spX8_at (σ : oh_St) (p1 : Int32) : Int32 := (if p1 = (0 : Int32) then (σ 0 14) else (if p1 = (1 : Int32) then (σ 0 15) else (if (4096 : Int32) ≤ p1 then (0 : Int32) else (σ 1 p1.toNatClampNeg))))
set_option maxHeartbeats 8000000 in
set_option maxRecDepth 100000 in
theorem mtX8_at (l : Launch) (a : Nat → Nat) (k : Nat → ClassId) (D : va_G) (σ : oh_St) (p1 : Int32) (hn1 : ¬ p1 < 0) : oh_Mi l yX8_at wsX8_at { frames := 0, cells := 0, slots := 0, locals := 0 } D (oh_ty k) (oh_V a k) [.ref (a 0), .int p1] σ (fun r u => r = spX8_at σ p1 ∧ u = σ) := by
  refine oh_ini (cc := cX8_at) (nL := 2) (rt := some .int) (by decide) rfl (Nat.le_of_ble_eq_true rfl) ?_
  intro p e s m below meth c A ls hC hP hD hS hl
  obtain ⟨hx, hb, hml, hown, hts, hr, hlocks, hK, hN, hA⟩ := id hC
  have hl : lv_has ls 2 [(0, .ref (a 0)), (1, .int p1)] := hl
  refine lv_iload_n hx hb dX8_at_0 rfl (lv_at hl 1 rfl) ?_
  refine lv_if_ne (tgt := 11) hx hb dX8_at_1 (by decide) (fun c1 => ?_) (fun c1 => ?_)
  · refine lv_iload_n hx hb dX8_at_11 rfl (lv_at hl 1 rfl) ?_
    refine lv_iconst (v := (1 : Int32)) hx hb dX8_at_12 (by decide) ?_
    refine lv_icmp_ne (tgt := 23) hx hb dX8_at_13 (by decide) (fun c2 => ?_) (fun c2 => ?_)
    · refine lv_iload_n hx hb dX8_at_23 rfl (lv_at hl 1 rfl) ?_
      refine lv_sipush (v := (4096 : Int32)) hx hb dX8_at_24 (by decide) ?_
      refine lv_icmp_ge (tgt := 39) hx hb dX8_at_27 (by decide) (fun c3 => ?_) (fun c3 => ?_)
      · refine lv_iconst (v := (0 : Int32)) hx hb dX8_at_39 (by decide) ?_
        exact oh_reti (v := (0 : Int32)) (u := σ) hC hP hD hS ⟨(by exact (((if_neg c1).trans (if_neg c2)).trans (if_pos c3)).symm), rfl⟩ dX8_at_40
      · refine lv_aload_n hx hb dX8_at_30 rfl (lv_at hl 0 rfl) ?_
        refine oh_get (v := .ref (a 1)) hC hP inX8_at_X8 0 rfl rfl 1 (by decide) (by decide +kernel) rfl dX8_at_31 ?_
        refine lv_iload_n hx hb dX8_at_34 rfl (lv_at hl 1 rfl) ?_
        refine oh_iald hC hP 1 0 rfl rfl (oh_in hn1 c3 rfl) dX8_at_35 ?_
        refine lv_goto (tgt := 40) hx hb dX8_at_36 (by decide) ?_
        exact oh_reti (v := (σ 1 p1.toNatClampNeg)) (u := σ) hC hP hD hS ⟨(by exact (((if_neg c1).trans (if_neg c2)).trans (if_neg c3)).symm), rfl⟩ dX8_at_40
    · refine lv_aload_n hx hb dX8_at_16 rfl (lv_at hl 0 rfl) ?_
      refine oh_get (v := .int (σ 0 15)) hC hP inX8_at_X8 0 rfl rfl 3 (by decide) (by decide +kernel) rfl dX8_at_17 ?_
      refine lv_goto (tgt := 40) hx hb dX8_at_20 (by decide) ?_
      exact oh_reti (v := (σ 0 15)) (u := σ) hC hP hD hS ⟨(by exact ((if_neg c1).trans (if_pos c2)).symm), rfl⟩ dX8_at_40
  · refine lv_aload_n hx hb dX8_at_4 rfl (lv_at hl 0 rfl) ?_
    refine oh_get (v := .int (σ 0 14)) hC hP inX8_at_X8 0 rfl rfl 2 (by decide) (by decide +kernel) rfl dX8_at_5 ?_
    refine lv_goto (tgt := 40) hx hb dX8_at_8 (by decide) ?_
    exact oh_reti (v := (σ 0 14)) (u := σ) hC hP hD hS ⟨(by exact (if_pos c1).symm), rfl⟩ dX8_at_40
-- OctalHouseModel.put
theorem inX8_put_X8 : ∀ w ∈ u_ws RX8 TX8 35, w ∈ wsX8_put := by decide +kernel
def spX8_put (σ : oh_St) (p1 : Int32) (p2 : Int32) : oh_St := (if p1 = (0 : Int32) then (oh_up σ 0 14 p2) else (if p1 = (1 : Int32) then (oh_up σ 0 15 p2) else (if (4096 : Int32) ≤ p1 then σ else (oh_up σ 1 p1.toNatClampNeg p2))))
set_option maxHeartbeats 8000000 in
set_option maxRecDepth 100000 in
theorem mtX8_put (l : Launch) (a : Nat → Nat) (k : Nat → ClassId) (D : va_G) (σ : oh_St) (p1 : Int32) (p2 : Int32) (hn1 : ¬ p1 < 0) : oh_Mv l yX8_put wsX8_put { frames := 0, cells := 0, slots := 0, locals := 0 } D (oh_ty k) (oh_V a k) [.ref (a 0), .int p1, .int p2] σ (fun u => u = spX8_put σ p1 p2) := by
  refine oh_inv (cc := cX8_put) (nL := 3) (rt := none) (by decide) rfl (Nat.le_of_ble_eq_true rfl) ?_
  intro p e s m below meth c A ls hC hP hD hS hl
  obtain ⟨hx, hb, hml, hown, hts, hr, hlocks, hK, hN, hA⟩ := id hC
  have hl : lv_has ls 3 [(0, .ref (a 0)), (1, .int p1), (2, .int p2)] := hl
  refine lv_iload_n hx hb dX8_put_0 rfl (lv_at hl 1 rfl) ?_
  refine lv_if_ne (tgt := 12) hx hb dX8_put_1 (by decide) (fun c1 => ?_) (fun c1 => ?_)
  · refine lv_iload_n hx hb dX8_put_12 rfl (lv_at hl 1 rfl) ?_
    refine lv_iconst (v := (1 : Int32)) hx hb dX8_put_13 (by decide) ?_
    refine lv_icmp_ne (tgt := 25) hx hb dX8_put_14 (by decide) (fun c2 => ?_) (fun c2 => ?_)
    · refine lv_iload_n hx hb dX8_put_25 rfl (lv_at hl 1 rfl) ?_
      refine lv_sipush (v := (4096 : Int32)) hx hb dX8_put_26 (by decide) ?_
      refine lv_icmp_ge (tgt := 39) hx hb dX8_put_29 (by decide) (fun c3 => ?_) (fun c3 => ?_)
      · exact oh_retv (u := σ) hC hP hD hS (by exact (((if_neg c1).trans (if_neg c2)).trans (if_pos c3)).symm) dX8_put_39
      · refine lv_aload_n hx hb dX8_put_32 rfl (lv_at hl 0 rfl) ?_
        refine oh_get (v := .ref (a 1)) hC hP inX8_put_X8 0 rfl rfl 1 (by decide) (by decide +kernel) rfl dX8_put_33 ?_
        refine lv_iload_n hx hb dX8_put_36 rfl (lv_at hl 1 rfl) ?_
        refine lv_iload_n hx hb dX8_put_37 rfl (lv_at hl 2 rfl) ?_
        refine oh_iast (σ' := (oh_up σ 1 p1.toNatClampNeg p2)) hC hP hD hS 1 0 rfl rfl (oh_in hn1 c3 rfl) rfl dX8_put_38 (fun H locs hP hD hS => ?_)
        exact oh_retv (u := (oh_up σ 1 p1.toNatClampNeg p2)) hC hP hD hS (by exact (((if_neg c1).trans (if_neg c2)).trans (if_neg c3)).symm) dX8_put_39
    · refine lv_aload_n hx hb dX8_put_17 rfl (lv_at hl 0 rfl) ?_
      refine lv_iload_n hx hb dX8_put_18 rfl (lv_at hl 2 rfl) ?_
      refine oh_put (σ' := (oh_up σ 0 15 p2)) (v := .int p2) hC hP hD hS inX8_put_X8 tyX8 tyX8_ok nmX8 0 rfl rfl 3 (by decide) (by decide +kernel) rfl rfl rfl (by simp) rfl dX8_put_19 (fun H locs hP hD hS => ?_)
      refine lv_goto (tgt := 39) hx hb dX8_put_22 (by decide) ?_
      exact oh_retv (u := (oh_up σ 0 15 p2)) hC hP hD hS (by exact ((if_neg c1).trans (if_pos c2)).symm) dX8_put_39
  · refine lv_aload_n hx hb dX8_put_4 rfl (lv_at hl 0 rfl) ?_
    refine lv_iload_n hx hb dX8_put_5 rfl (lv_at hl 2 rfl) ?_
    refine oh_put (σ' := (oh_up σ 0 14 p2)) (v := .int p2) hC hP hD hS inX8_put_X8 tyX8 tyX8_ok nmX8 0 rfl rfl 2 (by decide) (by decide +kernel) rfl rfl rfl (by simp) rfl dX8_put_6 (fun H locs hP hD hS => ?_)
    refine lv_goto (tgt := 39) hx hb dX8_put_9 (by decide) ?_
    exact oh_retv (u := (oh_up σ 0 14 p2)) hC hP hD hS (by exact (if_pos c1).symm) dX8_put_39
-- OctalHouseModel.more
def spX8_more (p1 : Int32) : Int32 := ((p1 + (1 : Int32)) &&& (32767 : Int32))
set_option maxHeartbeats 8000000 in
set_option maxRecDepth 100000 in
theorem mtX8_more (l : Launch) (a : Nat → Nat) (k : Nat → ClassId) (D : va_G) (σ : oh_St) (p1 : Int32) : oh_Mi l yX8_more wsX8_more { frames := 0, cells := 0, slots := 0, locals := 0 } D (oh_ty k) (oh_V a k) [.int p1] σ (fun r u => r = spX8_more p1 ∧ u = σ) := by
  refine oh_ini (cc := cX8_more) (nL := 1) (rt := some .int) (by decide) rfl (Nat.le_of_ble_eq_true rfl) ?_
  intro p e s m below meth c A ls hC hP hD hS hl
  obtain ⟨hx, hb, hml, hown, hts, hr, hlocks, hK, hN, hA⟩ := id hC
  have hl : lv_has ls 1 [(0, .int p1)] := hl
  refine lv_iload_n hx hb dX8_more_0 rfl (lv_at hl 0 rfl) ?_
  refine lv_iconst (v := (1 : Int32)) hx hb dX8_more_1 (by decide) ?_
  refine lv_iadd hx hb dX8_more_2 ?_
  refine lv_sipush (v := (32767 : Int32)) hx hb dX8_more_3 (by decide) ?_
  refine lv_iand hx hb dX8_more_6 ?_
  exact oh_reti (v := ((p1 + (1 : Int32)) &&& (32767 : Int32))) (u := σ) hC hP hD hS ⟨(by exact rfl), rfl⟩ dX8_more_7
-- OctalHouseModel.skip
theorem inX8_skip_X8 : ∀ w ∈ u_ws RX8 TX8 35, w ∈ wsX8_skip := by decide +kernel
def spX8_skip (σ : oh_St) (p1 : Int32) : oh_St := (if p1 = (0 : Int32) then σ else (let r2 : Int32 := (spX8_more (σ 0 3)); (oh_up σ 0 3 r2)))
set_option maxHeartbeats 8000000 in
set_option maxRecDepth 100000 in
theorem mtX8_skip (l : Launch) (a : Nat → Nat) (k : Nat → ClassId) (D : va_G) (σ : oh_St) (p1 : Int32) : oh_Mv l yX8_skip wsX8_skip { frames := 1, cells := 0, slots := 0, locals := 20 } D (oh_ty k) (oh_V a k) [.ref (a 0), .int p1] σ (fun u => u = spX8_skip σ p1) := by
  refine oh_inv (cc := cX8_skip) (nL := 2) (rt := none) (by decide) rfl (Nat.le_of_ble_eq_true rfl) ?_
  intro p e s m below meth c A ls hC hP hD hS hl
  obtain ⟨hx, hb, hml, hown, hts, hr, hlocks, hK, hN, hA⟩ := id hC
  have hl : lv_has ls 2 [(0, .ref (a 0)), (1, .int p1)] := hl
  refine lv_iload_n hx hb dX8_skip_0 rfl (lv_at hl 1 rfl) ?_
  refine lv_if_eq (tgt := 15) hx hb dX8_skip_1 (by decide) (fun c1 => ?_) (fun c1 => ?_)
  · exact oh_retv (u := σ) hC hP hD hS (by exact (if_pos c1).symm) dX8_skip_15
  · refine lv_aload_n hx hb dX8_skip_4 rfl (lv_at hl 0 rfl) ?_
    refine lv_aload_n hx hb dX8_skip_5 rfl (lv_at hl 0 rfl) ?_
    refine oh_get (v := .int (σ 0 3)) hC hP inX8_skip_X8 0 rfl rfl 4 (by decide) (by decide +kernel) rfl dX8_skip_6 ?_
    refine oh_csp (As := [.int (σ 0 3)]) (rest := [.ref (a 0)]) hC hP hD hS (mtX8_more l a k D σ (σ 0 3)) (va_cwS 1 hts gX8_skip_X8_more rfl rfl rfl (by decide +kernel) ⟨Nat.le_of_ble_eq_true rfl, Nat.le_of_ble_eq_true rfl⟩) rfl hl.1 rfl (Nat.le_of_ble_eq_true rfl) dX8_skip_9 (fun r2 H locs hr2 hP hD hS => ?_)
    refine oh_put (σ' := (oh_up σ 0 3 r2)) (v := .int r2) hC hP hD hS inX8_skip_X8 tyX8 tyX8_ok nmX8 0 rfl rfl 4 (by decide) (by decide +kernel) rfl rfl rfl (by simp) rfl dX8_skip_12 (fun H locs hP hD hS => ?_)
    exact oh_retv (u := (oh_up σ 0 3 r2)) hC hP hD hS (by subst hr2; exact (if_neg c1).symm) dX8_skip_15
-- OctalHouseModel.direct
theorem inX8_direct_X8 : ∀ w ∈ u_ws RX8 TX8 35, w ∈ wsX8_direct := by decide +kernel
def lpX8_direct (σ : oh_St) : Nat → Int32 → Int32 → Int32 × oh_St
  | 0, x, i => (x, σ)
  | f + 1, x, i => (if (x >>> ((15 : Int32) &&& 31)) = (1 : Int32) then (if (i + (1 : Int32)) = (33 : Int32) then ((-1 : Int32), (oh_up (oh_up σ 0 7 (1 : Int32)) 0 8 (64 : Int32))) else (let r3 : Int32 := (spX8_at σ (x &&& (32767 : Int32))); (lpX8_direct σ f r3 (i + (1 : Int32))))) else (x, σ))
def spX8_direct (σ : oh_St) (p1 : Int32) : Int32 × oh_St := (lpX8_direct σ 33 p1 (0 : Int32))
set_option maxHeartbeats 8000000 in
set_option maxRecDepth 100000 in
theorem mtX8_direct (l : Launch) (a : Nat → Nat) (k : Nat → ClassId) (D : va_G) (σ : oh_St) (p1 : Int32) : oh_Mi l yX8_direct wsX8_direct { frames := 1, cells := 0, slots := 0, locals := 21 } D (oh_ty k) (oh_V a k) [.ref (a 0), .int p1] σ (fun r u => r = (spX8_direct σ p1).1 ∧ u = (spX8_direct σ p1).2) := by
  refine oh_ini (cc := cX8_direct) (nL := 4) (rt := some .int) (by decide) rfl (Nat.le_of_ble_eq_true rfl) ?_
  intro p e s m below meth c A ls hC hP hD hS hl
  obtain ⟨hx, hb, hml, hown, hts, hr, hlocks, hK, hN, hA⟩ := id hC
  have hl : lv_has ls 4 [(0, .ref (a 0)), (1, .int p1)] := hl
  refine lv_iload_n hx hb dX8_direct_0 rfl (lv_at hl 1 rfl) ?_
  refine lv_istore_n (lv' := [(2, .int p1), (0, .ref (a 0)), (1, .int p1)]) hx hb dX8_direct_1 rfl hl (by decide) rfl (fun ls hl => ?_)
  refine lv_iconst (v := (0 : Int32)) hx hb dX8_direct_2 (by decide) ?_
  refine lv_istore_n (lv' := [(3, .int (0 : Int32)), (2, .int p1), (0, .ref (a 0)), (1, .int p1)]) hx hb dX8_direct_3 rfl hl (by decide) rfl (fun ls hl => ?_)
  have LP : ∀ (f : Nat) (x : Int32) (i : Int32), (∃ j : Nat, i = nI j ∧ j + f = 32 + 1 ∧ j ≤ 32) → lpX8_direct σ f x i = spX8_direct σ p1 → ∀ (ls : Array Slot) (H : Heap) (locs : List Loc), va_P D vwCl (oh_V a k σ) H → va_D A (oh_V a k σ) → va_S A s.heap H locs → lv_has ls 4 [(3, .int i), (2, .int x), (0, .ref (a 0)), (1, .int p1)] → W p l e ({ frames := 1, cells := 0, slots := 0, locals := 21 } : Room) s m (([.ref (a 0), .int p1] : List Value).toArray) below meth c H locs 0 0 (oh_Ei below (fun r u => r = (spX8_direct σ p1).1 ∧ u = (spX8_direct σ p1).2) D (oh_V a k) A [.ref (a 0), .int p1] s) (F0 m 4 ls []) := by
    intro f
    induction f with
    | zero => intro x i hI; exact absurd hI (oh_cnt0)
    | succ f ih =>
      intro x i hI hk ls H locs hP hD hS hl
      refine lv_iload_n hx hb dX8_direct_4 rfl (lv_at hl 1 rfl) ?_
      refine lv_bipush (v := (15 : Int32)) hx hb dX8_direct_5 (by decide) ?_
      refine lv_ishr hx hb dX8_direct_7 ?_
      refine lv_iconst (v := (1 : Int32)) hx hb dX8_direct_8 (by decide) ?_
      refine lv_icmp_ne (tgt := 47) hx hb dX8_direct_9 (by decide) (fun c1 => ?_) (fun c1 => ?_)
      · refine lv_iload_n hx hb dX8_direct_47 rfl (lv_at hl 1 rfl) ?_
        exact oh_reti (v := x) (u := σ) hC hP hD hS (oh_pair (by exact ((if_neg c1).symm).trans hk)) dX8_direct_48
      · refine lv_iinc (v := (i + (1 : Int32))) (lv' := [(3, .int (i + (1 : Int32))), (2, .int x), (0, .ref (a 0)), (1, .int p1)]) hx hb dX8_direct_12 hl (k := 0) rfl (by first | rfl | decide) (by decide) rfl (fun ls hl => ?_)
        refine lv_iload_n hx hb dX8_direct_15 rfl (lv_at hl 0 rfl) ?_
        refine lv_bipush (v := (33 : Int32)) hx hb dX8_direct_16 (by decide) ?_
        refine lv_icmp_ne (tgt := 34) hx hb dX8_direct_18 (by decide) (fun c2 => ?_) (fun c2 => ?_)
        · refine lv_aload_n hx hb dX8_direct_34 rfl (lv_at hl 2 rfl) ?_
          refine lv_iload_n hx hb dX8_direct_35 rfl (lv_at hl 1 rfl) ?_
          refine lv_sipush (v := (32767 : Int32)) hx hb dX8_direct_36 (by decide) ?_
          refine lv_iand hx hb dX8_direct_39 ?_
          refine oh_cvp (As := [.int (x &&& (32767 : Int32))]) (rest := []) hC hP hD hS (mtX8_at l a k D σ (x &&& (32767 : Int32)) (oh_nnand _ (by decide))) (cwV 1 hts gX8_direct_X8_at rfl rfl rfl (by decide +kernel) ⟨Nat.le_of_ble_eq_true rfl, Nat.le_of_ble_eq_true rfl⟩) 0 8 rfl rfl rfl hl.1 rfl (Nat.le_of_ble_eq_true rfl) dX8_direct_40 (fun r3 H locs hr3 hP hD hS => ?_)
          refine lv_istore_n (lv' := [(2, .int r3), (3, .int (i + (1 : Int32))), (0, .ref (a 0)), (1, .int p1)]) hx hb dX8_direct_43 rfl hl (by decide) rfl (fun ls hl => ?_)
          refine lv_goto (tgt := 4) hx hb dX8_direct_44 (by decide) ?_
          exact ih r3 (i + (1 : Int32)) (oh_cntE (M := 33) rfl (by decide) hI c2) ((by subst hr3; exact (((if_pos c1).trans (if_neg c2)).symm).trans hk)) ls _ _ hP hD hS (lv_sub hl [1, 0, 2, 3] rfl)
        · refine lv_aload_n hx hb dX8_direct_21 rfl (lv_at hl 2 rfl) ?_
          refine lv_iconst (v := (1 : Int32)) hx hb dX8_direct_22 (by decide) ?_
          refine oh_put (σ' := (oh_up σ 0 7 (1 : Int32))) (v := .int (1 : Int32)) hC hP hD hS inX8_direct_X8 tyX8 tyX8_ok nmX8 0 rfl rfl 10 (by decide) (by decide +kernel) rfl (oh_nb (by decide)) (oh_fb (by decide)) (by simp) rfl dX8_direct_23 (fun H locs hP hD hS => ?_)
          refine lv_aload_n hx hb dX8_direct_26 rfl (lv_at hl 2 rfl) ?_
          refine lv_bipush (v := (64 : Int32)) hx hb dX8_direct_27 (by decide) ?_
          refine oh_put (σ' := (oh_up (oh_up σ 0 7 (1 : Int32)) 0 8 (64 : Int32))) (v := .int (64 : Int32)) hC hP hD hS inX8_direct_X8 tyX8 tyX8_ok nmX8 0 rfl rfl 11 (by decide) (by decide +kernel) rfl rfl rfl (by simp) rfl dX8_direct_29 (fun H locs hP hD hS => ?_)
          refine lv_iconst (v := (-1 : Int32)) hx hb dX8_direct_32 (by decide) ?_
          exact oh_reti (v := (-1 : Int32)) (u := (oh_up (oh_up σ 0 7 (1 : Int32)) 0 8 (64 : Int32))) hC hP hD hS (oh_pair (by exact (((if_pos c1).trans (if_pos c2)).symm).trans hk)) dX8_direct_33
  exact LP 33 p1 (0 : Int32) ⟨0, rfl, rfl, by decide⟩ (rfl) ls _ _ hP hD hS (lv_sub hl [0, 1, 2, 3] rfl)
-- OctalHouseModel.started
theorem inX8_started_X8 : ∀ w ∈ u_ws RX8 TX8 35, w ∈ wsX8_started := by decide +kernel
def spX8_started (σ : oh_St) (p1 : Int32) : oh_St := (oh_up σ 15 p1.toNatClampNeg (σ 13 p1.toNatClampNeg))
set_option maxHeartbeats 8000000 in
set_option maxRecDepth 100000 in
theorem mtX8_started (l : Launch) (a : Nat → Nat) (k : Nat → ClassId) (D : va_G) (σ : oh_St) (p1 : Int32) (hi1 : vp_in p1 12) : oh_Mv l yX8_started wsX8_started { frames := 0, cells := 0, slots := 0, locals := 0 } D (oh_ty k) (oh_V a k) [.ref (a 0), .int p1] σ (fun u => u = spX8_started σ p1) := by
  refine oh_inv (cc := cX8_started) (nL := 2) (rt := none) (by decide) rfl (Nat.le_of_ble_eq_true rfl) ?_
  intro p e s m below meth c A ls hC hP hD hS hl
  obtain ⟨hx, hb, hml, hown, hts, hr, hlocks, hK, hN, hA⟩ := id hC
  have hl : lv_has ls 2 [(0, .ref (a 0)), (1, .int p1)] := hl
  refine lv_aload_n hx hb dX8_started_0 rfl (lv_at hl 0 rfl) ?_
  refine oh_get (v := .ref (a 15)) hC hP inX8_started_X8 0 rfl rfl 30 (by decide) (by decide +kernel) rfl dX8_started_1 ?_
  refine lv_iload_n hx hb dX8_started_4 rfl (lv_at hl 1 rfl) ?_
  refine lv_aload_n hx hb dX8_started_5 rfl (lv_at hl 0 rfl) ?_
  refine oh_get (v := .ref (a 13)) hC hP inX8_started_X8 0 rfl rfl 28 (by decide) (by decide +kernel) rfl dX8_started_6 ?_
  refine lv_iload_n hx hb dX8_started_9 rfl (lv_at hl 1 rfl) ?_
  refine oh_iald hC hP 13 0 rfl rfl hi1 dX8_started_10 ?_
  refine oh_iast (σ' := (oh_up σ 15 p1.toNatClampNeg (σ 13 p1.toNatClampNeg))) hC hP hD hS 15 0 rfl rfl hi1 rfl dX8_started_11 (fun H locs hP hD hS => ?_)
  exact oh_retv (u := (oh_up σ 15 p1.toNatClampNeg (σ 13 p1.toNatClampNeg))) hC hP hD hS (by exact rfl) dX8_started_12
-- OctalHouseModel.signed
def spX8_signed (p1 : Int32) : Int32 := (if p1 ≤ (32767 : Int32) then p1 else (p1 - (65536 : Int32)))
set_option maxHeartbeats 8000000 in
set_option maxRecDepth 100000 in
theorem mtX8_signed (l : Launch) (a : Nat → Nat) (k : Nat → ClassId) (D : va_G) (σ : oh_St) (p1 : Int32) : oh_Mi l yX8_signed wsX8_signed { frames := 0, cells := 0, slots := 0, locals := 0 } D (oh_ty k) (oh_V a k) [.int p1] σ (fun r u => r = spX8_signed p1 ∧ u = σ) := by
  refine oh_ini (cc := cX8_signed) (nL := 1) (rt := some .int) (by decide) rfl (Nat.le_of_ble_eq_true rfl) ?_
  intro p e s m below meth c A ls hC hP hD hS hl
  obtain ⟨hx, hb, hml, hown, hts, hr, hlocks, hK, hN, hA⟩ := id hC
  have hl : lv_has ls 1 [(0, .int p1)] := hl
  refine lv_iload_n hx hb dX8_signed_0 rfl (lv_at hl 0 rfl) ?_
  refine lv_sipush (v := (32767 : Int32)) hx hb dX8_signed_1 (by decide) ?_
  refine lv_icmp_le (tgt := 14) hx hb dX8_signed_4 (by decide) (fun c1 => ?_) (fun c1 => ?_)
  · refine lv_iload_n hx hb dX8_signed_14 rfl (lv_at hl 0 rfl) ?_
    exact oh_reti (v := p1) (u := σ) hC hP hD hS ⟨(by exact (if_pos c1).symm), rfl⟩ dX8_signed_15
  · refine lv_iload_n hx hb dX8_signed_7 rfl (lv_at hl 0 rfl) ?_
    refine lv_ldc (v := (65536 : Int32)) hx hb hown (hts (.constant RX8 155 (65536)) (by decide +kernel)) dX8_signed_8 ?_
    refine lv_isub hx hb dX8_signed_10 ?_
    refine lv_goto (tgt := 15) hx hb dX8_signed_11 (by decide) ?_
    exact oh_reti (v := (p1 - (65536 : Int32))) (u := σ) hC hP hD hS ⟨(by exact (if_neg c1).symm), rfl⟩ dX8_signed_15
-- OctalHouseModel.sum
theorem inX8_sum_X8 : ∀ w ∈ u_ws RX8 TX8 35, w ∈ wsX8_sum := by decide +kernel
def spX8_sum (σ : oh_St) (p1 : Int32) (p2 : Int32) : Int32 × oh_St := (let r1 : Int32 := (spX8_signed p1); (let r2 : Int32 := (spX8_signed p2); (let s5 : oh_St := (if (r1 + r2) < (-32768 : Int32) then (oh_up σ 0 5 (1 : Int32)) else (if (r1 + r2) ≤ (32767 : Int32) then σ else (oh_up σ 0 5 (1 : Int32)))); (let s7 : oh_St := (if (p1 + p2) ≤ (65535 : Int32) then s5 else (oh_up s5 0 4 (1 : Int32))); (((p1 + p2) &&& (65535 : Int32)), s7)))))
set_option maxHeartbeats 8000000 in
set_option maxRecDepth 100000 in
theorem mtX8_sum (l : Launch) (a : Nat → Nat) (k : Nat → ClassId) (D : va_G) (σ : oh_St) (p1 : Int32) (p2 : Int32) : oh_Mi l yX8_sum wsX8_sum { frames := 1, cells := 0, slots := 0, locals := 20 } D (oh_ty k) (oh_V a k) [.ref (a 0), .int p1, .int p2] σ (fun r u => r = (spX8_sum σ p1 p2).1 ∧ u = (spX8_sum σ p1 p2).2) := by
  refine oh_ini (cc := cX8_sum) (nL := 4) (rt := some .int) (by decide) rfl (Nat.le_of_ble_eq_true rfl) ?_
  intro p e s m below meth c A ls hC hP hD hS hl
  obtain ⟨hx, hb, hml, hown, hts, hr, hlocks, hK, hN, hA⟩ := id hC
  have hl : lv_has ls 4 [(0, .ref (a 0)), (1, .int p1), (2, .int p2)] := hl
  refine lv_iload_n hx hb dX8_sum_0 rfl (lv_at hl 1 rfl) ?_
  refine oh_csp (As := [.int p1]) (rest := []) hC hP hD hS (mtX8_signed l a k D σ p1) (va_cwS 1 hts gX8_sum_X8_signed rfl rfl rfl (by decide +kernel) ⟨Nat.le_of_ble_eq_true rfl, Nat.le_of_ble_eq_true rfl⟩) rfl hl.1 rfl (Nat.le_of_ble_eq_true rfl) dX8_sum_1 (fun r1 H locs hr1 hP hD hS => ?_)
  refine lv_iload_n hx hb dX8_sum_4 rfl (lv_at hl 2 rfl) ?_
  refine oh_csp (As := [.int p2]) (rest := [.int r1]) hC hP hD hS (mtX8_signed l a k D σ p2) (va_cwS 1 hts gX8_sum_X8_signed rfl rfl rfl (by decide +kernel) ⟨Nat.le_of_ble_eq_true rfl, Nat.le_of_ble_eq_true rfl⟩) rfl hl.1 rfl (Nat.le_of_ble_eq_true rfl) dX8_sum_5 (fun r2 H locs hr2 hP hD hS => ?_)
  refine lv_iadd hx hb dX8_sum_8 ?_
  refine lv_istore_n (lv' := [(3, .int (r1 + r2)), (0, .ref (a 0)), (1, .int p1), (2, .int p2)]) hx hb dX8_sum_9 rfl hl (by decide) rfl (fun ls hl => ?_)
  refine lv_iload_n hx hb dX8_sum_10 rfl (lv_at hl 0 rfl) ?_
  refine lv_sipush (v := (-32768 : Int32)) hx hb dX8_sum_11 (by decide) ?_
  have K9 : ∀ s5 : oh_St, s5 = (if (r1 + r2) < (-32768 : Int32) then (oh_up σ 0 5 (1 : Int32)) else (if (r1 + r2) ≤ (32767 : Int32) then σ else (oh_up σ 0 5 (1 : Int32)))) → ∀ (ls : Array Slot) (H : Heap) (locs : List Loc), va_P D vwCl (oh_V a k s5) H → va_D A (oh_V a k s5) → va_S A s.heap H locs → lv_has ls 4 [(3, .int (r1 + r2)), (0, .ref (a 0)), (1, .int p1), (2, .int p2)] → W p l e ({ frames := 1, cells := 0, slots := 0, locals := 20 } : Room) s m (([.ref (a 0), .int p1, .int p2] : List Value).toArray) below meth c H locs 0 0 (oh_Ei below (fun r u => r = (spX8_sum σ p1 p2).1 ∧ u = (spX8_sum σ p1 p2).2) D (oh_V a k) A [.ref (a 0), .int p1, .int p2] s) (F0 m 29 ls []) := by
    intro s5 hs5 ls H locs hP hD hS hl
    refine lv_iload_n hx hb dX8_sum_29 rfl (lv_at hl 2 rfl) ?_
    refine lv_iload_n hx hb dX8_sum_30 rfl (lv_at hl 3 rfl) ?_
    refine lv_iadd hx hb dX8_sum_31 ?_
    refine lv_ldc (v := (65535 : Int32)) hx hb hown (hts (.constant RX8 102 (65535)) (by decide +kernel)) dX8_sum_32 ?_
    have K8 : ∀ s7 : oh_St, s7 = (if (p1 + p2) ≤ (65535 : Int32) then s5 else (oh_up s5 0 4 (1 : Int32))) → ∀ (ls : Array Slot) (H : Heap) (locs : List Loc), va_P D vwCl (oh_V a k s7) H → va_D A (oh_V a k s7) → va_S A s.heap H locs → lv_has ls 4 [(3, .int (r1 + r2)), (0, .ref (a 0)), (1, .int p1), (2, .int p2)] → W p l e ({ frames := 1, cells := 0, slots := 0, locals := 20 } : Room) s m (([.ref (a 0), .int p1, .int p2] : List Value).toArray) below meth c H locs 0 0 (oh_Ei below (fun r u => r = (spX8_sum σ p1 p2).1 ∧ u = (spX8_sum σ p1 p2).2) D (oh_V a k) A [.ref (a 0), .int p1, .int p2] s) (F0 m 42 ls []) := by
      intro s7 hs7 ls H locs hP hD hS hl
      refine lv_iload_n hx hb dX8_sum_42 rfl (lv_at hl 2 rfl) ?_
      refine lv_iload_n hx hb dX8_sum_43 rfl (lv_at hl 3 rfl) ?_
      refine lv_iadd hx hb dX8_sum_44 ?_
      refine lv_ldc (v := (65535 : Int32)) hx hb hown (hts (.constant RX8 102 (65535)) (by decide +kernel)) dX8_sum_45 ?_
      refine lv_iand hx hb dX8_sum_47 ?_
      exact oh_reti (v := ((p1 + p2) &&& (65535 : Int32))) (u := s7) hC hP hD hS (oh_pair (by subst hs7 hs5 hr2 hr1; exact rfl)) dX8_sum_48
    refine lv_icmp_le (tgt := 42) hx hb dX8_sum_34 (by decide) (fun c6 => ?_) (fun c6 => ?_)
    · exact K8 _ (if_pos c6).symm ls _ _ hP hD hS (lv_sub hl [0, 1, 2, 3] rfl)
    · refine lv_aload_n hx hb dX8_sum_37 rfl (lv_at hl 1 rfl) ?_
      refine lv_iconst (v := (1 : Int32)) hx hb dX8_sum_38 (by decide) ?_
      refine oh_put (σ' := (oh_up s5 0 4 (1 : Int32))) (v := .int (1 : Int32)) hC hP hD hS inX8_sum_X8 tyX8 tyX8_ok nmX8 0 rfl rfl 5 (by decide) (by decide +kernel) rfl rfl rfl (by simp) rfl dX8_sum_39 (fun H locs hP hD hS => ?_)
      exact K8 _ (if_neg c6).symm ls _ _ hP hD hS (lv_sub hl [0, 1, 2, 3] rfl)
  refine lv_icmp_lt (tgt := 24) hx hb dX8_sum_14 (by decide) (fun c3 => ?_) (fun c3 => ?_)
  · refine lv_aload_n hx hb dX8_sum_24 rfl (lv_at hl 1 rfl) ?_
    refine lv_iconst (v := (1 : Int32)) hx hb dX8_sum_25 (by decide) ?_
    refine oh_put (σ' := (oh_up σ 0 5 (1 : Int32))) (v := .int (1 : Int32)) hC hP hD hS inX8_sum_X8 tyX8 tyX8_ok nmX8 0 rfl rfl 6 (by decide) (by decide +kernel) rfl rfl rfl (by simp) rfl dX8_sum_26 (fun H locs hP hD hS => ?_)
    exact K9 _ (if_pos c3).symm ls _ _ hP hD hS (lv_sub hl [0, 1, 2, 3] rfl)
  · refine lv_iload_n hx hb dX8_sum_17 rfl (lv_at hl 0 rfl) ?_
    refine lv_sipush (v := (32767 : Int32)) hx hb dX8_sum_18 (by decide) ?_
    refine lv_icmp_le (tgt := 29) hx hb dX8_sum_21 (by decide) (fun c4 => ?_) (fun c4 => ?_)
    · exact K9 _ ((if_neg c3).trans (if_pos c4)).symm ls _ _ hP hD hS (lv_sub hl [0, 1, 2, 3] rfl)
    · refine lv_aload_n hx hb dX8_sum_24 rfl (lv_at hl 1 rfl) ?_
      refine lv_iconst (v := (1 : Int32)) hx hb dX8_sum_25 (by decide) ?_
      refine oh_put (σ' := (oh_up σ 0 5 (1 : Int32))) (v := .int (1 : Int32)) hC hP hD hS inX8_sum_X8 tyX8 tyX8_ok nmX8 0 rfl rfl 6 (by decide) (by decide +kernel) rfl rfl rfl (by simp) rfl dX8_sum_26 (fun H locs hP hD hS => ?_)
      exact K9 _ ((if_neg c3).trans (if_neg c4)).symm ls _ _ hP hD hS (lv_sub hl [0, 1, 2, 3] rfl)
-- OctalHouseModel.shifted
theorem inX8_shifted_X8 : ∀ w ∈ u_ws RX8 TX8 35, w ∈ wsX8_shifted := by decide +kernel
def spX8_shifted (σ : oh_St) (p1 : Int32) (p2 : Int32) : Int32 × oh_St := (let y1 : Int32 := p2; (if y1 = (0 : Int32) then (((p1 &&& (32768 : Int32)) ||| ((p1 <<< ((1 : Int32) &&& 31)) &&& (32767 : Int32))), σ) else (if y1 = (1 : Int32) then (((p1 &&& (32768 : Int32)) ||| (p1 >>> ((1 : Int32) &&& 31))), σ) else (if y1 = (2 : Int32) then ((((p1 <<< ((1 : Int32) &&& 31)) &&& (65535 : Int32)) ||| (p1 >>> ((15 : Int32) &&& 31))), σ) else (if y1 = (3 : Int32) then (((p1 >>> ((1 : Int32) &&& 31)) ||| ((p1 &&& (1 : Int32)) <<< ((15 : Int32) &&& 31))), σ) else (if y1 = (4 : Int32) then (((p1 <<< ((1 : Int32) &&& 31)) &&& (32767 : Int32)), σ) else (if y1 = (5 : Int32) then (((p1 >>> ((1 : Int32) &&& 31)) ||| ((σ 0 4) <<< ((15 : Int32) &&& 31))), (oh_up σ 0 4 (p1 &&& (1 : Int32)))) else (if y1 = (6 : Int32) then ((((p1 <<< ((1 : Int32) &&& 31)) &&& (65535 : Int32)) ||| (σ 0 4)), (oh_up σ 0 4 (p1 >>> ((15 : Int32) &&& 31)))) else ((((p1 <<< ((4 : Int32) &&& 31)) &&& (65535 : Int32)) ||| (p1 >>> ((12 : Int32) &&& 31))), σ)))))))))
set_option maxHeartbeats 8000000 in
set_option maxRecDepth 100000 in
theorem mtX8_shifted (l : Launch) (a : Nat → Nat) (k : Nat → ClassId) (D : va_G) (σ : oh_St) (p1 : Int32) (p2 : Int32) : oh_Mi l yX8_shifted wsX8_shifted { frames := 0, cells := 0, slots := 0, locals := 0 } D (oh_ty k) (oh_V a k) [.ref (a 0), .int p1, .int p2] σ (fun r u => r = (spX8_shifted σ p1 p2).1 ∧ u = (spX8_shifted σ p1 p2).2) := by
  refine oh_ini (cc := cX8_shifted) (nL := 4) (rt := some .int) (by decide) rfl (Nat.le_of_ble_eq_true rfl) ?_
  intro p e s m below meth c A ls hC hP hD hS hl
  obtain ⟨hx, hb, hml, hown, hts, hr, hlocks, hK, hN, hA⟩ := id hC
  have hl : lv_has ls 4 [(0, .ref (a 0)), (1, .int p1), (2, .int p2)] := hl
  refine lv_iload_n hx hb dX8_shifted_0 rfl (lv_at hl 2 rfl) ?_
  refine lv_topi (fun y1 hy1 => ?_)
  by_cases c2 : y1 = (0 : Int32)
  · refine lv_tableIn (tgt := 44) hx hb dX8_shifted_1 (by rw [c2]; decide) (by rw [c2]; decide) (by rw [c2]; rfl) (by decide) ?_
    refine lv_iload_n hx hb dX8_shifted_44 rfl (lv_at hl 1 rfl) ?_
    refine lv_ldc (v := (32768 : Int32)) hx hb hown (hts (.constant RX8 143 (32768)) (by decide +kernel)) dX8_shifted_45 ?_
    refine lv_iand hx hb dX8_shifted_47 ?_
    refine lv_iload_n hx hb dX8_shifted_48 rfl (lv_at hl 1 rfl) ?_
    refine lv_iconst (v := (1 : Int32)) hx hb dX8_shifted_49 (by decide) ?_
    refine lv_ishl hx hb dX8_shifted_50 ?_
    refine lv_sipush (v := (32767 : Int32)) hx hb dX8_shifted_51 (by decide) ?_
    refine lv_iand hx hb dX8_shifted_54 ?_
    refine lv_ior hx hb dX8_shifted_55 ?_
    exact oh_reti (v := ((p1 &&& (32768 : Int32)) ||| ((p1 <<< ((1 : Int32) &&& 31)) &&& (32767 : Int32)))) (u := σ) hC hP hD hS (oh_pair (by subst hy1; exact (if_pos c2).symm)) dX8_shifted_56
  by_cases c3 : y1 = (1 : Int32)
  · refine lv_tableIn (tgt := 57) hx hb dX8_shifted_1 (by rw [c3]; decide) (by rw [c3]; decide) (by rw [c3]; rfl) (by decide) ?_
    refine lv_iload_n hx hb dX8_shifted_57 rfl (lv_at hl 1 rfl) ?_
    refine lv_ldc (v := (32768 : Int32)) hx hb hown (hts (.constant RX8 143 (32768)) (by decide +kernel)) dX8_shifted_58 ?_
    refine lv_iand hx hb dX8_shifted_60 ?_
    refine lv_iload_n hx hb dX8_shifted_61 rfl (lv_at hl 1 rfl) ?_
    refine lv_iconst (v := (1 : Int32)) hx hb dX8_shifted_62 (by decide) ?_
    refine lv_ishr hx hb dX8_shifted_63 ?_
    refine lv_ior hx hb dX8_shifted_64 ?_
    exact oh_reti (v := ((p1 &&& (32768 : Int32)) ||| (p1 >>> ((1 : Int32) &&& 31)))) (u := σ) hC hP hD hS (oh_pair (by subst hy1; exact ((if_neg c2).trans (if_pos c3)).symm)) dX8_shifted_65
  by_cases c4 : y1 = (2 : Int32)
  · refine lv_tableIn (tgt := 66) hx hb dX8_shifted_1 (by rw [c4]; decide) (by rw [c4]; decide) (by rw [c4]; rfl) (by decide) ?_
    refine lv_iload_n hx hb dX8_shifted_66 rfl (lv_at hl 1 rfl) ?_
    refine lv_iconst (v := (1 : Int32)) hx hb dX8_shifted_67 (by decide) ?_
    refine lv_ishl hx hb dX8_shifted_68 ?_
    refine lv_ldc (v := (65535 : Int32)) hx hb hown (hts (.constant RX8 102 (65535)) (by decide +kernel)) dX8_shifted_69 ?_
    refine lv_iand hx hb dX8_shifted_71 ?_
    refine lv_iload_n hx hb dX8_shifted_72 rfl (lv_at hl 1 rfl) ?_
    refine lv_bipush (v := (15 : Int32)) hx hb dX8_shifted_73 (by decide) ?_
    refine lv_ishr hx hb dX8_shifted_75 ?_
    refine lv_ior hx hb dX8_shifted_76 ?_
    exact oh_reti (v := (((p1 <<< ((1 : Int32) &&& 31)) &&& (65535 : Int32)) ||| (p1 >>> ((15 : Int32) &&& 31)))) (u := σ) hC hP hD hS (oh_pair (by subst hy1; exact (((if_neg c2).trans (if_neg c3)).trans (if_pos c4)).symm)) dX8_shifted_77
  by_cases c5 : y1 = (3 : Int32)
  · refine lv_tableIn (tgt := 78) hx hb dX8_shifted_1 (by rw [c5]; decide) (by rw [c5]; decide) (by rw [c5]; rfl) (by decide) ?_
    refine lv_iload_n hx hb dX8_shifted_78 rfl (lv_at hl 1 rfl) ?_
    refine lv_iconst (v := (1 : Int32)) hx hb dX8_shifted_79 (by decide) ?_
    refine lv_ishr hx hb dX8_shifted_80 ?_
    refine lv_iload_n hx hb dX8_shifted_81 rfl (lv_at hl 1 rfl) ?_
    refine lv_iconst (v := (1 : Int32)) hx hb dX8_shifted_82 (by decide) ?_
    refine lv_iand hx hb dX8_shifted_83 ?_
    refine lv_bipush (v := (15 : Int32)) hx hb dX8_shifted_84 (by decide) ?_
    refine lv_ishl hx hb dX8_shifted_86 ?_
    refine lv_ior hx hb dX8_shifted_87 ?_
    exact oh_reti (v := ((p1 >>> ((1 : Int32) &&& 31)) ||| ((p1 &&& (1 : Int32)) <<< ((15 : Int32) &&& 31)))) (u := σ) hC hP hD hS (oh_pair (by subst hy1; exact ((((if_neg c2).trans (if_neg c3)).trans (if_neg c4)).trans (if_pos c5)).symm)) dX8_shifted_88
  by_cases c6 : y1 = (4 : Int32)
  · refine lv_tableIn (tgt := 89) hx hb dX8_shifted_1 (by rw [c6]; decide) (by rw [c6]; decide) (by rw [c6]; rfl) (by decide) ?_
    refine lv_iload_n hx hb dX8_shifted_89 rfl (lv_at hl 1 rfl) ?_
    refine lv_iconst (v := (1 : Int32)) hx hb dX8_shifted_90 (by decide) ?_
    refine lv_ishl hx hb dX8_shifted_91 ?_
    refine lv_sipush (v := (32767 : Int32)) hx hb dX8_shifted_92 (by decide) ?_
    refine lv_iand hx hb dX8_shifted_95 ?_
    exact oh_reti (v := ((p1 <<< ((1 : Int32) &&& 31)) &&& (32767 : Int32))) (u := σ) hC hP hD hS (oh_pair (by subst hy1; exact (((((if_neg c2).trans (if_neg c3)).trans (if_neg c4)).trans (if_neg c5)).trans (if_pos c6)).symm)) dX8_shifted_96
  by_cases c7 : y1 = (5 : Int32)
  · refine lv_tableIn (tgt := 97) hx hb dX8_shifted_1 (by rw [c7]; decide) (by rw [c7]; decide) (by rw [c7]; rfl) (by decide) ?_
    refine lv_iload_n hx hb dX8_shifted_97 rfl (lv_at hl 1 rfl) ?_
    refine lv_iconst (v := (1 : Int32)) hx hb dX8_shifted_98 (by decide) ?_
    refine lv_ishr hx hb dX8_shifted_99 ?_
    refine lv_aload_n hx hb dX8_shifted_100 rfl (lv_at hl 0 rfl) ?_
    refine oh_get (v := .int (σ 0 4)) hC hP inX8_shifted_X8 0 rfl rfl 5 (by decide) (by decide +kernel) rfl dX8_shifted_101 ?_
    refine lv_bipush (v := (15 : Int32)) hx hb dX8_shifted_104 (by decide) ?_
    refine lv_ishl hx hb dX8_shifted_106 ?_
    refine lv_ior hx hb dX8_shifted_107 ?_
    refine lv_istore_n (lv' := [(3, .int ((p1 >>> ((1 : Int32) &&& 31)) ||| ((σ 0 4) <<< ((15 : Int32) &&& 31)))), (0, .ref (a 0)), (1, .int p1), (2, .int p2)]) hx hb dX8_shifted_108 rfl hl (by decide) rfl (fun ls hl => ?_)
    refine lv_aload_n hx hb dX8_shifted_109 rfl (lv_at hl 1 rfl) ?_
    refine lv_iload_n hx hb dX8_shifted_110 rfl (lv_at hl 2 rfl) ?_
    refine lv_iconst (v := (1 : Int32)) hx hb dX8_shifted_111 (by decide) ?_
    refine lv_iand hx hb dX8_shifted_112 ?_
    refine oh_put (σ' := (oh_up σ 0 4 (p1 &&& (1 : Int32)))) (v := .int (p1 &&& (1 : Int32))) hC hP hD hS inX8_shifted_X8 tyX8 tyX8_ok nmX8 0 rfl rfl 5 (by decide) (by decide +kernel) rfl rfl rfl (by simp) rfl dX8_shifted_113 (fun H locs hP hD hS => ?_)
    refine lv_iload_n hx hb dX8_shifted_116 rfl (lv_at hl 0 rfl) ?_
    exact oh_reti (v := ((p1 >>> ((1 : Int32) &&& 31)) ||| ((σ 0 4) <<< ((15 : Int32) &&& 31)))) (u := (oh_up σ 0 4 (p1 &&& (1 : Int32)))) hC hP hD hS (oh_pair (by subst hy1; exact ((((((if_neg c2).trans (if_neg c3)).trans (if_neg c4)).trans (if_neg c5)).trans (if_neg c6)).trans (if_pos c7)).symm)) dX8_shifted_117
  by_cases c8 : y1 = (6 : Int32)
  · refine lv_tableIn (tgt := 118) hx hb dX8_shifted_1 (by rw [c8]; decide) (by rw [c8]; decide) (by rw [c8]; rfl) (by decide) ?_
    refine lv_iload_n hx hb dX8_shifted_118 rfl (lv_at hl 1 rfl) ?_
    refine lv_iconst (v := (1 : Int32)) hx hb dX8_shifted_119 (by decide) ?_
    refine lv_ishl hx hb dX8_shifted_120 ?_
    refine lv_ldc (v := (65535 : Int32)) hx hb hown (hts (.constant RX8 102 (65535)) (by decide +kernel)) dX8_shifted_121 ?_
    refine lv_iand hx hb dX8_shifted_123 ?_
    refine lv_aload_n hx hb dX8_shifted_124 rfl (lv_at hl 0 rfl) ?_
    refine oh_get (v := .int (σ 0 4)) hC hP inX8_shifted_X8 0 rfl rfl 5 (by decide) (by decide +kernel) rfl dX8_shifted_125 ?_
    refine lv_ior hx hb dX8_shifted_128 ?_
    refine lv_istore_n (lv' := [(3, .int (((p1 <<< ((1 : Int32) &&& 31)) &&& (65535 : Int32)) ||| (σ 0 4))), (0, .ref (a 0)), (1, .int p1), (2, .int p2)]) hx hb dX8_shifted_129 rfl hl (by decide) rfl (fun ls hl => ?_)
    refine lv_aload_n hx hb dX8_shifted_130 rfl (lv_at hl 1 rfl) ?_
    refine lv_iload_n hx hb dX8_shifted_131 rfl (lv_at hl 2 rfl) ?_
    refine lv_bipush (v := (15 : Int32)) hx hb dX8_shifted_132 (by decide) ?_
    refine lv_ishr hx hb dX8_shifted_134 ?_
    refine oh_put (σ' := (oh_up σ 0 4 (p1 >>> ((15 : Int32) &&& 31)))) (v := .int (p1 >>> ((15 : Int32) &&& 31))) hC hP hD hS inX8_shifted_X8 tyX8 tyX8_ok nmX8 0 rfl rfl 5 (by decide) (by decide +kernel) rfl rfl rfl (by simp) rfl dX8_shifted_135 (fun H locs hP hD hS => ?_)
    refine lv_iload_n hx hb dX8_shifted_138 rfl (lv_at hl 0 rfl) ?_
    exact oh_reti (v := (((p1 <<< ((1 : Int32) &&& 31)) &&& (65535 : Int32)) ||| (σ 0 4))) (u := (oh_up σ 0 4 (p1 >>> ((15 : Int32) &&& 31)))) hC hP hD hS (oh_pair (by subst hy1; exact (((((((if_neg c2).trans (if_neg c3)).trans (if_neg c4)).trans (if_neg c5)).trans (if_neg c6)).trans (if_neg c7)).trans (if_pos c8)).symm)) dX8_shifted_139
  refine lv_tableOut (tgt := 140) hx hb dX8_shifted_1 (by have hh := True.intro; have : (∀ z : Int32, y1.toInt = z.toInt → y1 = z) := fun z e => Int32.toInt_inj.mp e; have hc2 : y1.toInt ≠ 0 := oh_ne c2; have hc3 : y1.toInt ≠ 1 := oh_ne c3; have hc4 : y1.toInt ≠ 2 := oh_ne c4; have hc5 : y1.toInt ≠ 3 := oh_ne c5; have hc6 : y1.toInt ≠ 4 := oh_ne c6; have hc7 : y1.toInt ≠ 5 := oh_ne c7; have hc8 : y1.toInt ≠ 6 := oh_ne c8; omega) (by decide) ?_
  refine lv_iload_n hx hb dX8_shifted_140 rfl (lv_at hl 1 rfl) ?_
  refine lv_iconst (v := (4 : Int32)) hx hb dX8_shifted_141 (by decide) ?_
  refine lv_ishl hx hb dX8_shifted_142 ?_
  refine lv_ldc (v := (65535 : Int32)) hx hb hown (hts (.constant RX8 102 (65535)) (by decide +kernel)) dX8_shifted_143 ?_
  refine lv_iand hx hb dX8_shifted_145 ?_
  refine lv_iload_n hx hb dX8_shifted_146 rfl (lv_at hl 1 rfl) ?_
  refine lv_bipush (v := (12 : Int32)) hx hb dX8_shifted_147 (by decide) ?_
  refine lv_ishr hx hb dX8_shifted_149 ?_
  refine lv_ior hx hb dX8_shifted_150 ?_
  exact oh_reti (v := (((p1 <<< ((4 : Int32) &&& 31)) &&& (65535 : Int32)) ||| (p1 >>> ((12 : Int32) &&& 31)))) (u := σ) hC hP hD hS (oh_pair (by subst hy1; exact (((((((if_neg c2).trans (if_neg c3)).trans (if_neg c4)).trans (if_neg c5)).trans (if_neg c6)).trans (if_neg c7)).trans (if_neg c8)).symm)) dX8_shifted_151
-- OctalHouseModel.is
def spX8_is (p1 : Int32) (p2 : Int32) : Int32 := (if ((p1 >>> (p2 &&& 31)) &&& (1 : Int32)) = (1 : Int32) then (1 : Int32) else (0 : Int32))
set_option maxHeartbeats 8000000 in
set_option maxRecDepth 100000 in
theorem mtX8_is (l : Launch) (a : Nat → Nat) (k : Nat → ClassId) (D : va_G) (σ : oh_St) (p1 : Int32) (p2 : Int32) : oh_Mi l yX8_is wsX8_is { frames := 0, cells := 0, slots := 0, locals := 0 } D (oh_ty k) (oh_V a k) [.int p1, .int p2] σ (fun r u => r = spX8_is p1 p2 ∧ u = σ) := by
  refine oh_ini (cc := cX8_is) (nL := 2) (rt := some .boolean) (by decide) rfl (Nat.le_of_ble_eq_true rfl) ?_
  intro p e s m below meth c A ls hC hP hD hS hl
  obtain ⟨hx, hb, hml, hown, hts, hr, hlocks, hK, hN, hA⟩ := id hC
  have hl : lv_has ls 2 [(0, .int p1), (1, .int p2)] := hl
  refine lv_iload_n hx hb dX8_is_0 rfl (lv_at hl 0 rfl) ?_
  refine lv_iload_n hx hb dX8_is_1 rfl (lv_at hl 1 rfl) ?_
  refine lv_ishr hx hb dX8_is_2 ?_
  refine lv_iconst (v := (1 : Int32)) hx hb dX8_is_3 (by decide) ?_
  refine lv_iand hx hb dX8_is_4 ?_
  refine lv_iconst (v := (1 : Int32)) hx hb dX8_is_5 (by decide) ?_
  refine lv_icmp_ne (tgt := 13) hx hb dX8_is_6 (by decide) (fun c1 => ?_) (fun c1 => ?_)
  · refine lv_iconst (v := (0 : Int32)) hx hb dX8_is_13 (by decide) ?_
    exact oh_retz (v := (0 : Int32)) (u := σ) hC (oh_nb (by decide)) hP hD hS ⟨(by exact (if_neg c1).symm), rfl⟩ dX8_is_14
  · refine lv_iconst (v := (1 : Int32)) hx hb dX8_is_9 (by decide) ?_
    refine lv_goto (tgt := 14) hx hb dX8_is_10 (by decide) ?_
    exact oh_retz (v := (1 : Int32)) (u := σ) hC (oh_nb (by decide)) hP hD hS ⟨(by exact (if_pos c1).symm), rfl⟩ dX8_is_14
theorem b01X8_is (p1 : Int32) (p2 : Int32) : spX8_is p1 p2 = 0 ∨ spX8_is p1 p2 = 1 := by
  unfold spX8_is
  (try dsimp only)
  (repeat' split) <;> first | exact Or.inl rfl | exact Or.inr rfl
