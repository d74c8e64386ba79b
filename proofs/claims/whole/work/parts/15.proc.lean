-- OctalHouse$Processor.registerOf
def spX5_registerOf (p1 : Int32) : Int32 := (if (p1 &&& (2048 : Int32)) = (0 : Int32) then (0 : Int32) else (1 : Int32))
set_option maxHeartbeats 8000000 in
set_option maxRecDepth 100000 in
theorem mtX5_registerOf (l : Launch) (a : Nat → Nat) (k : Nat → ClassId) (D : va_G) (σ : oh_St) (p1 : Int32) : oh_Mi l yX5_registerOf wsX5_registerOf { frames := 0, cells := 0, slots := 0, locals := 0 } D (oh_ty k) (oh_W a k) [.int p1] σ (fun r u => r = spX5_registerOf p1 ∧ u = σ) := by
  refine oh_ini (cc := cX5_registerOf) (nL := 1) (rt := some .int) (by decide) rfl (Nat.le_of_ble_eq_true rfl) ?_
  intro p e s m below meth c A ls hC hP hD hS hl
  obtain ⟨hx, hb, hml, hown, hts, hr, hlocks, hK, hN, hA⟩ := id hC
  have hl : lv_has ls 1 [(0, .int p1)] := hl
  refine lv_iload_n hx hb dX5_registerOf_0 rfl (lv_at hl 0 rfl) ?_
  refine lv_sipush (v := (2048 : Int32)) hx hb dX5_registerOf_1 (by decide) ?_
  refine lv_iand hx hb dX5_registerOf_4 ?_
  refine lv_if_ne (tgt := 12) hx hb dX5_registerOf_5 (by decide) (fun c1 => ?_) (fun c1 => ?_)
  · refine lv_iconst (v := (1 : Int32)) hx hb dX5_registerOf_12 (by decide) ?_
    exact oh_reti (v := (1 : Int32)) (u := σ) hC hP hD hS ⟨(by exact (if_neg c1).symm), rfl⟩ dX5_registerOf_13
  · refine lv_iconst (v := (0 : Int32)) hx hb dX5_registerOf_8 (by decide) ?_
    refine lv_goto (tgt := 13) hx hb dX5_registerOf_9 (by decide) ?_
    exact oh_reti (v := (0 : Int32)) (u := σ) hC hP hD hS ⟨(by exact (if_pos c1).symm), rfl⟩ dX5_registerOf_13
-- OctalHouse$Processor.altered
def spX5_altered (p1 : Int32) (p2 : Int32) : Int32 := (let y1 : Int32 := p2; (if y1 = (1 : Int32) then (0 : Int32) else (if y1 = (2 : Int32) then (p1 ^^^ (65535 : Int32)) else (if y1 = (3 : Int32) then (65535 : Int32) else p1))))
set_option maxHeartbeats 8000000 in
set_option maxRecDepth 100000 in
theorem mtX5_altered (l : Launch) (a : Nat → Nat) (k : Nat → ClassId) (D : va_G) (σ : oh_St) (p1 : Int32) (p2 : Int32) : oh_Mi l yX5_altered wsX5_altered { frames := 0, cells := 0, slots := 0, locals := 0 } D (oh_ty k) (oh_W a k) [.int p1, .int p2] σ (fun r u => r = spX5_altered p1 p2 ∧ u = σ) := by
  refine oh_ini (cc := cX5_altered) (nL := 2) (rt := some .int) (by decide) rfl (Nat.le_of_ble_eq_true rfl) ?_
  intro p e s m below meth c A ls hC hP hD hS hl
  obtain ⟨hx, hb, hml, hown, hts, hr, hlocks, hK, hN, hA⟩ := id hC
  have hl : lv_has ls 2 [(0, .int p1), (1, .int p2)] := hl
  refine lv_iload_n hx hb dX5_altered_0 rfl (lv_at hl 1 rfl) ?_
  refine lv_topi (fun y1 hy1 => ?_)
  by_cases c2 : y1 = (1 : Int32)
  · refine lv_tableIn (tgt := 28) hx hb dX5_altered_1 (by rw [c2]; decide) (by rw [c2]; decide) (by rw [c2]; rfl) (by decide) ?_
    refine lv_iconst (v := (0 : Int32)) hx hb dX5_altered_28 (by decide) ?_
    exact oh_reti (v := (0 : Int32)) (u := σ) hC hP hD hS ⟨(by subst hy1; exact (if_pos c2).symm), rfl⟩ dX5_altered_29
  by_cases c3 : y1 = (2 : Int32)
  · refine lv_tableIn (tgt := 30) hx hb dX5_altered_1 (by rw [c3]; decide) (by rw [c3]; decide) (by rw [c3]; rfl) (by decide) ?_
    refine lv_iload_n hx hb dX5_altered_30 rfl (lv_at hl 0 rfl) ?_
    refine lv_ldc (v := (65535 : Int32)) hx hb hown (hts (.constant RX5 97 (65535)) (by decide +kernel)) dX5_altered_31 ?_
    refine lv_ixor hx hb dX5_altered_33 ?_
    exact oh_reti (v := (p1 ^^^ (65535 : Int32))) (u := σ) hC hP hD hS ⟨(by subst hy1; exact ((if_neg c2).trans (if_pos c3)).symm), rfl⟩ dX5_altered_34
  by_cases c4 : y1 = (3 : Int32)
  · refine lv_tableIn (tgt := 35) hx hb dX5_altered_1 (by rw [c4]; decide) (by rw [c4]; decide) (by rw [c4]; rfl) (by decide) ?_
    refine lv_ldc (v := (65535 : Int32)) hx hb hown (hts (.constant RX5 97 (65535)) (by decide +kernel)) dX5_altered_35 ?_
    exact oh_reti (v := (65535 : Int32)) (u := σ) hC hP hD hS ⟨(by subst hy1; exact (((if_neg c2).trans (if_neg c3)).trans (if_pos c4)).symm), rfl⟩ dX5_altered_37
  refine lv_tableOut (tgt := 38) hx hb dX5_altered_1 (by have hh := True.intro; have : (∀ z : Int32, y1.toInt = z.toInt → y1 = z) := fun z e => Int32.toInt_inj.mp e; have hc2 : y1.toInt ≠ 1 := oh_ne c2; have hc3 : y1.toInt ≠ 2 := oh_ne c3; have hc4 : y1.toInt ≠ 3 := oh_ne c4; omega) (by decide) ?_
  refine lv_iload_n hx hb dX5_altered_38 rfl (lv_at hl 0 rfl) ?_
  exact oh_reti (v := p1) (u := σ) hC hP hD hS ⟨(by subst hy1; exact (((if_neg c2).trans (if_neg c3)).trans (if_neg c4)).symm), rfl⟩ dX5_altered_39
-- OctalHouse$Processor.alteredE
def spX5_alteredE (p1 : Int32) (p2 : Int32) : Int32 := (let y1 : Int32 := p2; (if y1 = (1 : Int32) then (0 : Int32) else (if y1 = (2 : Int32) then ((1 : Int32) - p1) else (if y1 = (3 : Int32) then (1 : Int32) else p1))))
set_option maxHeartbeats 8000000 in
set_option maxRecDepth 100000 in
theorem mtX5_alteredE (l : Launch) (a : Nat → Nat) (k : Nat → ClassId) (D : va_G) (σ : oh_St) (p1 : Int32) (p2 : Int32) : oh_Mi l yX5_alteredE wsX5_alteredE { frames := 0, cells := 0, slots := 0, locals := 0 } D (oh_ty k) (oh_W a k) [.int p1, .int p2] σ (fun r u => r = spX5_alteredE p1 p2 ∧ u = σ) := by
  refine oh_ini (cc := cX5_alteredE) (nL := 2) (rt := some .int) (by decide) rfl (Nat.le_of_ble_eq_true rfl) ?_
  intro p e s m below meth c A ls hC hP hD hS hl
  obtain ⟨hx, hb, hml, hown, hts, hr, hlocks, hK, hN, hA⟩ := id hC
  have hl : lv_has ls 2 [(0, .int p1), (1, .int p2)] := hl
  refine lv_iload_n hx hb dX5_alteredE_0 rfl (lv_at hl 1 rfl) ?_
  refine lv_topi (fun y1 hy1 => ?_)
  by_cases c2 : y1 = (1 : Int32)
  · refine lv_tableIn (tgt := 28) hx hb dX5_alteredE_1 (by rw [c2]; decide) (by rw [c2]; decide) (by rw [c2]; rfl) (by decide) ?_
    refine lv_iconst (v := (0 : Int32)) hx hb dX5_alteredE_28 (by decide) ?_
    exact oh_reti (v := (0 : Int32)) (u := σ) hC hP hD hS ⟨(by subst hy1; exact (if_pos c2).symm), rfl⟩ dX5_alteredE_29
  by_cases c3 : y1 = (2 : Int32)
  · refine lv_tableIn (tgt := 30) hx hb dX5_alteredE_1 (by rw [c3]; decide) (by rw [c3]; decide) (by rw [c3]; rfl) (by decide) ?_
    refine lv_iconst (v := (1 : Int32)) hx hb dX5_alteredE_30 (by decide) ?_
    refine lv_iload_n hx hb dX5_alteredE_31 rfl (lv_at hl 0 rfl) ?_
    refine lv_isub hx hb dX5_alteredE_32 ?_
    exact oh_reti (v := ((1 : Int32) - p1)) (u := σ) hC hP hD hS ⟨(by subst hy1; exact ((if_neg c2).trans (if_pos c3)).symm), rfl⟩ dX5_alteredE_33
  by_cases c4 : y1 = (3 : Int32)
  · refine lv_tableIn (tgt := 34) hx hb dX5_alteredE_1 (by rw [c4]; decide) (by rw [c4]; decide) (by rw [c4]; rfl) (by decide) ?_
    refine lv_iconst (v := (1 : Int32)) hx hb dX5_alteredE_34 (by decide) ?_
    exact oh_reti (v := (1 : Int32)) (u := σ) hC hP hD hS ⟨(by subst hy1; exact (((if_neg c2).trans (if_neg c3)).trans (if_pos c4)).symm), rfl⟩ dX5_alteredE_35
  refine lv_tableOut (tgt := 36) hx hb dX5_alteredE_1 (by have hh := True.intro; have : (∀ z : Int32, y1.toInt = z.toInt → y1 = z) := fun z e => Int32.toInt_inj.mp e; have hc2 : y1.toInt ≠ 1 := oh_ne c2; have hc3 : y1.toInt ≠ 2 := oh_ne c3; have hc4 : y1.toInt ≠ 3 := oh_ne c4; omega) (by decide) ?_
  refine lv_iload_n hx hb dX5_alteredE_36 rfl (lv_at hl 0 rfl) ?_
  exact oh_reti (v := p1) (u := σ) hC hP hD hS ⟨(by subst hy1; exact (((if_neg c2).trans (if_neg c3)).trans (if_neg c4)).symm), rfl⟩ dX5_alteredE_37
-- OctalHouse$Processor.hasAddressBehind
def spX5_hasAddressBehind (p1 : Int32) : Int32 := (if p1 = (32896 : Int32) then (1 : Int32) else (if p1 = (33024 : Int32) then (1 : Int32) else (if p1 = (34944 : Int32) then (1 : Int32) else (if p1 = (35072 : Int32) then (1 : Int32) else (0 : Int32)))))
set_option maxHeartbeats 8000000 in
set_option maxRecDepth 100000 in
theorem mtX5_hasAddressBehind (l : Launch) (a : Nat → Nat) (k : Nat → ClassId) (D : va_G) (σ : oh_St) (p1 : Int32) : oh_Mi l yX5_hasAddressBehind wsX5_hasAddressBehind { frames := 0, cells := 0, slots := 0, locals := 0 } D (oh_ty k) (oh_W a k) [.int p1] σ (fun r u => r = spX5_hasAddressBehind p1 ∧ u = σ) := by
  refine oh_ini (cc := cX5_hasAddressBehind) (nL := 1) (rt := some .boolean) (by decide) rfl (Nat.le_of_ble_eq_true rfl) ?_
  intro p e s m below meth c A ls hC hP hD hS hl
  obtain ⟨hx, hb, hml, hown, hts, hr, hlocks, hK, hN, hA⟩ := id hC
  have hl : lv_has ls 1 [(0, .int p1)] := hl
  refine lv_iload_n hx hb dX5_hasAddressBehind_0 rfl (lv_at hl 0 rfl) ?_
  refine lv_ldc (v := (32896 : Int32)) hx hb hown (hts (.constant RX5 137 (32896)) (by decide +kernel)) dX5_hasAddressBehind_1 ?_
  refine lv_icmp_eq (tgt := 24) hx hb dX5_hasAddressBehind_3 (by decide) (fun c1 => ?_) (fun c1 => ?_)
  · refine lv_iconst (v := (1 : Int32)) hx hb dX5_hasAddressBehind_24 (by decide) ?_
    refine lv_goto (tgt := 29) hx hb dX5_hasAddressBehind_25 (by decide) ?_
    exact oh_retz (v := (1 : Int32)) (u := σ) hC (oh_nb (by decide)) hP hD hS ⟨(by exact (if_pos c1).symm), rfl⟩ dX5_hasAddressBehind_29
  · refine lv_iload_n hx hb dX5_hasAddressBehind_6 rfl (lv_at hl 0 rfl) ?_
    refine lv_ldc (v := (33024 : Int32)) hx hb hown (hts (.constant RX5 138 (33024)) (by decide +kernel)) dX5_hasAddressBehind_7 ?_
    refine lv_icmp_eq (tgt := 24) hx hb dX5_hasAddressBehind_9 (by decide) (fun c2 => ?_) (fun c2 => ?_)
    · refine lv_iconst (v := (1 : Int32)) hx hb dX5_hasAddressBehind_24 (by decide) ?_
      refine lv_goto (tgt := 29) hx hb dX5_hasAddressBehind_25 (by decide) ?_
      exact oh_retz (v := (1 : Int32)) (u := σ) hC (oh_nb (by decide)) hP hD hS ⟨(by exact ((if_neg c1).trans (if_pos c2)).symm), rfl⟩ dX5_hasAddressBehind_29
    · refine lv_iload_n hx hb dX5_hasAddressBehind_12 rfl (lv_at hl 0 rfl) ?_
      refine lv_ldc (v := (34944 : Int32)) hx hb hown (hts (.constant RX5 139 (34944)) (by decide +kernel)) dX5_hasAddressBehind_13 ?_
      refine lv_icmp_eq (tgt := 24) hx hb dX5_hasAddressBehind_15 (by decide) (fun c3 => ?_) (fun c3 => ?_)
      · refine lv_iconst (v := (1 : Int32)) hx hb dX5_hasAddressBehind_24 (by decide) ?_
        refine lv_goto (tgt := 29) hx hb dX5_hasAddressBehind_25 (by decide) ?_
        exact oh_retz (v := (1 : Int32)) (u := σ) hC (oh_nb (by decide)) hP hD hS ⟨(by exact (((if_neg c1).trans (if_neg c2)).trans (if_pos c3)).symm), rfl⟩ dX5_hasAddressBehind_29
      · refine lv_iload_n hx hb dX5_hasAddressBehind_18 rfl (lv_at hl 0 rfl) ?_
        refine lv_ldc (v := (35072 : Int32)) hx hb hown (hts (.constant RX5 140 (35072)) (by decide +kernel)) dX5_hasAddressBehind_19 ?_
        refine lv_icmp_ne (tgt := 28) hx hb dX5_hasAddressBehind_21 (by decide) (fun c4 => ?_) (fun c4 => ?_)
        · refine lv_iconst (v := (0 : Int32)) hx hb dX5_hasAddressBehind_28 (by decide) ?_
          exact oh_retz (v := (0 : Int32)) (u := σ) hC (oh_nb (by decide)) hP hD hS ⟨(by exact ((((if_neg c1).trans (if_neg c2)).trans (if_neg c3)).trans (if_neg c4)).symm), rfl⟩ dX5_hasAddressBehind_29
        · refine lv_iconst (v := (1 : Int32)) hx hb dX5_hasAddressBehind_24 (by decide) ?_
          refine lv_goto (tgt := 29) hx hb dX5_hasAddressBehind_25 (by decide) ?_
          exact oh_retz (v := (1 : Int32)) (u := σ) hC (oh_nb (by decide)) hP hD hS ⟨(by exact ((((if_neg c1).trans (if_neg c2)).trans (if_neg c3)).trans (if_pos c4)).symm), rfl⟩ dX5_hasAddressBehind_29
theorem b01X5_hasAddressBehind (p1 : Int32) : spX5_hasAddressBehind p1 = 0 ∨ spX5_hasAddressBehind p1 = 1 := by
  unfold spX5_hasAddressBehind
  (try dsimp only)
  (repeat' split) <;> first | exact Or.inl rfl | exact Or.inr rfl
-- OctalHouse$Processor.losesUnlikeSign
def spX5_losesUnlikeSign (p1 : Int32) (p2 : Int32) : Int32 := (let x2 : Int32 := (if (0 : Int32) ≤ p1 then (0 : Int32) else (((1 : Int32) <<< (p2 &&& 31)) - (1 : Int32))); (if (((p1 &&& (2147483647 : Int32)).toUInt32 >>> (((31 : Int32) - p2).toUInt32 &&& Int32.toUInt32 31)).toInt32) = x2 then (0 : Int32) else (1 : Int32)))
set_option maxHeartbeats 8000000 in
set_option maxRecDepth 100000 in
theorem mtX5_losesUnlikeSign (l : Launch) (a : Nat → Nat) (k : Nat → ClassId) (D : va_G) (σ : oh_St) (p1 : Int32) (p2 : Int32) : oh_Mi l yX5_losesUnlikeSign wsX5_losesUnlikeSign { frames := 0, cells := 0, slots := 0, locals := 0 } D (oh_ty k) (oh_W a k) [.int p1, .int p2] σ (fun r u => r = spX5_losesUnlikeSign p1 p2 ∧ u = σ) := by
  refine oh_ini (cc := cX5_losesUnlikeSign) (nL := 4) (rt := some .boolean) (by decide) rfl (Nat.le_of_ble_eq_true rfl) ?_
  intro p e s m below meth c A ls hC hP hD hS hl
  obtain ⟨hx, hb, hml, hown, hts, hr, hlocks, hK, hN, hA⟩ := id hC
  have hl : lv_has ls 4 [(0, .int p1), (1, .int p2)] := hl
  refine lv_iload_n hx hb dX5_losesUnlikeSign_0 rfl (lv_at hl 0 rfl) ?_
  refine lv_ldc (v := (2147483647 : Int32)) hx hb hown (hts (.constant RX5 163 (2147483647)) (by decide +kernel)) dX5_losesUnlikeSign_1 ?_
  refine lv_iand hx hb dX5_losesUnlikeSign_3 ?_
  refine lv_bipush (v := (31 : Int32)) hx hb dX5_losesUnlikeSign_4 (by decide) ?_
  refine lv_iload_n hx hb dX5_losesUnlikeSign_6 rfl (lv_at hl 1 rfl) ?_
  refine lv_isub hx hb dX5_losesUnlikeSign_7 ?_
  refine lv_iushr (v := ((p1 &&& (2147483647 : Int32)).toUInt32 >>> (((31 : Int32) - p2).toUInt32 &&& Int32.toUInt32 31)).toInt32) hx hb dX5_losesUnlikeSign_8 rfl ?_
  refine lv_istore_n (lv' := [(2, .int (((p1 &&& (2147483647 : Int32)).toUInt32 >>> (((31 : Int32) - p2).toUInt32 &&& Int32.toUInt32 31)).toInt32)), (0, .int p1), (1, .int p2)]) hx hb dX5_losesUnlikeSign_9 rfl hl (by decide) rfl (fun ls hl => ?_)
  refine lv_iload_n hx hb dX5_losesUnlikeSign_10 rfl (lv_at hl 1 rfl) ?_
  have K4 : ∀ x2 : Int32, x2 = (if (0 : Int32) ≤ p1 then (0 : Int32) else (((1 : Int32) <<< (p2 &&& 31)) - (1 : Int32))) → ∀ (ls : Array Slot) (H : Heap) (locs : List Loc), va_P D vwCl (oh_W a k σ) H → va_D A (oh_W a k σ) → va_S A s.heap H locs → lv_has ls 4 [(2, .int (((p1 &&& (2147483647 : Int32)).toUInt32 >>> (((31 : Int32) - p2).toUInt32 &&& Int32.toUInt32 31)).toInt32)), (0, .int p1), (1, .int p2)] → W p l e ({ frames := 0, cells := 0, slots := 0, locals := 0 } : Room) s m (([.int p1, .int p2] : List Value).toArray) below meth c H locs 0 0 (oh_Ei below (fun r u => r = spX5_losesUnlikeSign p1 p2 ∧ u = σ) D (oh_W a k) A [.int p1, .int p2] s) (F0 m 23 ls [.int x2]) := by
    intro x2 hx2 ls H locs hP hD hS hl
    refine lv_istore_n (lv' := [(3, .int x2), (2, .int (((p1 &&& (2147483647 : Int32)).toUInt32 >>> (((31 : Int32) - p2).toUInt32 &&& Int32.toUInt32 31)).toInt32)), (0, .int p1), (1, .int p2)]) hx hb dX5_losesUnlikeSign_23 rfl hl (by decide) rfl (fun ls hl => ?_)
    refine lv_iload_n hx hb dX5_losesUnlikeSign_24 rfl (lv_at hl 1 rfl) ?_
    refine lv_iload_n hx hb dX5_losesUnlikeSign_25 rfl (lv_at hl 0 rfl) ?_
    refine lv_icmp_eq (tgt := 33) hx hb dX5_losesUnlikeSign_26 (by decide) (fun c3 => ?_) (fun c3 => ?_)
    · refine lv_iconst (v := (0 : Int32)) hx hb dX5_losesUnlikeSign_33 (by decide) ?_
      exact oh_retz (v := (0 : Int32)) (u := σ) hC (oh_nb (by decide)) hP hD hS ⟨(by subst hx2; exact (if_pos c3).symm), rfl⟩ dX5_losesUnlikeSign_34
    · refine lv_iconst (v := (1 : Int32)) hx hb dX5_losesUnlikeSign_29 (by decide) ?_
      refine lv_goto (tgt := 34) hx hb dX5_losesUnlikeSign_30 (by decide) ?_
      exact oh_retz (v := (1 : Int32)) (u := σ) hC (oh_nb (by decide)) hP hD hS ⟨(by subst hx2; exact (if_neg c3).symm), rfl⟩ dX5_losesUnlikeSign_34
  refine lv_if_ge (tgt := 22) hx hb dX5_losesUnlikeSign_11 (by decide) (fun c1 => ?_) (fun c1 => ?_)
  · refine lv_iconst (v := (0 : Int32)) hx hb dX5_losesUnlikeSign_22 (by decide) ?_
    exact K4 _ (if_pos c1).symm ls _ _ hP hD hS (lv_sub hl [0, 1, 2] rfl)
  · refine lv_iconst (v := (1 : Int32)) hx hb dX5_losesUnlikeSign_14 (by decide) ?_
    refine lv_iload_n hx hb dX5_losesUnlikeSign_15 rfl (lv_at hl 2 rfl) ?_
    refine lv_ishl hx hb dX5_losesUnlikeSign_16 ?_
    refine lv_iconst (v := (1 : Int32)) hx hb dX5_losesUnlikeSign_17 (by decide) ?_
    refine lv_isub hx hb dX5_losesUnlikeSign_18 ?_
    refine lv_goto (tgt := 23) hx hb dX5_losesUnlikeSign_19 (by decide) ?_
    exact K4 _ (if_neg c1).symm ls _ _ hP hD hS (lv_sub hl [0, 1, 2] rfl)
theorem b01X5_losesUnlikeSign (p1 : Int32) (p2 : Int32) : spX5_losesUnlikeSign p1 p2 = 0 ∨ spX5_losesUnlikeSign p1 p2 = 1 := by
  unfold spX5_losesUnlikeSign
  (try dsimp only)
  (repeat' split) <;> first | exact Or.inl rfl | exact Or.inr rfl
-- OctalHouse$Processor.nextWord
theorem inX5_nextWord_X5 : ∀ w ∈ u_ws RX5 TX5 3, w ∈ wsX5_nextWord := by decide +kernel
theorem inX5_nextWord_X6 : ∀ w ∈ u_ws RX6 TX6 6, w ∈ wsX5_nextWord := by decide +kernel
def spX5_nextWord (σ : oh_St) : Int32 × oh_St := (let r1 : Int32 := (spX4_read σ (σ 0 3)); (let s2 : oh_St := (spX6_stepOn σ); (r1, s2)))
set_option maxHeartbeats 8000000 in
set_option maxRecDepth 100000 in
theorem mtX5_nextWord (l : Launch) (a : Nat → Nat) (k : Nat → ClassId) (D : va_G) (σ : oh_St)  : oh_Mi l yX5_nextWord wsX5_nextWord { frames := 1, cells := 0, slots := 0, locals := 21 } D (oh_ty k) (oh_W a k) [.ref (a 8)] σ (fun r u => r = (spX5_nextWord σ).1 ∧ u = (spX5_nextWord σ).2) := by
  refine oh_ini (cc := cX5_nextWord) (nL := 2) (rt := some .int) (by decide) rfl (Nat.le_of_ble_eq_true rfl) ?_
  intro p e s m below meth c A ls hC hP hD hS hl
  obtain ⟨hx, hb, hml, hown, hts, hr, hlocks, hK, hN, hA⟩ := id hC
  have hl : lv_has ls 2 [(0, .ref (a 8))] := hl
  refine lv_aload_n hx hb dX5_nextWord_0 rfl (lv_at hl 0 rfl) ?_
  refine oh_get (v := .ref (a 1)) hC hP inX5_nextWord_X5 8 rfl rfl 0 (by decide) (by decide +kernel) rfl dX5_nextWord_1 ?_
  refine lv_aload_n hx hb dX5_nextWord_4 rfl (lv_at hl 0 rfl) ?_
  refine oh_get (v := .ref (a 3)) hC hP inX5_nextWord_X5 8 rfl rfl 1 (by decide) (by decide +kernel) rfl dX5_nextWord_5 ?_
  refine oh_getN (v := .int (σ 0 3)) hC hP inX5_nextWord_X6 3 rfl rfl 0 (by decide) (by decide +kernel) rfl dX5_nextWord_8 ?_
  refine oh_cvp (As := [.int (σ 0 3)]) (rest := []) hC hP hD hS (mtX4_read l a k D σ (σ 0 3)) (cwV 1 hts gX5_nextWord_X4_read rfl rfl rfl (by decide +kernel) ⟨Nat.le_of_ble_eq_true rfl, Nat.le_of_ble_eq_true rfl⟩) 1 4 rfl rfl rfl hl.1 rfl (Nat.le_of_ble_eq_true rfl) dX5_nextWord_11 (fun r1 H locs hr1 hP hD hS => ?_)
  refine lv_istore_n (lv' := [(1, .int r1), (0, .ref (a 8))]) hx hb dX5_nextWord_14 rfl hl (by decide) rfl (fun ls hl => ?_)
  refine lv_aload_n hx hb dX5_nextWord_15 rfl (lv_at hl 1 rfl) ?_
  refine oh_get (v := .ref (a 3)) hC hP inX5_nextWord_X5 8 rfl rfl 1 (by decide) (by decide +kernel) rfl dX5_nextWord_16 ?_
  refine oh_cvv (As := []) (rest := []) hC hP hD hS (mtX6_stepOn l a k D σ) (cwV 0 hts gX5_nextWord_X6_stepOn rfl rfl rfl (by decide +kernel) ⟨Nat.le_of_ble_eq_true rfl, Nat.le_of_ble_eq_true rfl⟩) 3 6 rfl rfl rfl hl.1 rfl (Nat.le_of_ble_eq_true rfl) dX5_nextWord_19 (fun s2 H locs hs2 hP hD hS => ?_)
  refine lv_iload_n hx hb dX5_nextWord_22 rfl (lv_at hl 0 rfl) ?_
  exact oh_reti (v := r1) (u := s2) hC hP hD hS (oh_pair (by subst hs2 hr1; exact rfl)) dX5_nextWord_23
-- OctalHouse$Processor.skipIf
theorem inX5_skipIf_X5 : ∀ w ∈ u_ws RX5 TX5 3, w ∈ wsX5_skipIf := by decide +kernel
def spX5_skipIf (σ : oh_St) (p1 : Int32) : oh_St := (if p1 = (0 : Int32) then σ else (let s2 : oh_St := (spX6_stepOn σ); s2))
set_option maxHeartbeats 8000000 in
set_option maxRecDepth 100000 in
theorem mtX5_skipIf (l : Launch) (a : Nat → Nat) (k : Nat → ClassId) (D : va_G) (σ : oh_St) (p1 : Int32) : oh_Mv l yX5_skipIf wsX5_skipIf { frames := 1, cells := 0, slots := 0, locals := 20 } D (oh_ty k) (oh_W a k) [.ref (a 8), .int p1] σ (fun u => u = spX5_skipIf σ p1) := by
  refine oh_inv (cc := cX5_skipIf) (nL := 2) (rt := none) (by decide) rfl (Nat.le_of_ble_eq_true rfl) ?_
  intro p e s m below meth c A ls hC hP hD hS hl
  obtain ⟨hx, hb, hml, hown, hts, hr, hlocks, hK, hN, hA⟩ := id hC
  have hl : lv_has ls 2 [(0, .ref (a 8)), (1, .int p1)] := hl
  refine lv_iload_n hx hb dX5_skipIf_0 rfl (lv_at hl 1 rfl) ?_
  refine lv_if_eq (tgt := 11) hx hb dX5_skipIf_1 (by decide) (fun c1 => ?_) (fun c1 => ?_)
  · exact oh_retv (u := σ) hC hP hD hS (by exact (if_pos c1).symm) dX5_skipIf_11
  · refine lv_aload_n hx hb dX5_skipIf_4 rfl (lv_at hl 0 rfl) ?_
    refine oh_get (v := .ref (a 3)) hC hP inX5_skipIf_X5 8 rfl rfl 1 (by decide) (by decide +kernel) rfl dX5_skipIf_5 ?_
    refine oh_cvv (As := []) (rest := []) hC hP hD hS (mtX6_stepOn l a k D σ) (cwV 0 hts gX5_skipIf_X6_stepOn rfl rfl rfl (by decide +kernel) ⟨Nat.le_of_ble_eq_true rfl, Nat.le_of_ble_eq_true rfl⟩) 3 6 rfl rfl rfl hl.1 rfl (Nat.le_of_ble_eq_true rfl) dX5_skipIf_8 (fun s2 H locs hs2 hP hD hS => ?_)
    exact oh_retv (u := s2) hC hP hD hS (by subst hs2; exact (if_neg c1).symm) dX5_skipIf_11
-- OctalHouse$Processor.jump
theorem inX5_jump_X5 : ∀ w ∈ u_ws RX5 TX5 3, w ∈ wsX5_jump := by decide +kernel
theorem inX5_jump_X6 : ∀ w ∈ u_ws RX6 TX6 6, w ∈ wsX5_jump := by decide +kernel
def spX5_jump (σ : oh_St) (p1 : Int32) (p2 : Int32) : oh_St := (oh_up (oh_up σ 0 3 (p1 &&& (32767 : Int32))) 0 6 p2)
set_option maxHeartbeats 8000000 in
set_option maxRecDepth 100000 in
theorem mtX5_jump (l : Launch) (a : Nat → Nat) (k : Nat → ClassId) (D : va_G) (σ : oh_St) (p1 : Int32) (p2 : Int32) (hbp2 : p2 = 0 ∨ p2 = 1) : oh_Mv l yX5_jump wsX5_jump { frames := 0, cells := 0, slots := 0, locals := 0 } D (oh_ty k) (oh_W a k) [.ref (a 8), .int p1, .int p2] σ (fun u => u = spX5_jump σ p1 p2) := by
  refine oh_inv (cc := cX5_jump) (nL := 3) (rt := none) (by decide) rfl (Nat.le_of_ble_eq_true rfl) ?_
  intro p e s m below meth c A ls hC hP hD hS hl
  obtain ⟨hx, hb, hml, hown, hts, hr, hlocks, hK, hN, hA⟩ := id hC
  have hl : lv_has ls 3 [(0, .ref (a 8)), (1, .int p1), (2, .int p2)] := hl
  refine lv_aload_n hx hb dX5_jump_0 rfl (lv_at hl 0 rfl) ?_
  refine oh_get (v := .ref (a 3)) hC hP inX5_jump_X5 8 rfl rfl 1 (by decide) (by decide +kernel) rfl dX5_jump_1 ?_
  refine lv_iload_n hx hb dX5_jump_4 rfl (lv_at hl 1 rfl) ?_
  refine lv_sipush (v := (32767 : Int32)) hx hb dX5_jump_5 (by decide) ?_
  refine lv_iand hx hb dX5_jump_8 ?_
  refine oh_putN (σ' := (oh_up σ 0 3 (p1 &&& (32767 : Int32)))) (v := .int (p1 &&& (32767 : Int32))) hC hP hD hS inX5_jump_X6 tyX6 tyX6_ok nmX6 3 rfl rfl 0 (by decide) (by decide +kernel) rfl rfl rfl (by simp) rfl dX5_jump_9 (fun H locs hP hD hS => ?_)
  refine lv_aload_n hx hb dX5_jump_12 rfl (lv_at hl 0 rfl) ?_
  refine oh_get (v := .ref (a 3)) hC hP inX5_jump_X5 8 rfl rfl 1 (by decide) (by decide +kernel) rfl dX5_jump_13 ?_
  refine lv_iload_n hx hb dX5_jump_16 rfl (lv_at hl 2 rfl) ?_
  refine oh_putN (σ' := (oh_up (oh_up σ 0 3 (p1 &&& (32767 : Int32))) 0 6 p2)) (v := .int p2) hC hP hD hS inX5_jump_X6 tyX6 tyX6_ok nmX6 3 rfl rfl 3 (by decide) (by decide +kernel) rfl (oh_nb hbp2) (oh_fb hbp2) (by simp) rfl dX5_jump_17 (fun H locs hP hD hS => ?_)
  exact oh_retv (u := (oh_up (oh_up σ 0 3 (p1 &&& (32767 : Int32))) 0 6 p2)) hC hP hD hS (by exact rfl) dX5_jump_20
-- OctalHouse$Processor.incrementAndSkip
theorem inX5_incrementAndSkip_X5 : ∀ w ∈ u_ws RX5 TX5 3, w ∈ wsX5_incrementAndSkip := by decide +kernel
def spX5_incrementAndSkip (σ : oh_St) (p1 : Int32) (p2 : Int32) : oh_St := (let s1 : oh_St := (spX4_write σ p1 ((p2 + (1 : Int32)) &&& (65535 : Int32))); (let x3 : Int32 := (if ((p2 + (1 : Int32)) &&& (65535 : Int32)) = (0 : Int32) then (1 : Int32) else (0 : Int32)); (let s4 : oh_St := (spX5_skipIf s1 x3); s4)))
set_option maxHeartbeats 8000000 in
set_option maxRecDepth 100000 in
theorem mtX5_incrementAndSkip (l : Launch) (a : Nat → Nat) (k : Nat → ClassId) (D : va_G) (σ : oh_St) (p1 : Int32) (p2 : Int32) : oh_Mv l yX5_incrementAndSkip wsX5_incrementAndSkip { frames := 2, cells := 0, slots := 0, locals := 41 } D (oh_ty k) (oh_W a k) [.ref (a 8), .int p1, .int p2] σ (fun u => u = spX5_incrementAndSkip σ p1 p2) := by
  refine oh_inv (cc := cX5_incrementAndSkip) (nL := 4) (rt := none) (by decide) rfl (Nat.le_of_ble_eq_true rfl) ?_
  intro p e s m below meth c A ls hC hP hD hS hl
  obtain ⟨hx, hb, hml, hown, hts, hr, hlocks, hK, hN, hA⟩ := id hC
  have hl : lv_has ls 4 [(0, .ref (a 8)), (1, .int p1), (2, .int p2)] := hl
  refine lv_iload_n hx hb dX5_incrementAndSkip_0 rfl (lv_at hl 2 rfl) ?_
  refine lv_iconst (v := (1 : Int32)) hx hb dX5_incrementAndSkip_1 (by decide) ?_
  refine lv_iadd hx hb dX5_incrementAndSkip_2 ?_
  refine lv_ldc (v := (65535 : Int32)) hx hb hown (hts (.constant RX5 97 (65535)) (by decide +kernel)) dX5_incrementAndSkip_3 ?_
  refine lv_iand hx hb dX5_incrementAndSkip_5 ?_
  refine lv_istore_n (lv' := [(3, .int ((p2 + (1 : Int32)) &&& (65535 : Int32))), (0, .ref (a 8)), (1, .int p1), (2, .int p2)]) hx hb dX5_incrementAndSkip_6 rfl hl (by decide) rfl (fun ls hl => ?_)
  refine lv_aload_n hx hb dX5_incrementAndSkip_7 rfl (lv_at hl 1 rfl) ?_
  refine oh_get (v := .ref (a 1)) hC hP inX5_incrementAndSkip_X5 8 rfl rfl 0 (by decide) (by decide +kernel) rfl dX5_incrementAndSkip_8 ?_
  refine lv_iload_n hx hb dX5_incrementAndSkip_11 rfl (lv_at hl 2 rfl) ?_
  refine lv_iload_n hx hb dX5_incrementAndSkip_12 rfl (lv_at hl 0 rfl) ?_
  refine oh_cvv (As := [.int p1, .int ((p2 + (1 : Int32)) &&& (65535 : Int32))]) (rest := []) hC hP hD hS (mtX4_write l a k D σ p1 ((p2 + (1 : Int32)) &&& (65535 : Int32))) (cwV 2 hts gX5_incrementAndSkip_X4_write rfl rfl rfl (by decide +kernel) ⟨Nat.le_of_ble_eq_true rfl, Nat.le_of_ble_eq_true rfl⟩) 1 4 rfl rfl rfl hl.1 rfl (Nat.le_of_ble_eq_true rfl) dX5_incrementAndSkip_13 (fun s1 H locs hs1 hP hD hS => ?_)
  refine lv_aload_n hx hb dX5_incrementAndSkip_16 rfl (lv_at hl 1 rfl) ?_
  refine lv_iload_n hx hb dX5_incrementAndSkip_17 rfl (lv_at hl 0 rfl) ?_
  have K5 : ∀ x3 : Int32, x3 = (if ((p2 + (1 : Int32)) &&& (65535 : Int32)) = (0 : Int32) then (1 : Int32) else (0 : Int32)) → ∀ (ls : Array Slot) (H : Heap) (locs : List Loc), va_P D vwCl (oh_W a k s1) H → va_D A (oh_W a k s1) → va_S A s.heap H locs → lv_has ls 4 [(3, .int ((p2 + (1 : Int32)) &&& (65535 : Int32))), (0, .ref (a 8)), (1, .int p1), (2, .int p2)] → W p l e ({ frames := 2, cells := 0, slots := 0, locals := 41 } : Room) s m (([.ref (a 8), .int p1, .int p2] : List Value).toArray) below meth c H locs 0 0 (oh_Ev below (fun u => u = spX5_incrementAndSkip σ p1 p2) D (oh_W a k) A [.ref (a 8), .int p1, .int p2] s) (F0 m 26 ls [.int x3, .ref (a 8)]) := by
    intro x3 hx3 ls H locs hP hD hS hl
    refine oh_cvv (As := [.int x3]) (rest := []) hC hP hD hS (mtX5_skipIf l a k D s1 x3) (cwV 1 hts gX5_incrementAndSkip_X5_skipIf rfl rfl rfl (by decide +kernel) ⟨Nat.le_of_ble_eq_true rfl, Nat.le_of_ble_eq_true rfl⟩) 8 5 rfl rfl rfl hl.1 rfl (Nat.le_of_ble_eq_true rfl) dX5_incrementAndSkip_26 (fun s4 H locs hs4 hP hD hS => ?_)
    exact oh_retv (u := s4) hC hP hD hS (by subst hs4 hx3 hs1; exact rfl) dX5_incrementAndSkip_29
  refine lv_if_ne (tgt := 25) hx hb dX5_incrementAndSkip_18 (by decide) (fun c2 => ?_) (fun c2 => ?_)
  · refine lv_iconst (v := (0 : Int32)) hx hb dX5_incrementAndSkip_25 (by decide) ?_
    exact K5 _ (if_neg c2).symm ls _ _ hP hD hS (lv_sub hl [0, 1, 2, 3] rfl)
  · refine lv_iconst (v := (1 : Int32)) hx hb dX5_incrementAndSkip_21 (by decide) ?_
    refine lv_goto (tgt := 26) hx hb dX5_incrementAndSkip_22 (by decide) ?_
    exact K5 _ (if_pos c2).symm ls _ _ hP hD hS (lv_sub hl [0, 1, 2, 3] rfl)
-- OctalHouse$Processor.add
theorem inX5_add_X5 : ∀ w ∈ u_ws RX5 TX5 3, w ∈ wsX5_add := by decide +kernel
theorem inX5_add_X6 : ∀ w ∈ u_ws RX6 TX6 6, w ∈ wsX5_add := by decide +kernel
def spX5_add (σ : oh_St) (p1 : Int32) (p2 : Int32) : oh_St := (let r1 : Int32 := (spX4_read σ p1); (let s2 : oh_St := (spX4_write σ p1 (r1 + p2)); (let s4 : oh_St := (if (r1 + p2) ≤ (65535 : Int32) then s2 else (oh_up s2 0 4 (1 : Int32))); (if (((r1 ^^^ (r1 + p2)) &&& (p2 ^^^ (r1 + p2))) &&& (32768 : Int32)) = (0 : Int32) then s4 else (oh_up s4 0 5 (1 : Int32))))))
set_option maxHeartbeats 8000000 in
set_option maxRecDepth 100000 in
theorem mtX5_add (l : Launch) (a : Nat → Nat) (k : Nat → ClassId) (D : va_G) (σ : oh_St) (p1 : Int32) (p2 : Int32) : oh_Mv l yX5_add wsX5_add { frames := 1, cells := 0, slots := 0, locals := 22 } D (oh_ty k) (oh_W a k) [.ref (a 8), .int p1, .int p2] σ (fun u => u = spX5_add σ p1 p2) := by
  refine oh_inv (cc := cX5_add) (nL := 5) (rt := none) (by decide) rfl (Nat.le_of_ble_eq_true rfl) ?_
  intro p e s m below meth c A ls hC hP hD hS hl
  obtain ⟨hx, hb, hml, hown, hts, hr, hlocks, hK, hN, hA⟩ := id hC
  have hl : lv_has ls 5 [(0, .ref (a 8)), (1, .int p1), (2, .int p2)] := hl
  refine lv_aload_n hx hb dX5_add_0 rfl (lv_at hl 0 rfl) ?_
  refine oh_get (v := .ref (a 1)) hC hP inX5_add_X5 8 rfl rfl 0 (by decide) (by decide +kernel) rfl dX5_add_1 ?_
  refine lv_iload_n hx hb dX5_add_4 rfl (lv_at hl 1 rfl) ?_
  refine oh_cvp (As := [.int p1]) (rest := []) hC hP hD hS (mtX4_read l a k D σ p1) (cwV 1 hts gX5_add_X4_read rfl rfl rfl (by decide +kernel) ⟨Nat.le_of_ble_eq_true rfl, Nat.le_of_ble_eq_true rfl⟩) 1 4 rfl rfl rfl hl.1 rfl (Nat.le_of_ble_eq_true rfl) dX5_add_5 (fun r1 H locs hr1 hP hD hS => ?_)
  refine lv_istore_n (lv' := [(3, .int r1), (0, .ref (a 8)), (1, .int p1), (2, .int p2)]) hx hb dX5_add_8 rfl hl (by decide) rfl (fun ls hl => ?_)
  refine lv_iload_n hx hb dX5_add_9 rfl (lv_at hl 0 rfl) ?_
  refine lv_iload_n hx hb dX5_add_10 rfl (lv_at hl 3 rfl) ?_
  refine lv_iadd hx hb dX5_add_11 ?_
  refine lv_istore (lv' := [(4, .int (r1 + p2)), (3, .int r1), (0, .ref (a 8)), (1, .int p1), (2, .int p2)]) hx hb dX5_add_12 hl (by decide) rfl (fun ls hl => ?_)
  refine lv_aload_n hx hb dX5_add_14 rfl (lv_at hl 2 rfl) ?_
  refine oh_get (v := .ref (a 1)) hC hP inX5_add_X5 8 rfl rfl 0 (by decide) (by decide +kernel) rfl dX5_add_15 ?_
  refine lv_iload_n hx hb dX5_add_18 rfl (lv_at hl 3 rfl) ?_
  refine lv_iload hx hb dX5_add_19 (lv_at hl 0 rfl) ?_
  refine oh_cvv (As := [.int p1, .int (r1 + p2)]) (rest := []) hC hP hD hS (mtX4_write l a k D σ p1 (r1 + p2)) (cwV 2 hts gX5_add_X4_write rfl rfl rfl (by decide +kernel) ⟨Nat.le_of_ble_eq_true rfl, Nat.le_of_ble_eq_true rfl⟩) 1 4 rfl rfl rfl hl.1 rfl (Nat.le_of_ble_eq_true rfl) dX5_add_21 (fun s2 H locs hs2 hP hD hS => ?_)
  refine lv_iload hx hb dX5_add_24 (lv_at hl 0 rfl) ?_
  refine lv_ldc (v := (65535 : Int32)) hx hb hown (hts (.constant RX5 97 (65535)) (by decide +kernel)) dX5_add_26 ?_
  have K6 : ∀ s4 : oh_St, s4 = (if (r1 + p2) ≤ (65535 : Int32) then s2 else (oh_up s2 0 4 (1 : Int32))) → ∀ (ls : Array Slot) (H : Heap) (locs : List Loc), va_P D vwCl (oh_W a k s4) H → va_D A (oh_W a k s4) → va_S A s.heap H locs → lv_has ls 5 [(4, .int (r1 + p2)), (3, .int r1), (0, .ref (a 8)), (1, .int p1), (2, .int p2)] → W p l e ({ frames := 1, cells := 0, slots := 0, locals := 22 } : Room) s m (([.ref (a 8), .int p1, .int p2] : List Value).toArray) below meth c H locs 0 0 (oh_Ev below (fun u => u = spX5_add σ p1 p2) D (oh_W a k) A [.ref (a 8), .int p1, .int p2] s) (F0 m 39 ls []) := by
    intro s4 hs4 ls H locs hP hD hS hl
    refine lv_iload_n hx hb dX5_add_39 rfl (lv_at hl 1 rfl) ?_
    refine lv_iload hx hb dX5_add_40 (lv_at hl 0 rfl) ?_
    refine lv_ixor hx hb dX5_add_42 ?_
    refine lv_iload_n hx hb dX5_add_43 rfl (lv_at hl 4 rfl) ?_
    refine lv_iload hx hb dX5_add_44 (lv_at hl 0 rfl) ?_
    refine lv_ixor hx hb dX5_add_46 ?_
    refine lv_iand hx hb dX5_add_47 ?_
    refine lv_ldc (v := (32768 : Int32)) hx hb hown (hts (.constant RX5 38 (32768)) (by decide +kernel)) dX5_add_48 ?_
    refine lv_iand hx hb dX5_add_50 ?_
    refine lv_if_eq (tgt := 62) hx hb dX5_add_51 (by decide) (fun c5 => ?_) (fun c5 => ?_)
    · exact oh_retv (u := s4) hC hP hD hS (by subst hs4 hs2 hr1; exact (if_pos c5).symm) dX5_add_62
    · refine lv_aload_n hx hb dX5_add_54 rfl (lv_at hl 2 rfl) ?_
      refine oh_get (v := .ref (a 3)) hC hP inX5_add_X5 8 rfl rfl 1 (by decide) (by decide +kernel) rfl dX5_add_55 ?_
      refine lv_iconst (v := (1 : Int32)) hx hb dX5_add_58 (by decide) ?_
      refine oh_putN (σ' := (oh_up s4 0 5 (1 : Int32))) (v := .int (1 : Int32)) hC hP hD hS inX5_add_X6 tyX6 tyX6_ok nmX6 3 rfl rfl 2 (by decide) (by decide +kernel) rfl rfl rfl (by simp) rfl dX5_add_59 (fun H locs hP hD hS => ?_)
      exact oh_retv (u := (oh_up s4 0 5 (1 : Int32))) hC hP hD hS (by subst hs4 hs2 hr1; exact (if_neg c5).symm) dX5_add_62
  refine lv_icmp_le (tgt := 39) hx hb dX5_add_28 (by decide) (fun c3 => ?_) (fun c3 => ?_)
  · exact K6 _ (if_pos c3).symm ls _ _ hP hD hS (lv_sub hl [0, 1, 2, 3, 4] rfl)
  · refine lv_aload_n hx hb dX5_add_31 rfl (lv_at hl 2 rfl) ?_
    refine oh_get (v := .ref (a 3)) hC hP inX5_add_X5 8 rfl rfl 1 (by decide) (by decide +kernel) rfl dX5_add_32 ?_
    refine lv_iconst (v := (1 : Int32)) hx hb dX5_add_35 (by decide) ?_
    refine oh_putN (σ' := (oh_up s2 0 4 (1 : Int32))) (v := .int (1 : Int32)) hC hP hD hS inX5_add_X6 tyX6 tyX6_ok nmX6 3 rfl rfl 1 (by decide) (by decide +kernel) rfl rfl rfl (by simp) rfl dX5_add_36 (fun H locs hP hD hS => ?_)
    exact K6 _ (if_neg c3).symm ls _ _ hP hD hS (lv_sub hl [0, 1, 2, 3, 4] rfl)
-- OctalHouse$Processor.throughE
theorem inX5_throughE_X5 : ∀ w ∈ u_ws RX5 TX5 3, w ∈ wsX5_throughE := by decide +kernel
theorem inX5_throughE_X6 : ∀ w ∈ u_ws RX6 TX6 6, w ∈ wsX5_throughE := by decide +kernel
def spX5_throughE (σ : oh_St) (p1 : Int32) (p2 : Int32) : Int32 × oh_St := (p2, (oh_up σ 0 4 p1))
set_option maxHeartbeats 8000000 in
set_option maxRecDepth 100000 in
theorem mtX5_throughE (l : Launch) (a : Nat → Nat) (k : Nat → ClassId) (D : va_G) (σ : oh_St) (p1 : Int32) (p2 : Int32) : oh_Mi l yX5_throughE wsX5_throughE { frames := 0, cells := 0, slots := 0, locals := 0 } D (oh_ty k) (oh_W a k) [.ref (a 8), .int p1, .int p2] σ (fun r u => r = (spX5_throughE σ p1 p2).1 ∧ u = (spX5_throughE σ p1 p2).2) := by
  refine oh_ini (cc := cX5_throughE) (nL := 3) (rt := some .int) (by decide) rfl (Nat.le_of_ble_eq_true rfl) ?_
  intro p e s m below meth c A ls hC hP hD hS hl
  obtain ⟨hx, hb, hml, hown, hts, hr, hlocks, hK, hN, hA⟩ := id hC
  have hl : lv_has ls 3 [(0, .ref (a 8)), (1, .int p1), (2, .int p2)] := hl
  refine lv_aload_n hx hb dX5_throughE_0 rfl (lv_at hl 0 rfl) ?_
  refine oh_get (v := .ref (a 3)) hC hP inX5_throughE_X5 8 rfl rfl 1 (by decide) (by decide +kernel) rfl dX5_throughE_1 ?_
  refine lv_iload_n hx hb dX5_throughE_4 rfl (lv_at hl 1 rfl) ?_
  refine oh_putN (σ' := (oh_up σ 0 4 p1)) (v := .int p1) hC hP hD hS inX5_throughE_X6 tyX6 tyX6_ok nmX6 3 rfl rfl 1 (by decide) (by decide +kernel) rfl rfl rfl (by simp) rfl dX5_throughE_5 (fun H locs hP hD hS => ?_)
  refine lv_iload_n hx hb dX5_throughE_8 rfl (lv_at hl 2 rfl) ?_
  exact oh_reti (v := p2) (u := (oh_up σ 0 4 p1)) hC hP hD hS (oh_pair (by exact rfl)) dX5_throughE_9
-- OctalHouse$Processor.shifted
theorem inX5_shifted_X5 : ∀ w ∈ u_ws RX5 TX5 3, w ∈ wsX5_shifted := by decide +kernel
theorem inX5_shifted_X6 : ∀ w ∈ u_ws RX6 TX6 6, w ∈ wsX5_shifted := by decide +kernel
def spX5_shifted (σ : oh_St) (p1 : Int32) (p2 : Int32) : Int32 × oh_St := (let y1 : Int32 := p2; (if y1 = (0 : Int32) then (((p1 &&& (32768 : Int32)) ||| ((p1 <<< ((1 : Int32) &&& 31)) &&& (32767 : Int32))), σ) else (if y1 = (1 : Int32) then (((p1 &&& (32768 : Int32)) ||| (p1 >>> ((1 : Int32) &&& 31))), σ) else (if y1 = (2 : Int32) then ((((p1 <<< ((1 : Int32) &&& 31)) ||| (p1 >>> ((15 : Int32) &&& 31))) &&& (65535 : Int32)), σ) else (if y1 = (3 : Int32) then ((((p1 >>> ((1 : Int32) &&& 31)) ||| (p1 <<< ((15 : Int32) &&& 31))) &&& (65535 : Int32)), σ) else (if y1 = (4 : Int32) then (((p1 <<< ((1 : Int32) &&& 31)) &&& (32767 : Int32)), σ) else (if y1 = (5 : Int32) then (let r8 : Int32 := (spX5_throughE σ (p1 &&& (1 : Int32)) ((p1 >>> ((1 : Int32) &&& 31)) ||| ((σ 0 4) <<< ((15 : Int32) &&& 31)))).1; (let s9 : oh_St := (spX5_throughE σ (p1 &&& (1 : Int32)) ((p1 >>> ((1 : Int32) &&& 31)) ||| ((σ 0 4) <<< ((15 : Int32) &&& 31)))).2; (r8, s9))) else (if y1 = (6 : Int32) then (let r11 : Int32 := (spX5_throughE σ (p1 >>> ((15 : Int32) &&& 31)) (((p1 <<< ((1 : Int32) &&& 31)) &&& (65535 : Int32)) ||| (σ 0 4))).1; (let s12 : oh_St := (spX5_throughE σ (p1 >>> ((15 : Int32) &&& 31)) (((p1 <<< ((1 : Int32) &&& 31)) &&& (65535 : Int32)) ||| (σ 0 4))).2; (r11, s12))) else ((((p1 <<< ((4 : Int32) &&& 31)) ||| (p1 >>> ((12 : Int32) &&& 31))) &&& (65535 : Int32)), σ)))))))))
set_option maxHeartbeats 8000000 in
set_option maxRecDepth 100000 in
theorem mtX5_shifted (l : Launch) (a : Nat → Nat) (k : Nat → ClassId) (D : va_G) (σ : oh_St) (p1 : Int32) (p2 : Int32) : oh_Mi l yX5_shifted wsX5_shifted { frames := 1, cells := 0, slots := 0, locals := 22 } D (oh_ty k) (oh_W a k) [.ref (a 8), .int p1, .int p2] σ (fun r u => r = (spX5_shifted σ p1 p2).1 ∧ u = (spX5_shifted σ p1 p2).2) := by
  refine oh_ini (cc := cX5_shifted) (nL := 3) (rt := some .int) (by decide) rfl (Nat.le_of_ble_eq_true rfl) ?_
  intro p e s m below meth c A ls hC hP hD hS hl
  obtain ⟨hx, hb, hml, hown, hts, hr, hlocks, hK, hN, hA⟩ := id hC
  have hl : lv_has ls 3 [(0, .ref (a 8)), (1, .int p1), (2, .int p2)] := hl
  refine lv_iload_n hx hb dX5_shifted_0 rfl (lv_at hl 2 rfl) ?_
  refine lv_topi (fun y1 hy1 => ?_)
  by_cases c2 : y1 = (0 : Int32)
  · refine lv_tableIn (tgt := 44) hx hb dX5_shifted_1 (by rw [c2]; decide) (by rw [c2]; decide) (by rw [c2]; rfl) (by decide) ?_
    refine lv_iload_n hx hb dX5_shifted_44 rfl (lv_at hl 1 rfl) ?_
    refine lv_ldc (v := (32768 : Int32)) hx hb hown (hts (.constant RX5 38 (32768)) (by decide +kernel)) dX5_shifted_45 ?_
    refine lv_iand hx hb dX5_shifted_47 ?_
    refine lv_iload_n hx hb dX5_shifted_48 rfl (lv_at hl 1 rfl) ?_
    refine lv_iconst (v := (1 : Int32)) hx hb dX5_shifted_49 (by decide) ?_
    refine lv_ishl hx hb dX5_shifted_50 ?_
    refine lv_sipush (v := (32767 : Int32)) hx hb dX5_shifted_51 (by decide) ?_
    refine lv_iand hx hb dX5_shifted_54 ?_
    refine lv_ior hx hb dX5_shifted_55 ?_
    exact oh_reti (v := ((p1 &&& (32768 : Int32)) ||| ((p1 <<< ((1 : Int32) &&& 31)) &&& (32767 : Int32)))) (u := σ) hC hP hD hS (oh_pair (by subst hy1; exact (if_pos c2).symm)) dX5_shifted_56
  by_cases c3 : y1 = (1 : Int32)
  · refine lv_tableIn (tgt := 57) hx hb dX5_shifted_1 (by rw [c3]; decide) (by rw [c3]; decide) (by rw [c3]; rfl) (by decide) ?_
    refine lv_iload_n hx hb dX5_shifted_57 rfl (lv_at hl 1 rfl) ?_
    refine lv_ldc (v := (32768 : Int32)) hx hb hown (hts (.constant RX5 38 (32768)) (by decide +kernel)) dX5_shifted_58 ?_
    refine lv_iand hx hb dX5_shifted_60 ?_
    refine lv_iload_n hx hb dX5_shifted_61 rfl (lv_at hl 1 rfl) ?_
    refine lv_iconst (v := (1 : Int32)) hx hb dX5_shifted_62 (by decide) ?_
    refine lv_ishr hx hb dX5_shifted_63 ?_
    refine lv_ior hx hb dX5_shifted_64 ?_
    exact oh_reti (v := ((p1 &&& (32768 : Int32)) ||| (p1 >>> ((1 : Int32) &&& 31)))) (u := σ) hC hP hD hS (oh_pair (by subst hy1; exact ((if_neg c2).trans (if_pos c3)).symm)) dX5_shifted_65
  by_cases c4 : y1 = (2 : Int32)
  · refine lv_tableIn (tgt := 66) hx hb dX5_shifted_1 (by rw [c4]; decide) (by rw [c4]; decide) (by rw [c4]; rfl) (by decide) ?_
    refine lv_iload_n hx hb dX5_shifted_66 rfl (lv_at hl 1 rfl) ?_
    refine lv_iconst (v := (1 : Int32)) hx hb dX5_shifted_67 (by decide) ?_
    refine lv_ishl hx hb dX5_shifted_68 ?_
    refine lv_iload_n hx hb dX5_shifted_69 rfl (lv_at hl 1 rfl) ?_
    refine lv_bipush (v := (15 : Int32)) hx hb dX5_shifted_70 (by decide) ?_
    refine lv_ishr hx hb dX5_shifted_72 ?_
    refine lv_ior hx hb dX5_shifted_73 ?_
    refine lv_ldc (v := (65535 : Int32)) hx hb hown (hts (.constant RX5 97 (65535)) (by decide +kernel)) dX5_shifted_74 ?_
    refine lv_iand hx hb dX5_shifted_76 ?_
    exact oh_reti (v := (((p1 <<< ((1 : Int32) &&& 31)) ||| (p1 >>> ((15 : Int32) &&& 31))) &&& (65535 : Int32))) (u := σ) hC hP hD hS (oh_pair (by subst hy1; exact (((if_neg c2).trans (if_neg c3)).trans (if_pos c4)).symm)) dX5_shifted_77
  by_cases c5 : y1 = (3 : Int32)
  · refine lv_tableIn (tgt := 78) hx hb dX5_shifted_1 (by rw [c5]; decide) (by rw [c5]; decide) (by rw [c5]; rfl) (by decide) ?_
    refine lv_iload_n hx hb dX5_shifted_78 rfl (lv_at hl 1 rfl) ?_
    refine lv_iconst (v := (1 : Int32)) hx hb dX5_shifted_79 (by decide) ?_
    refine lv_ishr hx hb dX5_shifted_80 ?_
    refine lv_iload_n hx hb dX5_shifted_81 rfl (lv_at hl 1 rfl) ?_
    refine lv_bipush (v := (15 : Int32)) hx hb dX5_shifted_82 (by decide) ?_
    refine lv_ishl hx hb dX5_shifted_84 ?_
    refine lv_ior hx hb dX5_shifted_85 ?_
    refine lv_ldc (v := (65535 : Int32)) hx hb hown (hts (.constant RX5 97 (65535)) (by decide +kernel)) dX5_shifted_86 ?_
    refine lv_iand hx hb dX5_shifted_88 ?_
    exact oh_reti (v := (((p1 >>> ((1 : Int32) &&& 31)) ||| (p1 <<< ((15 : Int32) &&& 31))) &&& (65535 : Int32))) (u := σ) hC hP hD hS (oh_pair (by subst hy1; exact ((((if_neg c2).trans (if_neg c3)).trans (if_neg c4)).trans (if_pos c5)).symm)) dX5_shifted_89
  by_cases c6 : y1 = (4 : Int32)
  · refine lv_tableIn (tgt := 90) hx hb dX5_shifted_1 (by rw [c6]; decide) (by rw [c6]; decide) (by rw [c6]; rfl) (by decide) ?_
    refine lv_iload_n hx hb dX5_shifted_90 rfl (lv_at hl 1 rfl) ?_
    refine lv_iconst (v := (1 : Int32)) hx hb dX5_shifted_91 (by decide) ?_
    refine lv_ishl hx hb dX5_shifted_92 ?_
    refine lv_sipush (v := (32767 : Int32)) hx hb dX5_shifted_93 (by decide) ?_
    refine lv_iand hx hb dX5_shifted_96 ?_
    exact oh_reti (v := ((p1 <<< ((1 : Int32) &&& 31)) &&& (32767 : Int32))) (u := σ) hC hP hD hS (oh_pair (by subst hy1; exact (((((if_neg c2).trans (if_neg c3)).trans (if_neg c4)).trans (if_neg c5)).trans (if_pos c6)).symm)) dX5_shifted_97
  by_cases c7 : y1 = (5 : Int32)
  · refine lv_tableIn (tgt := 98) hx hb dX5_shifted_1 (by rw [c7]; decide) (by rw [c7]; decide) (by rw [c7]; rfl) (by decide) ?_
    refine lv_aload_n hx hb dX5_shifted_98 rfl (lv_at hl 0 rfl) ?_
    refine lv_iload_n hx hb dX5_shifted_99 rfl (lv_at hl 1 rfl) ?_
    refine lv_iconst (v := (1 : Int32)) hx hb dX5_shifted_100 (by decide) ?_
    refine lv_iand hx hb dX5_shifted_101 ?_
    refine lv_iload_n hx hb dX5_shifted_102 rfl (lv_at hl 1 rfl) ?_
    refine lv_iconst (v := (1 : Int32)) hx hb dX5_shifted_103 (by decide) ?_
    refine lv_ishr hx hb dX5_shifted_104 ?_
    refine lv_aload_n hx hb dX5_shifted_105 rfl (lv_at hl 0 rfl) ?_
    refine oh_get (v := .ref (a 3)) hC hP inX5_shifted_X5 8 rfl rfl 1 (by decide) (by decide +kernel) rfl dX5_shifted_106 ?_
    refine oh_getN (v := .int (σ 0 4)) hC hP inX5_shifted_X6 3 rfl rfl 1 (by decide) (by decide +kernel) rfl dX5_shifted_109 ?_
    refine lv_bipush (v := (15 : Int32)) hx hb dX5_shifted_112 (by decide) ?_
    refine lv_ishl hx hb dX5_shifted_114 ?_
    refine lv_ior hx hb dX5_shifted_115 ?_
    refine oh_cvi (As := [.int (p1 &&& (1 : Int32)), .int ((p1 >>> ((1 : Int32) &&& 31)) ||| ((σ 0 4) <<< ((15 : Int32) &&& 31)))]) (rest := []) hC hP hD hS (mtX5_throughE l a k D σ (p1 &&& (1 : Int32)) ((p1 >>> ((1 : Int32) &&& 31)) ||| ((σ 0 4) <<< ((15 : Int32) &&& 31)))) (cwV 2 hts gX5_shifted_X5_throughE rfl rfl rfl (by decide +kernel) ⟨Nat.le_of_ble_eq_true rfl, Nat.le_of_ble_eq_true rfl⟩) 8 5 rfl rfl rfl hl.1 rfl (Nat.le_of_ble_eq_true rfl) dX5_shifted_116 (fun r8 s9 H locs hw hP hD hS => ?_)
    obtain ⟨hr8, hs9⟩ := hw
    exact oh_reti (v := r8) (u := s9) hC hP hD hS (oh_pair (by subst hs9 hr8 hy1; exact ((((((if_neg c2).trans (if_neg c3)).trans (if_neg c4)).trans (if_neg c5)).trans (if_neg c6)).trans (if_pos c7)).symm)) dX5_shifted_119
  by_cases c10 : y1 = (6 : Int32)
  · refine lv_tableIn (tgt := 120) hx hb dX5_shifted_1 (by rw [c10]; decide) (by rw [c10]; decide) (by rw [c10]; rfl) (by decide) ?_
    refine lv_aload_n hx hb dX5_shifted_120 rfl (lv_at hl 0 rfl) ?_
    refine lv_iload_n hx hb dX5_shifted_121 rfl (lv_at hl 1 rfl) ?_
    refine lv_bipush (v := (15 : Int32)) hx hb dX5_shifted_122 (by decide) ?_
    refine lv_ishr hx hb dX5_shifted_124 ?_
    refine lv_iload_n hx hb dX5_shifted_125 rfl (lv_at hl 1 rfl) ?_
    refine lv_iconst (v := (1 : Int32)) hx hb dX5_shifted_126 (by decide) ?_
    refine lv_ishl hx hb dX5_shifted_127 ?_
    refine lv_ldc (v := (65535 : Int32)) hx hb hown (hts (.constant RX5 97 (65535)) (by decide +kernel)) dX5_shifted_128 ?_
    refine lv_iand hx hb dX5_shifted_130 ?_
    refine lv_aload_n hx hb dX5_shifted_131 rfl (lv_at hl 0 rfl) ?_
    refine oh_get (v := .ref (a 3)) hC hP inX5_shifted_X5 8 rfl rfl 1 (by decide) (by decide +kernel) rfl dX5_shifted_132 ?_
    refine oh_getN (v := .int (σ 0 4)) hC hP inX5_shifted_X6 3 rfl rfl 1 (by decide) (by decide +kernel) rfl dX5_shifted_135 ?_
    refine lv_ior hx hb dX5_shifted_138 ?_
    refine oh_cvi (As := [.int (p1 >>> ((15 : Int32) &&& 31)), .int (((p1 <<< ((1 : Int32) &&& 31)) &&& (65535 : Int32)) ||| (σ 0 4))]) (rest := []) hC hP hD hS (mtX5_throughE l a k D σ (p1 >>> ((15 : Int32) &&& 31)) (((p1 <<< ((1 : Int32) &&& 31)) &&& (65535 : Int32)) ||| (σ 0 4))) (cwV 2 hts gX5_shifted_X5_throughE rfl rfl rfl (by decide +kernel) ⟨Nat.le_of_ble_eq_true rfl, Nat.le_of_ble_eq_true rfl⟩) 8 5 rfl rfl rfl hl.1 rfl (Nat.le_of_ble_eq_true rfl) dX5_shifted_139 (fun r11 s12 H locs hw hP hD hS => ?_)
    obtain ⟨hr11, hs12⟩ := hw
    exact oh_reti (v := r11) (u := s12) hC hP hD hS (oh_pair (by subst hs12 hr11 hy1; exact (((((((if_neg c2).trans (if_neg c3)).trans (if_neg c4)).trans (if_neg c5)).trans (if_neg c6)).trans (if_neg c7)).trans (if_pos c10)).symm)) dX5_shifted_142
  refine lv_tableOut (tgt := 143) hx hb dX5_shifted_1 (by have hh := True.intro; have : (∀ z : Int32, y1.toInt = z.toInt → y1 = z) := fun z e => Int32.toInt_inj.mp e; have hc2 : y1.toInt ≠ 0 := oh_ne c2; have hc3 : y1.toInt ≠ 1 := oh_ne c3; have hc4 : y1.toInt ≠ 2 := oh_ne c4; have hc5 : y1.toInt ≠ 3 := oh_ne c5; have hc6 : y1.toInt ≠ 4 := oh_ne c6; have hc7 : y1.toInt ≠ 5 := oh_ne c7; have hc10 : y1.toInt ≠ 6 := oh_ne c10; omega) (by decide) ?_
  refine lv_iload_n hx hb dX5_shifted_143 rfl (lv_at hl 1 rfl) ?_
  refine lv_iconst (v := (4 : Int32)) hx hb dX5_shifted_144 (by decide) ?_
  refine lv_ishl hx hb dX5_shifted_145 ?_
  refine lv_iload_n hx hb dX5_shifted_146 rfl (lv_at hl 1 rfl) ?_
  refine lv_bipush (v := (12 : Int32)) hx hb dX5_shifted_147 (by decide) ?_
  refine lv_ishr hx hb dX5_shifted_149 ?_
  refine lv_ior hx hb dX5_shifted_150 ?_
  refine lv_ldc (v := (65535 : Int32)) hx hb hown (hts (.constant RX5 97 (65535)) (by decide +kernel)) dX5_shifted_151 ?_
  refine lv_iand hx hb dX5_shifted_153 ?_
  exact oh_reti (v := (((p1 <<< ((4 : Int32) &&& 31)) ||| (p1 >>> ((12 : Int32) &&& 31))) &&& (65535 : Int32))) (u := σ) hC hP hD hS (oh_pair (by subst hy1; exact (((((((if_neg c2).trans (if_neg c3)).trans (if_neg c4)).trans (if_neg c5)).trans (if_neg c6)).trans (if_neg c7)).trans (if_neg c10)).symm)) dX5_shifted_154
-- OctalHouse$Processor.shiftAndSkip
theorem inX5_shiftAndSkip_X5 : ∀ w ∈ u_ws RX5 TX5 3, w ∈ wsX5_shiftAndSkip := by decide +kernel
theorem inX5_shiftAndSkip_X6 : ∀ w ∈ u_ws RX6 TX6 6, w ∈ wsX5_shiftAndSkip := by decide +kernel
def spX5_shiftAndSkip (σ : oh_St) (p1 : Int32) : oh_St := (let r1 : Int32 := (spX5_registerOf p1); (let s7 : oh_St := (if (p1 &&& (512 : Int32)) = (0 : Int32) then σ else (let r3 : Int32 := (spX4_read σ r1); (let r4 : Int32 := (spX5_shifted σ r3 ((p1 >>> ((6 : Int32) &&& 31)) &&& (7 : Int32))).1; (let s5 : oh_St := (spX5_shifted σ r3 ((p1 >>> ((6 : Int32) &&& 31)) &&& (7 : Int32))).2; (let s6 : oh_St := (spX4_write s5 r1 r4); s6))))); (let s9 : oh_St := (if (p1 &&& (32 : Int32)) = (0 : Int32) then s7 else (oh_up s7 0 4 (0 : Int32))); (let x13 : Int32 := (if (p1 &&& (8 : Int32)) = (0 : Int32) then (0 : Int32) else (let r11 : Int32 := (spX4_read s9 r1); (if (r11 &&& (1 : Int32)) = (0 : Int32) then (1 : Int32) else (0 : Int32)))); (let s14 : oh_St := (spX5_skipIf s9 x13); (if (p1 &&& (16 : Int32)) = (0 : Int32) then s14 else (let r16 : Int32 := (spX4_read s14 r1); (let r17 : Int32 := (spX5_shifted s14 r16 (p1 &&& (7 : Int32))).1; (let s18 : oh_St := (spX5_shifted s14 r16 (p1 &&& (7 : Int32))).2; (let s19 : oh_St := (spX4_write s18 r1 r17); s19))))))))))
set_option maxHeartbeats 8000000 in
set_option maxRecDepth 100000 in
theorem mtX5_shiftAndSkip (l : Launch) (a : Nat → Nat) (k : Nat → ClassId) (D : va_G) (σ : oh_St) (p1 : Int32) : oh_Mv l yX5_shiftAndSkip wsX5_shiftAndSkip { frames := 2, cells := 0, slots := 0, locals := 44 } D (oh_ty k) (oh_W a k) [.ref (a 8), .int p1] σ (fun u => u = spX5_shiftAndSkip σ p1) := by
  refine oh_inv (cc := cX5_shiftAndSkip) (nL := 3) (rt := none) (by decide) rfl (Nat.le_of_ble_eq_true rfl) ?_
  intro p e s m below meth c A ls hC hP hD hS hl
  obtain ⟨hx, hb, hml, hown, hts, hr, hlocks, hK, hN, hA⟩ := id hC
  have hl : lv_has ls 3 [(0, .ref (a 8)), (1, .int p1)] := hl
  refine lv_iload_n hx hb dX5_shiftAndSkip_0 rfl (lv_at hl 1 rfl) ?_
  refine oh_csp (As := [.int p1]) (rest := []) hC hP hD hS (mtX5_registerOf l a k D σ p1) (va_cwS 1 hts gX5_shiftAndSkip_X5_registerOf rfl rfl rfl (by decide +kernel) ⟨Nat.le_of_ble_eq_true rfl, Nat.le_of_ble_eq_true rfl⟩) rfl hl.1 rfl (Nat.le_of_ble_eq_true rfl) dX5_shiftAndSkip_1 (fun r1 H locs hr1 hP hD hS => ?_)
  refine lv_istore_n (lv' := [(2, .int r1), (0, .ref (a 8)), (1, .int p1)]) hx hb dX5_shiftAndSkip_4 rfl hl (by decide) rfl (fun ls hl => ?_)
  refine lv_iload_n hx hb dX5_shiftAndSkip_5 rfl (lv_at hl 2 rfl) ?_
  refine lv_sipush (v := (512 : Int32)) hx hb dX5_shiftAndSkip_6 (by decide) ?_
  refine lv_iand hx hb dX5_shiftAndSkip_9 ?_
  have K22 : ∀ s7 : oh_St, s7 = (if (p1 &&& (512 : Int32)) = (0 : Int32) then σ else (let r3 : Int32 := (spX4_read σ r1); (let r4 : Int32 := (spX5_shifted σ r3 ((p1 >>> ((6 : Int32) &&& 31)) &&& (7 : Int32))).1; (let s5 : oh_St := (spX5_shifted σ r3 ((p1 >>> ((6 : Int32) &&& 31)) &&& (7 : Int32))).2; (let s6 : oh_St := (spX4_write s5 r1 r4); s6))))) → ∀ (ls : Array Slot) (H : Heap) (locs : List Loc), va_P D vwCl (oh_W a k s7) H → va_D A (oh_W a k s7) → va_S A s.heap H locs → lv_has ls 3 [(2, .int r1), (0, .ref (a 8)), (1, .int p1)] → W p l e ({ frames := 2, cells := 0, slots := 0, locals := 44 } : Room) s m (([.ref (a 8), .int p1] : List Value).toArray) below meth c H locs 0 0 (oh_Ev below (fun u => u = spX5_shiftAndSkip σ p1) D (oh_W a k) A [.ref (a 8), .int p1] s) (F0 m 40 ls []) := by
    intro s7 hs7 ls H locs hP hD hS hl
    refine lv_iload_n hx hb dX5_shiftAndSkip_40 rfl (lv_at hl 2 rfl) ?_
    refine lv_bipush (v := (32 : Int32)) hx hb dX5_shiftAndSkip_41 (by decide) ?_
    refine lv_iand hx hb dX5_shiftAndSkip_43 ?_
    have K21 : ∀ s9 : oh_St, s9 = (if (p1 &&& (32 : Int32)) = (0 : Int32) then s7 else (oh_up s7 0 4 (0 : Int32))) → ∀ (ls : Array Slot) (H : Heap) (locs : List Loc), va_P D vwCl (oh_W a k s9) H → va_D A (oh_W a k s9) → va_S A s.heap H locs → lv_has ls 3 [(2, .int r1), (0, .ref (a 8)), (1, .int p1)] → W p l e ({ frames := 2, cells := 0, slots := 0, locals := 44 } : Room) s m (([.ref (a 8), .int p1] : List Value).toArray) below meth c H locs 0 0 (oh_Ev below (fun u => u = spX5_shiftAndSkip σ p1) D (oh_W a k) A [.ref (a 8), .int p1] s) (F0 m 55 ls []) := by
      intro s9 hs9 ls H locs hP hD hS hl
      refine lv_aload_n hx hb dX5_shiftAndSkip_55 rfl (lv_at hl 1 rfl) ?_
      refine lv_iload_n hx hb dX5_shiftAndSkip_56 rfl (lv_at hl 2 rfl) ?_
      refine lv_bipush (v := (8 : Int32)) hx hb dX5_shiftAndSkip_57 (by decide) ?_
      refine lv_iand hx hb dX5_shiftAndSkip_59 ?_
      have K20 : ∀ x13 : Int32, x13 = (if (p1 &&& (8 : Int32)) = (0 : Int32) then (0 : Int32) else (let r11 : Int32 := (spX4_read s9 r1); (if (r11 &&& (1 : Int32)) = (0 : Int32) then (1 : Int32) else (0 : Int32)))) → ∀ (ls : Array Slot) (H : Heap) (locs : List Loc), va_P D vwCl (oh_W a k s9) H → va_D A (oh_W a k s9) → va_S A s.heap H locs → lv_has ls 3 [(2, .int r1), (0, .ref (a 8)), (1, .int p1)] → W p l e ({ frames := 2, cells := 0, slots := 0, locals := 44 } : Room) s m (([.ref (a 8), .int p1] : List Value).toArray) below meth c H locs 0 0 (oh_Ev below (fun u => u = spX5_shiftAndSkip σ p1) D (oh_W a k) A [.ref (a 8), .int p1] s) (F0 m 81 ls [.int x13, .ref (a 8)]) := by
        intro x13 hx13 ls H locs hP hD hS hl
        refine oh_cvv (As := [.int x13]) (rest := []) hC hP hD hS (mtX5_skipIf l a k D s9 x13) (cwV 1 hts gX5_shiftAndSkip_X5_skipIf rfl rfl rfl (by decide +kernel) ⟨Nat.le_of_ble_eq_true rfl, Nat.le_of_ble_eq_true rfl⟩) 8 5 rfl rfl rfl hl.1 rfl (Nat.le_of_ble_eq_true rfl) dX5_shiftAndSkip_81 (fun s14 H locs hs14 hP hD hS => ?_)
        refine lv_iload_n hx hb dX5_shiftAndSkip_84 rfl (lv_at hl 2 rfl) ?_
        refine lv_bipush (v := (16 : Int32)) hx hb dX5_shiftAndSkip_85 (by decide) ?_
        refine lv_iand hx hb dX5_shiftAndSkip_87 ?_
        refine lv_if_eq (tgt := 115) hx hb dX5_shiftAndSkip_88 (by decide) (fun c15 => ?_) (fun c15 => ?_)
        · exact oh_retv (u := s14) hC hP hD hS (by subst hs14 hx13 hs9 hs7 hr1; exact (if_pos c15).symm) dX5_shiftAndSkip_115
        · refine lv_aload_n hx hb dX5_shiftAndSkip_91 rfl (lv_at hl 1 rfl) ?_
          refine oh_get (v := .ref (a 1)) hC hP inX5_shiftAndSkip_X5 8 rfl rfl 0 (by decide) (by decide +kernel) rfl dX5_shiftAndSkip_92 ?_
          refine lv_iload_n hx hb dX5_shiftAndSkip_95 rfl (lv_at hl 0 rfl) ?_
          refine lv_aload_n hx hb dX5_shiftAndSkip_96 rfl (lv_at hl 1 rfl) ?_
          refine lv_aload_n hx hb dX5_shiftAndSkip_97 rfl (lv_at hl 1 rfl) ?_
          refine oh_get (v := .ref (a 1)) hC hP inX5_shiftAndSkip_X5 8 rfl rfl 0 (by decide) (by decide +kernel) rfl dX5_shiftAndSkip_98 ?_
          refine lv_iload_n hx hb dX5_shiftAndSkip_101 rfl (lv_at hl 0 rfl) ?_
          refine oh_cvp (As := [.int r1]) (rest := [.ref (a 8), .int r1, .ref (a 1)]) hC hP hD hS (mtX4_read l a k D s14 r1) (cwV 1 hts gX5_shiftAndSkip_X4_read rfl rfl rfl (by decide +kernel) ⟨Nat.le_of_ble_eq_true rfl, Nat.le_of_ble_eq_true rfl⟩) 1 4 rfl rfl rfl hl.1 rfl (Nat.le_of_ble_eq_true rfl) dX5_shiftAndSkip_102 (fun r16 H locs hr16 hP hD hS => ?_)
          refine lv_iload_n hx hb dX5_shiftAndSkip_105 rfl (lv_at hl 2 rfl) ?_
          refine lv_bipush (v := (7 : Int32)) hx hb dX5_shiftAndSkip_106 (by decide) ?_
          refine lv_iand hx hb dX5_shiftAndSkip_108 ?_
          refine oh_cvi (As := [.int r16, .int (p1 &&& (7 : Int32))]) (rest := [.int r1, .ref (a 1)]) hC hP hD hS (mtX5_shifted l a k D s14 r16 (p1 &&& (7 : Int32))) (cwV 2 hts gX5_shiftAndSkip_X5_shifted rfl rfl rfl (by decide +kernel) ⟨Nat.le_of_ble_eq_true rfl, Nat.le_of_ble_eq_true rfl⟩) 8 5 rfl rfl rfl hl.1 rfl (Nat.le_of_ble_eq_true rfl) dX5_shiftAndSkip_109 (fun r17 s18 H locs hw hP hD hS => ?_)
          obtain ⟨hr17, hs18⟩ := hw
          refine oh_cvv (As := [.int r1, .int r17]) (rest := []) hC hP hD hS (mtX4_write l a k D s18 r1 r17) (cwV 2 hts gX5_shiftAndSkip_X4_write rfl rfl rfl (by decide +kernel) ⟨Nat.le_of_ble_eq_true rfl, Nat.le_of_ble_eq_true rfl⟩) 1 4 rfl rfl rfl hl.1 rfl (Nat.le_of_ble_eq_true rfl) dX5_shiftAndSkip_112 (fun s19 H locs hs19 hP hD hS => ?_)
          exact oh_retv (u := s19) hC hP hD hS (by subst hs19 hs18 hr17 hr16 hs14 hx13 hs9 hs7 hr1; exact (if_neg c15).symm) dX5_shiftAndSkip_115
      refine lv_if_eq (tgt := 80) hx hb dX5_shiftAndSkip_60 (by decide) (fun c10 => ?_) (fun c10 => ?_)
      · refine lv_iconst (v := (0 : Int32)) hx hb dX5_shiftAndSkip_80 (by decide) ?_
        exact K20 _ (if_pos c10).symm ls _ _ hP hD hS (lv_sub hl [0, 1, 2] rfl)
      · refine lv_aload_n hx hb dX5_shiftAndSkip_63 rfl (lv_at hl 1 rfl) ?_
        refine oh_get (v := .ref (a 1)) hC hP inX5_shiftAndSkip_X5 8 rfl rfl 0 (by decide) (by decide +kernel) rfl dX5_shiftAndSkip_64 ?_
        refine lv_iload_n hx hb dX5_shiftAndSkip_67 rfl (lv_at hl 0 rfl) ?_
        refine oh_cvp (As := [.int r1]) (rest := [.ref (a 8)]) hC hP hD hS (mtX4_read l a k D s9 r1) (cwV 1 hts gX5_shiftAndSkip_X4_read rfl rfl rfl (by decide +kernel) ⟨Nat.le_of_ble_eq_true rfl, Nat.le_of_ble_eq_true rfl⟩) 1 4 rfl rfl rfl hl.1 rfl (Nat.le_of_ble_eq_true rfl) dX5_shiftAndSkip_68 (fun r11 H locs hr11 hP hD hS => ?_)
        refine lv_iconst (v := (1 : Int32)) hx hb dX5_shiftAndSkip_71 (by decide) ?_
        refine lv_iand hx hb dX5_shiftAndSkip_72 ?_
        refine lv_if_ne (tgt := 80) hx hb dX5_shiftAndSkip_73 (by decide) (fun c12 => ?_) (fun c12 => ?_)
        · refine lv_iconst (v := (0 : Int32)) hx hb dX5_shiftAndSkip_80 (by decide) ?_
          exact K20 _ (by subst hr11; exact ((if_neg c10).trans (if_neg c12)).symm) ls _ _ hP hD hS (lv_sub hl [0, 1, 2] rfl)
        · refine lv_iconst (v := (1 : Int32)) hx hb dX5_shiftAndSkip_76 (by decide) ?_
          refine lv_goto (tgt := 81) hx hb dX5_shiftAndSkip_77 (by decide) ?_
          exact K20 _ (by subst hr11; exact ((if_neg c10).trans (if_pos c12)).symm) ls _ _ hP hD hS (lv_sub hl [0, 1, 2] rfl)
    refine lv_if_eq (tgt := 55) hx hb dX5_shiftAndSkip_44 (by decide) (fun c8 => ?_) (fun c8 => ?_)
    · exact K21 _ (if_pos c8).symm ls _ _ hP hD hS (lv_sub hl [0, 1, 2] rfl)
    · refine lv_aload_n hx hb dX5_shiftAndSkip_47 rfl (lv_at hl 1 rfl) ?_
      refine oh_get (v := .ref (a 3)) hC hP inX5_shiftAndSkip_X5 8 rfl rfl 1 (by decide) (by decide +kernel) rfl dX5_shiftAndSkip_48 ?_
      refine lv_iconst (v := (0 : Int32)) hx hb dX5_shiftAndSkip_51 (by decide) ?_
      refine oh_putN (σ' := (oh_up s7 0 4 (0 : Int32))) (v := .int (0 : Int32)) hC hP hD hS inX5_shiftAndSkip_X6 tyX6 tyX6_ok nmX6 3 rfl rfl 1 (by decide) (by decide +kernel) rfl rfl rfl (by simp) rfl dX5_shiftAndSkip_52 (fun H locs hP hD hS => ?_)
      exact K21 _ (if_neg c8).symm ls _ _ hP hD hS (lv_sub hl [0, 1, 2] rfl)
  refine lv_if_eq (tgt := 40) hx hb dX5_shiftAndSkip_10 (by decide) (fun c2 => ?_) (fun c2 => ?_)
  · exact K22 _ (if_pos c2).symm ls _ _ hP hD hS (lv_sub hl [0, 1, 2] rfl)
  · refine lv_aload_n hx hb dX5_shiftAndSkip_13 rfl (lv_at hl 1 rfl) ?_
    refine oh_get (v := .ref (a 1)) hC hP inX5_shiftAndSkip_X5 8 rfl rfl 0 (by decide) (by decide +kernel) rfl dX5_shiftAndSkip_14 ?_
    refine lv_iload_n hx hb dX5_shiftAndSkip_17 rfl (lv_at hl 0 rfl) ?_
    refine lv_aload_n hx hb dX5_shiftAndSkip_18 rfl (lv_at hl 1 rfl) ?_
    refine lv_aload_n hx hb dX5_shiftAndSkip_19 rfl (lv_at hl 1 rfl) ?_
    refine oh_get (v := .ref (a 1)) hC hP inX5_shiftAndSkip_X5 8 rfl rfl 0 (by decide) (by decide +kernel) rfl dX5_shiftAndSkip_20 ?_
    refine lv_iload_n hx hb dX5_shiftAndSkip_23 rfl (lv_at hl 0 rfl) ?_
    refine oh_cvp (As := [.int r1]) (rest := [.ref (a 8), .int r1, .ref (a 1)]) hC hP hD hS (mtX4_read l a k D σ r1) (cwV 1 hts gX5_shiftAndSkip_X4_read rfl rfl rfl (by decide +kernel) ⟨Nat.le_of_ble_eq_true rfl, Nat.le_of_ble_eq_true rfl⟩) 1 4 rfl rfl rfl hl.1 rfl (Nat.le_of_ble_eq_true rfl) dX5_shiftAndSkip_24 (fun r3 H locs hr3 hP hD hS => ?_)
    refine lv_iload_n hx hb dX5_shiftAndSkip_27 rfl (lv_at hl 2 rfl) ?_
    refine lv_bipush (v := (6 : Int32)) hx hb dX5_shiftAndSkip_28 (by decide) ?_
    refine lv_ishr hx hb dX5_shiftAndSkip_30 ?_
    refine lv_bipush (v := (7 : Int32)) hx hb dX5_shiftAndSkip_31 (by decide) ?_
    refine lv_iand hx hb dX5_shiftAndSkip_33 ?_
    refine oh_cvi (As := [.int r3, .int ((p1 >>> ((6 : Int32) &&& 31)) &&& (7 : Int32))]) (rest := [.int r1, .ref (a 1)]) hC hP hD hS (mtX5_shifted l a k D σ r3 ((p1 >>> ((6 : Int32) &&& 31)) &&& (7 : Int32))) (cwV 2 hts gX5_shiftAndSkip_X5_shifted rfl rfl rfl (by decide +kernel) ⟨Nat.le_of_ble_eq_true rfl, Nat.le_of_ble_eq_true rfl⟩) 8 5 rfl rfl rfl hl.1 rfl (Nat.le_of_ble_eq_true rfl) dX5_shiftAndSkip_34 (fun r4 s5 H locs hw hP hD hS => ?_)
    obtain ⟨hr4, hs5⟩ := hw
    refine oh_cvv (As := [.int r1, .int r4]) (rest := []) hC hP hD hS (mtX4_write l a k D s5 r1 r4) (cwV 2 hts gX5_shiftAndSkip_X4_write rfl rfl rfl (by decide +kernel) ⟨Nat.le_of_ble_eq_true rfl, Nat.le_of_ble_eq_true rfl⟩) 1 4 rfl rfl rfl hl.1 rfl (Nat.le_of_ble_eq_true rfl) dX5_shiftAndSkip_37 (fun s6 H locs hs6 hP hD hS => ?_)
    exact K22 _ (by subst hs6 hs5 hr4 hr3; exact (if_neg c2).symm) ls _ _ hP hD hS (lv_sub hl [0, 1, 2] rfl)
-- OctalHouse$Processor.incremented
theorem inX5_incremented_X5 : ∀ w ∈ u_ws RX5 TX5 3, w ∈ wsX5_incremented := by decide +kernel
theorem inX5_incremented_X6 : ∀ w ∈ u_ws RX6 TX6 6, w ∈ wsX5_incremented := by decide +kernel
def spX5_incremented (σ : oh_St) (p1 : Int32) : Int32 × oh_St := (let s2 : oh_St := (if p1 = (65535 : Int32) then (oh_up σ 0 4 (1 : Int32)) else σ); (let s4 : oh_St := (if p1 = (32767 : Int32) then (oh_up s2 0 5 (1 : Int32)) else s2); (((p1 + (1 : Int32)) &&& (65535 : Int32)), s4)))
set_option maxHeartbeats 8000000 in
set_option maxRecDepth 100000 in
theorem mtX5_incremented (l : Launch) (a : Nat → Nat) (k : Nat → ClassId) (D : va_G) (σ : oh_St) (p1 : Int32) : oh_Mi l yX5_incremented wsX5_incremented { frames := 0, cells := 0, slots := 0, locals := 0 } D (oh_ty k) (oh_W a k) [.ref (a 8), .int p1] σ (fun r u => r = (spX5_incremented σ p1).1 ∧ u = (spX5_incremented σ p1).2) := by
  refine oh_ini (cc := cX5_incremented) (nL := 2) (rt := some .int) (by decide) rfl (Nat.le_of_ble_eq_true rfl) ?_
  intro p e s m below meth c A ls hC hP hD hS hl
  obtain ⟨hx, hb, hml, hown, hts, hr, hlocks, hK, hN, hA⟩ := id hC
  have hl : lv_has ls 2 [(0, .ref (a 8)), (1, .int p1)] := hl
  refine lv_iload_n hx hb dX5_incremented_0 rfl (lv_at hl 1 rfl) ?_
  refine lv_ldc (v := (65535 : Int32)) hx hb hown (hts (.constant RX5 97 (65535)) (by decide +kernel)) dX5_incremented_1 ?_
  have K6 : ∀ s2 : oh_St, s2 = (if p1 = (65535 : Int32) then (oh_up σ 0 4 (1 : Int32)) else σ) → ∀ (ls : Array Slot) (H : Heap) (locs : List Loc), va_P D vwCl (oh_W a k s2) H → va_D A (oh_W a k s2) → va_S A s.heap H locs → lv_has ls 2 [(0, .ref (a 8)), (1, .int p1)] → W p l e ({ frames := 0, cells := 0, slots := 0, locals := 0 } : Room) s m (([.ref (a 8), .int p1] : List Value).toArray) below meth c H locs 0 0 (oh_Ei below (fun r u => r = (spX5_incremented σ p1).1 ∧ u = (spX5_incremented σ p1).2) D (oh_W a k) A [.ref (a 8), .int p1] s) (F0 m 14 ls []) := by
    intro s2 hs2 ls H locs hP hD hS hl
    refine lv_iload_n hx hb dX5_incremented_14 rfl (lv_at hl 1 rfl) ?_
    refine lv_sipush (v := (32767 : Int32)) hx hb dX5_incremented_15 (by decide) ?_
    have K5 : ∀ s4 : oh_St, s4 = (if p1 = (32767 : Int32) then (oh_up s2 0 5 (1 : Int32)) else s2) → ∀ (ls : Array Slot) (H : Heap) (locs : List Loc), va_P D vwCl (oh_W a k s4) H → va_D A (oh_W a k s4) → va_S A s.heap H locs → lv_has ls 2 [(0, .ref (a 8)), (1, .int p1)] → W p l e ({ frames := 0, cells := 0, slots := 0, locals := 0 } : Room) s m (([.ref (a 8), .int p1] : List Value).toArray) below meth c H locs 0 0 (oh_Ei below (fun r u => r = (spX5_incremented σ p1).1 ∧ u = (spX5_incremented σ p1).2) D (oh_W a k) A [.ref (a 8), .int p1] s) (F0 m 29 ls []) := by
      intro s4 hs4 ls H locs hP hD hS hl
      refine lv_iload_n hx hb dX5_incremented_29 rfl (lv_at hl 1 rfl) ?_
      refine lv_iconst (v := (1 : Int32)) hx hb dX5_incremented_30 (by decide) ?_
      refine lv_iadd hx hb dX5_incremented_31 ?_
      refine lv_ldc (v := (65535 : Int32)) hx hb hown (hts (.constant RX5 97 (65535)) (by decide +kernel)) dX5_incremented_32 ?_
      refine lv_iand hx hb dX5_incremented_34 ?_
      exact oh_reti (v := ((p1 + (1 : Int32)) &&& (65535 : Int32))) (u := s4) hC hP hD hS (oh_pair (by subst hs4 hs2; exact rfl)) dX5_incremented_35
    refine lv_icmp_ne (tgt := 29) hx hb dX5_incremented_18 (by decide) (fun c3 => ?_) (fun c3 => ?_)
    · exact K5 _ (if_neg c3).symm ls _ _ hP hD hS (lv_sub hl [0, 1] rfl)
    · refine lv_aload_n hx hb dX5_incremented_21 rfl (lv_at hl 0 rfl) ?_
      refine oh_get (v := .ref (a 3)) hC hP inX5_incremented_X5 8 rfl rfl 1 (by decide) (by decide +kernel) rfl dX5_incremented_22 ?_
      refine lv_iconst (v := (1 : Int32)) hx hb dX5_incremented_25 (by decide) ?_
      refine oh_putN (σ' := (oh_up s2 0 5 (1 : Int32))) (v := .int (1 : Int32)) hC hP hD hS inX5_incremented_X6 tyX6 tyX6_ok nmX6 3 rfl rfl 2 (by decide) (by decide +kernel) rfl rfl rfl (by simp) rfl dX5_incremented_26 (fun H locs hP hD hS => ?_)
      exact K5 _ (if_pos c3).symm ls _ _ hP hD hS (lv_sub hl [0, 1] rfl)
  refine lv_icmp_ne (tgt := 14) hx hb dX5_incremented_3 (by decide) (fun c1 => ?_) (fun c1 => ?_)
  · exact K6 _ (if_neg c1).symm ls _ _ hP hD hS (lv_sub hl [0, 1] rfl)
  · refine lv_aload_n hx hb dX5_incremented_6 rfl (lv_at hl 0 rfl) ?_
    refine oh_get (v := .ref (a 3)) hC hP inX5_incremented_X5 8 rfl rfl 1 (by decide) (by decide +kernel) rfl dX5_incremented_7 ?_
    refine lv_iconst (v := (1 : Int32)) hx hb dX5_incremented_10 (by decide) ?_
    refine oh_putN (σ' := (oh_up σ 0 4 (1 : Int32))) (v := .int (1 : Int32)) hC hP hD hS inX5_incremented_X6 tyX6 tyX6_ok nmX6 3 rfl rfl 1 (by decide) (by decide +kernel) rfl rfl rfl (by simp) rfl dX5_incremented_11 (fun H locs hP hD hS => ?_)
    exact K6 _ (if_pos c1).symm ls _ _ hP hD hS (lv_sub hl [0, 1] rfl)
