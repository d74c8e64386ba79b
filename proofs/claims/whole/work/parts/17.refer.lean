theorem oh_lcne {y : Int64} (h : ¬ lg_cmp y 0 = 0) : ¬ y = 0 := by
  intro e
  exact h (by rw [e]; decide)
-- OctalHouse$Processor.referToMemory
theorem inX5_referToMemory_X5 : ∀ w ∈ u_ws RX5 TX5 3, w ∈ wsX5_referToMemory := by decide +kernel
theorem inX5_referToMemory_X6 : ∀ w ∈ u_ws RX6 TX6 6, w ∈ wsX5_referToMemory := by decide +kernel
def spX5_referToMemory (σ : oh_St) (p1 : Int32) (p2 : Int32) : oh_St := (if p2 = (-1 : Int32) then σ else (let x3 : Int32 := (if (p1 &&& (32768 : Int32)) = (0 : Int32) then (0 : Int32) else (1 : Int32)); (let r4 : Int32 := (spX5_registerOf p1); (let r5 : Int32 := (spX4_read σ p2); (let y6 : Int32 := ((p1 >>> ((11 : Int32) &&& 31)) &&& (15 : Int32)); (if y6 = (2 : Int32) then (let r8 : Int32 := (spX4_read σ (0 : Int32)); (let s9 : oh_St := (spX4_write σ (0 : Int32) (r8 &&& r5)); s9)) else (if y6 = (3 : Int32) then (let s11 : oh_St := (spX4_write σ p2 (σ 0 3)); (let s12 : oh_St := (spX5_jump s11 (p2 + (1 : Int32)) x3); s12)) else (if y6 = (4 : Int32) then (let r14 : Int32 := (spX4_read σ (0 : Int32)); (let s15 : oh_St := (spX4_write σ (0 : Int32) (r14 ^^^ r5)); s15)) else (if y6 = (5 : Int32) then (let s17 : oh_St := (spX5_jump σ p2 x3); s17) else (if y6 = (6 : Int32) then (let r19 : Int32 := (spX4_read σ (0 : Int32)); (let s20 : oh_St := (spX4_write σ (0 : Int32) (r19 ||| r5)); s20)) else (if y6 = (7 : Int32) then (let s22 : oh_St := (spX5_incrementAndSkip σ p2 r5); s22) else (if y6 = (8 : Int32) then (let s24 : oh_St := (spX5_add σ r4 r5); s24) else (if y6 = (9 : Int32) then (let s26 : oh_St := (spX5_add σ r4 r5); s26) else (if y6 = (10 : Int32) then (let r28 : Int32 := (spX4_read σ r4); (let x30 : Int32 := (if r28 = r5 then (0 : Int32) else (1 : Int32)); (let s31 : oh_St := (spX5_skipIf σ x30); s31))) else (if y6 = (11 : Int32) then (let r34 : Int32 := (spX4_read σ r4); (let x36 : Int32 := (if r34 = r5 then (0 : Int32) else (1 : Int32)); (let s37 : oh_St := (spX5_skipIf σ x36); s37))) else (if y6 = (12 : Int32) then (let s40 : oh_St := (spX4_write σ r4 r5); s40) else (if y6 = (13 : Int32) then (let s42 : oh_St := (spX4_write σ r4 r5); s42) else (if y6 = (14 : Int32) then (let r44 : Int32 := (spX4_read σ r4); (let s45 : oh_St := (spX4_write σ p2 r44); s45)) else (if y6 = (15 : Int32) then (let r47 : Int32 := (spX4_read σ r4); (let s48 : oh_St := (spX4_write σ p2 r47); s48)) else σ)))))))))))))))))))
set_option maxHeartbeats 8000000 in
set_option maxRecDepth 100000 in
theorem mtX5_referToMemory (l : Launch) (a : Nat → Nat) (k : Nat → ClassId) (D : va_G) (σ : oh_St) (p1 : Int32) (p2 : Int32) : oh_Mv l yX5_referToMemory wsX5_referToMemory { frames := 3, cells := 0, slots := 0, locals := 64 } D (oh_ty k) (oh_W a k) [.ref (a 8), .int p1, .int p2] σ (fun u => u = spX5_referToMemory σ p1 p2) := by
  refine oh_inv (cc := cX5_referToMemory) (nL := 6) (rt := none) (by decide) rfl (Nat.le_of_ble_eq_true rfl) ?_
  intro p e s m below meth c A ls hC hP hD hS hl
  obtain ⟨hx, hb, hml, hown, hts, hr, hlocks, hK, hN, hA⟩ := id hC
  have hl : lv_has ls 6 [(0, .ref (a 8)), (1, .int p1), (2, .int p2)] := hl
  refine lv_iload_n hx hb dX5_referToMemory_0 rfl (lv_at hl 2 rfl) ?_
  refine lv_iconst (v := (-1 : Int32)) hx hb dX5_referToMemory_1 (by decide) ?_
  refine lv_icmp_ne (tgt := 6) hx hb dX5_referToMemory_2 (by decide) (fun c1 => ?_) (fun c1 => ?_)
  · refine lv_iload_n hx hb dX5_referToMemory_6 rfl (lv_at hl 1 rfl) ?_
    refine lv_ldc (v := (32768 : Int32)) hx hb hown (hts (.constant RX5 38 (32768)) (by decide +kernel)) dX5_referToMemory_7 ?_
    refine lv_iand hx hb dX5_referToMemory_9 ?_
    have K49 : ∀ x3 : Int32, x3 = (if (p1 &&& (32768 : Int32)) = (0 : Int32) then (0 : Int32) else (1 : Int32)) → ∀ (ls : Array Slot) (H : Heap) (locs : List Loc), va_P D vwCl (oh_W a k σ) H → va_D A (oh_W a k σ) → va_S A s.heap H locs → lv_has ls 6 [(0, .ref (a 8)), (1, .int p1), (2, .int p2)] → W p l e ({ frames := 3, cells := 0, slots := 0, locals := 64 } : Room) s m (([.ref (a 8), .int p1, .int p2] : List Value).toArray) below meth c H locs 0 0 (oh_Ev below (fun u => u = spX5_referToMemory σ p1 p2) D (oh_W a k) A [.ref (a 8), .int p1, .int p2] s) (F0 m 18 ls [.int x3]) := by
      intro x3 hx3 ls H locs hP hD hS hl
      refine lv_istore_n (lv' := [(3, .int x3), (0, .ref (a 8)), (1, .int p1), (2, .int p2)]) hx hb dX5_referToMemory_18 rfl hl (by decide) rfl (fun ls hl => ?_)
      refine lv_iload_n hx hb dX5_referToMemory_19 rfl (lv_at hl 2 rfl) ?_
      refine oh_csp (As := [.int p1]) (rest := []) hC hP hD hS (mtX5_registerOf l a k D σ p1) (va_cwS 1 hts gX5_referToMemory_X5_registerOf rfl rfl rfl (by decide +kernel) ⟨Nat.le_of_ble_eq_true rfl, Nat.le_of_ble_eq_true rfl⟩) rfl hl.1 rfl (Nat.le_of_ble_eq_true rfl) dX5_referToMemory_20 (fun r4 H locs hr4 hP hD hS => ?_)
      refine lv_istore (lv' := [(4, .int r4), (3, .int x3), (0, .ref (a 8)), (1, .int p1), (2, .int p2)]) hx hb dX5_referToMemory_23 hl (by decide) rfl (fun ls hl => ?_)
      refine lv_aload_n hx hb dX5_referToMemory_25 rfl (lv_at hl 2 rfl) ?_
      refine oh_get (v := .ref (a 1)) hC hP inX5_referToMemory_X5 8 rfl rfl 0 (by decide) (by decide +kernel) rfl dX5_referToMemory_26 ?_
      refine lv_iload_n hx hb dX5_referToMemory_29 rfl (lv_at hl 4 rfl) ?_
      refine oh_cvp (As := [.int p2]) (rest := []) hC hP hD hS (mtX4_read l a k D σ p2) (cwV 1 hts gX5_referToMemory_X4_read rfl rfl rfl (by decide +kernel) ⟨Nat.le_of_ble_eq_true rfl, Nat.le_of_ble_eq_true rfl⟩) 1 4 rfl rfl rfl hl.1 rfl (Nat.le_of_ble_eq_true rfl) dX5_referToMemory_30 (fun r5 H locs hr5 hP hD hS => ?_)
      refine lv_istore (lv' := [(5, .int r5), (4, .int r4), (3, .int x3), (0, .ref (a 8)), (1, .int p1), (2, .int p2)]) hx hb dX5_referToMemory_33 hl (by decide) rfl (fun ls hl => ?_)
      refine lv_iload_n hx hb dX5_referToMemory_35 rfl (lv_at hl 4 rfl) ?_
      refine lv_bipush (v := (11 : Int32)) hx hb dX5_referToMemory_36 (by decide) ?_
      refine lv_ishr hx hb dX5_referToMemory_38 ?_
      refine lv_bipush (v := (15 : Int32)) hx hb dX5_referToMemory_39 (by decide) ?_
      refine lv_iand hx hb dX5_referToMemory_41 ?_
      refine lv_topi (fun y6 hy6 => ?_)
      by_cases c7 : y6 = (2 : Int32)
      · refine lv_tableIn (tgt := 112) hx hb dX5_referToMemory_42 (by rw [c7]; decide) (by rw [c7]; decide) (by rw [c7]; rfl) (by decide) ?_
        refine lv_aload_n hx hb dX5_referToMemory_112 rfl (lv_at hl 3 rfl) ?_
        refine oh_get (v := .ref (a 1)) hC hP inX5_referToMemory_X5 8 rfl rfl 0 (by decide) (by decide +kernel) rfl dX5_referToMemory_113 ?_
        refine lv_iconst (v := (0 : Int32)) hx hb dX5_referToMemory_116 (by decide) ?_
        refine lv_aload_n hx hb dX5_referToMemory_117 rfl (lv_at hl 3 rfl) ?_
        refine oh_get (v := .ref (a 1)) hC hP inX5_referToMemory_X5 8 rfl rfl 0 (by decide) (by decide +kernel) rfl dX5_referToMemory_118 ?_
        refine lv_iconst (v := (0 : Int32)) hx hb dX5_referToMemory_121 (by decide) ?_
        refine oh_cvp (As := [.int (0 : Int32)]) (rest := [.int (0 : Int32), .ref (a 1)]) hC hP hD hS (mtX4_read l a k D σ (0 : Int32)) (cwV 1 hts gX5_referToMemory_X4_read rfl rfl rfl (by decide +kernel) ⟨Nat.le_of_ble_eq_true rfl, Nat.le_of_ble_eq_true rfl⟩) 1 4 rfl rfl rfl hl.1 rfl (Nat.le_of_ble_eq_true rfl) dX5_referToMemory_122 (fun r8 H locs hr8 hP hD hS => ?_)
        refine lv_iload hx hb dX5_referToMemory_125 (lv_at hl 0 rfl) ?_
        refine lv_iand hx hb dX5_referToMemory_127 ?_
        refine oh_cvv (As := [.int (0 : Int32), .int (r8 &&& r5)]) (rest := []) hC hP hD hS (mtX4_write l a k D σ (0 : Int32) (r8 &&& r5)) (cwV 2 hts gX5_referToMemory_X4_write rfl rfl rfl (by decide +kernel) ⟨Nat.le_of_ble_eq_true rfl, Nat.le_of_ble_eq_true rfl⟩) 1 4 rfl rfl rfl hl.1 rfl (Nat.le_of_ble_eq_true rfl) dX5_referToMemory_128 (fun s9 H locs hs9 hP hD hS => ?_)
        refine lv_goto (tgt := 294) hx hb dX5_referToMemory_131 (by decide) ?_
        exact oh_retv (u := s9) hC hP hD hS (by subst hs9 hr8 hy6 hr5 hr4 hx3; exact ((if_neg c1).trans (if_pos c7)).symm) dX5_referToMemory_294
      by_cases c10 : y6 = (3 : Int32)
      · refine lv_tableIn (tgt := 134) hx hb dX5_referToMemory_42 (by rw [c10]; decide) (by rw [c10]; decide) (by rw [c10]; rfl) (by decide) ?_
        refine lv_aload_n hx hb dX5_referToMemory_134 rfl (lv_at hl 3 rfl) ?_
        refine oh_get (v := .ref (a 1)) hC hP inX5_referToMemory_X5 8 rfl rfl 0 (by decide) (by decide +kernel) rfl dX5_referToMemory_135 ?_
        refine lv_iload_n hx hb dX5_referToMemory_138 rfl (lv_at hl 5 rfl) ?_
        refine lv_aload_n hx hb dX5_referToMemory_139 rfl (lv_at hl 3 rfl) ?_
        refine oh_get (v := .ref (a 3)) hC hP inX5_referToMemory_X5 8 rfl rfl 1 (by decide) (by decide +kernel) rfl dX5_referToMemory_140 ?_
        refine oh_getN (v := .int (σ 0 3)) hC hP inX5_referToMemory_X6 3 rfl rfl 0 (by decide) (by decide +kernel) rfl dX5_referToMemory_143 ?_
        refine oh_cvv (As := [.int p2, .int (σ 0 3)]) (rest := []) hC hP hD hS (mtX4_write l a k D σ p2 (σ 0 3)) (cwV 2 hts gX5_referToMemory_X4_write rfl rfl rfl (by decide +kernel) ⟨Nat.le_of_ble_eq_true rfl, Nat.le_of_ble_eq_true rfl⟩) 1 4 rfl rfl rfl hl.1 rfl (Nat.le_of_ble_eq_true rfl) dX5_referToMemory_146 (fun s11 H locs hs11 hP hD hS => ?_)
        refine lv_aload_n hx hb dX5_referToMemory_149 rfl (lv_at hl 3 rfl) ?_
        refine lv_iload_n hx hb dX5_referToMemory_150 rfl (lv_at hl 5 rfl) ?_
        refine lv_iconst (v := (1 : Int32)) hx hb dX5_referToMemory_151 (by decide) ?_
        refine lv_iadd hx hb dX5_referToMemory_152 ?_
        refine lv_iload_n hx hb dX5_referToMemory_153 rfl (lv_at hl 2 rfl) ?_
        refine oh_cvv (As := [.int (p2 + (1 : Int32)), .int x3]) (rest := []) hC hP hD hS (mtX5_jump l a k D s11 (p2 + (1 : Int32)) x3 (by rw [hx3]; (repeat' split) <;> first | exact Or.inl rfl | exact Or.inr rfl)) (cwV 2 hts gX5_referToMemory_X5_jump rfl rfl rfl (by decide +kernel) ⟨Nat.le_of_ble_eq_true rfl, Nat.le_of_ble_eq_true rfl⟩) 8 5 rfl rfl rfl hl.1 rfl (Nat.le_of_ble_eq_true rfl) dX5_referToMemory_154 (fun s12 H locs hs12 hP hD hS => ?_)
        refine lv_goto (tgt := 294) hx hb dX5_referToMemory_157 (by decide) ?_
        exact oh_retv (u := s12) hC hP hD hS (by subst hs12 hs11 hy6 hr5 hr4 hx3; exact (((if_neg c1).trans (if_neg c7)).trans (if_pos c10)).symm) dX5_referToMemory_294
      by_cases c13 : y6 = (4 : Int32)
      · refine lv_tableIn (tgt := 160) hx hb dX5_referToMemory_42 (by rw [c13]; decide) (by rw [c13]; decide) (by rw [c13]; rfl) (by decide) ?_
        refine lv_aload_n hx hb dX5_referToMemory_160 rfl (lv_at hl 3 rfl) ?_
        refine oh_get (v := .ref (a 1)) hC hP inX5_referToMemory_X5 8 rfl rfl 0 (by decide) (by decide +kernel) rfl dX5_referToMemory_161 ?_
        refine lv_iconst (v := (0 : Int32)) hx hb dX5_referToMemory_164 (by decide) ?_
        refine lv_aload_n hx hb dX5_referToMemory_165 rfl (lv_at hl 3 rfl) ?_
        refine oh_get (v := .ref (a 1)) hC hP inX5_referToMemory_X5 8 rfl rfl 0 (by decide) (by decide +kernel) rfl dX5_referToMemory_166 ?_
        refine lv_iconst (v := (0 : Int32)) hx hb dX5_referToMemory_169 (by decide) ?_
        refine oh_cvp (As := [.int (0 : Int32)]) (rest := [.int (0 : Int32), .ref (a 1)]) hC hP hD hS (mtX4_read l a k D σ (0 : Int32)) (cwV 1 hts gX5_referToMemory_X4_read rfl rfl rfl (by decide +kernel) ⟨Nat.le_of_ble_eq_true rfl, Nat.le_of_ble_eq_true rfl⟩) 1 4 rfl rfl rfl hl.1 rfl (Nat.le_of_ble_eq_true rfl) dX5_referToMemory_170 (fun r14 H locs hr14 hP hD hS => ?_)
        refine lv_iload hx hb dX5_referToMemory_173 (lv_at hl 0 rfl) ?_
        refine lv_ixor hx hb dX5_referToMemory_175 ?_
        refine oh_cvv (As := [.int (0 : Int32), .int (r14 ^^^ r5)]) (rest := []) hC hP hD hS (mtX4_write l a k D σ (0 : Int32) (r14 ^^^ r5)) (cwV 2 hts gX5_referToMemory_X4_write rfl rfl rfl (by decide +kernel) ⟨Nat.le_of_ble_eq_true rfl, Nat.le_of_ble_eq_true rfl⟩) 1 4 rfl rfl rfl hl.1 rfl (Nat.le_of_ble_eq_true rfl) dX5_referToMemory_176 (fun s15 H locs hs15 hP hD hS => ?_)
        refine lv_goto (tgt := 294) hx hb dX5_referToMemory_179 (by decide) ?_
        exact oh_retv (u := s15) hC hP hD hS (by subst hs15 hr14 hy6 hr5 hr4 hx3; exact ((((if_neg c1).trans (if_neg c7)).trans (if_neg c10)).trans (if_pos c13)).symm) dX5_referToMemory_294
      by_cases c16 : y6 = (5 : Int32)
      · refine lv_tableIn (tgt := 182) hx hb dX5_referToMemory_42 (by rw [c16]; decide) (by rw [c16]; decide) (by rw [c16]; rfl) (by decide) ?_
        refine lv_aload_n hx hb dX5_referToMemory_182 rfl (lv_at hl 3 rfl) ?_
        refine lv_iload_n hx hb dX5_referToMemory_183 rfl (lv_at hl 5 rfl) ?_
        refine lv_iload_n hx hb dX5_referToMemory_184 rfl (lv_at hl 2 rfl) ?_
        refine oh_cvv (As := [.int p2, .int x3]) (rest := []) hC hP hD hS (mtX5_jump l a k D σ p2 x3 (by rw [hx3]; (repeat' split) <;> first | exact Or.inl rfl | exact Or.inr rfl)) (cwV 2 hts gX5_referToMemory_X5_jump rfl rfl rfl (by decide +kernel) ⟨Nat.le_of_ble_eq_true rfl, Nat.le_of_ble_eq_true rfl⟩) 8 5 rfl rfl rfl hl.1 rfl (Nat.le_of_ble_eq_true rfl) dX5_referToMemory_185 (fun s17 H locs hs17 hP hD hS => ?_)
        refine lv_goto (tgt := 294) hx hb dX5_referToMemory_188 (by decide) ?_
        exact oh_retv (u := s17) hC hP hD hS (by subst hs17 hy6 hr5 hr4 hx3; exact (((((if_neg c1).trans (if_neg c7)).trans (if_neg c10)).trans (if_neg c13)).trans (if_pos c16)).symm) dX5_referToMemory_294
      by_cases c18 : y6 = (6 : Int32)
      · refine lv_tableIn (tgt := 191) hx hb dX5_referToMemory_42 (by rw [c18]; decide) (by rw [c18]; decide) (by rw [c18]; rfl) (by decide) ?_
        refine lv_aload_n hx hb dX5_referToMemory_191 rfl (lv_at hl 3 rfl) ?_
        refine oh_get (v := .ref (a 1)) hC hP inX5_referToMemory_X5 8 rfl rfl 0 (by decide) (by decide +kernel) rfl dX5_referToMemory_192 ?_
        refine lv_iconst (v := (0 : Int32)) hx hb dX5_referToMemory_195 (by decide) ?_
        refine lv_aload_n hx hb dX5_referToMemory_196 rfl (lv_at hl 3 rfl) ?_
        refine oh_get (v := .ref (a 1)) hC hP inX5_referToMemory_X5 8 rfl rfl 0 (by decide) (by decide +kernel) rfl dX5_referToMemory_197 ?_
        refine lv_iconst (v := (0 : Int32)) hx hb dX5_referToMemory_200 (by decide) ?_
        refine oh_cvp (As := [.int (0 : Int32)]) (rest := [.int (0 : Int32), .ref (a 1)]) hC hP hD hS (mtX4_read l a k D σ (0 : Int32)) (cwV 1 hts gX5_referToMemory_X4_read rfl rfl rfl (by decide +kernel) ⟨Nat.le_of_ble_eq_true rfl, Nat.le_of_ble_eq_true rfl⟩) 1 4 rfl rfl rfl hl.1 rfl (Nat.le_of_ble_eq_true rfl) dX5_referToMemory_201 (fun r19 H locs hr19 hP hD hS => ?_)
        refine lv_iload hx hb dX5_referToMemory_204 (lv_at hl 0 rfl) ?_
        refine lv_ior hx hb dX5_referToMemory_206 ?_
        refine oh_cvv (As := [.int (0 : Int32), .int (r19 ||| r5)]) (rest := []) hC hP hD hS (mtX4_write l a k D σ (0 : Int32) (r19 ||| r5)) (cwV 2 hts gX5_referToMemory_X4_write rfl rfl rfl (by decide +kernel) ⟨Nat.le_of_ble_eq_true rfl, Nat.le_of_ble_eq_true rfl⟩) 1 4 rfl rfl rfl hl.1 rfl (Nat.le_of_ble_eq_true rfl) dX5_referToMemory_207 (fun s20 H locs hs20 hP hD hS => ?_)
        refine lv_goto (tgt := 294) hx hb dX5_referToMemory_210 (by decide) ?_
        exact oh_retv (u := s20) hC hP hD hS (by subst hs20 hr19 hy6 hr5 hr4 hx3; exact ((((((if_neg c1).trans (if_neg c7)).trans (if_neg c10)).trans (if_neg c13)).trans (if_neg c16)).trans (if_pos c18)).symm) dX5_referToMemory_294
      by_cases c21 : y6 = (7 : Int32)
      · refine lv_tableIn (tgt := 213) hx hb dX5_referToMemory_42 (by rw [c21]; decide) (by rw [c21]; decide) (by rw [c21]; rfl) (by decide) ?_
        refine lv_aload_n hx hb dX5_referToMemory_213 rfl (lv_at hl 3 rfl) ?_
        refine lv_iload_n hx hb dX5_referToMemory_214 rfl (lv_at hl 5 rfl) ?_
        refine lv_iload hx hb dX5_referToMemory_215 (lv_at hl 0 rfl) ?_
        refine oh_cvv (As := [.int p2, .int r5]) (rest := []) hC hP hD hS (mtX5_incrementAndSkip l a k D σ p2 r5) (cwV 2 hts gX5_referToMemory_X5_incrementAndSkip rfl rfl rfl (by decide +kernel) ⟨Nat.le_of_ble_eq_true rfl, Nat.le_of_ble_eq_true rfl⟩) 8 5 rfl rfl rfl hl.1 rfl (Nat.le_of_ble_eq_true rfl) dX5_referToMemory_217 (fun s22 H locs hs22 hP hD hS => ?_)
        refine lv_goto (tgt := 294) hx hb dX5_referToMemory_220 (by decide) ?_
        exact oh_retv (u := s22) hC hP hD hS (by subst hs22 hy6 hr5 hr4 hx3; exact (((((((if_neg c1).trans (if_neg c7)).trans (if_neg c10)).trans (if_neg c13)).trans (if_neg c16)).trans (if_neg c18)).trans (if_pos c21)).symm) dX5_referToMemory_294
      by_cases c23 : y6 = (8 : Int32)
      · refine lv_tableIn (tgt := 223) hx hb dX5_referToMemory_42 (by rw [c23]; decide) (by rw [c23]; decide) (by rw [c23]; rfl) (by decide) ?_
        refine lv_aload_n hx hb dX5_referToMemory_223 rfl (lv_at hl 3 rfl) ?_
        refine lv_iload hx hb dX5_referToMemory_224 (lv_at hl 1 rfl) ?_
        refine lv_iload hx hb dX5_referToMemory_226 (lv_at hl 0 rfl) ?_
        refine oh_cvv (As := [.int r4, .int r5]) (rest := []) hC hP hD hS (mtX5_add l a k D σ r4 r5) (cwV 2 hts gX5_referToMemory_X5_add rfl rfl rfl (by decide +kernel) ⟨Nat.le_of_ble_eq_true rfl, Nat.le_of_ble_eq_true rfl⟩) 8 5 rfl rfl rfl hl.1 rfl (Nat.le_of_ble_eq_true rfl) dX5_referToMemory_228 (fun s24 H locs hs24 hP hD hS => ?_)
        refine lv_goto (tgt := 294) hx hb dX5_referToMemory_231 (by decide) ?_
        exact oh_retv (u := s24) hC hP hD hS (by subst hs24 hy6 hr5 hr4 hx3; exact ((((((((if_neg c1).trans (if_neg c7)).trans (if_neg c10)).trans (if_neg c13)).trans (if_neg c16)).trans (if_neg c18)).trans (if_neg c21)).trans (if_pos c23)).symm) dX5_referToMemory_294
      by_cases c25 : y6 = (9 : Int32)
      · refine lv_tableIn (tgt := 223) hx hb dX5_referToMemory_42 (by rw [c25]; decide) (by rw [c25]; decide) (by rw [c25]; rfl) (by decide) ?_
        refine lv_aload_n hx hb dX5_referToMemory_223 rfl (lv_at hl 3 rfl) ?_
        refine lv_iload hx hb dX5_referToMemory_224 (lv_at hl 1 rfl) ?_
        refine lv_iload hx hb dX5_referToMemory_226 (lv_at hl 0 rfl) ?_
        refine oh_cvv (As := [.int r4, .int r5]) (rest := []) hC hP hD hS (mtX5_add l a k D σ r4 r5) (cwV 2 hts gX5_referToMemory_X5_add rfl rfl rfl (by decide +kernel) ⟨Nat.le_of_ble_eq_true rfl, Nat.le_of_ble_eq_true rfl⟩) 8 5 rfl rfl rfl hl.1 rfl (Nat.le_of_ble_eq_true rfl) dX5_referToMemory_228 (fun s26 H locs hs26 hP hD hS => ?_)
        refine lv_goto (tgt := 294) hx hb dX5_referToMemory_231 (by decide) ?_
        exact oh_retv (u := s26) hC hP hD hS (by subst hs26 hy6 hr5 hr4 hx3; exact (((((((((if_neg c1).trans (if_neg c7)).trans (if_neg c10)).trans (if_neg c13)).trans (if_neg c16)).trans (if_neg c18)).trans (if_neg c21)).trans (if_neg c23)).trans (if_pos c25)).symm) dX5_referToMemory_294
      by_cases c27 : y6 = (10 : Int32)
      · refine lv_tableIn (tgt := 234) hx hb dX5_referToMemory_42 (by rw [c27]; decide) (by rw [c27]; decide) (by rw [c27]; rfl) (by decide) ?_
        refine lv_aload_n hx hb dX5_referToMemory_234 rfl (lv_at hl 3 rfl) ?_
        refine lv_aload_n hx hb dX5_referToMemory_235 rfl (lv_at hl 3 rfl) ?_
        refine oh_get (v := .ref (a 1)) hC hP inX5_referToMemory_X5 8 rfl rfl 0 (by decide) (by decide +kernel) rfl dX5_referToMemory_236 ?_
        refine lv_iload hx hb dX5_referToMemory_239 (lv_at hl 1 rfl) ?_
        refine oh_cvp (As := [.int r4]) (rest := [.ref (a 8)]) hC hP hD hS (mtX4_read l a k D σ r4) (cwV 1 hts gX5_referToMemory_X4_read rfl rfl rfl (by decide +kernel) ⟨Nat.le_of_ble_eq_true rfl, Nat.le_of_ble_eq_true rfl⟩) 1 4 rfl rfl rfl hl.1 rfl (Nat.le_of_ble_eq_true rfl) dX5_referToMemory_241 (fun r28 H locs hr28 hP hD hS => ?_)
        refine lv_iload hx hb dX5_referToMemory_244 (lv_at hl 0 rfl) ?_
        have K32 : ∀ x30 : Int32, x30 = (if r28 = r5 then (0 : Int32) else (1 : Int32)) → ∀ (ls : Array Slot) (H : Heap) (locs : List Loc), va_P D vwCl (oh_W a k σ) H → va_D A (oh_W a k σ) → va_S A s.heap H locs → lv_has ls 6 [(5, .int r5), (4, .int r4), (3, .int x3), (0, .ref (a 8)), (1, .int p1), (2, .int p2)] → W p l e ({ frames := 3, cells := 0, slots := 0, locals := 64 } : Room) s m (([.ref (a 8), .int p1, .int p2] : List Value).toArray) below meth c H locs 0 0 (oh_Ev below (fun u => u = spX5_referToMemory σ p1 p2) D (oh_W a k) A [.ref (a 8), .int p1, .int p2] s) (F0 m 254 ls [.int x30, .ref (a 8)]) := by
          intro x30 hx30 ls H locs hP hD hS hl
          refine oh_cvv (As := [.int x30]) (rest := []) hC hP hD hS (mtX5_skipIf l a k D σ x30) (cwV 1 hts gX5_referToMemory_X5_skipIf rfl rfl rfl (by decide +kernel) ⟨Nat.le_of_ble_eq_true rfl, Nat.le_of_ble_eq_true rfl⟩) 8 5 rfl rfl rfl hl.1 rfl (Nat.le_of_ble_eq_true rfl) dX5_referToMemory_254 (fun s31 H locs hs31 hP hD hS => ?_)
          refine lv_goto (tgt := 294) hx hb dX5_referToMemory_257 (by decide) ?_
          exact oh_retv (u := s31) hC hP hD hS (by subst hs31 hx30 hr28 hy6 hr5 hr4 hx3; exact ((((((((((if_neg c1).trans (if_neg c7)).trans (if_neg c10)).trans (if_neg c13)).trans (if_neg c16)).trans (if_neg c18)).trans (if_neg c21)).trans (if_neg c23)).trans (if_neg c25)).trans (if_pos c27)).symm) dX5_referToMemory_294
        refine lv_icmp_eq (tgt := 253) hx hb dX5_referToMemory_246 (by decide) (fun c29 => ?_) (fun c29 => ?_)
        · refine lv_iconst (v := (0 : Int32)) hx hb dX5_referToMemory_253 (by decide) ?_
          exact K32 _ (if_pos c29).symm ls _ _ hP hD hS (lv_sub hl [0, 1, 2, 3, 4, 5] rfl)
        · refine lv_iconst (v := (1 : Int32)) hx hb dX5_referToMemory_249 (by decide) ?_
          refine lv_goto (tgt := 254) hx hb dX5_referToMemory_250 (by decide) ?_
          exact K32 _ (if_neg c29).symm ls _ _ hP hD hS (lv_sub hl [0, 1, 2, 3, 4, 5] rfl)
      by_cases c33 : y6 = (11 : Int32)
      · refine lv_tableIn (tgt := 234) hx hb dX5_referToMemory_42 (by rw [c33]; decide) (by rw [c33]; decide) (by rw [c33]; rfl) (by decide) ?_
        refine lv_aload_n hx hb dX5_referToMemory_234 rfl (lv_at hl 3 rfl) ?_
        refine lv_aload_n hx hb dX5_referToMemory_235 rfl (lv_at hl 3 rfl) ?_
        refine oh_get (v := .ref (a 1)) hC hP inX5_referToMemory_X5 8 rfl rfl 0 (by decide) (by decide +kernel) rfl dX5_referToMemory_236 ?_
        refine lv_iload hx hb dX5_referToMemory_239 (lv_at hl 1 rfl) ?_
        refine oh_cvp (As := [.int r4]) (rest := [.ref (a 8)]) hC hP hD hS (mtX4_read l a k D σ r4) (cwV 1 hts gX5_referToMemory_X4_read rfl rfl rfl (by decide +kernel) ⟨Nat.le_of_ble_eq_true rfl, Nat.le_of_ble_eq_true rfl⟩) 1 4 rfl rfl rfl hl.1 rfl (Nat.le_of_ble_eq_true rfl) dX5_referToMemory_241 (fun r34 H locs hr34 hP hD hS => ?_)
        refine lv_iload hx hb dX5_referToMemory_244 (lv_at hl 0 rfl) ?_
        have K38 : ∀ x36 : Int32, x36 = (if r34 = r5 then (0 : Int32) else (1 : Int32)) → ∀ (ls : Array Slot) (H : Heap) (locs : List Loc), va_P D vwCl (oh_W a k σ) H → va_D A (oh_W a k σ) → va_S A s.heap H locs → lv_has ls 6 [(5, .int r5), (4, .int r4), (3, .int x3), (0, .ref (a 8)), (1, .int p1), (2, .int p2)] → W p l e ({ frames := 3, cells := 0, slots := 0, locals := 64 } : Room) s m (([.ref (a 8), .int p1, .int p2] : List Value).toArray) below meth c H locs 0 0 (oh_Ev below (fun u => u = spX5_referToMemory σ p1 p2) D (oh_W a k) A [.ref (a 8), .int p1, .int p2] s) (F0 m 254 ls [.int x36, .ref (a 8)]) := by
          intro x36 hx36 ls H locs hP hD hS hl
          refine oh_cvv (As := [.int x36]) (rest := []) hC hP hD hS (mtX5_skipIf l a k D σ x36) (cwV 1 hts gX5_referToMemory_X5_skipIf rfl rfl rfl (by decide +kernel) ⟨Nat.le_of_ble_eq_true rfl, Nat.le_of_ble_eq_true rfl⟩) 8 5 rfl rfl rfl hl.1 rfl (Nat.le_of_ble_eq_true rfl) dX5_referToMemory_254 (fun s37 H locs hs37 hP hD hS => ?_)
          refine lv_goto (tgt := 294) hx hb dX5_referToMemory_257 (by decide) ?_
          exact oh_retv (u := s37) hC hP hD hS (by subst hs37 hx36 hr34 hy6 hr5 hr4 hx3; exact (((((((((((if_neg c1).trans (if_neg c7)).trans (if_neg c10)).trans (if_neg c13)).trans (if_neg c16)).trans (if_neg c18)).trans (if_neg c21)).trans (if_neg c23)).trans (if_neg c25)).trans (if_neg c27)).trans (if_pos c33)).symm) dX5_referToMemory_294
        refine lv_icmp_eq (tgt := 253) hx hb dX5_referToMemory_246 (by decide) (fun c35 => ?_) (fun c35 => ?_)
        · refine lv_iconst (v := (0 : Int32)) hx hb dX5_referToMemory_253 (by decide) ?_
          exact K38 _ (if_pos c35).symm ls _ _ hP hD hS (lv_sub hl [0, 1, 2, 3, 4, 5] rfl)
        · refine lv_iconst (v := (1 : Int32)) hx hb dX5_referToMemory_249 (by decide) ?_
          refine lv_goto (tgt := 254) hx hb dX5_referToMemory_250 (by decide) ?_
          exact K38 _ (if_neg c35).symm ls _ _ hP hD hS (lv_sub hl [0, 1, 2, 3, 4, 5] rfl)
      by_cases c39 : y6 = (12 : Int32)
      · refine lv_tableIn (tgt := 260) hx hb dX5_referToMemory_42 (by rw [c39]; decide) (by rw [c39]; decide) (by rw [c39]; rfl) (by decide) ?_
        refine lv_aload_n hx hb dX5_referToMemory_260 rfl (lv_at hl 3 rfl) ?_
        refine oh_get (v := .ref (a 1)) hC hP inX5_referToMemory_X5 8 rfl rfl 0 (by decide) (by decide +kernel) rfl dX5_referToMemory_261 ?_
        refine lv_iload hx hb dX5_referToMemory_264 (lv_at hl 1 rfl) ?_
        refine lv_iload hx hb dX5_referToMemory_266 (lv_at hl 0 rfl) ?_
        refine oh_cvv (As := [.int r4, .int r5]) (rest := []) hC hP hD hS (mtX4_write l a k D σ r4 r5) (cwV 2 hts gX5_referToMemory_X4_write rfl rfl rfl (by decide +kernel) ⟨Nat.le_of_ble_eq_true rfl, Nat.le_of_ble_eq_true rfl⟩) 1 4 rfl rfl rfl hl.1 rfl (Nat.le_of_ble_eq_true rfl) dX5_referToMemory_268 (fun s40 H locs hs40 hP hD hS => ?_)
        refine lv_goto (tgt := 294) hx hb dX5_referToMemory_271 (by decide) ?_
        exact oh_retv (u := s40) hC hP hD hS (by subst hs40 hy6 hr5 hr4 hx3; exact ((((((((((((if_neg c1).trans (if_neg c7)).trans (if_neg c10)).trans (if_neg c13)).trans (if_neg c16)).trans (if_neg c18)).trans (if_neg c21)).trans (if_neg c23)).trans (if_neg c25)).trans (if_neg c27)).trans (if_neg c33)).trans (if_pos c39)).symm) dX5_referToMemory_294
      by_cases c41 : y6 = (13 : Int32)
      · refine lv_tableIn (tgt := 260) hx hb dX5_referToMemory_42 (by rw [c41]; decide) (by rw [c41]; decide) (by rw [c41]; rfl) (by decide) ?_
        refine lv_aload_n hx hb dX5_referToMemory_260 rfl (lv_at hl 3 rfl) ?_
        refine oh_get (v := .ref (a 1)) hC hP inX5_referToMemory_X5 8 rfl rfl 0 (by decide) (by decide +kernel) rfl dX5_referToMemory_261 ?_
        refine lv_iload hx hb dX5_referToMemory_264 (lv_at hl 1 rfl) ?_
        refine lv_iload hx hb dX5_referToMemory_266 (lv_at hl 0 rfl) ?_
        refine oh_cvv (As := [.int r4, .int r5]) (rest := []) hC hP hD hS (mtX4_write l a k D σ r4 r5) (cwV 2 hts gX5_referToMemory_X4_write rfl rfl rfl (by decide +kernel) ⟨Nat.le_of_ble_eq_true rfl, Nat.le_of_ble_eq_true rfl⟩) 1 4 rfl rfl rfl hl.1 rfl (Nat.le_of_ble_eq_true rfl) dX5_referToMemory_268 (fun s42 H locs hs42 hP hD hS => ?_)
        refine lv_goto (tgt := 294) hx hb dX5_referToMemory_271 (by decide) ?_
        exact oh_retv (u := s42) hC hP hD hS (by subst hs42 hy6 hr5 hr4 hx3; exact (((((((((((((if_neg c1).trans (if_neg c7)).trans (if_neg c10)).trans (if_neg c13)).trans (if_neg c16)).trans (if_neg c18)).trans (if_neg c21)).trans (if_neg c23)).trans (if_neg c25)).trans (if_neg c27)).trans (if_neg c33)).trans (if_neg c39)).trans (if_pos c41)).symm) dX5_referToMemory_294
      by_cases c43 : y6 = (14 : Int32)
      · refine lv_tableIn (tgt := 274) hx hb dX5_referToMemory_42 (by rw [c43]; decide) (by rw [c43]; decide) (by rw [c43]; rfl) (by decide) ?_
        refine lv_aload_n hx hb dX5_referToMemory_274 rfl (lv_at hl 3 rfl) ?_
        refine oh_get (v := .ref (a 1)) hC hP inX5_referToMemory_X5 8 rfl rfl 0 (by decide) (by decide +kernel) rfl dX5_referToMemory_275 ?_
        refine lv_iload_n hx hb dX5_referToMemory_278 rfl (lv_at hl 5 rfl) ?_
        refine lv_aload_n hx hb dX5_referToMemory_279 rfl (lv_at hl 3 rfl) ?_
        refine oh_get (v := .ref (a 1)) hC hP inX5_referToMemory_X5 8 rfl rfl 0 (by decide) (by decide +kernel) rfl dX5_referToMemory_280 ?_
        refine lv_iload hx hb dX5_referToMemory_283 (lv_at hl 1 rfl) ?_
        refine oh_cvp (As := [.int r4]) (rest := [.int p2, .ref (a 1)]) hC hP hD hS (mtX4_read l a k D σ r4) (cwV 1 hts gX5_referToMemory_X4_read rfl rfl rfl (by decide +kernel) ⟨Nat.le_of_ble_eq_true rfl, Nat.le_of_ble_eq_true rfl⟩) 1 4 rfl rfl rfl hl.1 rfl (Nat.le_of_ble_eq_true rfl) dX5_referToMemory_285 (fun r44 H locs hr44 hP hD hS => ?_)
        refine oh_cvv (As := [.int p2, .int r44]) (rest := []) hC hP hD hS (mtX4_write l a k D σ p2 r44) (cwV 2 hts gX5_referToMemory_X4_write rfl rfl rfl (by decide +kernel) ⟨Nat.le_of_ble_eq_true rfl, Nat.le_of_ble_eq_true rfl⟩) 1 4 rfl rfl rfl hl.1 rfl (Nat.le_of_ble_eq_true rfl) dX5_referToMemory_288 (fun s45 H locs hs45 hP hD hS => ?_)
        refine lv_goto (tgt := 294) hx hb dX5_referToMemory_291 (by decide) ?_
        exact oh_retv (u := s45) hC hP hD hS (by subst hs45 hr44 hy6 hr5 hr4 hx3; exact ((((((((((((((if_neg c1).trans (if_neg c7)).trans (if_neg c10)).trans (if_neg c13)).trans (if_neg c16)).trans (if_neg c18)).trans (if_neg c21)).trans (if_neg c23)).trans (if_neg c25)).trans (if_neg c27)).trans (if_neg c33)).trans (if_neg c39)).trans (if_neg c41)).trans (if_pos c43)).symm) dX5_referToMemory_294
      by_cases c46 : y6 = (15 : Int32)
      · refine lv_tableIn (tgt := 274) hx hb dX5_referToMemory_42 (by rw [c46]; decide) (by rw [c46]; decide) (by rw [c46]; rfl) (by decide) ?_
        refine lv_aload_n hx hb dX5_referToMemory_274 rfl (lv_at hl 3 rfl) ?_
        refine oh_get (v := .ref (a 1)) hC hP inX5_referToMemory_X5 8 rfl rfl 0 (by decide) (by decide +kernel) rfl dX5_referToMemory_275 ?_
        refine lv_iload_n hx hb dX5_referToMemory_278 rfl (lv_at hl 5 rfl) ?_
        refine lv_aload_n hx hb dX5_referToMemory_279 rfl (lv_at hl 3 rfl) ?_
        refine oh_get (v := .ref (a 1)) hC hP inX5_referToMemory_X5 8 rfl rfl 0 (by decide) (by decide +kernel) rfl dX5_referToMemory_280 ?_
        refine lv_iload hx hb dX5_referToMemory_283 (lv_at hl 1 rfl) ?_
        refine oh_cvp (As := [.int r4]) (rest := [.int p2, .ref (a 1)]) hC hP hD hS (mtX4_read l a k D σ r4) (cwV 1 hts gX5_referToMemory_X4_read rfl rfl rfl (by decide +kernel) ⟨Nat.le_of_ble_eq_true rfl, Nat.le_of_ble_eq_true rfl⟩) 1 4 rfl rfl rfl hl.1 rfl (Nat.le_of_ble_eq_true rfl) dX5_referToMemory_285 (fun r47 H locs hr47 hP hD hS => ?_)
        refine oh_cvv (As := [.int p2, .int r47]) (rest := []) hC hP hD hS (mtX4_write l a k D σ p2 r47) (cwV 2 hts gX5_referToMemory_X4_write rfl rfl rfl (by decide +kernel) ⟨Nat.le_of_ble_eq_true rfl, Nat.le_of_ble_eq_true rfl⟩) 1 4 rfl rfl rfl hl.1 rfl (Nat.le_of_ble_eq_true rfl) dX5_referToMemory_288 (fun s48 H locs hs48 hP hD hS => ?_)
        refine lv_goto (tgt := 294) hx hb dX5_referToMemory_291 (by decide) ?_
        exact oh_retv (u := s48) hC hP hD hS (by subst hs48 hr47 hy6 hr5 hr4 hx3; exact (((((((((((((((if_neg c1).trans (if_neg c7)).trans (if_neg c10)).trans (if_neg c13)).trans (if_neg c16)).trans (if_neg c18)).trans (if_neg c21)).trans (if_neg c23)).trans (if_neg c25)).trans (if_neg c27)).trans (if_neg c33)).trans (if_neg c39)).trans (if_neg c41)).trans (if_neg c43)).trans (if_pos c46)).symm) dX5_referToMemory_294
      refine lv_tableOut (tgt := 294) hx hb dX5_referToMemory_42 (by have hh := True.intro; have : (∀ z : Int32, y6.toInt = z.toInt → y6 = z) := fun z e => Int32.toInt_inj.mp e; have hc7 : y6.toInt ≠ 2 := oh_ne c7; have hc10 : y6.toInt ≠ 3 := oh_ne c10; have hc13 : y6.toInt ≠ 4 := oh_ne c13; have hc16 : y6.toInt ≠ 5 := oh_ne c16; have hc18 : y6.toInt ≠ 6 := oh_ne c18; have hc21 : y6.toInt ≠ 7 := oh_ne c21; have hc23 : y6.toInt ≠ 8 := oh_ne c23; have hc25 : y6.toInt ≠ 9 := oh_ne c25; have hc27 : y6.toInt ≠ 10 := oh_ne c27; have hc33 : y6.toInt ≠ 11 := oh_ne c33; have hc39 : y6.toInt ≠ 12 := oh_ne c39; have hc41 : y6.toInt ≠ 13 := oh_ne c41; have hc43 : y6.toInt ≠ 14 := oh_ne c43; have hc46 : y6.toInt ≠ 15 := oh_ne c46; omega) (by decide) ?_
      exact oh_retv (u := σ) hC hP hD hS (by subst hy6 hr5 hr4 hx3; exact (((((((((((((((if_neg c1).trans (if_neg c7)).trans (if_neg c10)).trans (if_neg c13)).trans (if_neg c16)).trans (if_neg c18)).trans (if_neg c21)).trans (if_neg c23)).trans (if_neg c25)).trans (if_neg c27)).trans (if_neg c33)).trans (if_neg c39)).trans (if_neg c41)).trans (if_neg c43)).trans (if_neg c46)).symm) dX5_referToMemory_294
    refine lv_if_eq (tgt := 17) hx hb dX5_referToMemory_10 (by decide) (fun c2 => ?_) (fun c2 => ?_)
    · refine lv_iconst (v := (0 : Int32)) hx hb dX5_referToMemory_17 (by decide) ?_
      exact K49 _ (if_pos c2).symm ls _ _ hP hD hS (lv_sub hl [0, 1, 2] rfl)
    · refine lv_iconst (v := (1 : Int32)) hx hb dX5_referToMemory_13 (by decide) ?_
      refine lv_goto (tgt := 18) hx hb dX5_referToMemory_14 (by decide) ?_
      exact K49 _ (if_neg c2).symm ls _ _ hP hD hS (lv_sub hl [0, 1, 2] rfl)
  · exact oh_retv (u := σ) hC hP hD hS (by exact (if_pos c1).symm) dX5_referToMemory_5
-- OctalHouse$Processor.writeTwo
theorem inX5_writeTwo_X5 : ∀ w ∈ u_ws RX5 TX5 3, w ∈ wsX5_writeTwo := by decide +kernel
def spX5_writeTwo (σ : oh_St) (p1 : Int32) (p2 : Int32) (p3 : Int32) (p4 : Int32) : oh_St := (let s1 : oh_St := (spX4_write σ p1 p2); (let s2 : oh_St := (spX4_write s1 p3 p4); s2))
set_option maxHeartbeats 8000000 in
set_option maxRecDepth 100000 in
theorem mtX5_writeTwo (l : Launch) (a : Nat → Nat) (k : Nat → ClassId) (D : va_G) (σ : oh_St) (p1 : Int32) (p2 : Int32) (p3 : Int32) (p4 : Int32) : oh_Mv l yX5_writeTwo wsX5_writeTwo { frames := 1, cells := 0, slots := 0, locals := 22 } D (oh_ty k) (oh_W a k) [.ref (a 8), .int p1, .int p2, .int p3, .int p4] σ (fun u => u = spX5_writeTwo σ p1 p2 p3 p4) := by
  refine oh_inv (cc := cX5_writeTwo) (nL := 5) (rt := none) (by decide) rfl (Nat.le_of_ble_eq_true rfl) ?_
  intro p e s m below meth c A ls hC hP hD hS hl
  obtain ⟨hx, hb, hml, hown, hts, hr, hlocks, hK, hN, hA⟩ := id hC
  have hl : lv_has ls 5 [(0, .ref (a 8)), (1, .int p1), (2, .int p2), (3, .int p3), (4, .int p4)] := hl
  refine lv_aload_n hx hb dX5_writeTwo_0 rfl (lv_at hl 0 rfl) ?_
  refine oh_get (v := .ref (a 1)) hC hP inX5_writeTwo_X5 8 rfl rfl 0 (by decide) (by decide +kernel) rfl dX5_writeTwo_1 ?_
  refine lv_iload_n hx hb dX5_writeTwo_4 rfl (lv_at hl 1 rfl) ?_
  refine lv_iload_n hx hb dX5_writeTwo_5 rfl (lv_at hl 2 rfl) ?_
  refine oh_cvv (As := [.int p1, .int p2]) (rest := []) hC hP hD hS (mtX4_write l a k D σ p1 p2) (cwV 2 hts gX5_writeTwo_X4_write rfl rfl rfl (by decide +kernel) ⟨Nat.le_of_ble_eq_true rfl, Nat.le_of_ble_eq_true rfl⟩) 1 4 rfl rfl rfl hl.1 rfl (Nat.le_of_ble_eq_true rfl) dX5_writeTwo_6 (fun s1 H locs hs1 hP hD hS => ?_)
  refine lv_aload_n hx hb dX5_writeTwo_9 rfl (lv_at hl 0 rfl) ?_
  refine oh_get (v := .ref (a 1)) hC hP inX5_writeTwo_X5 8 rfl rfl 0 (by decide) (by decide +kernel) rfl dX5_writeTwo_10 ?_
  refine lv_iload_n hx hb dX5_writeTwo_13 rfl (lv_at hl 3 rfl) ?_
  refine lv_iload hx hb dX5_writeTwo_14 (lv_at hl 4 rfl) ?_
  refine oh_cvv (As := [.int p3, .int p4]) (rest := []) hC hP hD hS (mtX4_write l a k D s1 p3 p4) (cwV 2 hts gX5_writeTwo_X4_write rfl rfl rfl (by decide +kernel) ⟨Nat.le_of_ble_eq_true rfl, Nat.le_of_ble_eq_true rfl⟩) 1 4 rfl rfl rfl hl.1 rfl (Nat.le_of_ble_eq_true rfl) dX5_writeTwo_16 (fun s2 H locs hs2 hP hD hS => ?_)
  exact oh_retv (u := s2) hC hP hD hS (by subst hs2 hs1; exact rfl) dX5_writeTwo_19
-- OctalHouse$Processor.readPair
theorem inX5_readPair_X5 : ∀ w ∈ u_ws RX5 TX5 3, w ∈ wsX5_readPair := by decide +kernel
def spX5_readPair (σ : oh_St) : Int32 := (let r1 : Int32 := (spX4_read σ (1 : Int32)); (let r2 : Int32 := (spX4_read σ (0 : Int32)); ((r1 <<< ((16 : Int32) &&& 31)) ||| r2)))
set_option maxHeartbeats 8000000 in
set_option maxRecDepth 100000 in
theorem mtX5_readPair (l : Launch) (a : Nat → Nat) (k : Nat → ClassId) (D : va_G) (σ : oh_St)  : oh_Mi l yX5_readPair wsX5_readPair { frames := 1, cells := 0, slots := 0, locals := 21 } D (oh_ty k) (oh_W a k) [.ref (a 8)] σ (fun r u => r = spX5_readPair σ ∧ u = σ) := by
  refine oh_ini (cc := cX5_readPair) (nL := 1) (rt := some .int) (by decide) rfl (Nat.le_of_ble_eq_true rfl) ?_
  intro p e s m below meth c A ls hC hP hD hS hl
  obtain ⟨hx, hb, hml, hown, hts, hr, hlocks, hK, hN, hA⟩ := id hC
  have hl : lv_has ls 1 [(0, .ref (a 8))] := hl
  refine lv_aload_n hx hb dX5_readPair_0 rfl (lv_at hl 0 rfl) ?_
  refine oh_get (v := .ref (a 1)) hC hP inX5_readPair_X5 8 rfl rfl 0 (by decide) (by decide +kernel) rfl dX5_readPair_1 ?_
  refine lv_iconst (v := (1 : Int32)) hx hb dX5_readPair_4 (by decide) ?_
  refine oh_cvp (As := [.int (1 : Int32)]) (rest := []) hC hP hD hS (mtX4_read l a k D σ (1 : Int32)) (cwV 1 hts gX5_readPair_X4_read rfl rfl rfl (by decide +kernel) ⟨Nat.le_of_ble_eq_true rfl, Nat.le_of_ble_eq_true rfl⟩) 1 4 rfl rfl rfl hl.1 rfl (Nat.le_of_ble_eq_true rfl) dX5_readPair_5 (fun r1 H locs hr1 hP hD hS => ?_)
  refine lv_bipush (v := (16 : Int32)) hx hb dX5_readPair_8 (by decide) ?_
  refine lv_ishl hx hb dX5_readPair_10 ?_
  refine lv_aload_n hx hb dX5_readPair_11 rfl (lv_at hl 0 rfl) ?_
  refine oh_get (v := .ref (a 1)) hC hP inX5_readPair_X5 8 rfl rfl 0 (by decide) (by decide +kernel) rfl dX5_readPair_12 ?_
  refine lv_iconst (v := (0 : Int32)) hx hb dX5_readPair_15 (by decide) ?_
  refine oh_cvp (As := [.int (0 : Int32)]) (rest := [.int (r1 <<< ((16 : Int32) &&& 31))]) hC hP hD hS (mtX4_read l a k D σ (0 : Int32)) (cwV 1 hts gX5_readPair_X4_read rfl rfl rfl (by decide +kernel) ⟨Nat.le_of_ble_eq_true rfl, Nat.le_of_ble_eq_true rfl⟩) 1 4 rfl rfl rfl hl.1 rfl (Nat.le_of_ble_eq_true rfl) dX5_readPair_16 (fun r2 H locs hr2 hP hD hS => ?_)
  refine lv_ior hx hb dX5_readPair_19 ?_
  exact oh_reti (v := ((r1 <<< ((16 : Int32) &&& 31)) ||| r2)) (u := σ) hC hP hD hS ⟨(by subst hr2 hr1; exact rfl), rfl⟩ dX5_readPair_20
-- OctalHouse$Processor.writePair
theorem inX5_writePair_X5 : ∀ w ∈ u_ws RX5 TX5 3, w ∈ wsX5_writePair := by decide +kernel
def spX5_writePair (σ : oh_St) (p1 : Int32) : oh_St := (let s1 : oh_St := (spX4_write σ (0 : Int32) p1); (let s2 : oh_St := (spX4_write s1 (1 : Int32) ((p1.toUInt32 >>> ((16 : Int32).toUInt32 &&& Int32.toUInt32 31)).toInt32)); s2))
set_option maxHeartbeats 8000000 in
set_option maxRecDepth 100000 in
theorem mtX5_writePair (l : Launch) (a : Nat → Nat) (k : Nat → ClassId) (D : va_G) (σ : oh_St) (p1 : Int32) : oh_Mv l yX5_writePair wsX5_writePair { frames := 1, cells := 0, slots := 0, locals := 22 } D (oh_ty k) (oh_W a k) [.ref (a 8), .int p1] σ (fun u => u = spX5_writePair σ p1) := by
  refine oh_inv (cc := cX5_writePair) (nL := 2) (rt := none) (by decide) rfl (Nat.le_of_ble_eq_true rfl) ?_
  intro p e s m below meth c A ls hC hP hD hS hl
  obtain ⟨hx, hb, hml, hown, hts, hr, hlocks, hK, hN, hA⟩ := id hC
  have hl : lv_has ls 2 [(0, .ref (a 8)), (1, .int p1)] := hl
  refine lv_aload_n hx hb dX5_writePair_0 rfl (lv_at hl 0 rfl) ?_
  refine oh_get (v := .ref (a 1)) hC hP inX5_writePair_X5 8 rfl rfl 0 (by decide) (by decide +kernel) rfl dX5_writePair_1 ?_
  refine lv_iconst (v := (0 : Int32)) hx hb dX5_writePair_4 (by decide) ?_
  refine lv_iload_n hx hb dX5_writePair_5 rfl (lv_at hl 1 rfl) ?_
  refine oh_cvv (As := [.int (0 : Int32), .int p1]) (rest := []) hC hP hD hS (mtX4_write l a k D σ (0 : Int32) p1) (cwV 2 hts gX5_writePair_X4_write rfl rfl rfl (by decide +kernel) ⟨Nat.le_of_ble_eq_true rfl, Nat.le_of_ble_eq_true rfl⟩) 1 4 rfl rfl rfl hl.1 rfl (Nat.le_of_ble_eq_true rfl) dX5_writePair_6 (fun s1 H locs hs1 hP hD hS => ?_)
  refine lv_aload_n hx hb dX5_writePair_9 rfl (lv_at hl 0 rfl) ?_
  refine oh_get (v := .ref (a 1)) hC hP inX5_writePair_X5 8 rfl rfl 0 (by decide) (by decide +kernel) rfl dX5_writePair_10 ?_
  refine lv_iconst (v := (1 : Int32)) hx hb dX5_writePair_13 (by decide) ?_
  refine lv_iload_n hx hb dX5_writePair_14 rfl (lv_at hl 1 rfl) ?_
  refine lv_bipush (v := (16 : Int32)) hx hb dX5_writePair_15 (by decide) ?_
  refine lv_iushr (v := (p1.toUInt32 >>> ((16 : Int32).toUInt32 &&& Int32.toUInt32 31)).toInt32) hx hb dX5_writePair_17 rfl ?_
  refine oh_cvv (As := [.int (1 : Int32), .int ((p1.toUInt32 >>> ((16 : Int32).toUInt32 &&& Int32.toUInt32 31)).toInt32)]) (rest := []) hC hP hD hS (mtX4_write l a k D s1 (1 : Int32) ((p1.toUInt32 >>> ((16 : Int32).toUInt32 &&& Int32.toUInt32 31)).toInt32)) (cwV 2 hts gX5_writePair_X4_write rfl rfl rfl (by decide +kernel) ⟨Nat.le_of_ble_eq_true rfl, Nat.le_of_ble_eq_true rfl⟩) 1 4 rfl rfl rfl hl.1 rfl (Nat.le_of_ble_eq_true rfl) dX5_writePair_18 (fun s2 H locs hs2 hP hD hS => ?_)
  exact oh_retv (u := s2) hC hP hD hS (by subst hs2 hs1; exact rfl) dX5_writePair_21
-- OctalHouse$Processor.multiply
theorem inX5_multiply_X5 : ∀ w ∈ u_ws RX5 TX5 3, w ∈ wsX5_multiply := by decide +kernel
theorem inX5_multiply_X6 : ∀ w ∈ u_ws RX6 TX6 6, w ∈ wsX5_multiply := by decide +kernel
def spX5_multiply (σ : oh_St) (p1 : Int32) : oh_St := (let r1 : Int32 := (spX4_read σ (0 : Int32)); (let s2 : oh_St := (spX5_writePair σ ((r1.toInt16.toInt32) * (p1.toInt16.toInt32))); (oh_up s2 0 5 (0 : Int32))))
set_option maxHeartbeats 8000000 in
set_option maxRecDepth 100000 in
theorem mtX5_multiply (l : Launch) (a : Nat → Nat) (k : Nat → ClassId) (D : va_G) (σ : oh_St) (p1 : Int32) : oh_Mv l yX5_multiply wsX5_multiply { frames := 2, cells := 0, slots := 0, locals := 43 } D (oh_ty k) (oh_W a k) [.ref (a 8), .int p1] σ (fun u => u = spX5_multiply σ p1) := by
  refine oh_inv (cc := cX5_multiply) (nL := 2) (rt := none) (by decide) rfl (Nat.le_of_ble_eq_true rfl) ?_
  intro p e s m below meth c A ls hC hP hD hS hl
  obtain ⟨hx, hb, hml, hown, hts, hr, hlocks, hK, hN, hA⟩ := id hC
  have hl : lv_has ls 2 [(0, .ref (a 8)), (1, .int p1)] := hl
  refine lv_aload_n hx hb dX5_multiply_0 rfl (lv_at hl 0 rfl) ?_
  refine lv_aload_n hx hb dX5_multiply_1 rfl (lv_at hl 0 rfl) ?_
  refine oh_get (v := .ref (a 1)) hC hP inX5_multiply_X5 8 rfl rfl 0 (by decide) (by decide +kernel) rfl dX5_multiply_2 ?_
  refine lv_iconst (v := (0 : Int32)) hx hb dX5_multiply_5 (by decide) ?_
  refine oh_cvp (As := [.int (0 : Int32)]) (rest := [.ref (a 8)]) hC hP hD hS (mtX4_read l a k D σ (0 : Int32)) (cwV 1 hts gX5_multiply_X4_read rfl rfl rfl (by decide +kernel) ⟨Nat.le_of_ble_eq_true rfl, Nat.le_of_ble_eq_true rfl⟩) 1 4 rfl rfl rfl hl.1 rfl (Nat.le_of_ble_eq_true rfl) dX5_multiply_6 (fun r1 H locs hr1 hP hD hS => ?_)
  refine lv_i2s (v := (r1.toInt16.toInt32)) hx hb dX5_multiply_9 rfl ?_
  refine lv_iload_n hx hb dX5_multiply_10 rfl (lv_at hl 1 rfl) ?_
  refine lv_i2s (v := (p1.toInt16.toInt32)) hx hb dX5_multiply_11 rfl ?_
  refine lv_imul hx hb dX5_multiply_12 ?_
  refine oh_cvv (As := [.int ((r1.toInt16.toInt32) * (p1.toInt16.toInt32))]) (rest := []) hC hP hD hS (mtX5_writePair l a k D σ ((r1.toInt16.toInt32) * (p1.toInt16.toInt32))) (cwV 1 hts gX5_multiply_X5_writePair rfl rfl rfl (by decide +kernel) ⟨Nat.le_of_ble_eq_true rfl, Nat.le_of_ble_eq_true rfl⟩) 8 5 rfl rfl rfl hl.1 rfl (Nat.le_of_ble_eq_true rfl) dX5_multiply_13 (fun s2 H locs hs2 hP hD hS => ?_)
  refine lv_aload_n hx hb dX5_multiply_16 rfl (lv_at hl 0 rfl) ?_
  refine oh_get (v := .ref (a 3)) hC hP inX5_multiply_X5 8 rfl rfl 1 (by decide) (by decide +kernel) rfl dX5_multiply_17 ?_
  refine lv_iconst (v := (0 : Int32)) hx hb dX5_multiply_20 (by decide) ?_
  refine oh_putN (σ' := (oh_up s2 0 5 (0 : Int32))) (v := .int (0 : Int32)) hC hP hD hS inX5_multiply_X6 tyX6 tyX6_ok nmX6 3 rfl rfl 2 (by decide) (by decide +kernel) rfl rfl rfl (by simp) rfl dX5_multiply_21 (fun H locs hP hD hS => ?_)
  exact oh_retv (u := (oh_up s2 0 5 (0 : Int32))) hC hP hD hS (by subst hs2 hr1; exact rfl) dX5_multiply_24
-- OctalHouse$Processor.divide
theorem inX5_divide_X5 : ∀ w ∈ u_ws RX5 TX5 3, w ∈ wsX5_divide := by decide +kernel
theorem inX5_divide_X6 : ∀ w ∈ u_ws RX6 TX6 6, w ∈ wsX5_divide := by decide +kernel
def spX5_divide (σ : oh_St) (p1 : Int32) : oh_St := (if (lg_cmp ((p1.toInt16.toInt32).toInt64) (0 : Int64)) = (0 : Int32) then (oh_up σ 0 5 (1 : Int32)) else (let r2 : Int32 := (spX5_readPair (oh_up σ 0 5 (1 : Int32))); (if (lg_cmp ((r2.toInt64) / ((p1.toInt16.toInt32).toInt64)) (-32768 : Int64)) < (0 : Int32) then (oh_up σ 0 5 (1 : Int32)) else (if (lg_cmp ((r2.toInt64) / ((p1.toInt16.toInt32).toInt64)) (32767 : Int64)) ≤ (0 : Int32) then (let s5 : oh_St := (spX4_write (oh_up σ 0 5 (1 : Int32)) (0 : Int32) (((r2.toInt64) / ((p1.toInt16.toInt32).toInt64)).toInt32)); (let s6 : oh_St := (spX4_write s5 (1 : Int32) (((r2.toInt64) - (r2.toInt64) / ((p1.toInt16.toInt32).toInt64) * ((p1.toInt16.toInt32).toInt64)).toInt32)); (oh_up s6 0 5 (0 : Int32)))) else (oh_up σ 0 5 (1 : Int32))))))
set_option maxHeartbeats 8000000 in
set_option maxRecDepth 100000 in
theorem mtX5_divide (l : Launch) (a : Nat → Nat) (k : Nat → ClassId) (D : va_G) (σ : oh_St) (p1 : Int32) : oh_Mv l yX5_divide wsX5_divide { frames := 2, cells := 0, slots := 0, locals := 41 } D (oh_ty k) (oh_W a k) [.ref (a 8), .int p1] σ (fun u => u = spX5_divide σ p1) := by
  refine oh_inv (cc := cX5_divide) (nL := 8) (rt := none) (by decide) rfl (Nat.le_of_ble_eq_true rfl) ?_
  intro p e s m below meth c A ls hC hP hD hS hl
  obtain ⟨hx, hb, hml, hown, hts, hr, hlocks, hK, hN, hA⟩ := id hC
  have hl : lv_has ls 8 [(0, .ref (a 8)), (1, .int p1)] := hl
  refine lv_iload_n hx hb dX5_divide_0 rfl (lv_at hl 1 rfl) ?_
  refine lv_i2s (v := (p1.toInt16.toInt32)) hx hb dX5_divide_1 rfl ?_
  refine lv_i2l (v := ((p1.toInt16.toInt32).toInt64)) hx hb dX5_divide_2 rfl ?_
  refine lv_lstore_n (lv' := [(2, .long ((p1.toInt16.toInt32).toInt64)), (0, .ref (a 8)), (1, .int p1)]) hx hb dX5_divide_3 rfl hl (by decide) rfl (fun ls hl => ?_)
  refine lv_aload_n hx hb dX5_divide_4 rfl (lv_at hl 1 rfl) ?_
  refine oh_get (v := .ref (a 3)) hC hP inX5_divide_X5 8 rfl rfl 1 (by decide) (by decide +kernel) rfl dX5_divide_5 ?_
  refine lv_iconst (v := (1 : Int32)) hx hb dX5_divide_8 (by decide) ?_
  refine oh_putN (σ' := (oh_up σ 0 5 (1 : Int32))) (v := .int (1 : Int32)) hC hP hD hS inX5_divide_X6 tyX6 tyX6_ok nmX6 3 rfl rfl 2 (by decide) (by decide +kernel) rfl rfl rfl (by simp) rfl dX5_divide_9 (fun H locs hP hD hS => ?_)
  refine lv_lload_n hx hb dX5_divide_12 rfl (lv_at hl 0 rfl) ?_
  refine lv_lconst (v := (0 : Int64)) hx hb dX5_divide_13 rfl ?_
  refine W.lcmp hx hb dX5_divide_14 ?_
  refine lv_if_ne (tgt := 19) hx hb dX5_divide_15 (by decide) (fun c1 => ?_) (fun c1 => ?_)
  · refine lv_aload_n hx hb dX5_divide_19 rfl (lv_at hl 1 rfl) ?_
    refine oh_cvp (As := []) (rest := []) hC hP hD hS (mtX5_readPair l a k D (oh_up σ 0 5 (1 : Int32))) (cwV 0 hts gX5_divide_X5_readPair rfl rfl rfl (by decide +kernel) ⟨Nat.le_of_ble_eq_true rfl, Nat.le_of_ble_eq_true rfl⟩) 8 5 rfl rfl rfl hl.1 rfl (Nat.le_of_ble_eq_true rfl) dX5_divide_20 (fun r2 H locs hr2 hP hD hS => ?_)
    refine lv_i2l (v := (r2.toInt64)) hx hb dX5_divide_23 rfl ?_
    refine lv_lstore (lv' := [(4, .long (r2.toInt64)), (2, .long ((p1.toInt16.toInt32).toInt64)), (0, .ref (a 8)), (1, .int p1)]) hx hb dX5_divide_24 hl (by decide) rfl (fun ls hl => ?_)
    refine lv_lload hx hb dX5_divide_26 (lv_at hl 0 rfl) ?_
    refine lv_lload_n hx hb dX5_divide_28 rfl (lv_at hl 1 rfl) ?_
    refine lv_ldiv hx hb dX5_divide_29 (oh_lcne c1) ?_
    refine lv_lstore (lv' := [(6, .long ((r2.toInt64) / ((p1.toInt16.toInt32).toInt64))), (4, .long (r2.toInt64)), (2, .long ((p1.toInt16.toInt32).toInt64)), (0, .ref (a 8)), (1, .int p1)]) hx hb dX5_divide_30 hl (by decide) rfl (fun ls hl => ?_)
    refine lv_lload hx hb dX5_divide_32 (lv_at hl 0 rfl) ?_
    refine lv_ldc2 (v := (-32768 : Int64)) hx hb hown (hts (.constantLong RX5 157 (-32768)) (by decide +kernel)) dX5_divide_34 ?_
    refine W.lcmp hx hb dX5_divide_37 ?_
    refine lv_if_lt (tgt := 50) hx hb dX5_divide_38 (by decide) (fun c3 => ?_) (fun c3 => ?_)
    · exact oh_retv (u := (oh_up σ 0 5 (1 : Int32))) hC hP hD hS (by subst hr2; exact ((if_neg c1).trans (if_pos c3)).symm) dX5_divide_50
    · refine lv_lload hx hb dX5_divide_41 (lv_at hl 0 rfl) ?_
      refine lv_ldc2 (v := (32767 : Int64)) hx hb hown (hts (.constantLong RX5 159 (32767)) (by decide +kernel)) dX5_divide_43 ?_
      refine W.lcmp hx hb dX5_divide_46 ?_
      refine lv_if_le (tgt := 51) hx hb dX5_divide_47 (by decide) (fun c4 => ?_) (fun c4 => ?_)
      · refine lv_aload_n hx hb dX5_divide_51 rfl (lv_at hl 3 rfl) ?_
        refine oh_get (v := .ref (a 1)) hC hP inX5_divide_X5 8 rfl rfl 0 (by decide) (by decide +kernel) rfl dX5_divide_52 ?_
        refine lv_iconst (v := (0 : Int32)) hx hb dX5_divide_55 (by decide) ?_
        refine lv_lload hx hb dX5_divide_56 (lv_at hl 0 rfl) ?_
        refine lv_l2i (v := (((r2.toInt64) / ((p1.toInt16.toInt32).toInt64)).toInt32)) hx hb dX5_divide_58 rfl ?_
        refine oh_cvv (As := [.int (0 : Int32), .int (((r2.toInt64) / ((p1.toInt16.toInt32).toInt64)).toInt32)]) (rest := []) hC hP hD hS (mtX4_write l a k D (oh_up σ 0 5 (1 : Int32)) (0 : Int32) (((r2.toInt64) / ((p1.toInt16.toInt32).toInt64)).toInt32)) (cwV 2 hts gX5_divide_X4_write rfl rfl rfl (by decide +kernel) ⟨Nat.le_of_ble_eq_true rfl, Nat.le_of_ble_eq_true rfl⟩) 1 4 rfl rfl rfl hl.1 rfl (Nat.le_of_ble_eq_true rfl) dX5_divide_59 (fun s5 H locs hs5 hP hD hS => ?_)
        refine lv_aload_n hx hb dX5_divide_62 rfl (lv_at hl 3 rfl) ?_
        refine oh_get (v := .ref (a 1)) hC hP inX5_divide_X5 8 rfl rfl 0 (by decide) (by decide +kernel) rfl dX5_divide_63 ?_
        refine lv_iconst (v := (1 : Int32)) hx hb dX5_divide_66 (by decide) ?_
        refine lv_lload hx hb dX5_divide_67 (lv_at hl 1 rfl) ?_
        refine lv_lload_n hx hb dX5_divide_69 rfl (lv_at hl 2 rfl) ?_
        refine lv_lrem hx hb dX5_divide_70 (oh_lcne c1) ?_
        refine lv_l2i (v := (((r2.toInt64) - (r2.toInt64) / ((p1.toInt16.toInt32).toInt64) * ((p1.toInt16.toInt32).toInt64)).toInt32)) hx hb dX5_divide_71 rfl ?_
        refine oh_cvv (As := [.int (1 : Int32), .int (((r2.toInt64) - (r2.toInt64) / ((p1.toInt16.toInt32).toInt64) * ((p1.toInt16.toInt32).toInt64)).toInt32)]) (rest := []) hC hP hD hS (mtX4_write l a k D s5 (1 : Int32) (((r2.toInt64) - (r2.toInt64) / ((p1.toInt16.toInt32).toInt64) * ((p1.toInt16.toInt32).toInt64)).toInt32)) (cwV 2 hts gX5_divide_X4_write rfl rfl rfl (by decide +kernel) ⟨Nat.le_of_ble_eq_true rfl, Nat.le_of_ble_eq_true rfl⟩) 1 4 rfl rfl rfl hl.1 rfl (Nat.le_of_ble_eq_true rfl) dX5_divide_72 (fun s6 H locs hs6 hP hD hS => ?_)
        refine lv_aload_n hx hb dX5_divide_75 rfl (lv_at hl 3 rfl) ?_
        refine oh_get (v := .ref (a 3)) hC hP inX5_divide_X5 8 rfl rfl 1 (by decide) (by decide +kernel) rfl dX5_divide_76 ?_
        refine lv_iconst (v := (0 : Int32)) hx hb dX5_divide_79 (by decide) ?_
        refine oh_putN (σ' := (oh_up s6 0 5 (0 : Int32))) (v := .int (0 : Int32)) hC hP hD hS inX5_divide_X6 tyX6 tyX6_ok nmX6 3 rfl rfl 2 (by decide) (by decide +kernel) rfl rfl rfl (by simp) rfl dX5_divide_80 (fun H locs hP hD hS => ?_)
        exact oh_retv (u := (oh_up s6 0 5 (0 : Int32))) hC hP hD hS (by subst hs6 hs5 hr2; exact (((if_neg c1).trans (if_neg c3)).trans (if_pos c4)).symm) dX5_divide_83
      · exact oh_retv (u := (oh_up σ 0 5 (1 : Int32))) hC hP hD hS (by subst hr2; exact (((if_neg c1).trans (if_neg c3)).trans (if_neg c4)).symm) dX5_divide_50
  · exact oh_retv (u := (oh_up σ 0 5 (1 : Int32))) hC hP hD hS (by exact (if_pos c1).symm) dX5_divide_18
-- OctalHouse$Processor.doubleWord
theorem inX5_doubleWord_X5 : ∀ w ∈ u_ws RX5 TX5 3, w ∈ wsX5_doubleWord := by decide +kernel
def spX5_doubleWord (σ : oh_St) (p1 : Int32) (p2 : Int32) : oh_St := (if p2 = (-1 : Int32) then σ else (let y2 : Int32 := p1; (if y2 = (32896 : Int32) then (let r4 : Int32 := (spX4_read σ p2); (let s5 : oh_St := (spX5_multiply σ r4); s5)) else (if y2 = (33024 : Int32) then (let r7 : Int32 := (spX4_read σ p2); (let s8 : oh_St := (spX5_divide σ r7); s8)) else (if y2 = (34944 : Int32) then (let r10 : Int32 := (spX4_read σ p2); (let r11 : Int32 := (spX4_read σ ((p2 + (1 : Int32)) &&& (32767 : Int32))); (let s12 : oh_St := (spX5_writeTwo σ (0 : Int32) r10 (1 : Int32) r11); s12))) else (let r13 : Int32 := (spX4_read σ (0 : Int32)); (let r14 : Int32 := (spX4_read σ (1 : Int32)); (let s15 : oh_St := (spX5_writeTwo σ p2 r13 ((p2 + (1 : Int32)) &&& (32767 : Int32)) r14); s15))))))))
set_option maxHeartbeats 8000000 in
set_option maxRecDepth 100000 in
theorem mtX5_doubleWord (l : Launch) (a : Nat → Nat) (k : Nat → ClassId) (D : va_G) (σ : oh_St) (p1 : Int32) (p2 : Int32) : oh_Mv l yX5_doubleWord wsX5_doubleWord { frames := 3, cells := 0, slots := 0, locals := 68 } D (oh_ty k) (oh_W a k) [.ref (a 8), .int p1, .int p2] σ (fun u => u = spX5_doubleWord σ p1 p2) := by
  refine oh_inv (cc := cX5_doubleWord) (nL := 4) (rt := none) (by decide) rfl (Nat.le_of_ble_eq_true rfl) ?_
  intro p e s m below meth c A ls hC hP hD hS hl
  obtain ⟨hx, hb, hml, hown, hts, hr, hlocks, hK, hN, hA⟩ := id hC
  have hl : lv_has ls 4 [(0, .ref (a 8)), (1, .int p1), (2, .int p2)] := hl
  refine lv_iload_n hx hb dX5_doubleWord_0 rfl (lv_at hl 2 rfl) ?_
  refine lv_iconst (v := (-1 : Int32)) hx hb dX5_doubleWord_1 (by decide) ?_
  refine lv_icmp_ne (tgt := 6) hx hb dX5_doubleWord_2 (by decide) (fun c1 => ?_) (fun c1 => ?_)
  · refine lv_iload_n hx hb dX5_doubleWord_6 rfl (lv_at hl 2 rfl) ?_
    refine lv_iconst (v := (1 : Int32)) hx hb dX5_doubleWord_7 (by decide) ?_
    refine lv_iadd hx hb dX5_doubleWord_8 ?_
    refine lv_sipush (v := (32767 : Int32)) hx hb dX5_doubleWord_9 (by decide) ?_
    refine lv_iand hx hb dX5_doubleWord_12 ?_
    refine lv_istore_n (lv' := [(3, .int ((p2 + (1 : Int32)) &&& (32767 : Int32))), (0, .ref (a 8)), (1, .int p1), (2, .int p2)]) hx hb dX5_doubleWord_13 rfl hl (by decide) rfl (fun ls hl => ?_)
    refine lv_iload_n hx hb dX5_doubleWord_14 rfl (lv_at hl 2 rfl) ?_
    refine lv_topi (fun y2 hy2 => ?_)
    by_cases c3 : y2 = (32896 : Int32)
    · refine lv_lookup (tgt := 48) (off := 33) hx hb dX5_doubleWord_15 (by decide) (by rw [c3]; first | done | rfl) (by decide) ?_
      refine lv_aload_n hx hb dX5_doubleWord_48 rfl (lv_at hl 1 rfl) ?_
      refine lv_aload_n hx hb dX5_doubleWord_49 rfl (lv_at hl 1 rfl) ?_
      refine oh_get (v := .ref (a 1)) hC hP inX5_doubleWord_X5 8 rfl rfl 0 (by decide) (by decide +kernel) rfl dX5_doubleWord_50 ?_
      refine lv_iload_n hx hb dX5_doubleWord_53 rfl (lv_at hl 3 rfl) ?_
      refine oh_cvp (As := [.int p2]) (rest := [.ref (a 8)]) hC hP hD hS (mtX4_read l a k D σ p2) (cwV 1 hts gX5_doubleWord_X4_read rfl rfl rfl (by decide +kernel) ⟨Nat.le_of_ble_eq_true rfl, Nat.le_of_ble_eq_true rfl⟩) 1 4 rfl rfl rfl hl.1 rfl (Nat.le_of_ble_eq_true rfl) dX5_doubleWord_54 (fun r4 H locs hr4 hP hD hS => ?_)
      refine oh_cvv (As := [.int r4]) (rest := []) hC hP hD hS (mtX5_multiply l a k D σ r4) (cwV 1 hts gX5_doubleWord_X5_multiply rfl rfl rfl (by decide +kernel) ⟨Nat.le_of_ble_eq_true rfl, Nat.le_of_ble_eq_true rfl⟩) 8 5 rfl rfl rfl hl.1 rfl (Nat.le_of_ble_eq_true rfl) dX5_doubleWord_57 (fun s5 H locs hs5 hP hD hS => ?_)
      refine lv_goto (tgt := 125) hx hb dX5_doubleWord_60 (by decide) ?_
      exact oh_retv (u := s5) hC hP hD hS (by subst hs5 hr4 hy2; exact ((if_neg c1).trans (if_pos c3)).symm) dX5_doubleWord_125
    by_cases c6 : y2 = (33024 : Int32)
    · refine lv_lookup (tgt := 63) (off := 48) hx hb dX5_doubleWord_15 (by decide) (by rw [c6]; first | done | rfl) (by decide) ?_
      refine lv_aload_n hx hb dX5_doubleWord_63 rfl (lv_at hl 1 rfl) ?_
      refine lv_aload_n hx hb dX5_doubleWord_64 rfl (lv_at hl 1 rfl) ?_
      refine oh_get (v := .ref (a 1)) hC hP inX5_doubleWord_X5 8 rfl rfl 0 (by decide) (by decide +kernel) rfl dX5_doubleWord_65 ?_
      refine lv_iload_n hx hb dX5_doubleWord_68 rfl (lv_at hl 3 rfl) ?_
      refine oh_cvp (As := [.int p2]) (rest := [.ref (a 8)]) hC hP hD hS (mtX4_read l a k D σ p2) (cwV 1 hts gX5_doubleWord_X4_read rfl rfl rfl (by decide +kernel) ⟨Nat.le_of_ble_eq_true rfl, Nat.le_of_ble_eq_true rfl⟩) 1 4 rfl rfl rfl hl.1 rfl (Nat.le_of_ble_eq_true rfl) dX5_doubleWord_69 (fun r7 H locs hr7 hP hD hS => ?_)
      refine oh_cvv (As := [.int r7]) (rest := []) hC hP hD hS (mtX5_divide l a k D σ r7) (cwV 1 hts gX5_doubleWord_X5_divide rfl rfl rfl (by decide +kernel) ⟨Nat.le_of_ble_eq_true rfl, Nat.le_of_ble_eq_true rfl⟩) 8 5 rfl rfl rfl hl.1 rfl (Nat.le_of_ble_eq_true rfl) dX5_doubleWord_72 (fun s8 H locs hs8 hP hD hS => ?_)
      refine lv_goto (tgt := 125) hx hb dX5_doubleWord_75 (by decide) ?_
      exact oh_retv (u := s8) hC hP hD hS (by subst hs8 hr7 hy2; exact (((if_neg c1).trans (if_neg c3)).trans (if_pos c6)).symm) dX5_doubleWord_125
    by_cases c9 : y2 = (34944 : Int32)
    · refine lv_lookup (tgt := 78) (off := 63) hx hb dX5_doubleWord_15 (by decide) (by rw [c9]; first | done | rfl) (by decide) ?_
      refine lv_aload_n hx hb dX5_doubleWord_78 rfl (lv_at hl 1 rfl) ?_
      refine lv_iconst (v := (0 : Int32)) hx hb dX5_doubleWord_79 (by decide) ?_
      refine lv_aload_n hx hb dX5_doubleWord_80 rfl (lv_at hl 1 rfl) ?_
      refine oh_get (v := .ref (a 1)) hC hP inX5_doubleWord_X5 8 rfl rfl 0 (by decide) (by decide +kernel) rfl dX5_doubleWord_81 ?_
      refine lv_iload_n hx hb dX5_doubleWord_84 rfl (lv_at hl 3 rfl) ?_
      refine oh_cvp (As := [.int p2]) (rest := [.int (0 : Int32), .ref (a 8)]) hC hP hD hS (mtX4_read l a k D σ p2) (cwV 1 hts gX5_doubleWord_X4_read rfl rfl rfl (by decide +kernel) ⟨Nat.le_of_ble_eq_true rfl, Nat.le_of_ble_eq_true rfl⟩) 1 4 rfl rfl rfl hl.1 rfl (Nat.le_of_ble_eq_true rfl) dX5_doubleWord_85 (fun r10 H locs hr10 hP hD hS => ?_)
      refine lv_iconst (v := (1 : Int32)) hx hb dX5_doubleWord_88 (by decide) ?_
      refine lv_aload_n hx hb dX5_doubleWord_89 rfl (lv_at hl 1 rfl) ?_
      refine oh_get (v := .ref (a 1)) hC hP inX5_doubleWord_X5 8 rfl rfl 0 (by decide) (by decide +kernel) rfl dX5_doubleWord_90 ?_
      refine lv_iload_n hx hb dX5_doubleWord_93 rfl (lv_at hl 0 rfl) ?_
      refine oh_cvp (As := [.int ((p2 + (1 : Int32)) &&& (32767 : Int32))]) (rest := [.int (1 : Int32), .int r10, .int (0 : Int32), .ref (a 8)]) hC hP hD hS (mtX4_read l a k D σ ((p2 + (1 : Int32)) &&& (32767 : Int32))) (cwV 1 hts gX5_doubleWord_X4_read rfl rfl rfl (by decide +kernel) ⟨Nat.le_of_ble_eq_true rfl, Nat.le_of_ble_eq_true rfl⟩) 1 4 rfl rfl rfl hl.1 rfl (Nat.le_of_ble_eq_true rfl) dX5_doubleWord_94 (fun r11 H locs hr11 hP hD hS => ?_)
      refine oh_cvv (As := [.int (0 : Int32), .int r10, .int (1 : Int32), .int r11]) (rest := []) hC hP hD hS (mtX5_writeTwo l a k D σ (0 : Int32) r10 (1 : Int32) r11) (cwV 4 hts gX5_doubleWord_X5_writeTwo rfl rfl rfl (by decide +kernel) ⟨Nat.le_of_ble_eq_true rfl, Nat.le_of_ble_eq_true rfl⟩) 8 5 rfl rfl rfl hl.1 rfl (Nat.le_of_ble_eq_true rfl) dX5_doubleWord_97 (fun s12 H locs hs12 hP hD hS => ?_)
      refine lv_goto (tgt := 125) hx hb dX5_doubleWord_100 (by decide) ?_
      exact oh_retv (u := s12) hC hP hD hS (by subst hs12 hr11 hr10 hy2; exact ((((if_neg c1).trans (if_neg c3)).trans (if_neg c6)).trans (if_pos c9)).symm) dX5_doubleWord_125
    refine lv_lookup (tgt := 103) (off := 88) hx hb dX5_doubleWord_15 (by decide) ((lv_osw (a := 32896) c3 rfl).trans ((lv_osw (a := 33024) c6 rfl).trans ((lv_osw (a := 34944) c9 rfl).trans rfl))) (by decide) ?_
    refine lv_aload_n hx hb dX5_doubleWord_103 rfl (lv_at hl 1 rfl) ?_
    refine lv_iload_n hx hb dX5_doubleWord_104 rfl (lv_at hl 3 rfl) ?_
    refine lv_aload_n hx hb dX5_doubleWord_105 rfl (lv_at hl 1 rfl) ?_
    refine oh_get (v := .ref (a 1)) hC hP inX5_doubleWord_X5 8 rfl rfl 0 (by decide) (by decide +kernel) rfl dX5_doubleWord_106 ?_
    refine lv_iconst (v := (0 : Int32)) hx hb dX5_doubleWord_109 (by decide) ?_
    refine oh_cvp (As := [.int (0 : Int32)]) (rest := [.int p2, .ref (a 8)]) hC hP hD hS (mtX4_read l a k D σ (0 : Int32)) (cwV 1 hts gX5_doubleWord_X4_read rfl rfl rfl (by decide +kernel) ⟨Nat.le_of_ble_eq_true rfl, Nat.le_of_ble_eq_true rfl⟩) 1 4 rfl rfl rfl hl.1 rfl (Nat.le_of_ble_eq_true rfl) dX5_doubleWord_110 (fun r13 H locs hr13 hP hD hS => ?_)
    refine lv_iload_n hx hb dX5_doubleWord_113 rfl (lv_at hl 0 rfl) ?_
    refine lv_aload_n hx hb dX5_doubleWord_114 rfl (lv_at hl 1 rfl) ?_
    refine oh_get (v := .ref (a 1)) hC hP inX5_doubleWord_X5 8 rfl rfl 0 (by decide) (by decide +kernel) rfl dX5_doubleWord_115 ?_
    refine lv_iconst (v := (1 : Int32)) hx hb dX5_doubleWord_118 (by decide) ?_
    refine oh_cvp (As := [.int (1 : Int32)]) (rest := [.int ((p2 + (1 : Int32)) &&& (32767 : Int32)), .int r13, .int p2, .ref (a 8)]) hC hP hD hS (mtX4_read l a k D σ (1 : Int32)) (cwV 1 hts gX5_doubleWord_X4_read rfl rfl rfl (by decide +kernel) ⟨Nat.le_of_ble_eq_true rfl, Nat.le_of_ble_eq_true rfl⟩) 1 4 rfl rfl rfl hl.1 rfl (Nat.le_of_ble_eq_true rfl) dX5_doubleWord_119 (fun r14 H locs hr14 hP hD hS => ?_)
    refine oh_cvv (As := [.int p2, .int r13, .int ((p2 + (1 : Int32)) &&& (32767 : Int32)), .int r14]) (rest := []) hC hP hD hS (mtX5_writeTwo l a k D σ p2 r13 ((p2 + (1 : Int32)) &&& (32767 : Int32)) r14) (cwV 4 hts gX5_doubleWord_X5_writeTwo rfl rfl rfl (by decide +kernel) ⟨Nat.le_of_ble_eq_true rfl, Nat.le_of_ble_eq_true rfl⟩) 8 5 rfl rfl rfl hl.1 rfl (Nat.le_of_ble_eq_true rfl) dX5_doubleWord_122 (fun s15 H locs hs15 hP hD hS => ?_)
    exact oh_retv (u := s15) hC hP hD hS (by subst hs15 hr14 hr13 hy2; exact ((((if_neg c1).trans (if_neg c3)).trans (if_neg c6)).trans (if_neg c9)).symm) dX5_doubleWord_125
  · exact oh_retv (u := σ) hC hP hD hS (by exact (if_pos c1).symm) dX5_doubleWord_5
-- OctalHouse$Processor.longShift
theorem inX5_longShift_X5 : ∀ w ∈ u_ws RX5 TX5 3, w ∈ wsX5_longShift := by decide +kernel
theorem inX5_longShift_X6 : ∀ w ∈ u_ws RX6 TX6 6, w ∈ wsX5_longShift := by decide +kernel
def spX5_longShift (σ : oh_St) (p1 : Int32) : oh_St := (let x2 : Int32 := (if (p1 &&& (15 : Int32)) = (0 : Int32) then (16 : Int32) else (p1 &&& (15 : Int32))); (let r3 : Int32 := (spX5_readPair σ); (let y4 : Int32 := (p1 &&& (65520 : Int32)); (if y4 = (32784 : Int32) then (let s6 : oh_St := (spX5_writePair σ ((r3 &&& (-2147483648 : Int32)) ||| ((r3 <<< (x2 &&& 31)) &&& (2147483647 : Int32)))); (let r7 : Int32 := (spX5_losesUnlikeSign r3 x2); (let r8 : Int32 := (spX7_bit r7); (oh_up s6 0 5 r8)))) else (if y4 = (32800 : Int32) then (let s10 : oh_St := (spX5_writePair σ (r3 <<< (x2 &&& 31))); s10) else (if y4 = (32832 : Int32) then (let s12 : oh_St := (spX5_writePair σ ((r3 <<< (x2 &&& 31)) ||| ((r3.toUInt32 >>> (((32 : Int32) - x2).toUInt32 &&& Int32.toUInt32 31)).toInt32))); s12) else (if y4 = (33296 : Int32) then (let s14 : oh_St := (spX5_writePair σ (r3 >>> (x2 &&& 31))); (oh_up s14 0 5 (0 : Int32))) else (if y4 = (33312 : Int32) then (let s16 : oh_St := (spX5_writePair σ ((r3.toUInt32 >>> (x2.toUInt32 &&& Int32.toUInt32 31)).toInt32)); s16) else (if y4 = (33344 : Int32) then (let s18 : oh_St := (spX5_writePair σ (((r3.toUInt32 >>> (x2.toUInt32 &&& Int32.toUInt32 31)).toInt32) ||| (r3 <<< (((32 : Int32) - x2) &&& 31)))); s18) else σ)))))))))
set_option maxHeartbeats 8000000 in
set_option maxRecDepth 100000 in
theorem mtX5_longShift (l : Launch) (a : Nat → Nat) (k : Nat → ClassId) (D : va_G) (σ : oh_St) (p1 : Int32) : oh_Mv l yX5_longShift wsX5_longShift { frames := 2, cells := 0, slots := 0, locals := 43 } D (oh_ty k) (oh_W a k) [.ref (a 8), .int p1] σ (fun u => u = spX5_longShift σ p1) := by
  refine oh_inv (cc := cX5_longShift) (nL := 4) (rt := none) (by decide) rfl (Nat.le_of_ble_eq_true rfl) ?_
  intro p e s m below meth c A ls hC hP hD hS hl
  obtain ⟨hx, hb, hml, hown, hts, hr, hlocks, hK, hN, hA⟩ := id hC
  have hl : lv_has ls 4 [(0, .ref (a 8)), (1, .int p1)] := hl
  refine lv_iload_n hx hb dX5_longShift_0 rfl (lv_at hl 1 rfl) ?_
  refine lv_bipush (v := (15 : Int32)) hx hb dX5_longShift_1 (by decide) ?_
  refine lv_iand hx hb dX5_longShift_3 ?_
  have K19 : ∀ x2 : Int32, x2 = (if (p1 &&& (15 : Int32)) = (0 : Int32) then (16 : Int32) else (p1 &&& (15 : Int32))) → ∀ (ls : Array Slot) (H : Heap) (locs : List Loc), va_P D vwCl (oh_W a k σ) H → va_D A (oh_W a k σ) → va_S A s.heap H locs → lv_has ls 4 [(0, .ref (a 8)), (1, .int p1)] → W p l e ({ frames := 2, cells := 0, slots := 0, locals := 43 } : Room) s m (([.ref (a 8), .int p1] : List Value).toArray) below meth c H locs 0 0 (oh_Ev below (fun u => u = spX5_longShift σ p1) D (oh_W a k) A [.ref (a 8), .int p1] s) (F0 m 16 ls [.int x2]) := by
    intro x2 hx2 ls H locs hP hD hS hl
    refine lv_istore_n (lv' := [(2, .int x2), (0, .ref (a 8)), (1, .int p1)]) hx hb dX5_longShift_16 rfl hl (by decide) rfl (fun ls hl => ?_)
    refine lv_aload_n hx hb dX5_longShift_17 rfl (lv_at hl 1 rfl) ?_
    refine oh_cvp (As := []) (rest := []) hC hP hD hS (mtX5_readPair l a k D σ) (cwV 0 hts gX5_longShift_X5_readPair rfl rfl rfl (by decide +kernel) ⟨Nat.le_of_ble_eq_true rfl, Nat.le_of_ble_eq_true rfl⟩) 8 5 rfl rfl rfl hl.1 rfl (Nat.le_of_ble_eq_true rfl) dX5_longShift_18 (fun r3 H locs hr3 hP hD hS => ?_)
    refine lv_istore_n (lv' := [(3, .int r3), (2, .int x2), (0, .ref (a 8)), (1, .int p1)]) hx hb dX5_longShift_21 rfl hl (by decide) rfl (fun ls hl => ?_)
    refine lv_iload_n hx hb dX5_longShift_22 rfl (lv_at hl 3 rfl) ?_
    refine lv_ldc (v := (65520 : Int32)) hx hb hown (hts (.constant RX5 161 (65520)) (by decide +kernel)) dX5_longShift_23 ?_
    refine lv_iand hx hb dX5_longShift_25 ?_
    refine lv_topi (fun y4 hy4 => ?_)
    by_cases c5 : y4 = (32784 : Int32)
    · refine lv_lookup (tgt := 84) (off := 58) hx hb dX5_longShift_26 (by decide) (by rw [c5]; first | done | rfl) (by decide) ?_
      refine lv_aload_n hx hb dX5_longShift_84 rfl (lv_at hl 2 rfl) ?_
      refine lv_iload_n hx hb dX5_longShift_85 rfl (lv_at hl 0 rfl) ?_
      refine lv_ldc (v := (-2147483648 : Int32)) hx hb hown (hts (.constant RX5 162 (-2147483648)) (by decide +kernel)) dX5_longShift_86 ?_
      refine lv_iand hx hb dX5_longShift_88 ?_
      refine lv_iload_n hx hb dX5_longShift_89 rfl (lv_at hl 0 rfl) ?_
      refine lv_iload_n hx hb dX5_longShift_90 rfl (lv_at hl 1 rfl) ?_
      refine lv_ishl hx hb dX5_longShift_91 ?_
      refine lv_ldc (v := (2147483647 : Int32)) hx hb hown (hts (.constant RX5 163 (2147483647)) (by decide +kernel)) dX5_longShift_92 ?_
      refine lv_iand hx hb dX5_longShift_94 ?_
      refine lv_ior hx hb dX5_longShift_95 ?_
      refine oh_cvv (As := [.int ((r3 &&& (-2147483648 : Int32)) ||| ((r3 <<< (x2 &&& 31)) &&& (2147483647 : Int32)))]) (rest := []) hC hP hD hS (mtX5_writePair l a k D σ ((r3 &&& (-2147483648 : Int32)) ||| ((r3 <<< (x2 &&& 31)) &&& (2147483647 : Int32)))) (cwV 1 hts gX5_longShift_X5_writePair rfl rfl rfl (by decide +kernel) ⟨Nat.le_of_ble_eq_true rfl, Nat.le_of_ble_eq_true rfl⟩) 8 5 rfl rfl rfl hl.1 rfl (Nat.le_of_ble_eq_true rfl) dX5_longShift_96 (fun s6 H locs hs6 hP hD hS => ?_)
      refine lv_aload_n hx hb dX5_longShift_99 rfl (lv_at hl 2 rfl) ?_
      refine oh_get (v := .ref (a 3)) hC hP inX5_longShift_X5 8 rfl rfl 1 (by decide) (by decide +kernel) rfl dX5_longShift_100 ?_
      refine lv_iload_n hx hb dX5_longShift_103 rfl (lv_at hl 0 rfl) ?_
      refine lv_iload_n hx hb dX5_longShift_104 rfl (lv_at hl 1 rfl) ?_
      refine oh_csp (As := [.int r3, .int x2]) (rest := [.ref (a 3)]) hC hP hD hS (mtX5_losesUnlikeSign l a k D s6 r3 x2) (va_cwS 2 hts gX5_longShift_X5_losesUnlikeSign rfl rfl rfl (by decide +kernel) ⟨Nat.le_of_ble_eq_true rfl, Nat.le_of_ble_eq_true rfl⟩) rfl hl.1 rfl (Nat.le_of_ble_eq_true rfl) dX5_longShift_105 (fun r7 H locs hr7 hP hD hS => ?_)
      refine oh_csnp (As := [.int r7]) (rest := [.ref (a 3)]) hC hP hD hS (mtX7_bit l a k D s6 r7) ⟨va_cnB 1 hts gX5_longShift_X7_bit_n168 rfl rfl rfl (oh_nM hN (by decide +kernel)) (hts (.initialized RX7) (by decide +kernel)) (by decide +kernel) ⟨Nat.le_of_ble_eq_true rfl, Nat.le_of_ble_eq_true rfl⟩, hts (.static yX7_bit) (by decide +kernel), trivial⟩ rfl hl.1 rfl (Nat.le_of_ble_eq_true rfl) dX5_longShift_108 (fun r8 H locs hr8 hP hD hS => ?_)
      refine oh_putN (σ' := (oh_up s6 0 5 r8)) (v := .int r8) hC hP hD hS inX5_longShift_X6 tyX6 tyX6_ok nmX6 3 rfl rfl 2 (by decide) (by decide +kernel) rfl rfl rfl (by simp) rfl dX5_longShift_111 (fun H locs hP hD hS => ?_)
      refine lv_goto (tgt := 189) hx hb dX5_longShift_114 (by decide) ?_
      exact oh_retv (u := (oh_up s6 0 5 r8)) hC hP hD hS (by subst hr8 hr7 hs6 hy4 hr3 hx2; exact (if_pos c5).symm) dX5_longShift_189
    by_cases c9 : y4 = (32800 : Int32)
    · refine lv_lookup (tgt := 135) (off := 109) hx hb dX5_longShift_26 (by decide) (by rw [c9]; first | done | rfl) (by decide) ?_
      refine lv_aload_n hx hb dX5_longShift_135 rfl (lv_at hl 2 rfl) ?_
      refine lv_iload_n hx hb dX5_longShift_136 rfl (lv_at hl 0 rfl) ?_
      refine lv_iload_n hx hb dX5_longShift_137 rfl (lv_at hl 1 rfl) ?_
      refine lv_ishl hx hb dX5_longShift_138 ?_
      refine oh_cvv (As := [.int (r3 <<< (x2 &&& 31))]) (rest := []) hC hP hD hS (mtX5_writePair l a k D σ (r3 <<< (x2 &&& 31))) (cwV 1 hts gX5_longShift_X5_writePair rfl rfl rfl (by decide +kernel) ⟨Nat.le_of_ble_eq_true rfl, Nat.le_of_ble_eq_true rfl⟩) 8 5 rfl rfl rfl hl.1 rfl (Nat.le_of_ble_eq_true rfl) dX5_longShift_139 (fun s10 H locs hs10 hP hD hS => ?_)
      refine lv_goto (tgt := 189) hx hb dX5_longShift_142 (by decide) ?_
      exact oh_retv (u := s10) hC hP hD hS (by subst hs10 hy4 hr3 hx2; exact ((if_neg c5).trans (if_pos c9)).symm) dX5_longShift_189
    by_cases c11 : y4 = (32832 : Int32)
    · refine lv_lookup (tgt := 155) (off := 129) hx hb dX5_longShift_26 (by decide) (by rw [c11]; first | done | rfl) (by decide) ?_
      refine lv_aload_n hx hb dX5_longShift_155 rfl (lv_at hl 2 rfl) ?_
      refine lv_iload_n hx hb dX5_longShift_156 rfl (lv_at hl 0 rfl) ?_
      refine lv_iload_n hx hb dX5_longShift_157 rfl (lv_at hl 1 rfl) ?_
      refine lv_ishl hx hb dX5_longShift_158 ?_
      refine lv_iload_n hx hb dX5_longShift_159 rfl (lv_at hl 0 rfl) ?_
      refine lv_bipush (v := (32 : Int32)) hx hb dX5_longShift_160 (by decide) ?_
      refine lv_iload_n hx hb dX5_longShift_162 rfl (lv_at hl 1 rfl) ?_
      refine lv_isub hx hb dX5_longShift_163 ?_
      refine lv_iushr (v := (r3.toUInt32 >>> (((32 : Int32) - x2).toUInt32 &&& Int32.toUInt32 31)).toInt32) hx hb dX5_longShift_164 rfl ?_
      refine lv_ior hx hb dX5_longShift_165 ?_
      refine oh_cvv (As := [.int ((r3 <<< (x2 &&& 31)) ||| ((r3.toUInt32 >>> (((32 : Int32) - x2).toUInt32 &&& Int32.toUInt32 31)).toInt32))]) (rest := []) hC hP hD hS (mtX5_writePair l a k D σ ((r3 <<< (x2 &&& 31)) ||| ((r3.toUInt32 >>> (((32 : Int32) - x2).toUInt32 &&& Int32.toUInt32 31)).toInt32))) (cwV 1 hts gX5_longShift_X5_writePair rfl rfl rfl (by decide +kernel) ⟨Nat.le_of_ble_eq_true rfl, Nat.le_of_ble_eq_true rfl⟩) 8 5 rfl rfl rfl hl.1 rfl (Nat.le_of_ble_eq_true rfl) dX5_longShift_166 (fun s12 H locs hs12 hP hD hS => ?_)
      refine lv_goto (tgt := 189) hx hb dX5_longShift_169 (by decide) ?_
      exact oh_retv (u := s12) hC hP hD hS (by subst hs12 hy4 hr3 hx2; exact (((if_neg c5).trans (if_neg c9)).trans (if_pos c11)).symm) dX5_longShift_189
    by_cases c13 : y4 = (33296 : Int32)
    · refine lv_lookup (tgt := 117) (off := 91) hx hb dX5_longShift_26 (by decide) (by rw [c13]; first | done | rfl) (by decide) ?_
      refine lv_aload_n hx hb dX5_longShift_117 rfl (lv_at hl 2 rfl) ?_
      refine lv_iload_n hx hb dX5_longShift_118 rfl (lv_at hl 0 rfl) ?_
      refine lv_iload_n hx hb dX5_longShift_119 rfl (lv_at hl 1 rfl) ?_
      refine lv_ishr hx hb dX5_longShift_120 ?_
      refine oh_cvv (As := [.int (r3 >>> (x2 &&& 31))]) (rest := []) hC hP hD hS (mtX5_writePair l a k D σ (r3 >>> (x2 &&& 31))) (cwV 1 hts gX5_longShift_X5_writePair rfl rfl rfl (by decide +kernel) ⟨Nat.le_of_ble_eq_true rfl, Nat.le_of_ble_eq_true rfl⟩) 8 5 rfl rfl rfl hl.1 rfl (Nat.le_of_ble_eq_true rfl) dX5_longShift_121 (fun s14 H locs hs14 hP hD hS => ?_)
      refine lv_aload_n hx hb dX5_longShift_124 rfl (lv_at hl 2 rfl) ?_
      refine oh_get (v := .ref (a 3)) hC hP inX5_longShift_X5 8 rfl rfl 1 (by decide) (by decide +kernel) rfl dX5_longShift_125 ?_
      refine lv_iconst (v := (0 : Int32)) hx hb dX5_longShift_128 (by decide) ?_
      refine oh_putN (σ' := (oh_up s14 0 5 (0 : Int32))) (v := .int (0 : Int32)) hC hP hD hS inX5_longShift_X6 tyX6 tyX6_ok nmX6 3 rfl rfl 2 (by decide) (by decide +kernel) rfl rfl rfl (by simp) rfl dX5_longShift_129 (fun H locs hP hD hS => ?_)
      refine lv_goto (tgt := 189) hx hb dX5_longShift_132 (by decide) ?_
      exact oh_retv (u := (oh_up s14 0 5 (0 : Int32))) hC hP hD hS (by subst hs14 hy4 hr3 hx2; exact ((((if_neg c5).trans (if_neg c9)).trans (if_neg c11)).trans (if_pos c13)).symm) dX5_longShift_189
    by_cases c15 : y4 = (33312 : Int32)
    · refine lv_lookup (tgt := 145) (off := 119) hx hb dX5_longShift_26 (by decide) (by rw [c15]; first | done | rfl) (by decide) ?_
      refine lv_aload_n hx hb dX5_longShift_145 rfl (lv_at hl 2 rfl) ?_
      refine lv_iload_n hx hb dX5_longShift_146 rfl (lv_at hl 0 rfl) ?_
      refine lv_iload_n hx hb dX5_longShift_147 rfl (lv_at hl 1 rfl) ?_
      refine lv_iushr (v := (r3.toUInt32 >>> (x2.toUInt32 &&& Int32.toUInt32 31)).toInt32) hx hb dX5_longShift_148 rfl ?_
      refine oh_cvv (As := [.int ((r3.toUInt32 >>> (x2.toUInt32 &&& Int32.toUInt32 31)).toInt32)]) (rest := []) hC hP hD hS (mtX5_writePair l a k D σ ((r3.toUInt32 >>> (x2.toUInt32 &&& Int32.toUInt32 31)).toInt32)) (cwV 1 hts gX5_longShift_X5_writePair rfl rfl rfl (by decide +kernel) ⟨Nat.le_of_ble_eq_true rfl, Nat.le_of_ble_eq_true rfl⟩) 8 5 rfl rfl rfl hl.1 rfl (Nat.le_of_ble_eq_true rfl) dX5_longShift_149 (fun s16 H locs hs16 hP hD hS => ?_)
      refine lv_goto (tgt := 189) hx hb dX5_longShift_152 (by decide) ?_
      exact oh_retv (u := s16) hC hP hD hS (by subst hs16 hy4 hr3 hx2; exact (((((if_neg c5).trans (if_neg c9)).trans (if_neg c11)).trans (if_neg c13)).trans (if_pos c15)).symm) dX5_longShift_189
    by_cases c17 : y4 = (33344 : Int32)
    · refine lv_lookup (tgt := 172) (off := 146) hx hb dX5_longShift_26 (by decide) (by rw [c17]; first | done | rfl) (by decide) ?_
      refine lv_aload_n hx hb dX5_longShift_172 rfl (lv_at hl 2 rfl) ?_
      refine lv_iload_n hx hb dX5_longShift_173 rfl (lv_at hl 0 rfl) ?_
      refine lv_iload_n hx hb dX5_longShift_174 rfl (lv_at hl 1 rfl) ?_
      refine lv_iushr (v := (r3.toUInt32 >>> (x2.toUInt32 &&& Int32.toUInt32 31)).toInt32) hx hb dX5_longShift_175 rfl ?_
      refine lv_iload_n hx hb dX5_longShift_176 rfl (lv_at hl 0 rfl) ?_
      refine lv_bipush (v := (32 : Int32)) hx hb dX5_longShift_177 (by decide) ?_
      refine lv_iload_n hx hb dX5_longShift_179 rfl (lv_at hl 1 rfl) ?_
      refine lv_isub hx hb dX5_longShift_180 ?_
      refine lv_ishl hx hb dX5_longShift_181 ?_
      refine lv_ior hx hb dX5_longShift_182 ?_
      refine oh_cvv (As := [.int (((r3.toUInt32 >>> (x2.toUInt32 &&& Int32.toUInt32 31)).toInt32) ||| (r3 <<< (((32 : Int32) - x2) &&& 31)))]) (rest := []) hC hP hD hS (mtX5_writePair l a k D σ (((r3.toUInt32 >>> (x2.toUInt32 &&& Int32.toUInt32 31)).toInt32) ||| (r3 <<< (((32 : Int32) - x2) &&& 31)))) (cwV 1 hts gX5_longShift_X5_writePair rfl rfl rfl (by decide +kernel) ⟨Nat.le_of_ble_eq_true rfl, Nat.le_of_ble_eq_true rfl⟩) 8 5 rfl rfl rfl hl.1 rfl (Nat.le_of_ble_eq_true rfl) dX5_longShift_183 (fun s18 H locs hs18 hP hD hS => ?_)
      refine lv_goto (tgt := 189) hx hb dX5_longShift_186 (by decide) ?_
      exact oh_retv (u := s18) hC hP hD hS (by subst hs18 hy4 hr3 hx2; exact ((((((if_neg c5).trans (if_neg c9)).trans (if_neg c11)).trans (if_neg c13)).trans (if_neg c15)).trans (if_pos c17)).symm) dX5_longShift_189
    refine lv_lookup (tgt := 189) (off := 163) hx hb dX5_longShift_26 (by decide) ((lv_osw (a := 32784) c5 rfl).trans ((lv_osw (a := 32800) c9 rfl).trans ((lv_osw (a := 32832) c11 rfl).trans ((lv_osw (a := 33296) c13 rfl).trans ((lv_osw (a := 33312) c15 rfl).trans ((lv_osw (a := 33344) c17 rfl).trans rfl)))))) (by decide) ?_
    exact oh_retv (u := σ) hC hP hD hS (by subst hy4 hr3 hx2; exact ((((((if_neg c5).trans (if_neg c9)).trans (if_neg c11)).trans (if_neg c13)).trans (if_neg c15)).trans (if_neg c17)).symm) dX5_longShift_189
  refine lv_if_ne (tgt := 12) hx hb dX5_longShift_4 (by decide) (fun c1 => ?_) (fun c1 => ?_)
  · refine lv_iload_n hx hb dX5_longShift_12 rfl (lv_at hl 1 rfl) ?_
    refine lv_bipush (v := (15 : Int32)) hx hb dX5_longShift_13 (by decide) ?_
    refine lv_iand hx hb dX5_longShift_15 ?_
    exact K19 _ (if_neg c1).symm ls _ _ hP hD hS (lv_sub hl [0, 1] rfl)
  · refine lv_bipush (v := (16 : Int32)) hx hb dX5_longShift_7 (by decide) ?_
    refine lv_goto (tgt := 16) hx hb dX5_longShift_9 (by decide) ?_
    exact K19 _ (if_pos c1).symm ls _ _ hP hD hS (lv_sub hl [0, 1] rfl)
