-- OctalHouseModel.altered
theorem inX8_altered_X8 : ∀ w ∈ u_ws RX8 TX8 35, w ∈ wsX8_altered := by decide +kernel
def spX8_altered_k104 (x77 : Int32) (s78 : oh_St) (x102 : Int32) : Int32 × oh_St := (let s103 : oh_St := (spX8_skip s78 x102); (x77, s103))
def spX8_altered_k105 (p1 : Int32) (x77 : Int32) (s78 : oh_St) (x83 : Int32) (x88 : Int32) (x97 : Int32) : Int32 × oh_St := (let r98 : Int32 := (spX8_is p1 (0 : Int32)); (let x102 : Int32 := (if r98 = (0 : Int32) then x83 else (if x97 = (0 : Int32) then (if x88 = (0 : Int32) then (0 : Int32) else (1 : Int32)) else (1 : Int32))); (spX8_altered_k104 x77 s78 x102)))
def spX8_altered_k106 (p1 : Int32) (x77 : Int32) (s78 : oh_St) (x83 : Int32) (x88 : Int32) : Int32 × oh_St := (let r89 : Int32 := (spX8_is p1 (5 : Int32)); (let x97 : Int32 := (if r89 = (0 : Int32) then (let r91 : Int32 := (spX8_is p1 (4 : Int32)); (if r91 = (0 : Int32) then (let r93 : Int32 := (spX8_is p1 (3 : Int32)); (if r93 = (0 : Int32) then (let r95 : Int32 := (spX8_is p1 (1 : Int32)); (if r95 = (0 : Int32) then (1 : Int32) else (0 : Int32))) else (0 : Int32))) else (0 : Int32))) else (0 : Int32)); (spX8_altered_k105 p1 x77 s78 x83 x88 x97)))
def spX8_altered_k107 (p1 : Int32) (x68 : Int32) (x77 : Int32) (s78 : oh_St) (x83 : Int32) : Int32 × oh_St := (let x88 : Int32 := (if x68 = (0 : Int32) then (let r85 : Int32 := (spX8_is p1 (1 : Int32)); (if r85 = (0 : Int32) then (0 : Int32) else (if x77 = (0 : Int32) then (0 : Int32) else (1 : Int32)))) else (1 : Int32)); (spX8_altered_k106 p1 x77 s78 x83 x88))
def spX8_altered_k108 (p1 : Int32) (x34 : Int32) (x68 : Int32) (x77 : Int32) (s78 : oh_St) : Int32 × oh_St := (let x83 : Int32 := (if x34 = (0 : Int32) then (let r80 : Int32 := (spX8_is p1 (1 : Int32)); (if r80 = (0 : Int32) then (0 : Int32) else (if x77 = (0 : Int32) then (1 : Int32) else (0 : Int32)))) else (1 : Int32)); (spX8_altered_k107 p1 x68 x77 s78 x83))
def spX8_altered_k109 (p1 : Int32) (x5 : Int32) (s19 : oh_St) (x34 : Int32) (x68 : Int32) : Int32 × oh_St := (let r69 : Int32 := (spX8_is p1 (2 : Int32)); (let x77 : Int32 := (if r69 = (0 : Int32) then x5 else (let s72 : oh_St := (if x5 = (65535 : Int32) then (oh_up s19 0 4 (1 : Int32)) else s19); (let s74 : oh_St := (if x5 = (32767 : Int32) then (oh_up s72 0 5 (1 : Int32)) else s72); ((x5 + (1 : Int32)) &&& (65535 : Int32))))); (let s78 : oh_St := (if r69 = (0 : Int32) then s19 else (let s72 : oh_St := (if x5 = (65535 : Int32) then (oh_up s19 0 4 (1 : Int32)) else s19); (let s74 : oh_St := (if x5 = (32767 : Int32) then (oh_up s72 0 5 (1 : Int32)) else s72); s74))); (spX8_altered_k108 p1 x34 x68 x77 s78))))
def spX8_altered_k110 (p1 : Int32) (x5 : Int32) (x13 : Int32) (s19 : oh_St) (x21 : Int32) (x23 : Int32) (x34 : Int32) : Int32 × oh_St := (let r35 : Int32 := (spX8_is p1 (4 : Int32)); (let x68 : Int32 := (if r35 = (0 : Int32) then (let x47 : Int32 := (if x13 = (0 : Int32) then (let r38 : Int32 := (spX8_is p1 (4 : Int32)); (if r38 = (0 : Int32) then (let r40 : Int32 := (spX8_is p1 (3 : Int32)); (if r40 = (0 : Int32) then (0 : Int32) else (if x23 = (0 : Int32) then (0 : Int32) else (1 : Int32)))) else (if x21 = (0 : Int32) then (let r44 : Int32 := (spX8_is p1 (3 : Int32)); (if r44 = (0 : Int32) then (0 : Int32) else (if x23 = (0 : Int32) then (0 : Int32) else (1 : Int32)))) else (1 : Int32)))) else (1 : Int32)); x47) else (let r49 : Int32 := (spX8_is p1 (3 : Int32)); (if r49 = (0 : Int32) then (let x61 : Int32 := (if x13 = (0 : Int32) then (let r52 : Int32 := (spX8_is p1 (4 : Int32)); (if r52 = (0 : Int32) then (let r54 : Int32 := (spX8_is p1 (3 : Int32)); (if r54 = (0 : Int32) then (0 : Int32) else (if x23 = (0 : Int32) then (0 : Int32) else (1 : Int32)))) else (if x21 = (0 : Int32) then (let r58 : Int32 := (spX8_is p1 (3 : Int32)); (if r58 = (0 : Int32) then (0 : Int32) else (if x23 = (0 : Int32) then (0 : Int32) else (1 : Int32)))) else (1 : Int32)))) else (1 : Int32)); x61) else (let x66 : Int32 := (if x13 = (0 : Int32) then (if x21 = (0 : Int32) then (0 : Int32) else (if x23 = (0 : Int32) then (0 : Int32) else (1 : Int32))) else (1 : Int32)); x66)))); (spX8_altered_k109 p1 x5 s19 x34 x68)))
def spX8_altered_k111 (p1 : Int32) (x5 : Int32) (x9 : Int32) (x13 : Int32) (s19 : oh_St) (x21 : Int32) (x23 : Int32) : Int32 × oh_St := (let x34 : Int32 := (if x9 = (0 : Int32) then (let r25 : Int32 := (spX8_is p1 (4 : Int32)); (if r25 = (0 : Int32) then (let r27 : Int32 := (spX8_is p1 (3 : Int32)); (if r27 = (0 : Int32) then (0 : Int32) else (if x23 = (0 : Int32) then (1 : Int32) else (0 : Int32)))) else (if x21 = (0 : Int32) then (1 : Int32) else (let r31 : Int32 := (spX8_is p1 (3 : Int32)); (if r31 = (0 : Int32) then (0 : Int32) else (if x23 = (0 : Int32) then (1 : Int32) else (0 : Int32))))))) else (1 : Int32)); (spX8_altered_k110 p1 x5 x13 s19 x21 x23 x34))
def spX8_altered_k112 (p1 : Int32) (x5 : Int32) (x9 : Int32) (x13 : Int32) (s19 : oh_St) (x21 : Int32) : Int32 × oh_St := (let x23 : Int32 := (if (x5 &&& (1 : Int32)) = (1 : Int32) then (1 : Int32) else (0 : Int32)); (spX8_altered_k111 p1 x5 x9 x13 s19 x21 x23))
def spX8_altered_k113 (p1 : Int32) (x5 : Int32) (x9 : Int32) (x13 : Int32) (s19 : oh_St) : Int32 × oh_St := (let x21 : Int32 := (if (x5 >>> ((15 : Int32) &&& 31)) = (1 : Int32) then (1 : Int32) else (0 : Int32)); (spX8_altered_k112 p1 x5 x9 x13 s19 x21))
def spX8_altered_k114 (p1 : Int32) (x5 : Int32) (x9 : Int32) (x13 : Int32) (s17 : oh_St) : Int32 × oh_St := (let s19 : oh_St := (if ((p1 >>> ((6 : Int32) &&& 31)) &&& (3 : Int32)) = (3 : Int32) then (oh_up s17 0 4 (1 : Int32)) else s17); (spX8_altered_k113 p1 x5 x9 x13 s19))
def spX8_altered_k115 (p1 : Int32) (x5 : Int32) (x9 : Int32) (x13 : Int32) (s15 : oh_St) : Int32 × oh_St := (let s17 : oh_St := (if ((p1 >>> ((6 : Int32) &&& 31)) &&& (3 : Int32)) = (2 : Int32) then (oh_up s15 0 4 ((1 : Int32) - (s15 0 4))) else s15); (spX8_altered_k114 p1 x5 x9 x13 s17))
def spX8_altered_k116 (σ : oh_St) (p1 : Int32) (x5 : Int32) (x9 : Int32) (x13 : Int32) : Int32 × oh_St := (let s15 : oh_St := (if ((p1 >>> ((6 : Int32) &&& 31)) &&& (3 : Int32)) = (1 : Int32) then (oh_up σ 0 4 (0 : Int32)) else σ); (spX8_altered_k115 p1 x5 x9 x13 s15))
def spX8_altered_k117 (σ : oh_St) (p1 : Int32) (x5 : Int32) (x9 : Int32) : Int32 × oh_St := (let r10 : Int32 := (spX8_is p1 (5 : Int32)); (let x13 : Int32 := (if r10 = (0 : Int32) then (0 : Int32) else (if (σ 0 4) = (1 : Int32) then (1 : Int32) else (0 : Int32))); (spX8_altered_k116 σ p1 x5 x9 x13)))
def spX8_altered_k118 (σ : oh_St) (p1 : Int32) (x5 : Int32) : Int32 × oh_St := (let r6 : Int32 := (spX8_is p1 (5 : Int32)); (let x9 : Int32 := (if r6 = (0 : Int32) then (0 : Int32) else (if (σ 0 4) = (0 : Int32) then (1 : Int32) else (0 : Int32))); (spX8_altered_k117 σ p1 x5 x9)))
def spX8_altered_k119 (σ : oh_St) (p1 : Int32) (x3 : Int32) : Int32 × oh_St := (let x5 : Int32 := (if ((p1 >>> ((8 : Int32) &&& 31)) &&& (3 : Int32)) ≤ (1 : Int32) then x3 else ((x3 ^^^ (-1 : Int32)) &&& (65535 : Int32))); (spX8_altered_k118 σ p1 x5))
def spX8_altered (σ : oh_St) (p1 : Int32) (p2 : Int32) : Int32 × oh_St := (let x3 : Int32 := (if ((p1 >>> ((8 : Int32) &&& 31)) &&& (3 : Int32)) = (1 : Int32) then (0 : Int32) else (if ((p1 >>> ((8 : Int32) &&& 31)) &&& (3 : Int32)) = (3 : Int32) then (0 : Int32) else p2)); (spX8_altered_k119 σ p1 x3))
set_option maxHeartbeats 8000000 in
set_option maxRecDepth 100000 in
theorem mtX8_altered (l : Launch) (a : Nat → Nat) (k : Nat → ClassId) (D : va_G) (σ : oh_St) (p1 : Int32) (p2 : Int32) : oh_Mi l yX8_altered wsX8_altered { frames := 2, cells := 0, slots := 0, locals := 41 } D (oh_ty k) (oh_V a k) [.ref (a 0), .int p1, .int p2] σ (fun r u => r = (spX8_altered σ p1 p2).1 ∧ u = (spX8_altered σ p1 p2).2) := by
  refine oh_ini (cc := cX8_altered) (nL := 11) (rt := some .int) (by decide) rfl (Nat.le_of_ble_eq_true rfl) ?_
  intro p e s m below meth c A ls hC hP hD hS hl
  obtain ⟨hx, hb, hml, hown, hts, hr, hlocks, hK, hN, hA⟩ := id hC
  have hl : lv_has ls 11 [(0, .ref (a 0)), (1, .int p1), (2, .int p2)] := hl
  refine lv_iload_n hx hb dX8_altered_0 rfl (lv_at hl 2 rfl) ?_
  refine lv_istore_n (lv' := [(3, .int p2), (0, .ref (a 0)), (1, .int p1), (2, .int p2)]) hx hb dX8_altered_1 rfl hl (by decide) rfl (fun ls hl => ?_)
  refine lv_iload_n hx hb dX8_altered_2 rfl (lv_at hl 2 rfl) ?_
  refine lv_bipush (v := (8 : Int32)) hx hb dX8_altered_3 (by decide) ?_
  refine lv_ishr hx hb dX8_altered_5 ?_
  refine lv_iconst (v := (3 : Int32)) hx hb dX8_altered_6 (by decide) ?_
  refine lv_iand hx hb dX8_altered_7 ?_
  refine lv_istore (lv' := [(4, .int ((p1 >>> ((8 : Int32) &&& 31)) &&& (3 : Int32))), (3, .int p2), (0, .ref (a 0)), (1, .int p1), (2, .int p2)]) hx hb dX8_altered_8 hl (by decide) rfl (fun ls hl => ?_)
  refine lv_iload hx hb dX8_altered_10 (lv_at hl 0 rfl) ?_
  refine lv_iconst (v := (1 : Int32)) hx hb dX8_altered_12 (by decide) ?_
  have K119 : ∀ x3 : Int32, x3 = (if ((p1 >>> ((8 : Int32) &&& 31)) &&& (3 : Int32)) = (1 : Int32) then (0 : Int32) else (if ((p1 >>> ((8 : Int32) &&& 31)) &&& (3 : Int32)) = (3 : Int32) then (0 : Int32) else p2)) → ∀ (ls : Array Slot) (H : Heap) (locs : List Loc), va_P D vwCl (oh_V a k σ) H → va_D A (oh_V a k σ) → va_S A s.heap H locs → lv_has ls 11 [(3, .int x3), (4, .int ((p1 >>> ((8 : Int32) &&& 31)) &&& (3 : Int32))), (0, .ref (a 0)), (1, .int p1), (2, .int p2)] → W p l e ({ frames := 2, cells := 0, slots := 0, locals := 41 } : Room) s m (([.ref (a 0), .int p1, .int p2] : List Value).toArray) below meth c H locs 0 0 (oh_Ei below (fun r u => r = (spX8_altered σ p1 p2).1 ∧ u = (spX8_altered σ p1 p2).2) D (oh_V a k) A [.ref (a 0), .int p1, .int p2] s) (F0 m 24 ls []) := by
    intro x3 hx3 ls H locs hP hD hS hl
    have hK119 : spX8_altered_k119 σ p1 x3 = spX8_altered σ p1 p2 := by
      subst hx3
      exact rfl
    refine lv_iload hx hb dX8_altered_24 (lv_at hl 1 rfl) ?_
    refine lv_iconst (v := (1 : Int32)) hx hb dX8_altered_26 (by decide) ?_
    have K118 : ∀ x5 : Int32, x5 = (if ((p1 >>> ((8 : Int32) &&& 31)) &&& (3 : Int32)) ≤ (1 : Int32) then x3 else ((x3 ^^^ (-1 : Int32)) &&& (65535 : Int32))) → ∀ (ls : Array Slot) (H : Heap) (locs : List Loc), va_P D vwCl (oh_V a k σ) H → va_D A (oh_V a k σ) → va_S A s.heap H locs → lv_has ls 11 [(3, .int x5), (4, .int ((p1 >>> ((8 : Int32) &&& 31)) &&& (3 : Int32))), (0, .ref (a 0)), (1, .int p1), (2, .int p2)] → W p l e ({ frames := 2, cells := 0, slots := 0, locals := 41 } : Room) s m (([.ref (a 0), .int p1, .int p2] : List Value).toArray) below meth c H locs 0 0 (oh_Ei below (fun r u => r = (spX8_altered σ p1 p2).1 ∧ u = (spX8_altered σ p1 p2).2) D (oh_V a k) A [.ref (a 0), .int p1, .int p2] s) (F0 m 37 ls []) := by
      intro x5 hx5 ls H locs hP hD hS hl
      have hK118 : spX8_altered_k118 σ p1 x5 = spX8_altered σ p1 p2 := by
        subst hx5
        exact hK119
      refine lv_iload_n hx hb dX8_altered_37 rfl (lv_at hl 3 rfl) ?_
      refine lv_iconst (v := (5 : Int32)) hx hb dX8_altered_38 (by decide) ?_
      refine oh_csp (As := [.int p1, .int (5 : Int32)]) (rest := []) hC hP hD hS (mtX8_is l a k D σ p1 (5 : Int32)) (va_cwS 2 hts gX8_altered_X8_is rfl rfl rfl (by decide +kernel) ⟨Nat.le_of_ble_eq_true rfl, Nat.le_of_ble_eq_true rfl⟩) rfl hl.1 rfl (Nat.le_of_ble_eq_true rfl) dX8_altered_39 (fun r6 H locs hr6 hP hD hS => ?_)
      have K117 : ∀ x9 : Int32, x9 = (if r6 = (0 : Int32) then (0 : Int32) else (if (σ 0 4) = (0 : Int32) then (1 : Int32) else (0 : Int32))) → ∀ (ls : Array Slot) (H : Heap) (locs : List Loc), va_P D vwCl (oh_V a k σ) H → va_D A (oh_V a k σ) → va_S A s.heap H locs → lv_has ls 11 [(3, .int x5), (4, .int ((p1 >>> ((8 : Int32) &&& 31)) &&& (3 : Int32))), (0, .ref (a 0)), (1, .int p1), (2, .int p2)] → W p l e ({ frames := 2, cells := 0, slots := 0, locals := 41 } : Room) s m (([.ref (a 0), .int p1, .int p2] : List Value).toArray) below meth c H locs 0 0 (oh_Ei below (fun r u => r = (spX8_altered σ p1 p2).1 ∧ u = (spX8_altered σ p1 p2).2) D (oh_V a k) A [.ref (a 0), .int p1, .int p2] s) (F0 m 57 ls [.int x9]) := by
        intro x9 hx9 ls H locs hP hD hS hl
        have hK117 : spX8_altered_k117 σ p1 x5 x9 = spX8_altered σ p1 p2 := by
          subst hx9 hr6
          exact hK118
        refine lv_istore (lv' := [(5, .int x9), (3, .int x5), (4, .int ((p1 >>> ((8 : Int32) &&& 31)) &&& (3 : Int32))), (0, .ref (a 0)), (1, .int p1), (2, .int p2)]) hx hb dX8_altered_57 hl (by decide) rfl (fun ls hl => ?_)
        refine lv_iload_n hx hb dX8_altered_59 rfl (lv_at hl 4 rfl) ?_
        refine lv_iconst (v := (5 : Int32)) hx hb dX8_altered_60 (by decide) ?_
        refine oh_csp (As := [.int p1, .int (5 : Int32)]) (rest := []) hC hP hD hS (mtX8_is l a k D σ p1 (5 : Int32)) (va_cwS 2 hts gX8_altered_X8_is rfl rfl rfl (by decide +kernel) ⟨Nat.le_of_ble_eq_true rfl, Nat.le_of_ble_eq_true rfl⟩) rfl hl.1 rfl (Nat.le_of_ble_eq_true rfl) dX8_altered_61 (fun r10 H locs hr10 hP hD hS => ?_)
        have K116 : ∀ x13 : Int32, x13 = (if r10 = (0 : Int32) then (0 : Int32) else (if (σ 0 4) = (1 : Int32) then (1 : Int32) else (0 : Int32))) → ∀ (ls : Array Slot) (H : Heap) (locs : List Loc), va_P D vwCl (oh_V a k σ) H → va_D A (oh_V a k σ) → va_S A s.heap H locs → lv_has ls 11 [(5, .int x9), (3, .int x5), (4, .int ((p1 >>> ((8 : Int32) &&& 31)) &&& (3 : Int32))), (0, .ref (a 0)), (1, .int p1), (2, .int p2)] → W p l e ({ frames := 2, cells := 0, slots := 0, locals := 41 } : Room) s m (([.ref (a 0), .int p1, .int p2] : List Value).toArray) below meth c H locs 0 0 (oh_Ei below (fun r u => r = (spX8_altered σ p1 p2).1 ∧ u = (spX8_altered σ p1 p2).2) D (oh_V a k) A [.ref (a 0), .int p1, .int p2] s) (F0 m 80 ls [.int x13]) := by
          intro x13 hx13 ls H locs hP hD hS hl
          have hK116 : spX8_altered_k116 σ p1 x5 x9 x13 = spX8_altered σ p1 p2 := by
            subst hx13 hr10
            exact hK117
          refine lv_istore (lv' := [(6, .int x13), (5, .int x9), (3, .int x5), (4, .int ((p1 >>> ((8 : Int32) &&& 31)) &&& (3 : Int32))), (0, .ref (a 0)), (1, .int p1), (2, .int p2)]) hx hb dX8_altered_80 hl (by decide) rfl (fun ls hl => ?_)
          refine lv_iload_n hx hb dX8_altered_82 rfl (lv_at hl 5 rfl) ?_
          refine lv_bipush (v := (6 : Int32)) hx hb dX8_altered_83 (by decide) ?_
          refine lv_ishr hx hb dX8_altered_85 ?_
          refine lv_iconst (v := (3 : Int32)) hx hb dX8_altered_86 (by decide) ?_
          refine lv_iand hx hb dX8_altered_87 ?_
          refine lv_istore (lv' := [(7, .int ((p1 >>> ((6 : Int32) &&& 31)) &&& (3 : Int32))), (6, .int x13), (5, .int x9), (3, .int x5), (4, .int ((p1 >>> ((8 : Int32) &&& 31)) &&& (3 : Int32))), (0, .ref (a 0)), (1, .int p1), (2, .int p2)]) hx hb dX8_altered_88 hl (by decide) rfl (fun ls hl => ?_)
          refine lv_iload hx hb dX8_altered_90 (lv_at hl 0 rfl) ?_
          refine lv_iconst (v := (1 : Int32)) hx hb dX8_altered_92 (by decide) ?_
          have K115 : ∀ s15 : oh_St, s15 = (if ((p1 >>> ((6 : Int32) &&& 31)) &&& (3 : Int32)) = (1 : Int32) then (oh_up σ 0 4 (0 : Int32)) else σ) → ∀ (ls : Array Slot) (H : Heap) (locs : List Loc), va_P D vwCl (oh_V a k s15) H → va_D A (oh_V a k s15) → va_S A s.heap H locs → lv_has ls 11 [(7, .int ((p1 >>> ((6 : Int32) &&& 31)) &&& (3 : Int32))), (6, .int x13), (5, .int x9), (3, .int x5), (4, .int ((p1 >>> ((8 : Int32) &&& 31)) &&& (3 : Int32))), (0, .ref (a 0)), (1, .int p1), (2, .int p2)] → W p l e ({ frames := 2, cells := 0, slots := 0, locals := 41 } : Room) s m (([.ref (a 0), .int p1, .int p2] : List Value).toArray) below meth c H locs 0 0 (oh_Ei below (fun r u => r = (spX8_altered σ p1 p2).1 ∧ u = (spX8_altered σ p1 p2).2) D (oh_V a k) A [.ref (a 0), .int p1, .int p2] s) (F0 m 101 ls []) := by
            intro s15 hs15 ls H locs hP hD hS hl
            have hK115 : spX8_altered_k115 p1 x5 x9 x13 s15 = spX8_altered σ p1 p2 := by
              subst hs15
              exact hK116
            refine lv_iload hx hb dX8_altered_101 (lv_at hl 0 rfl) ?_
            refine lv_iconst (v := (2 : Int32)) hx hb dX8_altered_103 (by decide) ?_
            have K114 : ∀ s17 : oh_St, s17 = (if ((p1 >>> ((6 : Int32) &&& 31)) &&& (3 : Int32)) = (2 : Int32) then (oh_up s15 0 4 ((1 : Int32) - (s15 0 4))) else s15) → ∀ (ls : Array Slot) (H : Heap) (locs : List Loc), va_P D vwCl (oh_V a k s17) H → va_D A (oh_V a k s17) → va_S A s.heap H locs → lv_has ls 11 [(7, .int ((p1 >>> ((6 : Int32) &&& 31)) &&& (3 : Int32))), (6, .int x13), (5, .int x9), (3, .int x5), (4, .int ((p1 >>> ((8 : Int32) &&& 31)) &&& (3 : Int32))), (0, .ref (a 0)), (1, .int p1), (2, .int p2)] → W p l e ({ frames := 2, cells := 0, slots := 0, locals := 41 } : Room) s m (([.ref (a 0), .int p1, .int p2] : List Value).toArray) below meth c H locs 0 0 (oh_Ei below (fun r u => r = (spX8_altered σ p1 p2).1 ∧ u = (spX8_altered σ p1 p2).2) D (oh_V a k) A [.ref (a 0), .int p1, .int p2] s) (F0 m 117 ls []) := by
              intro s17 hs17 ls H locs hP hD hS hl
              have hK114 : spX8_altered_k114 p1 x5 x9 x13 s17 = spX8_altered σ p1 p2 := by
                subst hs17
                exact hK115
              refine lv_iload hx hb dX8_altered_117 (lv_at hl 0 rfl) ?_
              refine lv_iconst (v := (3 : Int32)) hx hb dX8_altered_119 (by decide) ?_
              have K113 : ∀ s19 : oh_St, s19 = (if ((p1 >>> ((6 : Int32) &&& 31)) &&& (3 : Int32)) = (3 : Int32) then (oh_up s17 0 4 (1 : Int32)) else s17) → ∀ (ls : Array Slot) (H : Heap) (locs : List Loc), va_P D vwCl (oh_V a k s19) H → va_D A (oh_V a k s19) → va_S A s.heap H locs → lv_has ls 11 [(7, .int ((p1 >>> ((6 : Int32) &&& 31)) &&& (3 : Int32))), (6, .int x13), (5, .int x9), (3, .int x5), (4, .int ((p1 >>> ((8 : Int32) &&& 31)) &&& (3 : Int32))), (0, .ref (a 0)), (1, .int p1), (2, .int p2)] → W p l e ({ frames := 2, cells := 0, slots := 0, locals := 41 } : Room) s m (([.ref (a 0), .int p1, .int p2] : List Value).toArray) below meth c H locs 0 0 (oh_Ei below (fun r u => r = (spX8_altered σ p1 p2).1 ∧ u = (spX8_altered σ p1 p2).2) D (oh_V a k) A [.ref (a 0), .int p1, .int p2] s) (F0 m 128 ls []) := by
                intro s19 hs19 ls H locs hP hD hS hl
                have hK113 : spX8_altered_k113 p1 x5 x9 x13 s19 = spX8_altered σ p1 p2 := by
                  subst hs19
                  exact hK114
                refine lv_iload_n hx hb dX8_altered_128 rfl (lv_at hl 3 rfl) ?_
                refine lv_bipush (v := (15 : Int32)) hx hb dX8_altered_129 (by decide) ?_
                refine lv_ishr hx hb dX8_altered_131 ?_
                refine lv_iconst (v := (1 : Int32)) hx hb dX8_altered_132 (by decide) ?_
                have K112 : ∀ x21 : Int32, x21 = (if (x5 >>> ((15 : Int32) &&& 31)) = (1 : Int32) then (1 : Int32) else (0 : Int32)) → ∀ (ls : Array Slot) (H : Heap) (locs : List Loc), va_P D vwCl (oh_V a k s19) H → va_D A (oh_V a k s19) → va_S A s.heap H locs → lv_has ls 11 [(7, .int ((p1 >>> ((6 : Int32) &&& 31)) &&& (3 : Int32))), (6, .int x13), (5, .int x9), (3, .int x5), (4, .int ((p1 >>> ((8 : Int32) &&& 31)) &&& (3 : Int32))), (0, .ref (a 0)), (1, .int p1), (2, .int p2)] → W p l e ({ frames := 2, cells := 0, slots := 0, locals := 41 } : Room) s m (([.ref (a 0), .int p1, .int p2] : List Value).toArray) below meth c H locs 0 0 (oh_Ei below (fun r u => r = (spX8_altered σ p1 p2).1 ∧ u = (spX8_altered σ p1 p2).2) D (oh_V a k) A [.ref (a 0), .int p1, .int p2] s) (F0 m 141 ls [.int x21]) := by
                  intro x21 hx21 ls H locs hP hD hS hl
                  have hK112 : spX8_altered_k112 p1 x5 x9 x13 s19 x21 = spX8_altered σ p1 p2 := by
                    subst hx21
                    exact hK113
                  refine lv_istore (lv' := [(8, .int x21), (7, .int ((p1 >>> ((6 : Int32) &&& 31)) &&& (3 : Int32))), (6, .int x13), (5, .int x9), (3, .int x5), (4, .int ((p1 >>> ((8 : Int32) &&& 31)) &&& (3 : Int32))), (0, .ref (a 0)), (1, .int p1), (2, .int p2)]) hx hb dX8_altered_141 hl (by decide) rfl (fun ls hl => ?_)
                  refine lv_iload_n hx hb dX8_altered_143 rfl (lv_at hl 4 rfl) ?_
                  refine lv_iconst (v := (1 : Int32)) hx hb dX8_altered_144 (by decide) ?_
                  refine lv_iand hx hb dX8_altered_145 ?_
                  refine lv_iconst (v := (1 : Int32)) hx hb dX8_altered_146 (by decide) ?_
                  have K111 : ∀ x23 : Int32, x23 = (if (x5 &&& (1 : Int32)) = (1 : Int32) then (1 : Int32) else (0 : Int32)) → ∀ (ls : Array Slot) (H : Heap) (locs : List Loc), va_P D vwCl (oh_V a k s19) H → va_D A (oh_V a k s19) → va_S A s.heap H locs → lv_has ls 11 [(8, .int x21), (7, .int ((p1 >>> ((6 : Int32) &&& 31)) &&& (3 : Int32))), (6, .int x13), (5, .int x9), (3, .int x5), (4, .int ((p1 >>> ((8 : Int32) &&& 31)) &&& (3 : Int32))), (0, .ref (a 0)), (1, .int p1), (2, .int p2)] → W p l e ({ frames := 2, cells := 0, slots := 0, locals := 41 } : Room) s m (([.ref (a 0), .int p1, .int p2] : List Value).toArray) below meth c H locs 0 0 (oh_Ei below (fun r u => r = (spX8_altered σ p1 p2).1 ∧ u = (spX8_altered σ p1 p2).2) D (oh_V a k) A [.ref (a 0), .int p1, .int p2] s) (F0 m 155 ls [.int x23]) := by
                    intro x23 hx23 ls H locs hP hD hS hl
                    have hK111 : spX8_altered_k111 p1 x5 x9 x13 s19 x21 x23 = spX8_altered σ p1 p2 := by
                      subst hx23
                      exact hK112
                    refine lv_istore (lv' := [(9, .int x23), (8, .int x21), (7, .int ((p1 >>> ((6 : Int32) &&& 31)) &&& (3 : Int32))), (6, .int x13), (5, .int x9), (3, .int x5), (4, .int ((p1 >>> ((8 : Int32) &&& 31)) &&& (3 : Int32))), (0, .ref (a 0)), (1, .int p1), (2, .int p2)]) hx hb dX8_altered_155 hl (by decide) rfl (fun ls hl => ?_)
                    refine lv_iload hx hb dX8_altered_157 (lv_at hl 4 rfl) ?_
                    have K110 : ∀ x34 : Int32, x34 = (if x9 = (0 : Int32) then (let r25 : Int32 := (spX8_is p1 (4 : Int32)); (if r25 = (0 : Int32) then (let r27 : Int32 := (spX8_is p1 (3 : Int32)); (if r27 = (0 : Int32) then (0 : Int32) else (if x23 = (0 : Int32) then (1 : Int32) else (0 : Int32)))) else (if x21 = (0 : Int32) then (1 : Int32) else (let r31 : Int32 := (spX8_is p1 (3 : Int32)); (if r31 = (0 : Int32) then (0 : Int32) else (if x23 = (0 : Int32) then (1 : Int32) else (0 : Int32))))))) else (1 : Int32)) → ∀ (ls : Array Slot) (H : Heap) (locs : List Loc), va_P D vwCl (oh_V a k s19) H → va_D A (oh_V a k s19) → va_S A s.heap H locs → lv_has ls 11 [(9, .int x23), (8, .int x21), (7, .int ((p1 >>> ((6 : Int32) &&& 31)) &&& (3 : Int32))), (6, .int x13), (5, .int x9), (3, .int x5), (4, .int ((p1 >>> ((8 : Int32) &&& 31)) &&& (3 : Int32))), (0, .ref (a 0)), (1, .int p1), (2, .int p2)] → W p l e ({ frames := 2, cells := 0, slots := 0, locals := 41 } : Room) s m (([.ref (a 0), .int p1, .int p2] : List Value).toArray) below meth c H locs 0 0 (oh_Ei below (fun r u => r = (spX8_altered σ p1 p2).1 ∧ u = (spX8_altered σ p1 p2).2) D (oh_V a k) A [.ref (a 0), .int p1, .int p2] s) (F0 m 193 ls [.int x34]) := by
                      intro x34 hx34 ls H locs hP hD hS hl
                      have hK110 : spX8_altered_k110 p1 x5 x13 s19 x21 x23 x34 = spX8_altered σ p1 p2 := by
                        subst hx34
                        exact hK111
                      refine lv_istore (lv' := [(5, .int x34), (9, .int x23), (8, .int x21), (7, .int ((p1 >>> ((6 : Int32) &&& 31)) &&& (3 : Int32))), (6, .int x13), (3, .int x5), (4, .int ((p1 >>> ((8 : Int32) &&& 31)) &&& (3 : Int32))), (0, .ref (a 0)), (1, .int p1), (2, .int p2)]) hx hb dX8_altered_193 hl (by decide) rfl (fun ls hl => ?_)
                      refine lv_iload_n hx hb dX8_altered_195 rfl (lv_at hl 8 rfl) ?_
                      refine lv_iconst (v := (4 : Int32)) hx hb dX8_altered_196 (by decide) ?_
                      refine oh_csp (As := [.int p1, .int (4 : Int32)]) (rest := []) hC hP hD hS (mtX8_is l a k D s19 p1 (4 : Int32)) (va_cwS 2 hts gX8_altered_X8_is rfl rfl rfl (by decide +kernel) ⟨Nat.le_of_ble_eq_true rfl, Nat.le_of_ble_eq_true rfl⟩) rfl hl.1 rfl (Nat.le_of_ble_eq_true rfl) dX8_altered_197 (fun r35 H locs hr35 hP hD hS => ?_)
                      have K109 : ∀ x68 : Int32, x68 = (if r35 = (0 : Int32) then (let x47 : Int32 := (if x13 = (0 : Int32) then (let r38 : Int32 := (spX8_is p1 (4 : Int32)); (if r38 = (0 : Int32) then (let r40 : Int32 := (spX8_is p1 (3 : Int32)); (if r40 = (0 : Int32) then (0 : Int32) else (if x23 = (0 : Int32) then (0 : Int32) else (1 : Int32)))) else (if x21 = (0 : Int32) then (let r44 : Int32 := (spX8_is p1 (3 : Int32)); (if r44 = (0 : Int32) then (0 : Int32) else (if x23 = (0 : Int32) then (0 : Int32) else (1 : Int32)))) else (1 : Int32)))) else (1 : Int32)); x47) else (let r49 : Int32 := (spX8_is p1 (3 : Int32)); (if r49 = (0 : Int32) then (let x61 : Int32 := (if x13 = (0 : Int32) then (let r52 : Int32 := (spX8_is p1 (4 : Int32)); (if r52 = (0 : Int32) then (let r54 : Int32 := (spX8_is p1 (3 : Int32)); (if r54 = (0 : Int32) then (0 : Int32) else (if x23 = (0 : Int32) then (0 : Int32) else (1 : Int32)))) else (if x21 = (0 : Int32) then (let r58 : Int32 := (spX8_is p1 (3 : Int32)); (if r58 = (0 : Int32) then (0 : Int32) else (if x23 = (0 : Int32) then (0 : Int32) else (1 : Int32)))) else (1 : Int32)))) else (1 : Int32)); x61) else (let x66 : Int32 := (if x13 = (0 : Int32) then (if x21 = (0 : Int32) then (0 : Int32) else (if x23 = (0 : Int32) then (0 : Int32) else (1 : Int32))) else (1 : Int32)); x66)))) → ∀ (ls : Array Slot) (H : Heap) (locs : List Loc), va_P D vwCl (oh_V a k s19) H → va_D A (oh_V a k s19) → va_S A s.heap H locs → lv_has ls 11 [(6, .int x68), (5, .int x34), (9, .int x23), (8, .int x21), (7, .int ((p1 >>> ((6 : Int32) &&& 31)) &&& (3 : Int32))), (3, .int x5), (4, .int ((p1 >>> ((8 : Int32) &&& 31)) &&& (3 : Int32))), (0, .ref (a 0)), (1, .int p1), (2, .int p2)] → W p l e ({ frames := 2, cells := 0, slots := 0, locals := 41 } : Room) s m (([.ref (a 0), .int p1, .int p2] : List Value).toArray) below meth c H locs 0 0 (oh_Ei below (fun r u => r = (spX8_altered σ p1 p2).1 ∧ u = (spX8_altered σ p1 p2).2) D (oh_V a k) A [.ref (a 0), .int p1, .int p2] s) (F0 m 274 ls []) := by
                        intro x68 hx68 ls H locs hP hD hS hl
                        have hK109 : spX8_altered_k109 p1 x5 s19 x34 x68 = spX8_altered σ p1 p2 := by
                          subst hx68 hr35
                          exact hK110
                        refine lv_iload_n hx hb dX8_altered_274 rfl (lv_at hl 8 rfl) ?_
                        refine lv_iconst (v := (2 : Int32)) hx hb dX8_altered_275 (by decide) ?_
                        refine oh_csp (As := [.int p1, .int (2 : Int32)]) (rest := []) hC hP hD hS (mtX8_is l a k D s19 p1 (2 : Int32)) (va_cwS 2 hts gX8_altered_X8_is rfl rfl rfl (by decide +kernel) ⟨Nat.le_of_ble_eq_true rfl, Nat.le_of_ble_eq_true rfl⟩) rfl hl.1 rfl (Nat.le_of_ble_eq_true rfl) dX8_altered_276 (fun r69 H locs hr69 hP hD hS => ?_)
                        have K108 : ∀ x77 : Int32, x77 = (if r69 = (0 : Int32) then x5 else (let s72 : oh_St := (if x5 = (65535 : Int32) then (oh_up s19 0 4 (1 : Int32)) else s19); (let s74 : oh_St := (if x5 = (32767 : Int32) then (oh_up s72 0 5 (1 : Int32)) else s72); ((x5 + (1 : Int32)) &&& (65535 : Int32))))) → ∀ s78 : oh_St, s78 = (if r69 = (0 : Int32) then s19 else (let s72 : oh_St := (if x5 = (65535 : Int32) then (oh_up s19 0 4 (1 : Int32)) else s19); (let s74 : oh_St := (if x5 = (32767 : Int32) then (oh_up s72 0 5 (1 : Int32)) else s72); s74))) → ∀ (ls : Array Slot) (H : Heap) (locs : List Loc), va_P D vwCl (oh_V a k s78) H → va_D A (oh_V a k s78) → va_S A s.heap H locs → lv_has ls 11 [(6, .int x68), (5, .int x34), (9, .int x23), (8, .int x21), (7, .int ((p1 >>> ((6 : Int32) &&& 31)) &&& (3 : Int32))), (3, .int x77), (4, .int ((p1 >>> ((8 : Int32) &&& 31)) &&& (3 : Int32))), (0, .ref (a 0)), (1, .int p1), (2, .int p2)] → W p l e ({ frames := 2, cells := 0, slots := 0, locals := 41 } : Room) s m (([.ref (a 0), .int p1, .int p2] : List Value).toArray) below meth c H locs 0 0 (oh_Ei below (fun r u => r = (spX8_altered σ p1 p2).1 ∧ u = (spX8_altered σ p1 p2).2) D (oh_V a k) A [.ref (a 0), .int p1, .int p2] s) (F0 m 312 ls []) := by
                          intro x77 hx77 s78 hs78 ls H locs hP hD hS hl
                          have hK108 : spX8_altered_k108 p1 x34 x68 x77 s78 = spX8_altered σ p1 p2 := by
                            subst hs78 hx77 hr69
                            exact hK109
                          refine lv_iload hx hb dX8_altered_312 (lv_at hl 1 rfl) ?_
                          have K107 : ∀ x83 : Int32, x83 = (if x34 = (0 : Int32) then (let r80 : Int32 := (spX8_is p1 (1 : Int32)); (if r80 = (0 : Int32) then (0 : Int32) else (if x77 = (0 : Int32) then (1 : Int32) else (0 : Int32)))) else (1 : Int32)) → ∀ (ls : Array Slot) (H : Heap) (locs : List Loc), va_P D vwCl (oh_V a k s78) H → va_D A (oh_V a k s78) → va_S A s.heap H locs → lv_has ls 11 [(6, .int x68), (5, .int x34), (9, .int x23), (8, .int x21), (7, .int ((p1 >>> ((6 : Int32) &&& 31)) &&& (3 : Int32))), (3, .int x77), (4, .int ((p1 >>> ((8 : Int32) &&& 31)) &&& (3 : Int32))), (0, .ref (a 0)), (1, .int p1), (2, .int p2)] → W p l e ({ frames := 2, cells := 0, slots := 0, locals := 41 } : Room) s m (([.ref (a 0), .int p1, .int p2] : List Value).toArray) below meth c H locs 0 0 (oh_Ei below (fun r u => r = (spX8_altered σ p1 p2).1 ∧ u = (spX8_altered σ p1 p2).2) D (oh_V a k) A [.ref (a 0), .int p1, .int p2] s) (F0 m 334 ls [.int x83]) := by
                            intro x83 hx83 ls H locs hP hD hS hl
                            have hK107 : spX8_altered_k107 p1 x68 x77 s78 x83 = spX8_altered σ p1 p2 := by
                              subst hx83
                              exact hK108
                            refine lv_istore (lv' := [(5, .int x83), (6, .int x68), (9, .int x23), (8, .int x21), (7, .int ((p1 >>> ((6 : Int32) &&& 31)) &&& (3 : Int32))), (3, .int x77), (4, .int ((p1 >>> ((8 : Int32) &&& 31)) &&& (3 : Int32))), (0, .ref (a 0)), (1, .int p1), (2, .int p2)]) hx hb dX8_altered_334 hl (by decide) rfl (fun ls hl => ?_)
                            refine lv_iload hx hb dX8_altered_336 (lv_at hl 1 rfl) ?_
                            have K106 : ∀ x88 : Int32, x88 = (if x68 = (0 : Int32) then (let r85 : Int32 := (spX8_is p1 (1 : Int32)); (if r85 = (0 : Int32) then (0 : Int32) else (if x77 = (0 : Int32) then (0 : Int32) else (1 : Int32)))) else (1 : Int32)) → ∀ (ls : Array Slot) (H : Heap) (locs : List Loc), va_P D vwCl (oh_V a k s78) H → va_D A (oh_V a k s78) → va_S A s.heap H locs → lv_has ls 11 [(5, .int x83), (6, .int x68), (9, .int x23), (8, .int x21), (7, .int ((p1 >>> ((6 : Int32) &&& 31)) &&& (3 : Int32))), (3, .int x77), (4, .int ((p1 >>> ((8 : Int32) &&& 31)) &&& (3 : Int32))), (0, .ref (a 0)), (1, .int p1), (2, .int p2)] → W p l e ({ frames := 2, cells := 0, slots := 0, locals := 41 } : Room) s m (([.ref (a 0), .int p1, .int p2] : List Value).toArray) below meth c H locs 0 0 (oh_Ei below (fun r u => r = (spX8_altered σ p1 p2).1 ∧ u = (spX8_altered σ p1 p2).2) D (oh_V a k) A [.ref (a 0), .int p1, .int p2] s) (F0 m 358 ls [.int x88]) := by
                              intro x88 hx88 ls H locs hP hD hS hl
                              have hK106 : spX8_altered_k106 p1 x77 s78 x83 x88 = spX8_altered σ p1 p2 := by
                                subst hx88
                                exact hK107
                              refine lv_istore (lv' := [(6, .int x88), (5, .int x83), (9, .int x23), (8, .int x21), (7, .int ((p1 >>> ((6 : Int32) &&& 31)) &&& (3 : Int32))), (3, .int x77), (4, .int ((p1 >>> ((8 : Int32) &&& 31)) &&& (3 : Int32))), (0, .ref (a 0)), (1, .int p1), (2, .int p2)]) hx hb dX8_altered_358 hl (by decide) rfl (fun ls hl => ?_)
                              refine lv_iload_n hx hb dX8_altered_360 rfl (lv_at hl 8 rfl) ?_
                              refine lv_iconst (v := (5 : Int32)) hx hb dX8_altered_361 (by decide) ?_
                              refine oh_csp (As := [.int p1, .int (5 : Int32)]) (rest := []) hC hP hD hS (mtX8_is l a k D s78 p1 (5 : Int32)) (va_cwS 2 hts gX8_altered_X8_is rfl rfl rfl (by decide +kernel) ⟨Nat.le_of_ble_eq_true rfl, Nat.le_of_ble_eq_true rfl⟩) rfl hl.1 rfl (Nat.le_of_ble_eq_true rfl) dX8_altered_362 (fun r89 H locs hr89 hP hD hS => ?_)
                              have K105 : ∀ x97 : Int32, x97 = (if r89 = (0 : Int32) then (let r91 : Int32 := (spX8_is p1 (4 : Int32)); (if r91 = (0 : Int32) then (let r93 : Int32 := (spX8_is p1 (3 : Int32)); (if r93 = (0 : Int32) then (let r95 : Int32 := (spX8_is p1 (1 : Int32)); (if r95 = (0 : Int32) then (1 : Int32) else (0 : Int32))) else (0 : Int32))) else (0 : Int32))) else (0 : Int32)) → ∀ (ls : Array Slot) (H : Heap) (locs : List Loc), va_P D vwCl (oh_V a k s78) H → va_D A (oh_V a k s78) → va_S A s.heap H locs → lv_has ls 11 [(6, .int x88), (5, .int x83), (9, .int x23), (8, .int x21), (7, .int ((p1 >>> ((6 : Int32) &&& 31)) &&& (3 : Int32))), (3, .int x77), (4, .int ((p1 >>> ((8 : Int32) &&& 31)) &&& (3 : Int32))), (0, .ref (a 0)), (1, .int p1), (2, .int p2)] → W p l e ({ frames := 2, cells := 0, slots := 0, locals := 41 } : Room) s m (([.ref (a 0), .int p1, .int p2] : List Value).toArray) below meth c H locs 0 0 (oh_Ei below (fun r u => r = (spX8_altered σ p1 p2).1 ∧ u = (spX8_altered σ p1 p2).2) D (oh_V a k) A [.ref (a 0), .int p1, .int p2] s) (F0 m 397 ls [.int x97]) := by
                                intro x97 hx97 ls H locs hP hD hS hl
                                have hK105 : spX8_altered_k105 p1 x77 s78 x83 x88 x97 = spX8_altered σ p1 p2 := by
                                  subst hx97 hr89
                                  exact hK106
                                refine lv_istore (lv' := [(10, .int x97), (6, .int x88), (5, .int x83), (9, .int x23), (8, .int x21), (7, .int ((p1 >>> ((6 : Int32) &&& 31)) &&& (3 : Int32))), (3, .int x77), (4, .int ((p1 >>> ((8 : Int32) &&& 31)) &&& (3 : Int32))), (0, .ref (a 0)), (1, .int p1), (2, .int p2)]) hx hb dX8_altered_397 hl (by decide) rfl (fun ls hl => ?_)
                                refine lv_aload_n hx hb dX8_altered_399 rfl (lv_at hl 8 rfl) ?_
                                refine lv_iload_n hx hb dX8_altered_400 rfl (lv_at hl 9 rfl) ?_
                                refine lv_iconst (v := (0 : Int32)) hx hb dX8_altered_401 (by decide) ?_
                                refine oh_csp (As := [.int p1, .int (0 : Int32)]) (rest := [.ref (a 0)]) hC hP hD hS (mtX8_is l a k D s78 p1 (0 : Int32)) (va_cwS 2 hts gX8_altered_X8_is rfl rfl rfl (by decide +kernel) ⟨Nat.le_of_ble_eq_true rfl, Nat.le_of_ble_eq_true rfl⟩) rfl hl.1 rfl (Nat.le_of_ble_eq_true rfl) dX8_altered_402 (fun r98 H locs hr98 hP hD hS => ?_)
                                have K104 : ∀ x102 : Int32, x102 = (if r98 = (0 : Int32) then x83 else (if x97 = (0 : Int32) then (if x88 = (0 : Int32) then (0 : Int32) else (1 : Int32)) else (1 : Int32))) → ∀ (ls : Array Slot) (H : Heap) (locs : List Loc), va_P D vwCl (oh_V a k s78) H → va_D A (oh_V a k s78) → va_S A s.heap H locs → lv_has ls 11 [(10, .int x97), (6, .int x88), (5, .int x83), (9, .int x23), (8, .int x21), (7, .int ((p1 >>> ((6 : Int32) &&& 31)) &&& (3 : Int32))), (3, .int x77), (4, .int ((p1 >>> ((8 : Int32) &&& 31)) &&& (3 : Int32))), (0, .ref (a 0)), (1, .int p1), (2, .int p2)] → W p l e ({ frames := 2, cells := 0, slots := 0, locals := 41 } : Room) s m (([.ref (a 0), .int p1, .int p2] : List Value).toArray) below meth c H locs 0 0 (oh_Ei below (fun r u => r = (spX8_altered σ p1 p2).1 ∧ u = (spX8_altered σ p1 p2).2) D (oh_V a k) A [.ref (a 0), .int p1, .int p2] s) (F0 m 428 ls [.int x102, .ref (a 0)]) := by
                                  intro x102 hx102 ls H locs hP hD hS hl
                                  have hK104 : spX8_altered_k104 x77 s78 x102 = spX8_altered σ p1 p2 := by
                                    subst hx102 hr98
                                    exact hK105
                                  refine oh_cvv (As := [.int x102]) (rest := []) hC hP hD hS (mtX8_skip l a k D s78 x102) (cwV 1 hts gX8_altered_X8_skip rfl rfl rfl (by decide +kernel) ⟨Nat.le_of_ble_eq_true rfl, Nat.le_of_ble_eq_true rfl⟩) 0 8 rfl rfl rfl hl.1 rfl (Nat.le_of_ble_eq_true rfl) dX8_altered_428 (fun s103 H locs hs103 hP hD hS => ?_)
                                  refine lv_iload_n hx hb dX8_altered_431 rfl (lv_at hl 6 rfl) ?_
                                  exact oh_reti (v := x77) (u := s103) hC hP hD hS (oh_pair (by subst hs103; exact hK104)) dX8_altered_432
                                refine lv_if_eq (tgt := 426) hx hb dX8_altered_405 (by decide) (fun c99 => ?_) (fun c99 => ?_)
                                · refine lv_iload hx hb dX8_altered_426 (lv_at hl 2 rfl) ?_
                                  exact K104 _ (if_pos c99).symm ls _ _ hP hD hS (lv_sub hl [0, 1, 2, 3, 4, 5, 6, 7, 8, 9, 10] rfl)
                                · refine lv_iload hx hb dX8_altered_408 (lv_at hl 0 rfl) ?_
                                  refine lv_if_ne (tgt := 418) hx hb dX8_altered_410 (by decide) (fun c100 => ?_) (fun c100 => ?_)
                                  · refine lv_iconst (v := (1 : Int32)) hx hb dX8_altered_418 (by decide) ?_
                                    refine lv_goto (tgt := 428) hx hb dX8_altered_419 (by decide) ?_
                                    exact K104 _ ((if_neg c99).trans (if_neg c100)).symm ls _ _ hP hD hS (lv_sub hl [0, 1, 2, 3, 4, 5, 6, 7, 8, 9, 10] rfl)
                                  · refine lv_iload hx hb dX8_altered_413 (lv_at hl 1 rfl) ?_
                                    refine lv_if_eq (tgt := 422) hx hb dX8_altered_415 (by decide) (fun c101 => ?_) (fun c101 => ?_)
                                    · refine lv_iconst (v := (0 : Int32)) hx hb dX8_altered_422 (by decide) ?_
                                      refine lv_goto (tgt := 428) hx hb dX8_altered_423 (by decide) ?_
                                      exact K104 _ (((if_neg c99).trans (if_pos c100)).trans (if_pos c101)).symm ls _ _ hP hD hS (lv_sub hl [0, 1, 2, 3, 4, 5, 6, 7, 8, 9, 10] rfl)
                                    · refine lv_iconst (v := (1 : Int32)) hx hb dX8_altered_418 (by decide) ?_
                                      refine lv_goto (tgt := 428) hx hb dX8_altered_419 (by decide) ?_
                                      exact K104 _ (((if_neg c99).trans (if_pos c100)).trans (if_neg c101)).symm ls _ _ hP hD hS (lv_sub hl [0, 1, 2, 3, 4, 5, 6, 7, 8, 9, 10] rfl)
                              refine lv_if_ne (tgt := 396) hx hb dX8_altered_365 (by decide) (fun c90 => ?_) (fun c90 => ?_)
                              · refine lv_iconst (v := (0 : Int32)) hx hb dX8_altered_396 (by decide) ?_
                                exact K105 _ (if_neg c90).symm ls _ _ hP hD hS (lv_sub hl [0, 1, 2, 3, 4, 5, 6, 7, 8, 9] rfl)
                              · refine lv_iload_n hx hb dX8_altered_368 rfl (lv_at hl 8 rfl) ?_
                                refine lv_iconst (v := (4 : Int32)) hx hb dX8_altered_369 (by decide) ?_
                                refine oh_csp (As := [.int p1, .int (4 : Int32)]) (rest := []) hC hP hD hS (mtX8_is l a k D s78 p1 (4 : Int32)) (va_cwS 2 hts gX8_altered_X8_is rfl rfl rfl (by decide +kernel) ⟨Nat.le_of_ble_eq_true rfl, Nat.le_of_ble_eq_true rfl⟩) rfl hl.1 rfl (Nat.le_of_ble_eq_true rfl) dX8_altered_370 (fun r91 H locs hr91 hP hD hS => ?_)
                                refine lv_if_ne (tgt := 396) hx hb dX8_altered_373 (by decide) (fun c92 => ?_) (fun c92 => ?_)
                                · refine lv_iconst (v := (0 : Int32)) hx hb dX8_altered_396 (by decide) ?_
                                  exact K105 _ (by subst hr91; exact ((if_pos c90).trans (if_neg c92)).symm) ls _ _ hP hD hS (lv_sub hl [0, 1, 2, 3, 4, 5, 6, 7, 8, 9] rfl)
                                · refine lv_iload_n hx hb dX8_altered_376 rfl (lv_at hl 8 rfl) ?_
                                  refine lv_iconst (v := (3 : Int32)) hx hb dX8_altered_377 (by decide) ?_
                                  refine oh_csp (As := [.int p1, .int (3 : Int32)]) (rest := []) hC hP hD hS (mtX8_is l a k D s78 p1 (3 : Int32)) (va_cwS 2 hts gX8_altered_X8_is rfl rfl rfl (by decide +kernel) ⟨Nat.le_of_ble_eq_true rfl, Nat.le_of_ble_eq_true rfl⟩) rfl hl.1 rfl (Nat.le_of_ble_eq_true rfl) dX8_altered_378 (fun r93 H locs hr93 hP hD hS => ?_)
                                  refine lv_if_ne (tgt := 396) hx hb dX8_altered_381 (by decide) (fun c94 => ?_) (fun c94 => ?_)
                                  · refine lv_iconst (v := (0 : Int32)) hx hb dX8_altered_396 (by decide) ?_
                                    exact K105 _ (by subst hr93 hr91; exact (((if_pos c90).trans (if_pos c92)).trans (if_neg c94)).symm) ls _ _ hP hD hS (lv_sub hl [0, 1, 2, 3, 4, 5, 6, 7, 8, 9] rfl)
                                  · refine lv_iload_n hx hb dX8_altered_384 rfl (lv_at hl 8 rfl) ?_
                                    refine lv_iconst (v := (1 : Int32)) hx hb dX8_altered_385 (by decide) ?_
                                    refine oh_csp (As := [.int p1, .int (1 : Int32)]) (rest := []) hC hP hD hS (mtX8_is l a k D s78 p1 (1 : Int32)) (va_cwS 2 hts gX8_altered_X8_is rfl rfl rfl (by decide +kernel) ⟨Nat.le_of_ble_eq_true rfl, Nat.le_of_ble_eq_true rfl⟩) rfl hl.1 rfl (Nat.le_of_ble_eq_true rfl) dX8_altered_386 (fun r95 H locs hr95 hP hD hS => ?_)
                                    refine lv_if_ne (tgt := 396) hx hb dX8_altered_389 (by decide) (fun c96 => ?_) (fun c96 => ?_)
                                    · refine lv_iconst (v := (0 : Int32)) hx hb dX8_altered_396 (by decide) ?_
                                      exact K105 _ (by subst hr95 hr93 hr91; exact ((((if_pos c90).trans (if_pos c92)).trans (if_pos c94)).trans (if_neg c96)).symm) ls _ _ hP hD hS (lv_sub hl [0, 1, 2, 3, 4, 5, 6, 7, 8, 9] rfl)
                                    · refine lv_iconst (v := (1 : Int32)) hx hb dX8_altered_392 (by decide) ?_
                                      refine lv_goto (tgt := 397) hx hb dX8_altered_393 (by decide) ?_
                                      exact K105 _ (by subst hr95 hr93 hr91; exact ((((if_pos c90).trans (if_pos c92)).trans (if_pos c94)).trans (if_pos c96)).symm) ls _ _ hP hD hS (lv_sub hl [0, 1, 2, 3, 4, 5, 6, 7, 8, 9] rfl)
                            refine lv_if_ne (tgt := 353) hx hb dX8_altered_338 (by decide) (fun c84 => ?_) (fun c84 => ?_)
                            · refine lv_iconst (v := (1 : Int32)) hx hb dX8_altered_353 (by decide) ?_
                              refine lv_goto (tgt := 358) hx hb dX8_altered_354 (by decide) ?_
                              exact K106 _ (if_neg c84).symm ls _ _ hP hD hS (lv_sub hl [0, 1, 2, 3, 4, 5, 6, 7, 8, 9] rfl)
                            · refine lv_iload_n hx hb dX8_altered_341 rfl (lv_at hl 8 rfl) ?_
                              refine lv_iconst (v := (1 : Int32)) hx hb dX8_altered_342 (by decide) ?_
                              refine oh_csp (As := [.int p1, .int (1 : Int32)]) (rest := []) hC hP hD hS (mtX8_is l a k D s78 p1 (1 : Int32)) (va_cwS 2 hts gX8_altered_X8_is rfl rfl rfl (by decide +kernel) ⟨Nat.le_of_ble_eq_true rfl, Nat.le_of_ble_eq_true rfl⟩) rfl hl.1 rfl (Nat.le_of_ble_eq_true rfl) dX8_altered_343 (fun r85 H locs hr85 hP hD hS => ?_)
                              refine lv_if_eq (tgt := 357) hx hb dX8_altered_346 (by decide) (fun c86 => ?_) (fun c86 => ?_)
                              · refine lv_iconst (v := (0 : Int32)) hx hb dX8_altered_357 (by decide) ?_
                                exact K106 _ (by subst hr85; exact ((if_pos c84).trans (if_pos c86)).symm) ls _ _ hP hD hS (lv_sub hl [0, 1, 2, 3, 4, 5, 6, 7, 8, 9] rfl)
                              · refine lv_iload_n hx hb dX8_altered_349 rfl (lv_at hl 5 rfl) ?_
                                refine lv_if_eq (tgt := 357) hx hb dX8_altered_350 (by decide) (fun c87 => ?_) (fun c87 => ?_)
                                · refine lv_iconst (v := (0 : Int32)) hx hb dX8_altered_357 (by decide) ?_
                                  exact K106 _ (by subst hr85; exact (((if_pos c84).trans (if_neg c86)).trans (if_pos c87)).symm) ls _ _ hP hD hS (lv_sub hl [0, 1, 2, 3, 4, 5, 6, 7, 8, 9] rfl)
                                · refine lv_iconst (v := (1 : Int32)) hx hb dX8_altered_353 (by decide) ?_
                                  refine lv_goto (tgt := 358) hx hb dX8_altered_354 (by decide) ?_
                                  exact K106 _ (by subst hr85; exact (((if_pos c84).trans (if_neg c86)).trans (if_neg c87)).symm) ls _ _ hP hD hS (lv_sub hl [0, 1, 2, 3, 4, 5, 6, 7, 8, 9] rfl)
                          refine lv_if_ne (tgt := 329) hx hb dX8_altered_314 (by decide) (fun c79 => ?_) (fun c79 => ?_)
                          · refine lv_iconst (v := (1 : Int32)) hx hb dX8_altered_329 (by decide) ?_
                            refine lv_goto (tgt := 334) hx hb dX8_altered_330 (by decide) ?_
                            exact K107 _ (if_neg c79).symm ls _ _ hP hD hS (lv_sub hl [0, 1, 2, 3, 4, 5, 6, 7, 8, 9] rfl)
                          · refine lv_iload_n hx hb dX8_altered_317 rfl (lv_at hl 8 rfl) ?_
                            refine lv_iconst (v := (1 : Int32)) hx hb dX8_altered_318 (by decide) ?_
                            refine oh_csp (As := [.int p1, .int (1 : Int32)]) (rest := []) hC hP hD hS (mtX8_is l a k D s78 p1 (1 : Int32)) (va_cwS 2 hts gX8_altered_X8_is rfl rfl rfl (by decide +kernel) ⟨Nat.le_of_ble_eq_true rfl, Nat.le_of_ble_eq_true rfl⟩) rfl hl.1 rfl (Nat.le_of_ble_eq_true rfl) dX8_altered_319 (fun r80 H locs hr80 hP hD hS => ?_)
                            refine lv_if_eq (tgt := 333) hx hb dX8_altered_322 (by decide) (fun c81 => ?_) (fun c81 => ?_)
                            · refine lv_iconst (v := (0 : Int32)) hx hb dX8_altered_333 (by decide) ?_
                              exact K107 _ (by subst hr80; exact ((if_pos c79).trans (if_pos c81)).symm) ls _ _ hP hD hS (lv_sub hl [0, 1, 2, 3, 4, 5, 6, 7, 8, 9] rfl)
                            · refine lv_iload_n hx hb dX8_altered_325 rfl (lv_at hl 5 rfl) ?_
                              refine lv_if_ne (tgt := 333) hx hb dX8_altered_326 (by decide) (fun c82 => ?_) (fun c82 => ?_)
                              · refine lv_iconst (v := (0 : Int32)) hx hb dX8_altered_333 (by decide) ?_
                                exact K107 _ (by subst hr80; exact (((if_pos c79).trans (if_neg c81)).trans (if_neg c82)).symm) ls _ _ hP hD hS (lv_sub hl [0, 1, 2, 3, 4, 5, 6, 7, 8, 9] rfl)
                              · refine lv_iconst (v := (1 : Int32)) hx hb dX8_altered_329 (by decide) ?_
                                refine lv_goto (tgt := 334) hx hb dX8_altered_330 (by decide) ?_
                                exact K107 _ (by subst hr80; exact (((if_pos c79).trans (if_neg c81)).trans (if_pos c82)).symm) ls _ _ hP hD hS (lv_sub hl [0, 1, 2, 3, 4, 5, 6, 7, 8, 9] rfl)
                        refine lv_if_eq (tgt := 312) hx hb dX8_altered_279 (by decide) (fun c70 => ?_) (fun c70 => ?_)
                        · exact K108 _ (if_pos c70).symm _ (if_pos c70).symm ls _ _ hP hD hS (lv_sub hl [0, 1, 2, 3, 4, 5, 6, 7, 8, 9] rfl)
                        · refine lv_iload_n hx hb dX8_altered_282 rfl (lv_at hl 5 rfl) ?_
                          refine lv_ldc (v := (65535 : Int32)) hx hb hown (hts (.constant RX8 102 (65535)) (by decide +kernel)) dX8_altered_283 ?_
                          have K76 : ∀ s72 : oh_St, s72 = (if x5 = (65535 : Int32) then (oh_up s19 0 4 (1 : Int32)) else s19) → ∀ (ls : Array Slot) (H : Heap) (locs : List Loc), va_P D vwCl (oh_V a k s72) H → va_D A (oh_V a k s72) → va_S A s.heap H locs → lv_has ls 11 [(6, .int x68), (5, .int x34), (9, .int x23), (8, .int x21), (7, .int ((p1 >>> ((6 : Int32) &&& 31)) &&& (3 : Int32))), (3, .int x5), (4, .int ((p1 >>> ((8 : Int32) &&& 31)) &&& (3 : Int32))), (0, .ref (a 0)), (1, .int p1), (2, .int p2)] → W p l e ({ frames := 2, cells := 0, slots := 0, locals := 41 } : Room) s m (([.ref (a 0), .int p1, .int p2] : List Value).toArray) below meth c H locs 0 0 (oh_Ei below (fun r u => r = (spX8_altered σ p1 p2).1 ∧ u = (spX8_altered σ p1 p2).2) D (oh_V a k) A [.ref (a 0), .int p1, .int p2] s) (F0 m 293 ls []) := by
                            intro s72 hs72 ls H locs hP hD hS hl
                            refine lv_iload_n hx hb dX8_altered_293 rfl (lv_at hl 5 rfl) ?_
                            refine lv_sipush (v := (32767 : Int32)) hx hb dX8_altered_294 (by decide) ?_
                            have K75 : ∀ s74 : oh_St, s74 = (if x5 = (32767 : Int32) then (oh_up s72 0 5 (1 : Int32)) else s72) → ∀ (ls : Array Slot) (H : Heap) (locs : List Loc), va_P D vwCl (oh_V a k s74) H → va_D A (oh_V a k s74) → va_S A s.heap H locs → lv_has ls 11 [(6, .int x68), (5, .int x34), (9, .int x23), (8, .int x21), (7, .int ((p1 >>> ((6 : Int32) &&& 31)) &&& (3 : Int32))), (3, .int x5), (4, .int ((p1 >>> ((8 : Int32) &&& 31)) &&& (3 : Int32))), (0, .ref (a 0)), (1, .int p1), (2, .int p2)] → W p l e ({ frames := 2, cells := 0, slots := 0, locals := 41 } : Room) s m (([.ref (a 0), .int p1, .int p2] : List Value).toArray) below meth c H locs 0 0 (oh_Ei below (fun r u => r = (spX8_altered σ p1 p2).1 ∧ u = (spX8_altered σ p1 p2).2) D (oh_V a k) A [.ref (a 0), .int p1, .int p2] s) (F0 m 305 ls []) := by
                              intro s74 hs74 ls H locs hP hD hS hl
                              refine lv_iload_n hx hb dX8_altered_305 rfl (lv_at hl 5 rfl) ?_
                              refine lv_iconst (v := (1 : Int32)) hx hb dX8_altered_306 (by decide) ?_
                              refine lv_iadd hx hb dX8_altered_307 ?_
                              refine lv_ldc (v := (65535 : Int32)) hx hb hown (hts (.constant RX8 102 (65535)) (by decide +kernel)) dX8_altered_308 ?_
                              refine lv_iand hx hb dX8_altered_310 ?_
                              refine lv_istore_n (lv' := [(3, .int ((x5 + (1 : Int32)) &&& (65535 : Int32))), (6, .int x68), (5, .int x34), (9, .int x23), (8, .int x21), (7, .int ((p1 >>> ((6 : Int32) &&& 31)) &&& (3 : Int32))), (4, .int ((p1 >>> ((8 : Int32) &&& 31)) &&& (3 : Int32))), (0, .ref (a 0)), (1, .int p1), (2, .int p2)]) hx hb dX8_altered_311 rfl hl (by decide) rfl (fun ls hl => ?_)
                              exact K108 _ (by subst hs74 hs72; exact (if_neg c70).symm) _ (by subst hs74 hs72; exact (if_neg c70).symm) ls _ _ hP hD hS (lv_sub hl [1, 2, 3, 4, 5, 0, 6, 7, 8, 9] rfl)
                            refine lv_icmp_ne (tgt := 305) hx hb dX8_altered_297 (by decide) (fun c73 => ?_) (fun c73 => ?_)
                            · exact K75 _ (if_neg c73).symm ls _ _ hP hD hS (lv_sub hl [0, 1, 2, 3, 4, 5, 6, 7, 8, 9] rfl)
                            · refine lv_aload_n hx hb dX8_altered_300 rfl (lv_at hl 7 rfl) ?_
                              refine lv_iconst (v := (1 : Int32)) hx hb dX8_altered_301 (by decide) ?_
                              refine oh_put (σ' := (oh_up s72 0 5 (1 : Int32))) (v := .int (1 : Int32)) hC hP hD hS inX8_altered_X8 tyX8 tyX8_ok nmX8 0 rfl rfl 6 (by decide) (by decide +kernel) rfl rfl rfl (by simp) rfl dX8_altered_302 (fun H locs hP hD hS => ?_)
                              exact K75 _ (if_pos c73).symm ls _ _ hP hD hS (lv_sub hl [0, 1, 2, 3, 4, 5, 6, 7, 8, 9] rfl)
                          refine lv_icmp_ne (tgt := 293) hx hb dX8_altered_285 (by decide) (fun c71 => ?_) (fun c71 => ?_)
                          · exact K76 _ (if_neg c71).symm ls _ _ hP hD hS (lv_sub hl [0, 1, 2, 3, 4, 5, 6, 7, 8, 9] rfl)
                          · refine lv_aload_n hx hb dX8_altered_288 rfl (lv_at hl 7 rfl) ?_
                            refine lv_iconst (v := (1 : Int32)) hx hb dX8_altered_289 (by decide) ?_
                            refine oh_put (σ' := (oh_up s19 0 4 (1 : Int32))) (v := .int (1 : Int32)) hC hP hD hS inX8_altered_X8 tyX8 tyX8_ok nmX8 0 rfl rfl 5 (by decide) (by decide +kernel) rfl rfl rfl (by simp) rfl dX8_altered_290 (fun H locs hP hD hS => ?_)
                            exact K76 _ (if_pos c71).symm ls _ _ hP hD hS (lv_sub hl [0, 1, 2, 3, 4, 5, 6, 7, 8, 9] rfl)
                      refine lv_if_eq (tgt := 236) hx hb dX8_altered_200 (by decide) (fun c36 => ?_) (fun c36 => ?_)
                      · refine lv_iload hx hb dX8_altered_236 (lv_at hl 4 rfl) ?_
                        have K48 : ∀ x47 : Int32, x47 = (if x13 = (0 : Int32) then (let r38 : Int32 := (spX8_is p1 (4 : Int32)); (if r38 = (0 : Int32) then (let r40 : Int32 := (spX8_is p1 (3 : Int32)); (if r40 = (0 : Int32) then (0 : Int32) else (if x23 = (0 : Int32) then (0 : Int32) else (1 : Int32)))) else (if x21 = (0 : Int32) then (let r44 : Int32 := (spX8_is p1 (3 : Int32)); (if r44 = (0 : Int32) then (0 : Int32) else (if x23 = (0 : Int32) then (0 : Int32) else (1 : Int32)))) else (1 : Int32)))) else (1 : Int32)) → ∀ (ls : Array Slot) (H : Heap) (locs : List Loc), va_P D vwCl (oh_V a k s19) H → va_D A (oh_V a k s19) → va_S A s.heap H locs → lv_has ls 11 [(5, .int x34), (9, .int x23), (8, .int x21), (7, .int ((p1 >>> ((6 : Int32) &&& 31)) &&& (3 : Int32))), (6, .int x13), (3, .int x5), (4, .int ((p1 >>> ((8 : Int32) &&& 31)) &&& (3 : Int32))), (0, .ref (a 0)), (1, .int p1), (2, .int p2)] → W p l e ({ frames := 2, cells := 0, slots := 0, locals := 41 } : Room) s m (([.ref (a 0), .int p1, .int p2] : List Value).toArray) below meth c H locs 0 0 (oh_Ei below (fun r u => r = (spX8_altered σ p1 p2).1 ∧ u = (spX8_altered σ p1 p2).2) D (oh_V a k) A [.ref (a 0), .int p1, .int p2] s) (F0 m 272 ls [.int x47]) := by
                          intro x47 hx47 ls H locs hP hD hS hl
                          refine lv_istore (lv' := [(6, .int x47), (5, .int x34), (9, .int x23), (8, .int x21), (7, .int ((p1 >>> ((6 : Int32) &&& 31)) &&& (3 : Int32))), (3, .int x5), (4, .int ((p1 >>> ((8 : Int32) &&& 31)) &&& (3 : Int32))), (0, .ref (a 0)), (1, .int p1), (2, .int p2)]) hx hb dX8_altered_272 hl (by decide) rfl (fun ls hl => ?_)
                          exact K109 _ (by subst hx47; exact (if_pos c36).symm) ls _ _ hP hD hS (lv_sub hl [0, 1, 2, 3, 4, 5, 6, 7, 8, 9] rfl)
                        refine lv_if_ne (tgt := 267) hx hb dX8_altered_238 (by decide) (fun c37 => ?_) (fun c37 => ?_)
                        · refine lv_iconst (v := (1 : Int32)) hx hb dX8_altered_267 (by decide) ?_
                          refine lv_goto (tgt := 272) hx hb dX8_altered_268 (by decide) ?_
                          exact K48 _ (if_neg c37).symm ls _ _ hP hD hS (lv_sub hl [0, 1, 2, 3, 4, 5, 6, 7, 8, 9] rfl)
                        · refine lv_iload_n hx hb dX8_altered_241 rfl (lv_at hl 8 rfl) ?_
                          refine lv_iconst (v := (4 : Int32)) hx hb dX8_altered_242 (by decide) ?_
                          refine oh_csp (As := [.int p1, .int (4 : Int32)]) (rest := []) hC hP hD hS (mtX8_is l a k D s19 p1 (4 : Int32)) (va_cwS 2 hts gX8_altered_X8_is rfl rfl rfl (by decide +kernel) ⟨Nat.le_of_ble_eq_true rfl, Nat.le_of_ble_eq_true rfl⟩) rfl hl.1 rfl (Nat.le_of_ble_eq_true rfl) dX8_altered_243 (fun r38 H locs hr38 hP hD hS => ?_)
                          refine lv_if_eq (tgt := 254) hx hb dX8_altered_246 (by decide) (fun c39 => ?_) (fun c39 => ?_)
                          · refine lv_iload_n hx hb dX8_altered_254 rfl (lv_at hl 8 rfl) ?_
                            refine lv_iconst (v := (3 : Int32)) hx hb dX8_altered_255 (by decide) ?_
                            refine oh_csp (As := [.int p1, .int (3 : Int32)]) (rest := []) hC hP hD hS (mtX8_is l a k D s19 p1 (3 : Int32)) (va_cwS 2 hts gX8_altered_X8_is rfl rfl rfl (by decide +kernel) ⟨Nat.le_of_ble_eq_true rfl, Nat.le_of_ble_eq_true rfl⟩) rfl hl.1 rfl (Nat.le_of_ble_eq_true rfl) dX8_altered_256 (fun r40 H locs hr40 hP hD hS => ?_)
                            refine lv_if_eq (tgt := 271) hx hb dX8_altered_259 (by decide) (fun c41 => ?_) (fun c41 => ?_)
                            · refine lv_iconst (v := (0 : Int32)) hx hb dX8_altered_271 (by decide) ?_
                              exact K48 _ (by subst hr40 hr38; exact (((if_pos c37).trans (if_pos c39)).trans (if_pos c41)).symm) ls _ _ hP hD hS (lv_sub hl [0, 1, 2, 3, 4, 5, 6, 7, 8, 9] rfl)
                            · refine lv_iload hx hb dX8_altered_262 (lv_at hl 1 rfl) ?_
                              refine lv_if_eq (tgt := 271) hx hb dX8_altered_264 (by decide) (fun c42 => ?_) (fun c42 => ?_)
                              · refine lv_iconst (v := (0 : Int32)) hx hb dX8_altered_271 (by decide) ?_
                                exact K48 _ (by subst hr40 hr38; exact ((((if_pos c37).trans (if_pos c39)).trans (if_neg c41)).trans (if_pos c42)).symm) ls _ _ hP hD hS (lv_sub hl [0, 1, 2, 3, 4, 5, 6, 7, 8, 9] rfl)
                              · refine lv_iconst (v := (1 : Int32)) hx hb dX8_altered_267 (by decide) ?_
                                refine lv_goto (tgt := 272) hx hb dX8_altered_268 (by decide) ?_
                                exact K48 _ (by subst hr40 hr38; exact ((((if_pos c37).trans (if_pos c39)).trans (if_neg c41)).trans (if_neg c42)).symm) ls _ _ hP hD hS (lv_sub hl [0, 1, 2, 3, 4, 5, 6, 7, 8, 9] rfl)
                          · refine lv_iload hx hb dX8_altered_249 (lv_at hl 2 rfl) ?_
                            refine lv_if_ne (tgt := 267) hx hb dX8_altered_251 (by decide) (fun c43 => ?_) (fun c43 => ?_)
                            · refine lv_iconst (v := (1 : Int32)) hx hb dX8_altered_267 (by decide) ?_
                              refine lv_goto (tgt := 272) hx hb dX8_altered_268 (by decide) ?_
                              exact K48 _ (by subst hr38; exact (((if_pos c37).trans (if_neg c39)).trans (if_neg c43)).symm) ls _ _ hP hD hS (lv_sub hl [0, 1, 2, 3, 4, 5, 6, 7, 8, 9] rfl)
                            · refine lv_iload_n hx hb dX8_altered_254 rfl (lv_at hl 8 rfl) ?_
                              refine lv_iconst (v := (3 : Int32)) hx hb dX8_altered_255 (by decide) ?_
                              refine oh_csp (As := [.int p1, .int (3 : Int32)]) (rest := []) hC hP hD hS (mtX8_is l a k D s19 p1 (3 : Int32)) (va_cwS 2 hts gX8_altered_X8_is rfl rfl rfl (by decide +kernel) ⟨Nat.le_of_ble_eq_true rfl, Nat.le_of_ble_eq_true rfl⟩) rfl hl.1 rfl (Nat.le_of_ble_eq_true rfl) dX8_altered_256 (fun r44 H locs hr44 hP hD hS => ?_)
                              refine lv_if_eq (tgt := 271) hx hb dX8_altered_259 (by decide) (fun c45 => ?_) (fun c45 => ?_)
                              · refine lv_iconst (v := (0 : Int32)) hx hb dX8_altered_271 (by decide) ?_
                                exact K48 _ (by subst hr44 hr38; exact ((((if_pos c37).trans (if_neg c39)).trans (if_pos c43)).trans (if_pos c45)).symm) ls _ _ hP hD hS (lv_sub hl [0, 1, 2, 3, 4, 5, 6, 7, 8, 9] rfl)
                              · refine lv_iload hx hb dX8_altered_262 (lv_at hl 1 rfl) ?_
                                refine lv_if_eq (tgt := 271) hx hb dX8_altered_264 (by decide) (fun c46 => ?_) (fun c46 => ?_)
                                · refine lv_iconst (v := (0 : Int32)) hx hb dX8_altered_271 (by decide) ?_
                                  exact K48 _ (by subst hr44 hr38; exact (((((if_pos c37).trans (if_neg c39)).trans (if_pos c43)).trans (if_neg c45)).trans (if_pos c46)).symm) ls _ _ hP hD hS (lv_sub hl [0, 1, 2, 3, 4, 5, 6, 7, 8, 9] rfl)
                                · refine lv_iconst (v := (1 : Int32)) hx hb dX8_altered_267 (by decide) ?_
                                  refine lv_goto (tgt := 272) hx hb dX8_altered_268 (by decide) ?_
                                  exact K48 _ (by subst hr44 hr38; exact (((((if_pos c37).trans (if_neg c39)).trans (if_pos c43)).trans (if_neg c45)).trans (if_neg c46)).symm) ls _ _ hP hD hS (lv_sub hl [0, 1, 2, 3, 4, 5, 6, 7, 8, 9] rfl)
                      · refine lv_iload_n hx hb dX8_altered_203 rfl (lv_at hl 8 rfl) ?_
                        refine lv_iconst (v := (3 : Int32)) hx hb dX8_altered_204 (by decide) ?_
                        refine oh_csp (As := [.int p1, .int (3 : Int32)]) (rest := []) hC hP hD hS (mtX8_is l a k D s19 p1 (3 : Int32)) (va_cwS 2 hts gX8_altered_X8_is rfl rfl rfl (by decide +kernel) ⟨Nat.le_of_ble_eq_true rfl, Nat.le_of_ble_eq_true rfl⟩) rfl hl.1 rfl (Nat.le_of_ble_eq_true rfl) dX8_altered_205 (fun r49 H locs hr49 hP hD hS => ?_)
                        refine lv_if_eq (tgt := 236) hx hb dX8_altered_208 (by decide) (fun c50 => ?_) (fun c50 => ?_)
                        · refine lv_iload hx hb dX8_altered_236 (lv_at hl 4 rfl) ?_
                          have K62 : ∀ x61 : Int32, x61 = (if x13 = (0 : Int32) then (let r52 : Int32 := (spX8_is p1 (4 : Int32)); (if r52 = (0 : Int32) then (let r54 : Int32 := (spX8_is p1 (3 : Int32)); (if r54 = (0 : Int32) then (0 : Int32) else (if x23 = (0 : Int32) then (0 : Int32) else (1 : Int32)))) else (if x21 = (0 : Int32) then (let r58 : Int32 := (spX8_is p1 (3 : Int32)); (if r58 = (0 : Int32) then (0 : Int32) else (if x23 = (0 : Int32) then (0 : Int32) else (1 : Int32)))) else (1 : Int32)))) else (1 : Int32)) → ∀ (ls : Array Slot) (H : Heap) (locs : List Loc), va_P D vwCl (oh_V a k s19) H → va_D A (oh_V a k s19) → va_S A s.heap H locs → lv_has ls 11 [(5, .int x34), (9, .int x23), (8, .int x21), (7, .int ((p1 >>> ((6 : Int32) &&& 31)) &&& (3 : Int32))), (6, .int x13), (3, .int x5), (4, .int ((p1 >>> ((8 : Int32) &&& 31)) &&& (3 : Int32))), (0, .ref (a 0)), (1, .int p1), (2, .int p2)] → W p l e ({ frames := 2, cells := 0, slots := 0, locals := 41 } : Room) s m (([.ref (a 0), .int p1, .int p2] : List Value).toArray) below meth c H locs 0 0 (oh_Ei below (fun r u => r = (spX8_altered σ p1 p2).1 ∧ u = (spX8_altered σ p1 p2).2) D (oh_V a k) A [.ref (a 0), .int p1, .int p2] s) (F0 m 272 ls [.int x61]) := by
                            intro x61 hx61 ls H locs hP hD hS hl
                            refine lv_istore (lv' := [(6, .int x61), (5, .int x34), (9, .int x23), (8, .int x21), (7, .int ((p1 >>> ((6 : Int32) &&& 31)) &&& (3 : Int32))), (3, .int x5), (4, .int ((p1 >>> ((8 : Int32) &&& 31)) &&& (3 : Int32))), (0, .ref (a 0)), (1, .int p1), (2, .int p2)]) hx hb dX8_altered_272 hl (by decide) rfl (fun ls hl => ?_)
                            exact K109 _ (by subst hx61 hr49; exact ((if_neg c36).trans (if_pos c50)).symm) ls _ _ hP hD hS (lv_sub hl [0, 1, 2, 3, 4, 5, 6, 7, 8, 9] rfl)
                          refine lv_if_ne (tgt := 267) hx hb dX8_altered_238 (by decide) (fun c51 => ?_) (fun c51 => ?_)
                          · refine lv_iconst (v := (1 : Int32)) hx hb dX8_altered_267 (by decide) ?_
                            refine lv_goto (tgt := 272) hx hb dX8_altered_268 (by decide) ?_
                            exact K62 _ (if_neg c51).symm ls _ _ hP hD hS (lv_sub hl [0, 1, 2, 3, 4, 5, 6, 7, 8, 9] rfl)
                          · refine lv_iload_n hx hb dX8_altered_241 rfl (lv_at hl 8 rfl) ?_
                            refine lv_iconst (v := (4 : Int32)) hx hb dX8_altered_242 (by decide) ?_
                            refine oh_csp (As := [.int p1, .int (4 : Int32)]) (rest := []) hC hP hD hS (mtX8_is l a k D s19 p1 (4 : Int32)) (va_cwS 2 hts gX8_altered_X8_is rfl rfl rfl (by decide +kernel) ⟨Nat.le_of_ble_eq_true rfl, Nat.le_of_ble_eq_true rfl⟩) rfl hl.1 rfl (Nat.le_of_ble_eq_true rfl) dX8_altered_243 (fun r52 H locs hr52 hP hD hS => ?_)
                            refine lv_if_eq (tgt := 254) hx hb dX8_altered_246 (by decide) (fun c53 => ?_) (fun c53 => ?_)
                            · refine lv_iload_n hx hb dX8_altered_254 rfl (lv_at hl 8 rfl) ?_
                              refine lv_iconst (v := (3 : Int32)) hx hb dX8_altered_255 (by decide) ?_
                              refine oh_csp (As := [.int p1, .int (3 : Int32)]) (rest := []) hC hP hD hS (mtX8_is l a k D s19 p1 (3 : Int32)) (va_cwS 2 hts gX8_altered_X8_is rfl rfl rfl (by decide +kernel) ⟨Nat.le_of_ble_eq_true rfl, Nat.le_of_ble_eq_true rfl⟩) rfl hl.1 rfl (Nat.le_of_ble_eq_true rfl) dX8_altered_256 (fun r54 H locs hr54 hP hD hS => ?_)
                              refine lv_if_eq (tgt := 271) hx hb dX8_altered_259 (by decide) (fun c55 => ?_) (fun c55 => ?_)
                              · refine lv_iconst (v := (0 : Int32)) hx hb dX8_altered_271 (by decide) ?_
                                exact K62 _ (by subst hr54 hr52; exact (((if_pos c51).trans (if_pos c53)).trans (if_pos c55)).symm) ls _ _ hP hD hS (lv_sub hl [0, 1, 2, 3, 4, 5, 6, 7, 8, 9] rfl)
                              · refine lv_iload hx hb dX8_altered_262 (lv_at hl 1 rfl) ?_
                                refine lv_if_eq (tgt := 271) hx hb dX8_altered_264 (by decide) (fun c56 => ?_) (fun c56 => ?_)
                                · refine lv_iconst (v := (0 : Int32)) hx hb dX8_altered_271 (by decide) ?_
                                  exact K62 _ (by subst hr54 hr52; exact ((((if_pos c51).trans (if_pos c53)).trans (if_neg c55)).trans (if_pos c56)).symm) ls _ _ hP hD hS (lv_sub hl [0, 1, 2, 3, 4, 5, 6, 7, 8, 9] rfl)
                                · refine lv_iconst (v := (1 : Int32)) hx hb dX8_altered_267 (by decide) ?_
                                  refine lv_goto (tgt := 272) hx hb dX8_altered_268 (by decide) ?_
                                  exact K62 _ (by subst hr54 hr52; exact ((((if_pos c51).trans (if_pos c53)).trans (if_neg c55)).trans (if_neg c56)).symm) ls _ _ hP hD hS (lv_sub hl [0, 1, 2, 3, 4, 5, 6, 7, 8, 9] rfl)
                            · refine lv_iload hx hb dX8_altered_249 (lv_at hl 2 rfl) ?_
                              refine lv_if_ne (tgt := 267) hx hb dX8_altered_251 (by decide) (fun c57 => ?_) (fun c57 => ?_)
                              · refine lv_iconst (v := (1 : Int32)) hx hb dX8_altered_267 (by decide) ?_
                                refine lv_goto (tgt := 272) hx hb dX8_altered_268 (by decide) ?_
                                exact K62 _ (by subst hr52; exact (((if_pos c51).trans (if_neg c53)).trans (if_neg c57)).symm) ls _ _ hP hD hS (lv_sub hl [0, 1, 2, 3, 4, 5, 6, 7, 8, 9] rfl)
                              · refine lv_iload_n hx hb dX8_altered_254 rfl (lv_at hl 8 rfl) ?_
                                refine lv_iconst (v := (3 : Int32)) hx hb dX8_altered_255 (by decide) ?_
                                refine oh_csp (As := [.int p1, .int (3 : Int32)]) (rest := []) hC hP hD hS (mtX8_is l a k D s19 p1 (3 : Int32)) (va_cwS 2 hts gX8_altered_X8_is rfl rfl rfl (by decide +kernel) ⟨Nat.le_of_ble_eq_true rfl, Nat.le_of_ble_eq_true rfl⟩) rfl hl.1 rfl (Nat.le_of_ble_eq_true rfl) dX8_altered_256 (fun r58 H locs hr58 hP hD hS => ?_)
                                refine lv_if_eq (tgt := 271) hx hb dX8_altered_259 (by decide) (fun c59 => ?_) (fun c59 => ?_)
                                · refine lv_iconst (v := (0 : Int32)) hx hb dX8_altered_271 (by decide) ?_
                                  exact K62 _ (by subst hr58 hr52; exact ((((if_pos c51).trans (if_neg c53)).trans (if_pos c57)).trans (if_pos c59)).symm) ls _ _ hP hD hS (lv_sub hl [0, 1, 2, 3, 4, 5, 6, 7, 8, 9] rfl)
                                · refine lv_iload hx hb dX8_altered_262 (lv_at hl 1 rfl) ?_
                                  refine lv_if_eq (tgt := 271) hx hb dX8_altered_264 (by decide) (fun c60 => ?_) (fun c60 => ?_)
                                  · refine lv_iconst (v := (0 : Int32)) hx hb dX8_altered_271 (by decide) ?_
                                    exact K62 _ (by subst hr58 hr52; exact (((((if_pos c51).trans (if_neg c53)).trans (if_pos c57)).trans (if_neg c59)).trans (if_pos c60)).symm) ls _ _ hP hD hS (lv_sub hl [0, 1, 2, 3, 4, 5, 6, 7, 8, 9] rfl)
                                  · refine lv_iconst (v := (1 : Int32)) hx hb dX8_altered_267 (by decide) ?_
                                    refine lv_goto (tgt := 272) hx hb dX8_altered_268 (by decide) ?_
                                    exact K62 _ (by subst hr58 hr52; exact (((((if_pos c51).trans (if_neg c53)).trans (if_pos c57)).trans (if_neg c59)).trans (if_neg c60)).symm) ls _ _ hP hD hS (lv_sub hl [0, 1, 2, 3, 4, 5, 6, 7, 8, 9] rfl)
                        · refine lv_iload hx hb dX8_altered_211 (lv_at hl 4 rfl) ?_
                          have K67 : ∀ x66 : Int32, x66 = (if x13 = (0 : Int32) then (if x21 = (0 : Int32) then (0 : Int32) else (if x23 = (0 : Int32) then (0 : Int32) else (1 : Int32))) else (1 : Int32)) → ∀ (ls : Array Slot) (H : Heap) (locs : List Loc), va_P D vwCl (oh_V a k s19) H → va_D A (oh_V a k s19) → va_S A s.heap H locs → lv_has ls 11 [(5, .int x34), (9, .int x23), (8, .int x21), (7, .int ((p1 >>> ((6 : Int32) &&& 31)) &&& (3 : Int32))), (6, .int x13), (3, .int x5), (4, .int ((p1 >>> ((8 : Int32) &&& 31)) &&& (3 : Int32))), (0, .ref (a 0)), (1, .int p1), (2, .int p2)] → W p l e ({ frames := 2, cells := 0, slots := 0, locals := 41 } : Room) s m (([.ref (a 0), .int p1, .int p2] : List Value).toArray) below meth c H locs 0 0 (oh_Ei below (fun r u => r = (spX8_altered σ p1 p2).1 ∧ u = (spX8_altered σ p1 p2).2) D (oh_V a k) A [.ref (a 0), .int p1, .int p2] s) (F0 m 231 ls [.int x66]) := by
                            intro x66 hx66 ls H locs hP hD hS hl
                            refine lv_istore (lv' := [(6, .int x66), (5, .int x34), (9, .int x23), (8, .int x21), (7, .int ((p1 >>> ((6 : Int32) &&& 31)) &&& (3 : Int32))), (3, .int x5), (4, .int ((p1 >>> ((8 : Int32) &&& 31)) &&& (3 : Int32))), (0, .ref (a 0)), (1, .int p1), (2, .int p2)]) hx hb dX8_altered_231 hl (by decide) rfl (fun ls hl => ?_)
                            refine lv_goto (tgt := 274) hx hb dX8_altered_233 (by decide) ?_
                            exact K109 _ (by subst hx66 hr49; exact ((if_neg c36).trans (if_neg c50)).symm) ls _ _ hP hD hS (lv_sub hl [0, 1, 2, 3, 4, 5, 6, 7, 8, 9] rfl)
                          refine lv_if_ne (tgt := 226) hx hb dX8_altered_213 (by decide) (fun c63 => ?_) (fun c63 => ?_)
                          · refine lv_iconst (v := (1 : Int32)) hx hb dX8_altered_226 (by decide) ?_
                            refine lv_goto (tgt := 231) hx hb dX8_altered_227 (by decide) ?_
                            exact K67 _ (if_neg c63).symm ls _ _ hP hD hS (lv_sub hl [0, 1, 2, 3, 4, 5, 6, 7, 8, 9] rfl)
                          · refine lv_iload hx hb dX8_altered_216 (lv_at hl 2 rfl) ?_
                            refine lv_if_eq (tgt := 230) hx hb dX8_altered_218 (by decide) (fun c64 => ?_) (fun c64 => ?_)
                            · refine lv_iconst (v := (0 : Int32)) hx hb dX8_altered_230 (by decide) ?_
                              exact K67 _ ((if_pos c63).trans (if_pos c64)).symm ls _ _ hP hD hS (lv_sub hl [0, 1, 2, 3, 4, 5, 6, 7, 8, 9] rfl)
                            · refine lv_iload hx hb dX8_altered_221 (lv_at hl 1 rfl) ?_
                              refine lv_if_eq (tgt := 230) hx hb dX8_altered_223 (by decide) (fun c65 => ?_) (fun c65 => ?_)
                              · refine lv_iconst (v := (0 : Int32)) hx hb dX8_altered_230 (by decide) ?_
                                exact K67 _ (((if_pos c63).trans (if_neg c64)).trans (if_pos c65)).symm ls _ _ hP hD hS (lv_sub hl [0, 1, 2, 3, 4, 5, 6, 7, 8, 9] rfl)
                              · refine lv_iconst (v := (1 : Int32)) hx hb dX8_altered_226 (by decide) ?_
                                refine lv_goto (tgt := 231) hx hb dX8_altered_227 (by decide) ?_
                                exact K67 _ (((if_pos c63).trans (if_neg c64)).trans (if_neg c65)).symm ls _ _ hP hD hS (lv_sub hl [0, 1, 2, 3, 4, 5, 6, 7, 8, 9] rfl)
                    refine lv_if_ne (tgt := 188) hx hb dX8_altered_159 (by decide) (fun c24 => ?_) (fun c24 => ?_)
                    · refine lv_iconst (v := (1 : Int32)) hx hb dX8_altered_188 (by decide) ?_
                      refine lv_goto (tgt := 193) hx hb dX8_altered_189 (by decide) ?_
                      exact K110 _ (if_neg c24).symm ls _ _ hP hD hS (lv_sub hl [0, 1, 2, 3, 4, 5, 6, 7, 8, 9] rfl)
                    · refine lv_iload_n hx hb dX8_altered_162 rfl (lv_at hl 8 rfl) ?_
                      refine lv_iconst (v := (4 : Int32)) hx hb dX8_altered_163 (by decide) ?_
                      refine oh_csp (As := [.int p1, .int (4 : Int32)]) (rest := []) hC hP hD hS (mtX8_is l a k D s19 p1 (4 : Int32)) (va_cwS 2 hts gX8_altered_X8_is rfl rfl rfl (by decide +kernel) ⟨Nat.le_of_ble_eq_true rfl, Nat.le_of_ble_eq_true rfl⟩) rfl hl.1 rfl (Nat.le_of_ble_eq_true rfl) dX8_altered_164 (fun r25 H locs hr25 hP hD hS => ?_)
                      refine lv_if_eq (tgt := 175) hx hb dX8_altered_167 (by decide) (fun c26 => ?_) (fun c26 => ?_)
                      · refine lv_iload_n hx hb dX8_altered_175 rfl (lv_at hl 8 rfl) ?_
                        refine lv_iconst (v := (3 : Int32)) hx hb dX8_altered_176 (by decide) ?_
                        refine oh_csp (As := [.int p1, .int (3 : Int32)]) (rest := []) hC hP hD hS (mtX8_is l a k D s19 p1 (3 : Int32)) (va_cwS 2 hts gX8_altered_X8_is rfl rfl rfl (by decide +kernel) ⟨Nat.le_of_ble_eq_true rfl, Nat.le_of_ble_eq_true rfl⟩) rfl hl.1 rfl (Nat.le_of_ble_eq_true rfl) dX8_altered_177 (fun r27 H locs hr27 hP hD hS => ?_)
                        refine lv_if_eq (tgt := 192) hx hb dX8_altered_180 (by decide) (fun c28 => ?_) (fun c28 => ?_)
                        · refine lv_iconst (v := (0 : Int32)) hx hb dX8_altered_192 (by decide) ?_
                          exact K110 _ (by subst hr27 hr25; exact (((if_pos c24).trans (if_pos c26)).trans (if_pos c28)).symm) ls _ _ hP hD hS (lv_sub hl [0, 1, 2, 3, 4, 5, 6, 7, 8, 9] rfl)
                        · refine lv_iload hx hb dX8_altered_183 (lv_at hl 0 rfl) ?_
                          refine lv_if_ne (tgt := 192) hx hb dX8_altered_185 (by decide) (fun c29 => ?_) (fun c29 => ?_)
                          · refine lv_iconst (v := (0 : Int32)) hx hb dX8_altered_192 (by decide) ?_
                            exact K110 _ (by subst hr27 hr25; exact ((((if_pos c24).trans (if_pos c26)).trans (if_neg c28)).trans (if_neg c29)).symm) ls _ _ hP hD hS (lv_sub hl [0, 1, 2, 3, 4, 5, 6, 7, 8, 9] rfl)
                          · refine lv_iconst (v := (1 : Int32)) hx hb dX8_altered_188 (by decide) ?_
                            refine lv_goto (tgt := 193) hx hb dX8_altered_189 (by decide) ?_
                            exact K110 _ (by subst hr27 hr25; exact ((((if_pos c24).trans (if_pos c26)).trans (if_neg c28)).trans (if_pos c29)).symm) ls _ _ hP hD hS (lv_sub hl [0, 1, 2, 3, 4, 5, 6, 7, 8, 9] rfl)
                      · refine lv_iload hx hb dX8_altered_170 (lv_at hl 1 rfl) ?_
                        refine lv_if_eq (tgt := 188) hx hb dX8_altered_172 (by decide) (fun c30 => ?_) (fun c30 => ?_)
                        · refine lv_iconst (v := (1 : Int32)) hx hb dX8_altered_188 (by decide) ?_
                          refine lv_goto (tgt := 193) hx hb dX8_altered_189 (by decide) ?_
                          exact K110 _ (by subst hr25; exact (((if_pos c24).trans (if_neg c26)).trans (if_pos c30)).symm) ls _ _ hP hD hS (lv_sub hl [0, 1, 2, 3, 4, 5, 6, 7, 8, 9] rfl)
                        · refine lv_iload_n hx hb dX8_altered_175 rfl (lv_at hl 8 rfl) ?_
                          refine lv_iconst (v := (3 : Int32)) hx hb dX8_altered_176 (by decide) ?_
                          refine oh_csp (As := [.int p1, .int (3 : Int32)]) (rest := []) hC hP hD hS (mtX8_is l a k D s19 p1 (3 : Int32)) (va_cwS 2 hts gX8_altered_X8_is rfl rfl rfl (by decide +kernel) ⟨Nat.le_of_ble_eq_true rfl, Nat.le_of_ble_eq_true rfl⟩) rfl hl.1 rfl (Nat.le_of_ble_eq_true rfl) dX8_altered_177 (fun r31 H locs hr31 hP hD hS => ?_)
                          refine lv_if_eq (tgt := 192) hx hb dX8_altered_180 (by decide) (fun c32 => ?_) (fun c32 => ?_)
                          · refine lv_iconst (v := (0 : Int32)) hx hb dX8_altered_192 (by decide) ?_
                            exact K110 _ (by subst hr31 hr25; exact ((((if_pos c24).trans (if_neg c26)).trans (if_neg c30)).trans (if_pos c32)).symm) ls _ _ hP hD hS (lv_sub hl [0, 1, 2, 3, 4, 5, 6, 7, 8, 9] rfl)
                          · refine lv_iload hx hb dX8_altered_183 (lv_at hl 0 rfl) ?_
                            refine lv_if_ne (tgt := 192) hx hb dX8_altered_185 (by decide) (fun c33 => ?_) (fun c33 => ?_)
                            · refine lv_iconst (v := (0 : Int32)) hx hb dX8_altered_192 (by decide) ?_
                              exact K110 _ (by subst hr31 hr25; exact (((((if_pos c24).trans (if_neg c26)).trans (if_neg c30)).trans (if_neg c32)).trans (if_neg c33)).symm) ls _ _ hP hD hS (lv_sub hl [0, 1, 2, 3, 4, 5, 6, 7, 8, 9] rfl)
                            · refine lv_iconst (v := (1 : Int32)) hx hb dX8_altered_188 (by decide) ?_
                              refine lv_goto (tgt := 193) hx hb dX8_altered_189 (by decide) ?_
                              exact K110 _ (by subst hr31 hr25; exact (((((if_pos c24).trans (if_neg c26)).trans (if_neg c30)).trans (if_neg c32)).trans (if_pos c33)).symm) ls _ _ hP hD hS (lv_sub hl [0, 1, 2, 3, 4, 5, 6, 7, 8, 9] rfl)
                  refine lv_icmp_ne (tgt := 154) hx hb dX8_altered_147 (by decide) (fun c22 => ?_) (fun c22 => ?_)
                  · refine lv_iconst (v := (0 : Int32)) hx hb dX8_altered_154 (by decide) ?_
                    exact K111 _ (if_neg c22).symm ls _ _ hP hD hS (lv_sub hl [0, 1, 2, 3, 4, 5, 6, 7, 8] rfl)
                  · refine lv_iconst (v := (1 : Int32)) hx hb dX8_altered_150 (by decide) ?_
                    refine lv_goto (tgt := 155) hx hb dX8_altered_151 (by decide) ?_
                    exact K111 _ (if_pos c22).symm ls _ _ hP hD hS (lv_sub hl [0, 1, 2, 3, 4, 5, 6, 7, 8] rfl)
                refine lv_icmp_ne (tgt := 140) hx hb dX8_altered_133 (by decide) (fun c20 => ?_) (fun c20 => ?_)
                · refine lv_iconst (v := (0 : Int32)) hx hb dX8_altered_140 (by decide) ?_
                  exact K112 _ (if_neg c20).symm ls _ _ hP hD hS (lv_sub hl [0, 1, 2, 3, 4, 5, 6, 7] rfl)
                · refine lv_iconst (v := (1 : Int32)) hx hb dX8_altered_136 (by decide) ?_
                  refine lv_goto (tgt := 141) hx hb dX8_altered_137 (by decide) ?_
                  exact K112 _ (if_pos c20).symm ls _ _ hP hD hS (lv_sub hl [0, 1, 2, 3, 4, 5, 6, 7] rfl)
              refine lv_icmp_ne (tgt := 128) hx hb dX8_altered_120 (by decide) (fun c18 => ?_) (fun c18 => ?_)
              · exact K113 _ (if_neg c18).symm ls _ _ hP hD hS (lv_sub hl [0, 1, 2, 3, 4, 5, 6, 7] rfl)
              · refine lv_aload_n hx hb dX8_altered_123 rfl (lv_at hl 5 rfl) ?_
                refine lv_iconst (v := (1 : Int32)) hx hb dX8_altered_124 (by decide) ?_
                refine oh_put (σ' := (oh_up s17 0 4 (1 : Int32))) (v := .int (1 : Int32)) hC hP hD hS inX8_altered_X8 tyX8 tyX8_ok nmX8 0 rfl rfl 5 (by decide) (by decide +kernel) rfl rfl rfl (by simp) rfl dX8_altered_125 (fun H locs hP hD hS => ?_)
                exact K113 _ (if_pos c18).symm ls _ _ hP hD hS (lv_sub hl [0, 1, 2, 3, 4, 5, 6, 7] rfl)
            refine lv_icmp_ne (tgt := 117) hx hb dX8_altered_104 (by decide) (fun c16 => ?_) (fun c16 => ?_)
            · exact K114 _ (if_neg c16).symm ls _ _ hP hD hS (lv_sub hl [0, 1, 2, 3, 4, 5, 6, 7] rfl)
            · refine lv_aload_n hx hb dX8_altered_107 rfl (lv_at hl 5 rfl) ?_
              refine lv_iconst (v := (1 : Int32)) hx hb dX8_altered_108 (by decide) ?_
              refine lv_aload_n hx hb dX8_altered_109 rfl (lv_at hl 5 rfl) ?_
              refine oh_get (v := .int (s15 0 4)) hC hP inX8_altered_X8 0 rfl rfl 5 (by decide) (by decide +kernel) rfl dX8_altered_110 ?_
              refine lv_isub hx hb dX8_altered_113 ?_
              refine oh_put (σ' := (oh_up s15 0 4 ((1 : Int32) - (s15 0 4)))) (v := .int ((1 : Int32) - (s15 0 4))) hC hP hD hS inX8_altered_X8 tyX8 tyX8_ok nmX8 0 rfl rfl 5 (by decide) (by decide +kernel) rfl rfl rfl (by simp) rfl dX8_altered_114 (fun H locs hP hD hS => ?_)
              exact K114 _ (if_pos c16).symm ls _ _ hP hD hS (lv_sub hl [0, 1, 2, 3, 4, 5, 6, 7] rfl)
          refine lv_icmp_ne (tgt := 101) hx hb dX8_altered_93 (by decide) (fun c14 => ?_) (fun c14 => ?_)
          · exact K115 _ (if_neg c14).symm ls _ _ hP hD hS (lv_sub hl [0, 1, 2, 3, 4, 5, 6, 7] rfl)
          · refine lv_aload_n hx hb dX8_altered_96 rfl (lv_at hl 5 rfl) ?_
            refine lv_iconst (v := (0 : Int32)) hx hb dX8_altered_97 (by decide) ?_
            refine oh_put (σ' := (oh_up σ 0 4 (0 : Int32))) (v := .int (0 : Int32)) hC hP hD hS inX8_altered_X8 tyX8 tyX8_ok nmX8 0 rfl rfl 5 (by decide) (by decide +kernel) rfl rfl rfl (by simp) rfl dX8_altered_98 (fun H locs hP hD hS => ?_)
            exact K115 _ (if_pos c14).symm ls _ _ hP hD hS (lv_sub hl [0, 1, 2, 3, 4, 5, 6, 7] rfl)
        refine lv_if_eq (tgt := 79) hx hb dX8_altered_64 (by decide) (fun c11 => ?_) (fun c11 => ?_)
        · refine lv_iconst (v := (0 : Int32)) hx hb dX8_altered_79 (by decide) ?_
          exact K116 _ (if_pos c11).symm ls _ _ hP hD hS (lv_sub hl [0, 1, 2, 3, 4, 5] rfl)
        · refine lv_aload_n hx hb dX8_altered_67 rfl (lv_at hl 3 rfl) ?_
          refine oh_get (v := .int (σ 0 4)) hC hP inX8_altered_X8 0 rfl rfl 5 (by decide) (by decide +kernel) rfl dX8_altered_68 ?_
          refine lv_iconst (v := (1 : Int32)) hx hb dX8_altered_71 (by decide) ?_
          refine lv_icmp_ne (tgt := 79) hx hb dX8_altered_72 (by decide) (fun c12 => ?_) (fun c12 => ?_)
          · refine lv_iconst (v := (0 : Int32)) hx hb dX8_altered_79 (by decide) ?_
            exact K116 _ ((if_neg c11).trans (if_neg c12)).symm ls _ _ hP hD hS (lv_sub hl [0, 1, 2, 3, 4, 5] rfl)
          · refine lv_iconst (v := (1 : Int32)) hx hb dX8_altered_75 (by decide) ?_
            refine lv_goto (tgt := 80) hx hb dX8_altered_76 (by decide) ?_
            exact K116 _ ((if_neg c11).trans (if_pos c12)).symm ls _ _ hP hD hS (lv_sub hl [0, 1, 2, 3, 4, 5] rfl)
      refine lv_if_eq (tgt := 56) hx hb dX8_altered_42 (by decide) (fun c7 => ?_) (fun c7 => ?_)
      · refine lv_iconst (v := (0 : Int32)) hx hb dX8_altered_56 (by decide) ?_
        exact K117 _ (if_pos c7).symm ls _ _ hP hD hS (lv_sub hl [0, 1, 2, 3, 4] rfl)
      · refine lv_aload_n hx hb dX8_altered_45 rfl (lv_at hl 2 rfl) ?_
        refine oh_get (v := .int (σ 0 4)) hC hP inX8_altered_X8 0 rfl rfl 5 (by decide) (by decide +kernel) rfl dX8_altered_46 ?_
        refine lv_if_ne (tgt := 56) hx hb dX8_altered_49 (by decide) (fun c8 => ?_) (fun c8 => ?_)
        · refine lv_iconst (v := (0 : Int32)) hx hb dX8_altered_56 (by decide) ?_
          exact K117 _ ((if_neg c7).trans (if_neg c8)).symm ls _ _ hP hD hS (lv_sub hl [0, 1, 2, 3, 4] rfl)
        · refine lv_iconst (v := (1 : Int32)) hx hb dX8_altered_52 (by decide) ?_
          refine lv_goto (tgt := 57) hx hb dX8_altered_53 (by decide) ?_
          exact K117 _ ((if_neg c7).trans (if_pos c8)).symm ls _ _ hP hD hS (lv_sub hl [0, 1, 2, 3, 4] rfl)
    refine lv_icmp_le (tgt := 37) hx hb dX8_altered_27 (by decide) (fun c4 => ?_) (fun c4 => ?_)
    · exact K118 _ (if_pos c4).symm ls _ _ hP hD hS (lv_sub hl [0, 1, 2, 3, 4] rfl)
    · refine lv_iload_n hx hb dX8_altered_30 rfl (lv_at hl 0 rfl) ?_
      refine lv_iconst (v := (-1 : Int32)) hx hb dX8_altered_31 (by decide) ?_
      refine lv_ixor hx hb dX8_altered_32 ?_
      refine lv_ldc (v := (65535 : Int32)) hx hb hown (hts (.constant RX8 102 (65535)) (by decide +kernel)) dX8_altered_33 ?_
      refine lv_iand hx hb dX8_altered_35 ?_
      refine lv_istore_n (lv' := [(3, .int ((x3 ^^^ (-1 : Int32)) &&& (65535 : Int32))), (4, .int ((p1 >>> ((8 : Int32) &&& 31)) &&& (3 : Int32))), (0, .ref (a 0)), (1, .int p1), (2, .int p2)]) hx hb dX8_altered_36 rfl hl (by decide) rfl (fun ls hl => ?_)
      exact K118 _ (if_neg c4).symm ls _ _ hP hD hS (lv_sub hl [0, 1, 2, 3, 4] rfl)
  refine lv_icmp_eq (tgt := 22) hx hb dX8_altered_13 (by decide) (fun c1 => ?_) (fun c1 => ?_)
  · refine lv_iconst (v := (0 : Int32)) hx hb dX8_altered_22 (by decide) ?_
    refine lv_istore_n (lv' := [(3, .int (0 : Int32)), (4, .int ((p1 >>> ((8 : Int32) &&& 31)) &&& (3 : Int32))), (0, .ref (a 0)), (1, .int p1), (2, .int p2)]) hx hb dX8_altered_23 rfl hl (by decide) rfl (fun ls hl => ?_)
    exact K119 _ (if_pos c1).symm ls _ _ hP hD hS (lv_sub hl [0, 1, 2, 3, 4] rfl)
  · refine lv_iload hx hb dX8_altered_16 (lv_at hl 0 rfl) ?_
    refine lv_iconst (v := (3 : Int32)) hx hb dX8_altered_18 (by decide) ?_
    refine lv_icmp_ne (tgt := 24) hx hb dX8_altered_19 (by decide) (fun c2 => ?_) (fun c2 => ?_)
    · exact K119 _ ((if_neg c1).trans (if_neg c2)).symm ls _ _ hP hD hS (lv_sub hl [1, 0, 2, 3, 4] rfl)
    · refine lv_iconst (v := (0 : Int32)) hx hb dX8_altered_22 (by decide) ?_
      refine lv_istore_n (lv' := [(3, .int (0 : Int32)), (4, .int ((p1 >>> ((8 : Int32) &&& 31)) &&& (3 : Int32))), (0, .ref (a 0)), (1, .int p1), (2, .int p2)]) hx hb dX8_altered_23 rfl hl (by decide) rfl (fun ls hl => ?_)
      exact K119 _ ((if_neg c1).trans (if_pos c2)).symm ls _ _ hP hD hS (lv_sub hl [0, 1, 2, 3, 4] rfl)
-- OctalHouseModel.registers
theorem inX8_registers_X8 : ∀ w ∈ u_ws RX8 TX8 35, w ∈ wsX8_registers := by decide +kernel
def spX8_registers_k32 (r1 : Int32) (x29 : Int32) (s30 : oh_St) : oh_St := (if r1 = (0 : Int32) then (oh_up s30 0 14 x29) else (oh_up s30 0 15 x29))
def spX8_registers_k33 (σ : oh_St) (p1 : Int32) (r1 : Int32) (x3 : Int32) : oh_St := (let r4 : Int32 := (spX8_is p1 (10 : Int32)); (let x29 : Int32 := (if r4 = (0 : Int32) then (let r6 : Int32 := (spX8_is p1 (9 : Int32)); (let x10 : Int32 := (if r6 = (0 : Int32) then x3 else (let r8 : Int32 := (spX8_shifted σ x3 ((p1 >>> ((6 : Int32) &&& 31)) &&& (7 : Int32))).1; (let s9 : oh_St := (spX8_shifted σ x3 ((p1 >>> ((6 : Int32) &&& 31)) &&& (7 : Int32))).2; r8))); (let s11 : oh_St := (if r6 = (0 : Int32) then σ else (let r8 : Int32 := (spX8_shifted σ x3 ((p1 >>> ((6 : Int32) &&& 31)) &&& (7 : Int32))).1; (let s9 : oh_St := (spX8_shifted σ x3 ((p1 >>> ((6 : Int32) &&& 31)) &&& (7 : Int32))).2; s9))); (let r12 : Int32 := (spX8_is p1 (5 : Int32)); (let s14 : oh_St := (if r12 = (0 : Int32) then s11 else (oh_up s11 0 4 (0 : Int32))); (let r15 : Int32 := (spX8_is p1 (3 : Int32)); (let x18 : Int32 := (if r15 = (0 : Int32) then (0 : Int32) else (if (x10 &&& (1 : Int32)) = (0 : Int32) then (1 : Int32) else (0 : Int32))); (let s19 : oh_St := (spX8_skip s14 x18); (let r20 : Int32 := (spX8_is p1 (4 : Int32)); (if r20 = (0 : Int32) then x10 else (let r22 : Int32 := (spX8_shifted s19 x10 (p1 &&& (7 : Int32))).1; (let s23 : oh_St := (spX8_shifted s19 x10 (p1 &&& (7 : Int32))).2; r22)))))))))))) else (let r27 : Int32 := (spX8_altered σ p1 x3).1; (let s28 : oh_St := (spX8_altered σ p1 x3).2; r27))); (let s30 : oh_St := (if r4 = (0 : Int32) then (let r6 : Int32 := (spX8_is p1 (9 : Int32)); (let x10 : Int32 := (if r6 = (0 : Int32) then x3 else (let r8 : Int32 := (spX8_shifted σ x3 ((p1 >>> ((6 : Int32) &&& 31)) &&& (7 : Int32))).1; (let s9 : oh_St := (spX8_shifted σ x3 ((p1 >>> ((6 : Int32) &&& 31)) &&& (7 : Int32))).2; r8))); (let s11 : oh_St := (if r6 = (0 : Int32) then σ else (let r8 : Int32 := (spX8_shifted σ x3 ((p1 >>> ((6 : Int32) &&& 31)) &&& (7 : Int32))).1; (let s9 : oh_St := (spX8_shifted σ x3 ((p1 >>> ((6 : Int32) &&& 31)) &&& (7 : Int32))).2; s9))); (let r12 : Int32 := (spX8_is p1 (5 : Int32)); (let s14 : oh_St := (if r12 = (0 : Int32) then s11 else (oh_up s11 0 4 (0 : Int32))); (let r15 : Int32 := (spX8_is p1 (3 : Int32)); (let x18 : Int32 := (if r15 = (0 : Int32) then (0 : Int32) else (if (x10 &&& (1 : Int32)) = (0 : Int32) then (1 : Int32) else (0 : Int32))); (let s19 : oh_St := (spX8_skip s14 x18); (let r20 : Int32 := (spX8_is p1 (4 : Int32)); (if r20 = (0 : Int32) then s19 else (let r22 : Int32 := (spX8_shifted s19 x10 (p1 &&& (7 : Int32))).1; (let s23 : oh_St := (spX8_shifted s19 x10 (p1 &&& (7 : Int32))).2; s23)))))))))))) else (let r27 : Int32 := (spX8_altered σ p1 x3).1; (let s28 : oh_St := (spX8_altered σ p1 x3).2; s28))); (spX8_registers_k32 r1 x29 s30))))
def spX8_registers (σ : oh_St) (p1 : Int32) : oh_St := (let r1 : Int32 := (spX8_is p1 (11 : Int32)); (let x3 : Int32 := (if r1 = (0 : Int32) then (σ 0 14) else (σ 0 15)); (spX8_registers_k33 σ p1 r1 x3)))
set_option maxHeartbeats 8000000 in
set_option maxRecDepth 100000 in
theorem mtX8_registers (l : Launch) (a : Nat → Nat) (k : Nat → ClassId) (D : va_G) (σ : oh_St) (p1 : Int32) : oh_Mv l yX8_registers wsX8_registers { frames := 3, cells := 0, slots := 0, locals := 71 } D (oh_ty k) (oh_V a k) [.ref (a 0), .int p1] σ (fun u => u = spX8_registers σ p1) := by
  refine oh_inv (cc := cX8_registers) (nL := 4) (rt := none) (by decide) rfl (Nat.le_of_ble_eq_true rfl) ?_
  intro p e s m below meth c A ls hC hP hD hS hl
  obtain ⟨hx, hb, hml, hown, hts, hr, hlocks, hK, hN, hA⟩ := id hC
  have hl : lv_has ls 4 [(0, .ref (a 0)), (1, .int p1)] := hl
  refine lv_iload_n hx hb dX8_registers_0 rfl (lv_at hl 1 rfl) ?_
  refine lv_bipush (v := (11 : Int32)) hx hb dX8_registers_1 (by decide) ?_
  refine oh_csp (As := [.int p1, .int (11 : Int32)]) (rest := []) hC hP hD hS (mtX8_is l a k D σ p1 (11 : Int32)) (va_cwS 2 hts gX8_registers_X8_is rfl rfl rfl (by decide +kernel) ⟨Nat.le_of_ble_eq_true rfl, Nat.le_of_ble_eq_true rfl⟩) rfl hl.1 rfl (Nat.le_of_ble_eq_true rfl) dX8_registers_3 (fun r1 H locs hr1 hP hD hS => ?_)
  refine lv_istore_n (lv' := [(2, .int r1), (0, .ref (a 0)), (1, .int p1)]) hx hb dX8_registers_6 rfl hl (by decide) rfl (fun ls hl => ?_)
  refine lv_iload_n hx hb dX8_registers_7 rfl (lv_at hl 0 rfl) ?_
  have K33 : ∀ x3 : Int32, x3 = (if r1 = (0 : Int32) then (σ 0 14) else (σ 0 15)) → ∀ (ls : Array Slot) (H : Heap) (locs : List Loc), va_P D vwCl (oh_V a k σ) H → va_D A (oh_V a k σ) → va_S A s.heap H locs → lv_has ls 4 [(2, .int r1), (0, .ref (a 0)), (1, .int p1)] → W p l e ({ frames := 3, cells := 0, slots := 0, locals := 71 } : Room) s m (([.ref (a 0), .int p1] : List Value).toArray) below meth c H locs 0 0 (oh_Ev below (fun u => u = spX8_registers σ p1) D (oh_V a k) A [.ref (a 0), .int p1] s) (F0 m 22 ls [.int x3]) := by
    intro x3 hx3 ls H locs hP hD hS hl
    have hK33 : spX8_registers_k33 σ p1 r1 x3 = spX8_registers σ p1 := by
      subst hx3 hr1
      exact rfl
    refine lv_istore_n (lv' := [(3, .int x3), (2, .int r1), (0, .ref (a 0)), (1, .int p1)]) hx hb dX8_registers_22 rfl hl (by decide) rfl (fun ls hl => ?_)
    refine lv_iload_n hx hb dX8_registers_23 rfl (lv_at hl 3 rfl) ?_
    refine lv_bipush (v := (10 : Int32)) hx hb dX8_registers_24 (by decide) ?_
    refine oh_csp (As := [.int p1, .int (10 : Int32)]) (rest := []) hC hP hD hS (mtX8_is l a k D σ p1 (10 : Int32)) (va_cwS 2 hts gX8_registers_X8_is rfl rfl rfl (by decide +kernel) ⟨Nat.le_of_ble_eq_true rfl, Nat.le_of_ble_eq_true rfl⟩) rfl hl.1 rfl (Nat.le_of_ble_eq_true rfl) dX8_registers_26 (fun r4 H locs hr4 hP hD hS => ?_)
    have K32 : ∀ x29 : Int32, x29 = (if r4 = (0 : Int32) then (let r6 : Int32 := (spX8_is p1 (9 : Int32)); (let x10 : Int32 := (if r6 = (0 : Int32) then x3 else (let r8 : Int32 := (spX8_shifted σ x3 ((p1 >>> ((6 : Int32) &&& 31)) &&& (7 : Int32))).1; (let s9 : oh_St := (spX8_shifted σ x3 ((p1 >>> ((6 : Int32) &&& 31)) &&& (7 : Int32))).2; r8))); (let s11 : oh_St := (if r6 = (0 : Int32) then σ else (let r8 : Int32 := (spX8_shifted σ x3 ((p1 >>> ((6 : Int32) &&& 31)) &&& (7 : Int32))).1; (let s9 : oh_St := (spX8_shifted σ x3 ((p1 >>> ((6 : Int32) &&& 31)) &&& (7 : Int32))).2; s9))); (let r12 : Int32 := (spX8_is p1 (5 : Int32)); (let s14 : oh_St := (if r12 = (0 : Int32) then s11 else (oh_up s11 0 4 (0 : Int32))); (let r15 : Int32 := (spX8_is p1 (3 : Int32)); (let x18 : Int32 := (if r15 = (0 : Int32) then (0 : Int32) else (if (x10 &&& (1 : Int32)) = (0 : Int32) then (1 : Int32) else (0 : Int32))); (let s19 : oh_St := (spX8_skip s14 x18); (let r20 : Int32 := (spX8_is p1 (4 : Int32)); (if r20 = (0 : Int32) then x10 else (let r22 : Int32 := (spX8_shifted s19 x10 (p1 &&& (7 : Int32))).1; (let s23 : oh_St := (spX8_shifted s19 x10 (p1 &&& (7 : Int32))).2; r22)))))))))))) else (let r27 : Int32 := (spX8_altered σ p1 x3).1; (let s28 : oh_St := (spX8_altered σ p1 x3).2; r27))) → ∀ s30 : oh_St, s30 = (if r4 = (0 : Int32) then (let r6 : Int32 := (spX8_is p1 (9 : Int32)); (let x10 : Int32 := (if r6 = (0 : Int32) then x3 else (let r8 : Int32 := (spX8_shifted σ x3 ((p1 >>> ((6 : Int32) &&& 31)) &&& (7 : Int32))).1; (let s9 : oh_St := (spX8_shifted σ x3 ((p1 >>> ((6 : Int32) &&& 31)) &&& (7 : Int32))).2; r8))); (let s11 : oh_St := (if r6 = (0 : Int32) then σ else (let r8 : Int32 := (spX8_shifted σ x3 ((p1 >>> ((6 : Int32) &&& 31)) &&& (7 : Int32))).1; (let s9 : oh_St := (spX8_shifted σ x3 ((p1 >>> ((6 : Int32) &&& 31)) &&& (7 : Int32))).2; s9))); (let r12 : Int32 := (spX8_is p1 (5 : Int32)); (let s14 : oh_St := (if r12 = (0 : Int32) then s11 else (oh_up s11 0 4 (0 : Int32))); (let r15 : Int32 := (spX8_is p1 (3 : Int32)); (let x18 : Int32 := (if r15 = (0 : Int32) then (0 : Int32) else (if (x10 &&& (1 : Int32)) = (0 : Int32) then (1 : Int32) else (0 : Int32))); (let s19 : oh_St := (spX8_skip s14 x18); (let r20 : Int32 := (spX8_is p1 (4 : Int32)); (if r20 = (0 : Int32) then s19 else (let r22 : Int32 := (spX8_shifted s19 x10 (p1 &&& (7 : Int32))).1; (let s23 : oh_St := (spX8_shifted s19 x10 (p1 &&& (7 : Int32))).2; s23)))))))))))) else (let r27 : Int32 := (spX8_altered σ p1 x3).1; (let s28 : oh_St := (spX8_altered σ p1 x3).2; s28))) → ∀ (ls : Array Slot) (H : Heap) (locs : List Loc), va_P D vwCl (oh_V a k s30) H → va_D A (oh_V a k s30) → va_S A s.heap H locs → lv_has ls 4 [(3, .int x29), (2, .int r1), (0, .ref (a 0)), (1, .int p1)] → W p l e ({ frames := 3, cells := 0, slots := 0, locals := 71 } : Room) s m (([.ref (a 0), .int p1] : List Value).toArray) below meth c H locs 0 0 (oh_Ev below (fun u => u = spX8_registers σ p1) D (oh_V a k) A [.ref (a 0), .int p1] s) (F0 m 118 ls []) := by
      intro x29 hx29 s30 hs30 ls H locs hP hD hS hl
      have hK32 : spX8_registers_k32 r1 x29 s30 = spX8_registers σ p1 := by
        subst hs30 hx29 hr4
        exact hK33
      refine lv_iload_n hx hb dX8_registers_118 rfl (lv_at hl 1 rfl) ?_
      refine lv_if_eq (tgt := 130) hx hb dX8_registers_119 (by decide) (fun c31 => ?_) (fun c31 => ?_)
      · refine lv_aload_n hx hb dX8_registers_130 rfl (lv_at hl 2 rfl) ?_
        refine lv_iload_n hx hb dX8_registers_131 rfl (lv_at hl 0 rfl) ?_
        refine oh_put (σ' := (oh_up s30 0 14 x29)) (v := .int x29) hC hP hD hS inX8_registers_X8 tyX8 tyX8_ok nmX8 0 rfl rfl 2 (by decide) (by decide +kernel) rfl rfl rfl (by simp) rfl dX8_registers_132 (fun H locs hP hD hS => ?_)
        exact oh_retv (u := (oh_up s30 0 14 x29)) hC hP hD hS (by exact ((if_pos c31).symm).trans hK32) dX8_registers_135
      · refine lv_aload_n hx hb dX8_registers_122 rfl (lv_at hl 2 rfl) ?_
        refine lv_iload_n hx hb dX8_registers_123 rfl (lv_at hl 0 rfl) ?_
        refine oh_put (σ' := (oh_up s30 0 15 x29)) (v := .int x29) hC hP hD hS inX8_registers_X8 tyX8 tyX8_ok nmX8 0 rfl rfl 3 (by decide) (by decide +kernel) rfl rfl rfl (by simp) rfl dX8_registers_124 (fun H locs hP hD hS => ?_)
        refine lv_goto (tgt := 135) hx hb dX8_registers_127 (by decide) ?_
        exact oh_retv (u := (oh_up s30 0 15 x29)) hC hP hD hS (by exact ((if_neg c31).symm).trans hK32) dX8_registers_135
    refine lv_if_eq (tgt := 42) hx hb dX8_registers_29 (by decide) (fun c5 => ?_) (fun c5 => ?_)
    · refine lv_iload_n hx hb dX8_registers_42 rfl (lv_at hl 3 rfl) ?_
      refine lv_bipush (v := (9 : Int32)) hx hb dX8_registers_43 (by decide) ?_
      refine oh_csp (As := [.int p1, .int (9 : Int32)]) (rest := []) hC hP hD hS (mtX8_is l a k D σ p1 (9 : Int32)) (va_cwS 2 hts gX8_registers_X8_is rfl rfl rfl (by decide +kernel) ⟨Nat.le_of_ble_eq_true rfl, Nat.le_of_ble_eq_true rfl⟩) rfl hl.1 rfl (Nat.le_of_ble_eq_true rfl) dX8_registers_45 (fun r6 H locs hr6 hP hD hS => ?_)
      have K26 : ∀ x10 : Int32, x10 = (if r6 = (0 : Int32) then x3 else (let r8 : Int32 := (spX8_shifted σ x3 ((p1 >>> ((6 : Int32) &&& 31)) &&& (7 : Int32))).1; (let s9 : oh_St := (spX8_shifted σ x3 ((p1 >>> ((6 : Int32) &&& 31)) &&& (7 : Int32))).2; r8))) → ∀ s11 : oh_St, s11 = (if r6 = (0 : Int32) then σ else (let r8 : Int32 := (spX8_shifted σ x3 ((p1 >>> ((6 : Int32) &&& 31)) &&& (7 : Int32))).1; (let s9 : oh_St := (spX8_shifted σ x3 ((p1 >>> ((6 : Int32) &&& 31)) &&& (7 : Int32))).2; s9))) → ∀ (ls : Array Slot) (H : Heap) (locs : List Loc), va_P D vwCl (oh_V a k s11) H → va_D A (oh_V a k s11) → va_S A s.heap H locs → lv_has ls 4 [(3, .int x10), (2, .int r1), (0, .ref (a 0)), (1, .int p1)] → W p l e ({ frames := 3, cells := 0, slots := 0, locals := 71 } : Room) s m (([.ref (a 0), .int p1] : List Value).toArray) below meth c H locs 0 0 (oh_Ev below (fun u => u = spX8_registers σ p1) D (oh_V a k) A [.ref (a 0), .int p1] s) (F0 m 64 ls []) := by
        intro x10 hx10 s11 hs11 ls H locs hP hD hS hl
        refine lv_iload_n hx hb dX8_registers_64 rfl (lv_at hl 3 rfl) ?_
        refine lv_iconst (v := (5 : Int32)) hx hb dX8_registers_65 (by decide) ?_
        refine oh_csp (As := [.int p1, .int (5 : Int32)]) (rest := []) hC hP hD hS (mtX8_is l a k D s11 p1 (5 : Int32)) (va_cwS 2 hts gX8_registers_X8_is rfl rfl rfl (by decide +kernel) ⟨Nat.le_of_ble_eq_true rfl, Nat.le_of_ble_eq_true rfl⟩) rfl hl.1 rfl (Nat.le_of_ble_eq_true rfl) dX8_registers_66 (fun r12 H locs hr12 hP hD hS => ?_)
        have K25 : ∀ s14 : oh_St, s14 = (if r12 = (0 : Int32) then s11 else (oh_up s11 0 4 (0 : Int32))) → ∀ (ls : Array Slot) (H : Heap) (locs : List Loc), va_P D vwCl (oh_V a k s14) H → va_D A (oh_V a k s14) → va_S A s.heap H locs → lv_has ls 4 [(3, .int x10), (2, .int r1), (0, .ref (a 0)), (1, .int p1)] → W p l e ({ frames := 3, cells := 0, slots := 0, locals := 71 } : Room) s m (([.ref (a 0), .int p1] : List Value).toArray) below meth c H locs 0 0 (oh_Ev below (fun u => u = spX8_registers σ p1) D (oh_V a k) A [.ref (a 0), .int p1] s) (F0 m 77 ls []) := by
          intro s14 hs14 ls H locs hP hD hS hl
          refine lv_aload_n hx hb dX8_registers_77 rfl (lv_at hl 2 rfl) ?_
          refine lv_iload_n hx hb dX8_registers_78 rfl (lv_at hl 3 rfl) ?_
          refine lv_iconst (v := (3 : Int32)) hx hb dX8_registers_79 (by decide) ?_
          refine oh_csp (As := [.int p1, .int (3 : Int32)]) (rest := [.ref (a 0)]) hC hP hD hS (mtX8_is l a k D s14 p1 (3 : Int32)) (va_cwS 2 hts gX8_registers_X8_is rfl rfl rfl (by decide +kernel) ⟨Nat.le_of_ble_eq_true rfl, Nat.le_of_ble_eq_true rfl⟩) rfl hl.1 rfl (Nat.le_of_ble_eq_true rfl) dX8_registers_80 (fun r15 H locs hr15 hP hD hS => ?_)
          have K24 : ∀ x18 : Int32, x18 = (if r15 = (0 : Int32) then (0 : Int32) else (if (x10 &&& (1 : Int32)) = (0 : Int32) then (1 : Int32) else (0 : Int32))) → ∀ (ls : Array Slot) (H : Heap) (locs : List Loc), va_P D vwCl (oh_V a k s14) H → va_D A (oh_V a k s14) → va_S A s.heap H locs → lv_has ls 4 [(3, .int x10), (2, .int r1), (0, .ref (a 0)), (1, .int p1)] → W p l e ({ frames := 3, cells := 0, slots := 0, locals := 71 } : Room) s m (([.ref (a 0), .int p1] : List Value).toArray) below meth c H locs 0 0 (oh_Ev below (fun u => u = spX8_registers σ p1) D (oh_V a k) A [.ref (a 0), .int p1] s) (F0 m 97 ls [.int x18, .ref (a 0)]) := by
            intro x18 hx18 ls H locs hP hD hS hl
            refine oh_cvv (As := [.int x18]) (rest := []) hC hP hD hS (mtX8_skip l a k D s14 x18) (cwV 1 hts gX8_registers_X8_skip rfl rfl rfl (by decide +kernel) ⟨Nat.le_of_ble_eq_true rfl, Nat.le_of_ble_eq_true rfl⟩) 0 8 rfl rfl rfl hl.1 rfl (Nat.le_of_ble_eq_true rfl) dX8_registers_97 (fun s19 H locs hs19 hP hD hS => ?_)
            refine lv_iload_n hx hb dX8_registers_100 rfl (lv_at hl 3 rfl) ?_
            refine lv_iconst (v := (4 : Int32)) hx hb dX8_registers_101 (by decide) ?_
            refine oh_csp (As := [.int p1, .int (4 : Int32)]) (rest := []) hC hP hD hS (mtX8_is l a k D s19 p1 (4 : Int32)) (va_cwS 2 hts gX8_registers_X8_is rfl rfl rfl (by decide +kernel) ⟨Nat.le_of_ble_eq_true rfl, Nat.le_of_ble_eq_true rfl⟩) rfl hl.1 rfl (Nat.le_of_ble_eq_true rfl) dX8_registers_102 (fun r20 H locs hr20 hP hD hS => ?_)
            refine lv_if_eq (tgt := 118) hx hb dX8_registers_105 (by decide) (fun c21 => ?_) (fun c21 => ?_)
            · exact K32 _ (by subst hr20 hs19 hx18 hr15 hs14 hr12 hs11 hx10 hr6; exact ((if_pos c5).trans (if_pos c21)).symm) _ (by subst hr20 hs19 hx18 hr15 hs14 hr12 hs11 hx10 hr6; exact ((if_pos c5).trans (if_pos c21)).symm) ls _ _ hP hD hS (lv_sub hl [0, 1, 2, 3] rfl)
            · refine lv_aload_n hx hb dX8_registers_108 rfl (lv_at hl 2 rfl) ?_
              refine lv_iload_n hx hb dX8_registers_109 rfl (lv_at hl 0 rfl) ?_
              refine lv_iload_n hx hb dX8_registers_110 rfl (lv_at hl 3 rfl) ?_
              refine lv_bipush (v := (7 : Int32)) hx hb dX8_registers_111 (by decide) ?_
              refine lv_iand hx hb dX8_registers_113 ?_
              refine oh_cvi (As := [.int x10, .int (p1 &&& (7 : Int32))]) (rest := []) hC hP hD hS (mtX8_shifted l a k D s19 x10 (p1 &&& (7 : Int32))) (cwV 2 hts gX8_registers_X8_shifted rfl rfl rfl (by decide +kernel) ⟨Nat.le_of_ble_eq_true rfl, Nat.le_of_ble_eq_true rfl⟩) 0 8 rfl rfl rfl hl.1 rfl (Nat.le_of_ble_eq_true rfl) dX8_registers_114 (fun r22 s23 H locs hw hP hD hS => ?_)
              obtain ⟨hr22, hs23⟩ := hw
              refine lv_istore_n (lv' := [(3, .int r22), (2, .int r1), (0, .ref (a 0)), (1, .int p1)]) hx hb dX8_registers_117 rfl hl (by decide) rfl (fun ls hl => ?_)
              exact K32 _ (by subst hs23 hr22 hr20 hs19 hx18 hr15 hs14 hr12 hs11 hx10 hr6; exact ((if_pos c5).trans (if_neg c21)).symm) _ (by subst hs23 hr22 hr20 hs19 hx18 hr15 hs14 hr12 hs11 hx10 hr6; exact ((if_pos c5).trans (if_neg c21)).symm) ls _ _ hP hD hS (lv_sub hl [0, 1, 2, 3] rfl)
          refine lv_if_eq (tgt := 96) hx hb dX8_registers_83 (by decide) (fun c16 => ?_) (fun c16 => ?_)
          · refine lv_iconst (v := (0 : Int32)) hx hb dX8_registers_96 (by decide) ?_
            exact K24 _ (if_pos c16).symm ls _ _ hP hD hS (lv_sub hl [0, 1, 2, 3] rfl)
          · refine lv_iload_n hx hb dX8_registers_86 rfl (lv_at hl 0 rfl) ?_
            refine lv_iconst (v := (1 : Int32)) hx hb dX8_registers_87 (by decide) ?_
            refine lv_iand hx hb dX8_registers_88 ?_
            refine lv_if_ne (tgt := 96) hx hb dX8_registers_89 (by decide) (fun c17 => ?_) (fun c17 => ?_)
            · refine lv_iconst (v := (0 : Int32)) hx hb dX8_registers_96 (by decide) ?_
              exact K24 _ ((if_neg c16).trans (if_neg c17)).symm ls _ _ hP hD hS (lv_sub hl [0, 1, 2, 3] rfl)
            · refine lv_iconst (v := (1 : Int32)) hx hb dX8_registers_92 (by decide) ?_
              refine lv_goto (tgt := 97) hx hb dX8_registers_93 (by decide) ?_
              exact K24 _ ((if_neg c16).trans (if_pos c17)).symm ls _ _ hP hD hS (lv_sub hl [0, 1, 2, 3] rfl)
        refine lv_if_eq (tgt := 77) hx hb dX8_registers_69 (by decide) (fun c13 => ?_) (fun c13 => ?_)
        · exact K25 _ (if_pos c13).symm ls _ _ hP hD hS (lv_sub hl [0, 1, 2, 3] rfl)
        · refine lv_aload_n hx hb dX8_registers_72 rfl (lv_at hl 2 rfl) ?_
          refine lv_iconst (v := (0 : Int32)) hx hb dX8_registers_73 (by decide) ?_
          refine oh_put (σ' := (oh_up s11 0 4 (0 : Int32))) (v := .int (0 : Int32)) hC hP hD hS inX8_registers_X8 tyX8 tyX8_ok nmX8 0 rfl rfl 5 (by decide) (by decide +kernel) rfl rfl rfl (by simp) rfl dX8_registers_74 (fun H locs hP hD hS => ?_)
          exact K25 _ (if_neg c13).symm ls _ _ hP hD hS (lv_sub hl [0, 1, 2, 3] rfl)
      refine lv_if_eq (tgt := 64) hx hb dX8_registers_48 (by decide) (fun c7 => ?_) (fun c7 => ?_)
      · exact K26 _ (if_pos c7).symm _ (if_pos c7).symm ls _ _ hP hD hS (lv_sub hl [0, 1, 2, 3] rfl)
      · refine lv_aload_n hx hb dX8_registers_51 rfl (lv_at hl 2 rfl) ?_
        refine lv_iload_n hx hb dX8_registers_52 rfl (lv_at hl 0 rfl) ?_
        refine lv_iload_n hx hb dX8_registers_53 rfl (lv_at hl 3 rfl) ?_
        refine lv_bipush (v := (6 : Int32)) hx hb dX8_registers_54 (by decide) ?_
        refine lv_ishr hx hb dX8_registers_56 ?_
        refine lv_bipush (v := (7 : Int32)) hx hb dX8_registers_57 (by decide) ?_
        refine lv_iand hx hb dX8_registers_59 ?_
        refine oh_cvi (As := [.int x3, .int ((p1 >>> ((6 : Int32) &&& 31)) &&& (7 : Int32))]) (rest := []) hC hP hD hS (mtX8_shifted l a k D σ x3 ((p1 >>> ((6 : Int32) &&& 31)) &&& (7 : Int32))) (cwV 2 hts gX8_registers_X8_shifted rfl rfl rfl (by decide +kernel) ⟨Nat.le_of_ble_eq_true rfl, Nat.le_of_ble_eq_true rfl⟩) 0 8 rfl rfl rfl hl.1 rfl (Nat.le_of_ble_eq_true rfl) dX8_registers_60 (fun r8 s9 H locs hw hP hD hS => ?_)
        obtain ⟨hr8, hs9⟩ := hw
        refine lv_istore_n (lv' := [(3, .int r8), (2, .int r1), (0, .ref (a 0)), (1, .int p1)]) hx hb dX8_registers_63 rfl hl (by decide) rfl (fun ls hl => ?_)
        exact K26 _ (by subst hs9 hr8; exact (if_neg c7).symm) _ (by subst hs9 hr8; exact (if_neg c7).symm) ls _ _ hP hD hS (lv_sub hl [0, 1, 2, 3] rfl)
    · refine lv_aload_n hx hb dX8_registers_32 rfl (lv_at hl 2 rfl) ?_
      refine lv_iload_n hx hb dX8_registers_33 rfl (lv_at hl 3 rfl) ?_
      refine lv_iload_n hx hb dX8_registers_34 rfl (lv_at hl 0 rfl) ?_
      refine oh_cvi (As := [.int p1, .int x3]) (rest := []) hC hP hD hS (mtX8_altered l a k D σ p1 x3) (cwV 2 hts gX8_registers_X8_altered rfl rfl rfl (by decide +kernel) ⟨Nat.le_of_ble_eq_true rfl, Nat.le_of_ble_eq_true rfl⟩) 0 8 rfl rfl rfl hl.1 rfl (Nat.le_of_ble_eq_true rfl) dX8_registers_35 (fun r27 s28 H locs hw hP hD hS => ?_)
      obtain ⟨hr27, hs28⟩ := hw
      refine lv_istore_n (lv' := [(3, .int r27), (2, .int r1), (0, .ref (a 0)), (1, .int p1)]) hx hb dX8_registers_38 rfl hl (by decide) rfl (fun ls hl => ?_)
      refine lv_goto (tgt := 118) hx hb dX8_registers_39 (by decide) ?_
      exact K32 _ (by subst hs28 hr27; exact (if_neg c5).symm) _ (by subst hs28 hr27; exact (if_neg c5).symm) ls _ _ hP hD hS (lv_sub hl [0, 1, 2, 3] rfl)
  refine lv_if_eq (tgt := 18) hx hb dX8_registers_8 (by decide) (fun c2 => ?_) (fun c2 => ?_)
  · refine lv_aload_n hx hb dX8_registers_18 rfl (lv_at hl 1 rfl) ?_
    refine oh_get (v := .int (σ 0 14)) hC hP inX8_registers_X8 0 rfl rfl 2 (by decide) (by decide +kernel) rfl dX8_registers_19 ?_
    exact K33 _ (if_pos c2).symm ls _ _ hP hD hS (lv_sub hl [0, 1, 2] rfl)
  · refine lv_aload_n hx hb dX8_registers_11 rfl (lv_at hl 1 rfl) ?_
    refine oh_get (v := .int (σ 0 15)) hC hP inX8_registers_X8 0 rfl rfl 3 (by decide) (by decide +kernel) rfl dX8_registers_12 ?_
    refine lv_goto (tgt := 22) hx hb dX8_registers_15 (by decide) ?_
    exact K33 _ (if_neg c2).symm ls _ _ hP hD hS (lv_sub hl [0, 1, 2] rfl)
-- OctalHouseModel.flagOf
theorem inX8_flagOf_X8 : ∀ w ∈ u_ws RX8 TX8 35, w ∈ wsX8_flagOf := by decide +kernel
def spX8_flagOf (σ : oh_St) (p1 : Int32) : Int32 := (if p1 = (0 : Int32) then (σ 0 9) else (if p1 = (1 : Int32) then (if (σ 0 5) = (1 : Int32) then (1 : Int32) else (0 : Int32)) else (if p1 < (6 : Int32) then (0 : Int32) else (if (12 : Int32) ≤ p1 then (0 : Int32) else (if (σ 3 p1.toNatClampNeg) = (0 : Int32) then (0 : Int32) else (1 : Int32))))))
set_option maxHeartbeats 8000000 in
set_option maxRecDepth 100000 in
theorem mtX8_flagOf (l : Launch) (a : Nat → Nat) (k : Nat → ClassId) (D : va_G) (σ : oh_St) (p1 : Int32) (h9 : σ 0 9 = 0 ∨ σ 0 9 = 1) : oh_Mi l yX8_flagOf wsX8_flagOf { frames := 0, cells := 0, slots := 0, locals := 0 } D (oh_ty k) (oh_V a k) [.ref (a 0), .int p1] σ (fun r u => r = spX8_flagOf σ p1 ∧ u = σ) := by
  refine oh_ini (cc := cX8_flagOf) (nL := 2) (rt := some .boolean) (by decide) rfl (Nat.le_of_ble_eq_true rfl) ?_
  intro p e s m below meth c A ls hC hP hD hS hl
  obtain ⟨hx, hb, hml, hown, hts, hr, hlocks, hK, hN, hA⟩ := id hC
  have hl : lv_has ls 2 [(0, .ref (a 0)), (1, .int p1)] := hl
  refine lv_iload_n hx hb dX8_flagOf_0 rfl (lv_at hl 1 rfl) ?_
  refine lv_if_ne (tgt := 11) hx hb dX8_flagOf_1 (by decide) (fun c1 => ?_) (fun c1 => ?_)
  · refine lv_iload_n hx hb dX8_flagOf_11 rfl (lv_at hl 1 rfl) ?_
    refine lv_iconst (v := (1 : Int32)) hx hb dX8_flagOf_12 (by decide) ?_
    refine lv_icmp_ne (tgt := 32) hx hb dX8_flagOf_13 (by decide) (fun c2 => ?_) (fun c2 => ?_)
    · refine lv_iload_n hx hb dX8_flagOf_32 rfl (lv_at hl 1 rfl) ?_
      refine lv_bipush (v := (6 : Int32)) hx hb dX8_flagOf_33 (by decide) ?_
      refine lv_icmp_lt (tgt := 57) hx hb dX8_flagOf_35 (by decide) (fun c3 => ?_) (fun c3 => ?_)
      · refine lv_iconst (v := (0 : Int32)) hx hb dX8_flagOf_57 (by decide) ?_
        exact oh_retz (v := (0 : Int32)) (u := σ) hC (oh_nb (by decide)) hP hD hS ⟨(by exact (((if_neg c1).trans (if_neg c2)).trans (if_pos c3)).symm), rfl⟩ dX8_flagOf_58
      · refine lv_iload_n hx hb dX8_flagOf_38 rfl (lv_at hl 1 rfl) ?_
        refine lv_bipush (v := (12 : Int32)) hx hb dX8_flagOf_39 (by decide) ?_
        refine lv_icmp_ge (tgt := 57) hx hb dX8_flagOf_41 (by decide) (fun c4 => ?_) (fun c4 => ?_)
        · refine lv_iconst (v := (0 : Int32)) hx hb dX8_flagOf_57 (by decide) ?_
          exact oh_retz (v := (0 : Int32)) (u := σ) hC (oh_nb (by decide)) hP hD hS ⟨(by exact ((((if_neg c1).trans (if_neg c2)).trans (if_neg c3)).trans (if_pos c4)).symm), rfl⟩ dX8_flagOf_58
        · refine lv_aload_n hx hb dX8_flagOf_44 rfl (lv_at hl 0 rfl) ?_
          refine oh_get (v := .ref (a 3)) hC hP inX8_flagOf_X8 0 rfl rfl 18 (by decide) (by decide +kernel) rfl dX8_flagOf_45 ?_
          refine lv_iload_n hx hb dX8_flagOf_48 rfl (lv_at hl 1 rfl) ?_
          refine oh_zald hC hP 3 4 rfl rfl (oh_in6 c3 c4) dX8_flagOf_49 ?_
          refine lv_if_eq (tgt := 57) hx hb dX8_flagOf_50 (by decide) (fun c5 => ?_) (fun c5 => ?_)
          · refine lv_iconst (v := (0 : Int32)) hx hb dX8_flagOf_57 (by decide) ?_
            exact oh_retz (v := (0 : Int32)) (u := σ) hC (oh_nb (by decide)) hP hD hS ⟨(by exact (((((if_neg c1).trans (if_neg c2)).trans (if_neg c3)).trans (if_neg c4)).trans (if_pos c5)).symm), rfl⟩ dX8_flagOf_58
          · refine lv_iconst (v := (1 : Int32)) hx hb dX8_flagOf_53 (by decide) ?_
            refine lv_goto (tgt := 58) hx hb dX8_flagOf_54 (by decide) ?_
            exact oh_retz (v := (1 : Int32)) (u := σ) hC (oh_nb (by decide)) hP hD hS ⟨(by exact (((((if_neg c1).trans (if_neg c2)).trans (if_neg c3)).trans (if_neg c4)).trans (if_neg c5)).symm), rfl⟩ dX8_flagOf_58
    · refine lv_aload_n hx hb dX8_flagOf_16 rfl (lv_at hl 0 rfl) ?_
      refine oh_get (v := .int (σ 0 5)) hC hP inX8_flagOf_X8 0 rfl rfl 6 (by decide) (by decide +kernel) rfl dX8_flagOf_17 ?_
      refine lv_iconst (v := (1 : Int32)) hx hb dX8_flagOf_20 (by decide) ?_
      refine lv_icmp_ne (tgt := 28) hx hb dX8_flagOf_21 (by decide) (fun c6 => ?_) (fun c6 => ?_)
      · refine lv_iconst (v := (0 : Int32)) hx hb dX8_flagOf_28 (by decide) ?_
        refine lv_goto (tgt := 58) hx hb dX8_flagOf_29 (by decide) ?_
        exact oh_retz (v := (0 : Int32)) (u := σ) hC (oh_nb (by decide)) hP hD hS ⟨(by exact (((if_neg c1).trans (if_pos c2)).trans (if_neg c6)).symm), rfl⟩ dX8_flagOf_58
      · refine lv_iconst (v := (1 : Int32)) hx hb dX8_flagOf_24 (by decide) ?_
        refine lv_goto (tgt := 58) hx hb dX8_flagOf_25 (by decide) ?_
        exact oh_retz (v := (1 : Int32)) (u := σ) hC (oh_nb (by decide)) hP hD hS ⟨(by exact (((if_neg c1).trans (if_pos c2)).trans (if_pos c6)).symm), rfl⟩ dX8_flagOf_58
  · refine lv_aload_n hx hb dX8_flagOf_4 rfl (lv_at hl 0 rfl) ?_
    refine oh_get (v := .int (σ 0 9)) hC hP inX8_flagOf_X8 0 rfl rfl 7 (by decide) (by decide +kernel) rfl dX8_flagOf_5 ?_
    refine lv_goto (tgt := 58) hx hb dX8_flagOf_8 (by decide) ?_
    exact oh_retz (v := (σ 0 9)) (u := σ) hC (oh_nb h9) hP hD hS ⟨(by exact (if_pos c1).symm), rfl⟩ dX8_flagOf_58
theorem b01X8_flagOf (σ : oh_St) (p1 : Int32) (h9 : σ 0 9 = 0 ∨ σ 0 9 = 1) : spX8_flagOf σ p1 = 0 ∨ spX8_flagOf σ p1 = 1 := by
  unfold spX8_flagOf
  (try dsimp only)
  (repeat' split) <;> first | exact Or.inl rfl | exact Or.inr rfl | exact h9
-- OctalHouseModel.setFlag
theorem inX8_setFlag_X8 : ∀ w ∈ u_ws RX8 TX8 35, w ∈ wsX8_setFlag := by decide +kernel
def spX8_setFlag_k10 (p1 : Int32) (p2 : Int32) (s7 : oh_St) : oh_St := (if p1 < (6 : Int32) then s7 else (if p1 < (12 : Int32) then (oh_up (oh_up s7 3 p1.toNatClampNeg p2) 4 p1.toNatClampNeg p2) else s7))
def spX8_setFlag_k11 (p1 : Int32) (p2 : Int32) (s2 : oh_St) : oh_St := (let s7 : oh_St := (if p1 = (1 : Int32) then (let x5 : Int32 := (if p2 = (0 : Int32) then (0 : Int32) else (1 : Int32)); (oh_up s2 0 5 x5)) else s2); (spX8_setFlag_k10 p1 p2 s7))
def spX8_setFlag (σ : oh_St) (p1 : Int32) (p2 : Int32) : oh_St := (let s2 : oh_St := (if p1 = (0 : Int32) then (oh_up σ 0 9 p2) else σ); (spX8_setFlag_k11 p1 p2 s2))
set_option maxHeartbeats 8000000 in
set_option maxRecDepth 100000 in
theorem mtX8_setFlag (l : Launch) (a : Nat → Nat) (k : Nat → ClassId) (D : va_G) (σ : oh_St) (p1 : Int32) (p2 : Int32) (hbp2 : p2 = 0 ∨ p2 = 1) : oh_Mv l yX8_setFlag wsX8_setFlag { frames := 0, cells := 0, slots := 0, locals := 0 } D (oh_ty k) (oh_V a k) [.ref (a 0), .int p1, .int p2] σ (fun u => u = spX8_setFlag σ p1 p2) := by
  refine oh_inv (cc := cX8_setFlag) (nL := 3) (rt := none) (by decide) rfl (Nat.le_of_ble_eq_true rfl) ?_
  intro p e s m below meth c A ls hC hP hD hS hl
  obtain ⟨hx, hb, hml, hown, hts, hr, hlocks, hK, hN, hA⟩ := id hC
  have hl : lv_has ls 3 [(0, .ref (a 0)), (1, .int p1), (2, .int p2)] := hl
  refine lv_iload_n hx hb dX8_setFlag_0 rfl (lv_at hl 1 rfl) ?_
  have K11 : ∀ s2 : oh_St, s2 = (if p1 = (0 : Int32) then (oh_up σ 0 9 p2) else σ) → ∀ (ls : Array Slot) (H : Heap) (locs : List Loc), va_P D vwCl (oh_V a k s2) H → va_D A (oh_V a k s2) → va_S A s.heap H locs → lv_has ls 3 [(0, .ref (a 0)), (1, .int p1), (2, .int p2)] → W p l e ({ frames := 0, cells := 0, slots := 0, locals := 0 } : Room) s m (([.ref (a 0), .int p1, .int p2] : List Value).toArray) below meth c H locs 0 0 (oh_Ev below (fun u => u = spX8_setFlag σ p1 p2) D (oh_V a k) A [.ref (a 0), .int p1, .int p2] s) (F0 m 9 ls []) := by
    intro s2 hs2 ls H locs hP hD hS hl
    have hK11 : spX8_setFlag_k11 p1 p2 s2 = spX8_setFlag σ p1 p2 := by
      subst hs2
      exact rfl
    refine lv_iload_n hx hb dX8_setFlag_9 rfl (lv_at hl 1 rfl) ?_
    refine lv_iconst (v := (1 : Int32)) hx hb dX8_setFlag_10 (by decide) ?_
    have K10 : ∀ s7 : oh_St, s7 = (if p1 = (1 : Int32) then (let x5 : Int32 := (if p2 = (0 : Int32) then (0 : Int32) else (1 : Int32)); (oh_up s2 0 5 x5)) else s2) → ∀ (ls : Array Slot) (H : Heap) (locs : List Loc), va_P D vwCl (oh_V a k s7) H → va_D A (oh_V a k s7) → va_S A s.heap H locs → lv_has ls 3 [(0, .ref (a 0)), (1, .int p1), (2, .int p2)] → W p l e ({ frames := 0, cells := 0, slots := 0, locals := 0 } : Room) s m (([.ref (a 0), .int p1, .int p2] : List Value).toArray) below meth c H locs 0 0 (oh_Ev below (fun u => u = spX8_setFlag σ p1 p2) D (oh_V a k) A [.ref (a 0), .int p1, .int p2] s) (F0 m 27 ls []) := by
      intro s7 hs7 ls H locs hP hD hS hl
      have hK10 : spX8_setFlag_k10 p1 p2 s7 = spX8_setFlag σ p1 p2 := by
        subst hs7
        exact hK11
      refine lv_iload_n hx hb dX8_setFlag_27 rfl (lv_at hl 1 rfl) ?_
      refine lv_bipush (v := (6 : Int32)) hx hb dX8_setFlag_28 (by decide) ?_
      refine lv_icmp_lt (tgt := 39) hx hb dX8_setFlag_30 (by decide) (fun c8 => ?_) (fun c8 => ?_)
      · exact oh_retv (u := s7) hC hP hD hS (by exact ((if_pos c8).symm).trans hK10) dX8_setFlag_39
      · refine lv_iload_n hx hb dX8_setFlag_33 rfl (lv_at hl 1 rfl) ?_
        refine lv_bipush (v := (12 : Int32)) hx hb dX8_setFlag_34 (by decide) ?_
        refine lv_icmp_lt (tgt := 40) hx hb dX8_setFlag_36 (by decide) (fun c9 => ?_) (fun c9 => ?_)
        · refine lv_aload_n hx hb dX8_setFlag_40 rfl (lv_at hl 0 rfl) ?_
          refine oh_get (v := .ref (a 3)) hC hP inX8_setFlag_X8 0 rfl rfl 18 (by decide) (by decide +kernel) rfl dX8_setFlag_41 ?_
          refine lv_iload_n hx hb dX8_setFlag_44 rfl (lv_at hl 1 rfl) ?_
          refine lv_iload_n hx hb dX8_setFlag_45 rfl (lv_at hl 2 rfl) ?_
          refine oh_zast (σ' := (oh_up s7 3 p1.toNatClampNeg p2)) hC hP hD hS 3 4 rfl rfl (oh_in6 c8 (oh_lt2 c9)) hbp2 rfl dX8_setFlag_46 (fun H locs hP hD hS => ?_)
          refine lv_aload_n hx hb dX8_setFlag_47 rfl (lv_at hl 0 rfl) ?_
          refine oh_get (v := .ref (a 4)) hC hP inX8_setFlag_X8 0 rfl rfl 19 (by decide) (by decide +kernel) rfl dX8_setFlag_48 ?_
          refine lv_iload_n hx hb dX8_setFlag_51 rfl (lv_at hl 1 rfl) ?_
          refine lv_iload_n hx hb dX8_setFlag_52 rfl (lv_at hl 2 rfl) ?_
          refine oh_zast (σ' := (oh_up (oh_up s7 3 p1.toNatClampNeg p2) 4 p1.toNatClampNeg p2)) hC hP hD hS 4 4 rfl rfl (oh_in6 c8 (oh_lt2 c9)) hbp2 rfl dX8_setFlag_53 (fun H locs hP hD hS => ?_)
          exact oh_retv (u := (oh_up (oh_up s7 3 p1.toNatClampNeg p2) 4 p1.toNatClampNeg p2)) hC hP hD hS (by exact (((if_neg c8).trans (if_pos c9)).symm).trans hK10) dX8_setFlag_54
        · exact oh_retv (u := s7) hC hP hD hS (by exact (((if_neg c8).trans (if_neg c9)).symm).trans hK10) dX8_setFlag_39
    refine lv_icmp_ne (tgt := 27) hx hb dX8_setFlag_11 (by decide) (fun c3 => ?_) (fun c3 => ?_)
    · exact K10 _ (if_neg c3).symm ls _ _ hP hD hS (lv_sub hl [0, 1, 2] rfl)
    · refine lv_aload_n hx hb dX8_setFlag_14 rfl (lv_at hl 0 rfl) ?_
      refine lv_iload_n hx hb dX8_setFlag_15 rfl (lv_at hl 2 rfl) ?_
      have K6 : ∀ x5 : Int32, x5 = (if p2 = (0 : Int32) then (0 : Int32) else (1 : Int32)) → ∀ (ls : Array Slot) (H : Heap) (locs : List Loc), va_P D vwCl (oh_V a k s2) H → va_D A (oh_V a k s2) → va_S A s.heap H locs → lv_has ls 3 [(0, .ref (a 0)), (1, .int p1), (2, .int p2)] → W p l e ({ frames := 0, cells := 0, slots := 0, locals := 0 } : Room) s m (([.ref (a 0), .int p1, .int p2] : List Value).toArray) below meth c H locs 0 0 (oh_Ev below (fun u => u = spX8_setFlag σ p1 p2) D (oh_V a k) A [.ref (a 0), .int p1, .int p2] s) (F0 m 24 ls [.int x5, .ref (a 0)]) := by
        intro x5 hx5 ls H locs hP hD hS hl
        refine oh_put (σ' := (oh_up s2 0 5 x5)) (v := .int x5) hC hP hD hS inX8_setFlag_X8 tyX8 tyX8_ok nmX8 0 rfl rfl 6 (by decide) (by decide +kernel) rfl rfl rfl (by simp) rfl dX8_setFlag_24 (fun H locs hP hD hS => ?_)
        exact K10 _ (by subst hx5; exact (if_pos c3).symm) ls _ _ hP hD hS (lv_sub hl [0, 1, 2] rfl)
      refine lv_if_eq (tgt := 23) hx hb dX8_setFlag_16 (by decide) (fun c4 => ?_) (fun c4 => ?_)
      · refine lv_iconst (v := (0 : Int32)) hx hb dX8_setFlag_23 (by decide) ?_
        exact K6 _ (if_pos c4).symm ls _ _ hP hD hS (lv_sub hl [0, 1, 2] rfl)
      · refine lv_iconst (v := (1 : Int32)) hx hb dX8_setFlag_19 (by decide) ?_
        refine lv_goto (tgt := 24) hx hb dX8_setFlag_20 (by decide) ?_
        exact K6 _ (if_neg c4).symm ls _ _ hP hD hS (lv_sub hl [0, 1, 2] rfl)
  refine lv_if_ne (tgt := 9) hx hb dX8_setFlag_1 (by decide) (fun c1 => ?_) (fun c1 => ?_)
  · exact K11 _ (if_neg c1).symm ls _ _ hP hD hS (lv_sub hl [0, 1, 2] rfl)
  · refine lv_aload_n hx hb dX8_setFlag_4 rfl (lv_at hl 0 rfl) ?_
    refine lv_iload_n hx hb dX8_setFlag_5 rfl (lv_at hl 2 rfl) ?_
    refine oh_put (σ' := (oh_up σ 0 9 p2)) (v := .int p2) hC hP hD hS inX8_setFlag_X8 tyX8 tyX8_ok nmX8 0 rfl rfl 7 (by decide) (by decide +kernel) rfl (oh_nb hbp2) (oh_fb hbp2) (by simp) rfl dX8_setFlag_6 (fun H locs hP hD hS => ?_)
    exact K11 _ (if_pos c1).symm ls _ _ hP hD hS (lv_sub hl [0, 1, 2] rfl)
-- OctalHouseModel.told
theorem inX8_told_X8 : ∀ w ∈ u_ws RX8 TX8 35, w ∈ wsX8_told := by decide +kernel
def spX8_told (σ : oh_St) (p1 : Int32) : Int32 := (if p1 = (1 : Int32) then (σ 0 10) else (if p1 = (2 : Int32) then (σ 7 (p1 + (4 : Int32)).toNatClampNeg) else (if p1 = (3 : Int32) then (σ 7 (p1 + (4 : Int32)).toNatClampNeg) else (if p1 < (8 : Int32) then (0 : Int32) else (if (12 : Int32) ≤ p1 then (0 : Int32) else (σ 14 p1.toNatClampNeg))))))
set_option maxHeartbeats 8000000 in
set_option maxRecDepth 100000 in
theorem mtX8_told (l : Launch) (a : Nat → Nat) (k : Nat → ClassId) (D : va_G) (σ : oh_St) (p1 : Int32) : oh_Mi l yX8_told wsX8_told { frames := 0, cells := 0, slots := 0, locals := 0 } D (oh_ty k) (oh_V a k) [.ref (a 0), .int p1] σ (fun r u => r = spX8_told σ p1 ∧ u = σ) := by
  refine oh_ini (cc := cX8_told) (nL := 2) (rt := some .int) (by decide) rfl (Nat.le_of_ble_eq_true rfl) ?_
  intro p e s m below meth c A ls hC hP hD hS hl
  obtain ⟨hx, hb, hml, hown, hts, hr, hlocks, hK, hN, hA⟩ := id hC
  have hl : lv_has ls 2 [(0, .ref (a 0)), (1, .int p1)] := hl
  refine lv_iload_n hx hb dX8_told_0 rfl (lv_at hl 1 rfl) ?_
  refine lv_iconst (v := (1 : Int32)) hx hb dX8_told_1 (by decide) ?_
  refine lv_icmp_ne (tgt := 10) hx hb dX8_told_2 (by decide) (fun c1 => ?_) (fun c1 => ?_)
  · refine lv_iload_n hx hb dX8_told_10 rfl (lv_at hl 1 rfl) ?_
    refine lv_iconst (v := (2 : Int32)) hx hb dX8_told_11 (by decide) ?_
    refine lv_icmp_eq (tgt := 20) hx hb dX8_told_12 (by decide) (fun c2 => ?_) (fun c2 => ?_)
    · refine lv_aload_n hx hb dX8_told_20 rfl (lv_at hl 0 rfl) ?_
      refine oh_get (v := .ref (a 9)) hC hP inX8_told_X8 0 rfl rfl 24 (by decide) (by decide +kernel) rfl dX8_told_21 ?_
      refine lv_iload_n hx hb dX8_told_24 rfl (lv_at hl 1 rfl) ?_
      refine lv_iconst (v := (4 : Int32)) hx hb dX8_told_25 (by decide) ?_
      refine lv_iadd hx hb dX8_told_26 ?_
      refine oh_iald hC hP 9 0 rfl rfl (by rw [c2]; exact vp_in_iff.mpr (by decide)) dX8_told_27 ?_
      exact oh_reti (v := (σ 7 (p1 + (4 : Int32)).toNatClampNeg)) (u := σ) hC hP hD hS ⟨(by exact ((if_neg c1).trans (if_pos c2)).symm), rfl⟩ dX8_told_28
    · refine lv_iload_n hx hb dX8_told_15 rfl (lv_at hl 1 rfl) ?_
      refine lv_iconst (v := (3 : Int32)) hx hb dX8_told_16 (by decide) ?_
      refine lv_icmp_ne (tgt := 29) hx hb dX8_told_17 (by decide) (fun c3 => ?_) (fun c3 => ?_)
      · refine lv_iload_n hx hb dX8_told_29 rfl (lv_at hl 1 rfl) ?_
        refine lv_bipush (v := (8 : Int32)) hx hb dX8_told_30 (by decide) ?_
        refine lv_icmp_lt (tgt := 50) hx hb dX8_told_32 (by decide) (fun c4 => ?_) (fun c4 => ?_)
        · refine lv_iconst (v := (0 : Int32)) hx hb dX8_told_50 (by decide) ?_
          exact oh_reti (v := (0 : Int32)) (u := σ) hC hP hD hS ⟨(by exact ((((if_neg c1).trans (if_neg c2)).trans (if_neg c3)).trans (if_pos c4)).symm), rfl⟩ dX8_told_51
        · refine lv_iload_n hx hb dX8_told_35 rfl (lv_at hl 1 rfl) ?_
          refine lv_bipush (v := (12 : Int32)) hx hb dX8_told_36 (by decide) ?_
          refine lv_icmp_ge (tgt := 50) hx hb dX8_told_38 (by decide) (fun c5 => ?_) (fun c5 => ?_)
          · refine lv_iconst (v := (0 : Int32)) hx hb dX8_told_50 (by decide) ?_
            exact oh_reti (v := (0 : Int32)) (u := σ) hC hP hD hS ⟨(by exact (((((if_neg c1).trans (if_neg c2)).trans (if_neg c3)).trans (if_neg c4)).trans (if_pos c5)).symm), rfl⟩ dX8_told_51
          · refine lv_aload_n hx hb dX8_told_41 rfl (lv_at hl 0 rfl) ?_
            refine oh_get (v := .ref (a 14)) hC hP inX8_told_X8 0 rfl rfl 29 (by decide) (by decide +kernel) rfl dX8_told_42 ?_
            refine lv_iload_n hx hb dX8_told_45 rfl (lv_at hl 1 rfl) ?_
            refine oh_iald hC hP 14 0 rfl rfl (oh_in8 c4 c5) dX8_told_46 ?_
            refine lv_goto (tgt := 51) hx hb dX8_told_47 (by decide) ?_
            exact oh_reti (v := (σ 14 p1.toNatClampNeg)) (u := σ) hC hP hD hS ⟨(by exact (((((if_neg c1).trans (if_neg c2)).trans (if_neg c3)).trans (if_neg c4)).trans (if_neg c5)).symm), rfl⟩ dX8_told_51
      · refine lv_aload_n hx hb dX8_told_20 rfl (lv_at hl 0 rfl) ?_
        refine oh_get (v := .ref (a 9)) hC hP inX8_told_X8 0 rfl rfl 24 (by decide) (by decide +kernel) rfl dX8_told_21 ?_
        refine lv_iload_n hx hb dX8_told_24 rfl (lv_at hl 1 rfl) ?_
        refine lv_iconst (v := (4 : Int32)) hx hb dX8_told_25 (by decide) ?_
        refine lv_iadd hx hb dX8_told_26 ?_
        refine oh_iald hC hP 9 0 rfl rfl (by rw [c3]; exact vp_in_iff.mpr (by decide)) dX8_told_27 ?_
        exact oh_reti (v := (σ 7 (p1 + (4 : Int32)).toNatClampNeg)) (u := σ) hC hP hD hS ⟨(by exact (((if_neg c1).trans (if_neg c2)).trans (if_pos c3)).symm), rfl⟩ dX8_told_28
  · refine lv_aload_n hx hb dX8_told_5 rfl (lv_at hl 0 rfl) ?_
    refine oh_get (v := .int (σ 0 10)) hC hP inX8_told_X8 0 rfl rfl 13 (by decide) (by decide +kernel) rfl dX8_told_6 ?_
    exact oh_reti (v := (σ 0 10)) (u := σ) hC hP hD hS ⟨(by exact (if_pos c1).symm), rfl⟩ dX8_told_9
-- OctalHouseModel.goes
theorem inX8_goes_X8 : ∀ w ∈ u_ws RX8 TX8 35, w ∈ wsX8_goes := by decide +kernel
def spX8_goes_k19 (p1 : Int32) (p2 : Int32) (s16 : oh_St) : oh_St := (if p1 < (8 : Int32) then s16 else (if (12 : Int32) ≤ p1 then s16 else (oh_up s16 14 p1.toNatClampNeg p2)))
def spX8_goes_k20 (p1 : Int32) (p2 : Int32) (s13 : oh_St) : oh_St := (let s16 : oh_St := (if p1 = (6 : Int32) then (oh_up s13 9 p1.toNatClampNeg p2) else (if p1 = (7 : Int32) then (oh_up s13 9 p1.toNatClampNeg p2) else s13)); (spX8_goes_k19 p1 p2 s16))
def spX8_goes_k21 (p1 : Int32) (p2 : Int32) (s2 : oh_St) : oh_St := (let s13 : oh_St := (if p1 = (2 : Int32) then (if (s2 11 (p1 + (4 : Int32)).toNatClampNeg) = (0 : Int32) then (let x6 : Int32 := (if (p2 >>> ((15 : Int32) &&& 31)) = (1 : Int32) then (1 : Int32) else (0 : Int32)); (oh_up (oh_up s2 6 (p1 + (4 : Int32)).toNatClampNeg (p2 &&& (32767 : Int32))) 8 (p1 + (4 : Int32)).toNatClampNeg x6)) else (oh_up s2 7 (p1 + (4 : Int32)).toNatClampNeg p2)) else (if p1 = (3 : Int32) then (if (s2 11 (p1 + (4 : Int32)).toNatClampNeg) = (0 : Int32) then (let x11 : Int32 := (if (p2 >>> ((15 : Int32) &&& 31)) = (1 : Int32) then (1 : Int32) else (0 : Int32)); (oh_up (oh_up s2 6 (p1 + (4 : Int32)).toNatClampNeg (p2 &&& (32767 : Int32))) 8 (p1 + (4 : Int32)).toNatClampNeg x11)) else (oh_up s2 7 (p1 + (4 : Int32)).toNatClampNeg p2)) else s2)); (spX8_goes_k20 p1 p2 s13))
def spX8_goes (σ : oh_St) (p1 : Int32) (p2 : Int32) : oh_St := (let s2 : oh_St := (if p1 = (1 : Int32) then (oh_up σ 0 11 p2) else σ); (spX8_goes_k21 p1 p2 s2))
set_option maxHeartbeats 8000000 in
set_option maxRecDepth 100000 in
theorem mtX8_goes (l : Launch) (a : Nat → Nat) (k : Nat → ClassId) (D : va_G) (σ : oh_St) (p1 : Int32) (p2 : Int32) : oh_Mv l yX8_goes wsX8_goes { frames := 0, cells := 0, slots := 0, locals := 0 } D (oh_ty k) (oh_V a k) [.ref (a 0), .int p1, .int p2] σ (fun u => u = spX8_goes σ p1 p2) := by
  refine oh_inv (cc := cX8_goes) (nL := 4) (rt := none) (by decide) rfl (Nat.le_of_ble_eq_true rfl) ?_
  intro p e s m below meth c A ls hC hP hD hS hl
  obtain ⟨hx, hb, hml, hown, hts, hr, hlocks, hK, hN, hA⟩ := id hC
  have hl : lv_has ls 4 [(0, .ref (a 0)), (1, .int p1), (2, .int p2)] := hl
  refine lv_iload_n hx hb dX8_goes_0 rfl (lv_at hl 1 rfl) ?_
  refine lv_iconst (v := (1 : Int32)) hx hb dX8_goes_1 (by decide) ?_
  have K21 : ∀ s2 : oh_St, s2 = (if p1 = (1 : Int32) then (oh_up σ 0 11 p2) else σ) → ∀ (ls : Array Slot) (H : Heap) (locs : List Loc), va_P D vwCl (oh_V a k s2) H → va_D A (oh_V a k s2) → va_S A s.heap H locs → lv_has ls 4 [(0, .ref (a 0)), (1, .int p1), (2, .int p2)] → W p l e ({ frames := 0, cells := 0, slots := 0, locals := 0 } : Room) s m (([.ref (a 0), .int p1, .int p2] : List Value).toArray) below meth c H locs 0 0 (oh_Ev below (fun u => u = spX8_goes σ p1 p2) D (oh_V a k) A [.ref (a 0), .int p1, .int p2] s) (F0 m 10 ls []) := by
    intro s2 hs2 ls H locs hP hD hS hl
    have hK21 : spX8_goes_k21 p1 p2 s2 = spX8_goes σ p1 p2 := by
      subst hs2
      exact rfl
    refine lv_iload_n hx hb dX8_goes_10 rfl (lv_at hl 1 rfl) ?_
    refine lv_iconst (v := (2 : Int32)) hx hb dX8_goes_11 (by decide) ?_
    have K20 : ∀ s13 : oh_St, s13 = (if p1 = (2 : Int32) then (if (s2 11 (p1 + (4 : Int32)).toNatClampNeg) = (0 : Int32) then (let x6 : Int32 := (if (p2 >>> ((15 : Int32) &&& 31)) = (1 : Int32) then (1 : Int32) else (0 : Int32)); (oh_up (oh_up s2 6 (p1 + (4 : Int32)).toNatClampNeg (p2 &&& (32767 : Int32))) 8 (p1 + (4 : Int32)).toNatClampNeg x6)) else (oh_up s2 7 (p1 + (4 : Int32)).toNatClampNeg p2)) else (if p1 = (3 : Int32) then (if (s2 11 (p1 + (4 : Int32)).toNatClampNeg) = (0 : Int32) then (let x11 : Int32 := (if (p2 >>> ((15 : Int32) &&& 31)) = (1 : Int32) then (1 : Int32) else (0 : Int32)); (oh_up (oh_up s2 6 (p1 + (4 : Int32)).toNatClampNeg (p2 &&& (32767 : Int32))) 8 (p1 + (4 : Int32)).toNatClampNeg x11)) else (oh_up s2 7 (p1 + (4 : Int32)).toNatClampNeg p2)) else s2)) → ∀ (ls : Array Slot) (H : Heap) (locs : List Loc), va_P D vwCl (oh_V a k s13) H → va_D A (oh_V a k s13) → va_S A s.heap H locs → lv_has ls 4 [(0, .ref (a 0)), (1, .int p1), (2, .int p2)] → W p l e ({ frames := 0, cells := 0, slots := 0, locals := 0 } : Room) s m (([.ref (a 0), .int p1, .int p2] : List Value).toArray) below meth c H locs 0 0 (oh_Ev below (fun u => u = spX8_goes σ p1 p2) D (oh_V a k) A [.ref (a 0), .int p1, .int p2] s) (F0 m 73 ls []) := by
      intro s13 hs13 ls H locs hP hD hS hl
      have hK20 : spX8_goes_k20 p1 p2 s13 = spX8_goes σ p1 p2 := by
        subst hs13
        exact hK21
      refine lv_iload_n hx hb dX8_goes_73 rfl (lv_at hl 1 rfl) ?_
      refine lv_bipush (v := (6 : Int32)) hx hb dX8_goes_74 (by decide) ?_
      have K19 : ∀ s16 : oh_St, s16 = (if p1 = (6 : Int32) then (oh_up s13 9 p1.toNatClampNeg p2) else (if p1 = (7 : Int32) then (oh_up s13 9 p1.toNatClampNeg p2) else s13)) → ∀ (ls : Array Slot) (H : Heap) (locs : List Loc), va_P D vwCl (oh_V a k s16) H → va_D A (oh_V a k s16) → va_S A s.heap H locs → lv_has ls 4 [(0, .ref (a 0)), (1, .int p1), (2, .int p2)] → W p l e ({ frames := 0, cells := 0, slots := 0, locals := 0 } : Room) s m (([.ref (a 0), .int p1, .int p2] : List Value).toArray) below meth c H locs 0 0 (oh_Ev below (fun u => u = spX8_goes σ p1 p2) D (oh_V a k) A [.ref (a 0), .int p1, .int p2] s) (F0 m 92 ls []) := by
        intro s16 hs16 ls H locs hP hD hS hl
        have hK19 : spX8_goes_k19 p1 p2 s16 = spX8_goes σ p1 p2 := by
          subst hs16
          exact hK20
        refine lv_iload_n hx hb dX8_goes_92 rfl (lv_at hl 1 rfl) ?_
        refine lv_bipush (v := (8 : Int32)) hx hb dX8_goes_93 (by decide) ?_
        refine lv_icmp_lt (tgt := 111) hx hb dX8_goes_95 (by decide) (fun c17 => ?_) (fun c17 => ?_)
        · exact oh_retv (u := s16) hC hP hD hS (by exact ((if_pos c17).symm).trans hK19) dX8_goes_111
        · refine lv_iload_n hx hb dX8_goes_98 rfl (lv_at hl 1 rfl) ?_
          refine lv_bipush (v := (12 : Int32)) hx hb dX8_goes_99 (by decide) ?_
          refine lv_icmp_ge (tgt := 111) hx hb dX8_goes_101 (by decide) (fun c18 => ?_) (fun c18 => ?_)
          · exact oh_retv (u := s16) hC hP hD hS (by exact (((if_neg c17).trans (if_pos c18)).symm).trans hK19) dX8_goes_111
          · refine lv_aload_n hx hb dX8_goes_104 rfl (lv_at hl 0 rfl) ?_
            refine oh_get (v := .ref (a 14)) hC hP inX8_goes_X8 0 rfl rfl 29 (by decide) (by decide +kernel) rfl dX8_goes_105 ?_
            refine lv_iload_n hx hb dX8_goes_108 rfl (lv_at hl 1 rfl) ?_
            refine lv_iload_n hx hb dX8_goes_109 rfl (lv_at hl 2 rfl) ?_
            refine oh_iast (σ' := (oh_up s16 14 p1.toNatClampNeg p2)) hC hP hD hS 14 0 rfl rfl (oh_in8 c17 c18) rfl dX8_goes_110 (fun H locs hP hD hS => ?_)
            exact oh_retv (u := (oh_up s16 14 p1.toNatClampNeg p2)) hC hP hD hS (by exact (((if_neg c17).trans (if_neg c18)).symm).trans hK19) dX8_goes_111
      refine lv_icmp_eq (tgt := 85) hx hb dX8_goes_76 (by decide) (fun c14 => ?_) (fun c14 => ?_)
      · refine lv_aload_n hx hb dX8_goes_85 rfl (lv_at hl 0 rfl) ?_
        refine oh_get (v := .ref (a 10)) hC hP inX8_goes_X8 0 rfl rfl 25 (by decide) (by decide +kernel) rfl dX8_goes_86 ?_
        refine lv_iload_n hx hb dX8_goes_89 rfl (lv_at hl 1 rfl) ?_
        refine lv_iload_n hx hb dX8_goes_90 rfl (lv_at hl 2 rfl) ?_
        refine oh_iast (σ' := (oh_up s13 9 p1.toNatClampNeg p2)) hC hP hD hS 10 0 rfl rfl (by rw [c14]; exact vp_in_iff.mpr (by decide)) rfl dX8_goes_91 (fun H locs hP hD hS => ?_)
        exact K19 _ (if_pos c14).symm ls _ _ hP hD hS (lv_sub hl [0, 1, 2] rfl)
      · refine lv_iload_n hx hb dX8_goes_79 rfl (lv_at hl 1 rfl) ?_
        refine lv_bipush (v := (7 : Int32)) hx hb dX8_goes_80 (by decide) ?_
        refine lv_icmp_ne (tgt := 92) hx hb dX8_goes_82 (by decide) (fun c15 => ?_) (fun c15 => ?_)
        · exact K19 _ ((if_neg c14).trans (if_neg c15)).symm ls _ _ hP hD hS (lv_sub hl [0, 1, 2] rfl)
        · refine lv_aload_n hx hb dX8_goes_85 rfl (lv_at hl 0 rfl) ?_
          refine oh_get (v := .ref (a 10)) hC hP inX8_goes_X8 0 rfl rfl 25 (by decide) (by decide +kernel) rfl dX8_goes_86 ?_
          refine lv_iload_n hx hb dX8_goes_89 rfl (lv_at hl 1 rfl) ?_
          refine lv_iload_n hx hb dX8_goes_90 rfl (lv_at hl 2 rfl) ?_
          refine oh_iast (σ' := (oh_up s13 9 p1.toNatClampNeg p2)) hC hP hD hS 10 0 rfl rfl (by rw [c15]; exact vp_in_iff.mpr (by decide)) rfl dX8_goes_91 (fun H locs hP hD hS => ?_)
          exact K19 _ ((if_neg c14).trans (if_pos c15)).symm ls _ _ hP hD hS (lv_sub hl [0, 1, 2] rfl)
    refine lv_icmp_eq (tgt := 20) hx hb dX8_goes_12 (by decide) (fun c3 => ?_) (fun c3 => ?_)
    · refine lv_iload_n hx hb dX8_goes_20 rfl (lv_at hl 1 rfl) ?_
      refine lv_iconst (v := (4 : Int32)) hx hb dX8_goes_21 (by decide) ?_
      refine lv_iadd hx hb dX8_goes_22 ?_
      refine lv_istore_n (lv' := [(3, .int (p1 + (4 : Int32))), (0, .ref (a 0)), (1, .int p1), (2, .int p2)]) hx hb dX8_goes_23 rfl hl (by decide) rfl (fun ls hl => ?_)
      refine lv_aload_n hx hb dX8_goes_24 rfl (lv_at hl 1 rfl) ?_
      refine oh_get (v := .ref (a 7)) hC hP inX8_goes_X8 0 rfl rfl 22 (by decide) (by decide +kernel) rfl dX8_goes_25 ?_
      refine lv_iload_n hx hb dX8_goes_28 rfl (lv_at hl 0 rfl) ?_
      refine oh_zald hC hP 7 4 rfl rfl (by rw [c3]; exact vp_in_iff.mpr (by decide)) dX8_goes_29 ?_
      refine lv_if_eq (tgt := 43) hx hb dX8_goes_30 (by decide) (fun c4 => ?_) (fun c4 => ?_)
      · refine lv_aload_n hx hb dX8_goes_43 rfl (lv_at hl 1 rfl) ?_
        refine oh_get (v := .ref (a 8)) hC hP inX8_goes_X8 0 rfl rfl 23 (by decide) (by decide +kernel) rfl dX8_goes_44 ?_
        refine lv_iload_n hx hb dX8_goes_47 rfl (lv_at hl 0 rfl) ?_
        refine lv_iload_n hx hb dX8_goes_48 rfl (lv_at hl 3 rfl) ?_
        refine lv_sipush (v := (32767 : Int32)) hx hb dX8_goes_49 (by decide) ?_
        refine lv_iand hx hb dX8_goes_52 ?_
        refine oh_iast (σ' := (oh_up s2 6 (p1 + (4 : Int32)).toNatClampNeg (p2 &&& (32767 : Int32)))) hC hP hD hS 8 0 rfl rfl (by rw [c3]; exact vp_in_iff.mpr (by decide)) rfl dX8_goes_53 (fun H locs hP hD hS => ?_)
        refine lv_aload_n hx hb dX8_goes_54 rfl (lv_at hl 1 rfl) ?_
        refine oh_get (v := .ref (a 6)) hC hP inX8_goes_X8 0 rfl rfl 21 (by decide) (by decide +kernel) rfl dX8_goes_55 ?_
        refine lv_iload_n hx hb dX8_goes_58 rfl (lv_at hl 0 rfl) ?_
        refine lv_iload_n hx hb dX8_goes_59 rfl (lv_at hl 3 rfl) ?_
        refine lv_bipush (v := (15 : Int32)) hx hb dX8_goes_60 (by decide) ?_
        refine lv_ishr hx hb dX8_goes_62 ?_
        refine lv_iconst (v := (1 : Int32)) hx hb dX8_goes_63 (by decide) ?_
        have K7 : ∀ x6 : Int32, x6 = (if (p2 >>> ((15 : Int32) &&& 31)) = (1 : Int32) then (1 : Int32) else (0 : Int32)) → ∀ (ls : Array Slot) (H : Heap) (locs : List Loc), va_P D vwCl (oh_V a k (oh_up s2 6 (p1 + (4 : Int32)).toNatClampNeg (p2 &&& (32767 : Int32)))) H → va_D A (oh_V a k (oh_up s2 6 (p1 + (4 : Int32)).toNatClampNeg (p2 &&& (32767 : Int32)))) → va_S A s.heap H locs → lv_has ls 4 [(3, .int (p1 + (4 : Int32))), (0, .ref (a 0)), (1, .int p1), (2, .int p2)] → W p l e ({ frames := 0, cells := 0, slots := 0, locals := 0 } : Room) s m (([.ref (a 0), .int p1, .int p2] : List Value).toArray) below meth c H locs 0 0 (oh_Ev below (fun u => u = spX8_goes σ p1 p2) D (oh_V a k) A [.ref (a 0), .int p1, .int p2] s) (F0 m 72 ls [.int x6, .int (p1 + (4 : Int32)), .ref (a 6)]) := by
          intro x6 hx6 ls H locs hP hD hS hl
          refine oh_zast (σ' := (oh_up (oh_up s2 6 (p1 + (4 : Int32)).toNatClampNeg (p2 &&& (32767 : Int32))) 8 (p1 + (4 : Int32)).toNatClampNeg x6)) hC hP hD hS 6 4 rfl rfl (by rw [c3]; exact vp_in_iff.mpr (by decide)) (by rw [hx6]; (repeat' split) <;> first | exact Or.inl rfl | exact Or.inr rfl) rfl dX8_goes_72 (fun H locs hP hD hS => ?_)
          exact K20 _ (by subst hx6; exact ((if_pos c3).trans (if_pos c4)).symm) ls _ _ hP hD hS (lv_sub hl [1, 2, 3] rfl)
        refine lv_icmp_ne (tgt := 71) hx hb dX8_goes_64 (by decide) (fun c5 => ?_) (fun c5 => ?_)
        · refine lv_iconst (v := (0 : Int32)) hx hb dX8_goes_71 (by decide) ?_
          exact K7 _ (if_neg c5).symm ls _ _ hP hD hS (lv_sub hl [0, 1, 2, 3] rfl)
        · refine lv_iconst (v := (1 : Int32)) hx hb dX8_goes_67 (by decide) ?_
          refine lv_goto (tgt := 72) hx hb dX8_goes_68 (by decide) ?_
          exact K7 _ (if_pos c5).symm ls _ _ hP hD hS (lv_sub hl [0, 1, 2, 3] rfl)
      · refine lv_aload_n hx hb dX8_goes_33 rfl (lv_at hl 1 rfl) ?_
        refine oh_get (v := .ref (a 9)) hC hP inX8_goes_X8 0 rfl rfl 24 (by decide) (by decide +kernel) rfl dX8_goes_34 ?_
        refine lv_iload_n hx hb dX8_goes_37 rfl (lv_at hl 0 rfl) ?_
        refine lv_iload_n hx hb dX8_goes_38 rfl (lv_at hl 3 rfl) ?_
        refine oh_iast (σ' := (oh_up s2 7 (p1 + (4 : Int32)).toNatClampNeg p2)) hC hP hD hS 9 0 rfl rfl (by rw [c3]; exact vp_in_iff.mpr (by decide)) rfl dX8_goes_39 (fun H locs hP hD hS => ?_)
        refine lv_goto (tgt := 73) hx hb dX8_goes_40 (by decide) ?_
        exact K20 _ ((if_pos c3).trans (if_neg c4)).symm ls _ _ hP hD hS (lv_sub hl [1, 2, 3] rfl)
    · refine lv_iload_n hx hb dX8_goes_15 rfl (lv_at hl 1 rfl) ?_
      refine lv_iconst (v := (3 : Int32)) hx hb dX8_goes_16 (by decide) ?_
      refine lv_icmp_ne (tgt := 73) hx hb dX8_goes_17 (by decide) (fun c8 => ?_) (fun c8 => ?_)
      · exact K20 _ ((if_neg c3).trans (if_neg c8)).symm ls _ _ hP hD hS (lv_sub hl [0, 1, 2] rfl)
      · refine lv_iload_n hx hb dX8_goes_20 rfl (lv_at hl 1 rfl) ?_
        refine lv_iconst (v := (4 : Int32)) hx hb dX8_goes_21 (by decide) ?_
        refine lv_iadd hx hb dX8_goes_22 ?_
        refine lv_istore_n (lv' := [(3, .int (p1 + (4 : Int32))), (0, .ref (a 0)), (1, .int p1), (2, .int p2)]) hx hb dX8_goes_23 rfl hl (by decide) rfl (fun ls hl => ?_)
        refine lv_aload_n hx hb dX8_goes_24 rfl (lv_at hl 1 rfl) ?_
        refine oh_get (v := .ref (a 7)) hC hP inX8_goes_X8 0 rfl rfl 22 (by decide) (by decide +kernel) rfl dX8_goes_25 ?_
        refine lv_iload_n hx hb dX8_goes_28 rfl (lv_at hl 0 rfl) ?_
        refine oh_zald hC hP 7 4 rfl rfl (by rw [c8]; exact vp_in_iff.mpr (by decide)) dX8_goes_29 ?_
        refine lv_if_eq (tgt := 43) hx hb dX8_goes_30 (by decide) (fun c9 => ?_) (fun c9 => ?_)
        · refine lv_aload_n hx hb dX8_goes_43 rfl (lv_at hl 1 rfl) ?_
          refine oh_get (v := .ref (a 8)) hC hP inX8_goes_X8 0 rfl rfl 23 (by decide) (by decide +kernel) rfl dX8_goes_44 ?_
          refine lv_iload_n hx hb dX8_goes_47 rfl (lv_at hl 0 rfl) ?_
          refine lv_iload_n hx hb dX8_goes_48 rfl (lv_at hl 3 rfl) ?_
          refine lv_sipush (v := (32767 : Int32)) hx hb dX8_goes_49 (by decide) ?_
          refine lv_iand hx hb dX8_goes_52 ?_
          refine oh_iast (σ' := (oh_up s2 6 (p1 + (4 : Int32)).toNatClampNeg (p2 &&& (32767 : Int32)))) hC hP hD hS 8 0 rfl rfl (by rw [c8]; exact vp_in_iff.mpr (by decide)) rfl dX8_goes_53 (fun H locs hP hD hS => ?_)
          refine lv_aload_n hx hb dX8_goes_54 rfl (lv_at hl 1 rfl) ?_
          refine oh_get (v := .ref (a 6)) hC hP inX8_goes_X8 0 rfl rfl 21 (by decide) (by decide +kernel) rfl dX8_goes_55 ?_
          refine lv_iload_n hx hb dX8_goes_58 rfl (lv_at hl 0 rfl) ?_
          refine lv_iload_n hx hb dX8_goes_59 rfl (lv_at hl 3 rfl) ?_
          refine lv_bipush (v := (15 : Int32)) hx hb dX8_goes_60 (by decide) ?_
          refine lv_ishr hx hb dX8_goes_62 ?_
          refine lv_iconst (v := (1 : Int32)) hx hb dX8_goes_63 (by decide) ?_
          have K12 : ∀ x11 : Int32, x11 = (if (p2 >>> ((15 : Int32) &&& 31)) = (1 : Int32) then (1 : Int32) else (0 : Int32)) → ∀ (ls : Array Slot) (H : Heap) (locs : List Loc), va_P D vwCl (oh_V a k (oh_up s2 6 (p1 + (4 : Int32)).toNatClampNeg (p2 &&& (32767 : Int32)))) H → va_D A (oh_V a k (oh_up s2 6 (p1 + (4 : Int32)).toNatClampNeg (p2 &&& (32767 : Int32)))) → va_S A s.heap H locs → lv_has ls 4 [(3, .int (p1 + (4 : Int32))), (0, .ref (a 0)), (1, .int p1), (2, .int p2)] → W p l e ({ frames := 0, cells := 0, slots := 0, locals := 0 } : Room) s m (([.ref (a 0), .int p1, .int p2] : List Value).toArray) below meth c H locs 0 0 (oh_Ev below (fun u => u = spX8_goes σ p1 p2) D (oh_V a k) A [.ref (a 0), .int p1, .int p2] s) (F0 m 72 ls [.int x11, .int (p1 + (4 : Int32)), .ref (a 6)]) := by
            intro x11 hx11 ls H locs hP hD hS hl
            refine oh_zast (σ' := (oh_up (oh_up s2 6 (p1 + (4 : Int32)).toNatClampNeg (p2 &&& (32767 : Int32))) 8 (p1 + (4 : Int32)).toNatClampNeg x11)) hC hP hD hS 6 4 rfl rfl (by rw [c8]; exact vp_in_iff.mpr (by decide)) (by rw [hx11]; (repeat' split) <;> first | exact Or.inl rfl | exact Or.inr rfl) rfl dX8_goes_72 (fun H locs hP hD hS => ?_)
            exact K20 _ (by subst hx11; exact (((if_neg c3).trans (if_pos c8)).trans (if_pos c9)).symm) ls _ _ hP hD hS (lv_sub hl [1, 2, 3] rfl)
          refine lv_icmp_ne (tgt := 71) hx hb dX8_goes_64 (by decide) (fun c10 => ?_) (fun c10 => ?_)
          · refine lv_iconst (v := (0 : Int32)) hx hb dX8_goes_71 (by decide) ?_
            exact K12 _ (if_neg c10).symm ls _ _ hP hD hS (lv_sub hl [0, 1, 2, 3] rfl)
          · refine lv_iconst (v := (1 : Int32)) hx hb dX8_goes_67 (by decide) ?_
            refine lv_goto (tgt := 72) hx hb dX8_goes_68 (by decide) ?_
            exact K12 _ (if_pos c10).symm ls _ _ hP hD hS (lv_sub hl [0, 1, 2, 3] rfl)
        · refine lv_aload_n hx hb dX8_goes_33 rfl (lv_at hl 1 rfl) ?_
          refine oh_get (v := .ref (a 9)) hC hP inX8_goes_X8 0 rfl rfl 24 (by decide) (by decide +kernel) rfl dX8_goes_34 ?_
          refine lv_iload_n hx hb dX8_goes_37 rfl (lv_at hl 0 rfl) ?_
          refine lv_iload_n hx hb dX8_goes_38 rfl (lv_at hl 3 rfl) ?_
          refine oh_iast (σ' := (oh_up s2 7 (p1 + (4 : Int32)).toNatClampNeg p2)) hC hP hD hS 9 0 rfl rfl (by rw [c8]; exact vp_in_iff.mpr (by decide)) rfl dX8_goes_39 (fun H locs hP hD hS => ?_)
          refine lv_goto (tgt := 73) hx hb dX8_goes_40 (by decide) ?_
          exact K20 _ (((if_neg c3).trans (if_pos c8)).trans (if_neg c9)).symm ls _ _ hP hD hS (lv_sub hl [1, 2, 3] rfl)
  refine lv_icmp_ne (tgt := 10) hx hb dX8_goes_2 (by decide) (fun c1 => ?_) (fun c1 => ?_)
  · exact K21 _ (if_neg c1).symm ls _ _ hP hD hS (lv_sub hl [0, 1, 2] rfl)
  · refine lv_aload_n hx hb dX8_goes_5 rfl (lv_at hl 0 rfl) ?_
    refine lv_iload_n hx hb dX8_goes_6 rfl (lv_at hl 2 rfl) ?_
    refine oh_put (σ' := (oh_up σ 0 11 p2)) (v := .int p2) hC hP hD hS inX8_goes_X8 tyX8 tyX8_ok nmX8 0 rfl rfl 12 (by decide) (by decide +kernel) rfl rfl rfl (by simp) rfl dX8_goes_7 (fun H locs hP hD hS => ?_)
    exact K21 _ (if_pos c1).symm ls _ _ hP hD hS (lv_sub hl [0, 1, 2] rfl)
-- OctalHouseModel.setControl
theorem inX8_setControl_X8 : ∀ w ∈ u_ws RX8 TX8 35, w ∈ wsX8_setControl := by decide +kernel
def spX8_setControl_k12 (p1 : Int32) (p2 : Int32) (s6 : oh_St) : oh_St := (if p1 < (6 : Int32) then s6 else (if p1 < (12 : Int32) then (if (8 : Int32) ≤ p1 then (if p2 = (0 : Int32) then (oh_up s6 2 p1.toNatClampNeg p2) else (let s11 : oh_St := (spX8_started (oh_up s6 2 p1.toNatClampNeg p2) p1); s11)) else (oh_up (oh_up s6 2 p1.toNatClampNeg p2) 5 p1.toNatClampNeg p2)) else s6))
def spX8_setControl_k13 (p1 : Int32) (p2 : Int32) (s3 : oh_St) : oh_St := (let s6 : oh_St := (if p1 = (0 : Int32) then (if p2 = (0 : Int32) then (oh_up (oh_up (oh_up (oh_up (oh_up (oh_up (oh_up (oh_up (oh_up (oh_up (oh_up (oh_up s3 2 6 (0 : Int32)) 5 6 (0 : Int32)) 2 7 (0 : Int32)) 5 7 (0 : Int32)) 2 8 (0 : Int32)) 5 8 (0 : Int32)) 2 9 (0 : Int32)) 5 9 (0 : Int32)) 2 10 (0 : Int32)) 5 10 (0 : Int32)) 2 11 (0 : Int32)) 5 11 (0 : Int32)) else s3) else s3); (spX8_setControl_k12 p1 p2 s6))
def spX8_setControl (σ : oh_St) (p1 : Int32) (p2 : Int32) : oh_St := (let s3 : oh_St := (if p1 = (2 : Int32) then (oh_up σ 11 (p1 + (4 : Int32)).toNatClampNeg p2) else (if p1 = (3 : Int32) then (oh_up σ 11 (p1 + (4 : Int32)).toNatClampNeg p2) else σ)); (spX8_setControl_k13 p1 p2 s3))
set_option maxHeartbeats 8000000 in
set_option maxRecDepth 100000 in
theorem mtX8_setControl (l : Launch) (a : Nat → Nat) (k : Nat → ClassId) (D : va_G) (σ : oh_St) (p1 : Int32) (p2 : Int32) (hbp2 : p2 = 0 ∨ p2 = 1) : oh_Mv l yX8_setControl wsX8_setControl { frames := 1, cells := 0, slots := 0, locals := 21 } D (oh_ty k) (oh_V a k) [.ref (a 0), .int p1, .int p2] σ (fun u => u = spX8_setControl σ p1 p2) := by
  refine oh_inv (cc := cX8_setControl) (nL := 4) (rt := none) (by decide) rfl (Nat.le_of_ble_eq_true rfl) ?_
  intro p e s m below meth c A ls hC hP hD hS hl
  obtain ⟨hx, hb, hml, hown, hts, hr, hlocks, hK, hN, hA⟩ := id hC
  have hl : lv_has ls 4 [(0, .ref (a 0)), (1, .int p1), (2, .int p2)] := hl
  refine lv_iload_n hx hb dX8_setControl_0 rfl (lv_at hl 1 rfl) ?_
  refine lv_iconst (v := (2 : Int32)) hx hb dX8_setControl_1 (by decide) ?_
  have K13 : ∀ s3 : oh_St, s3 = (if p1 = (2 : Int32) then (oh_up σ 11 (p1 + (4 : Int32)).toNatClampNeg p2) else (if p1 = (3 : Int32) then (oh_up σ 11 (p1 + (4 : Int32)).toNatClampNeg p2) else σ)) → ∀ (ls : Array Slot) (H : Heap) (locs : List Loc), va_P D vwCl (oh_V a k s3) H → va_D A (oh_V a k s3) → va_S A s.heap H locs → lv_has ls 4 [(0, .ref (a 0)), (1, .int p1), (2, .int p2)] → W p l e ({ frames := 1, cells := 0, slots := 0, locals := 21 } : Room) s m (([.ref (a 0), .int p1, .int p2] : List Value).toArray) below meth c H locs 0 0 (oh_Ev below (fun u => u = spX8_setControl σ p1 p2) D (oh_V a k) A [.ref (a 0), .int p1, .int p2] s) (F0 m 19 ls []) := by
    intro s3 hs3 ls H locs hP hD hS hl
    have hK13 : spX8_setControl_k13 p1 p2 s3 = spX8_setControl σ p1 p2 := by
      subst hs3
      exact rfl
    refine lv_iload_n hx hb dX8_setControl_19 rfl (lv_at hl 1 rfl) ?_
    have K12 : ∀ s6 : oh_St, s6 = (if p1 = (0 : Int32) then (if p2 = (0 : Int32) then (oh_up (oh_up (oh_up (oh_up (oh_up (oh_up (oh_up (oh_up (oh_up (oh_up (oh_up (oh_up s3 2 6 (0 : Int32)) 5 6 (0 : Int32)) 2 7 (0 : Int32)) 5 7 (0 : Int32)) 2 8 (0 : Int32)) 5 8 (0 : Int32)) 2 9 (0 : Int32)) 5 9 (0 : Int32)) 2 10 (0 : Int32)) 5 10 (0 : Int32)) 2 11 (0 : Int32)) 5 11 (0 : Int32)) else s3) else s3) → ∀ (ls : Array Slot) (H : Heap) (locs : List Loc), va_P D vwCl (oh_V a k s6) H → va_D A (oh_V a k s6) → va_S A s.heap H locs → lv_has ls 4 [(0, .ref (a 0)), (1, .int p1), (2, .int p2)] → W p l e ({ frames := 1, cells := 0, slots := 0, locals := 21 } : Room) s m (([.ref (a 0), .int p1, .int p2] : List Value).toArray) below meth c H locs 0 0 (oh_Ev below (fun u => u = spX8_setControl σ p1 p2) D (oh_V a k) A [.ref (a 0), .int p1, .int p2] s) (F0 m 56 ls []) := by
      intro s6 hs6 ls H locs hP hD hS hl
      have hK12 : spX8_setControl_k12 p1 p2 s6 = spX8_setControl σ p1 p2 := by
        subst hs6
        exact hK13
      refine lv_iload_n hx hb dX8_setControl_56 rfl (lv_at hl 1 rfl) ?_
      refine lv_bipush (v := (6 : Int32)) hx hb dX8_setControl_57 (by decide) ?_
      refine lv_icmp_lt (tgt := 68) hx hb dX8_setControl_59 (by decide) (fun c7 => ?_) (fun c7 => ?_)
      · exact oh_retv (u := s6) hC hP hD hS (by exact ((if_pos c7).symm).trans hK12) dX8_setControl_68
      · refine lv_iload_n hx hb dX8_setControl_62 rfl (lv_at hl 1 rfl) ?_
        refine lv_bipush (v := (12 : Int32)) hx hb dX8_setControl_63 (by decide) ?_
        refine lv_icmp_lt (tgt := 69) hx hb dX8_setControl_65 (by decide) (fun c8 => ?_) (fun c8 => ?_)
        · refine lv_aload_n hx hb dX8_setControl_69 rfl (lv_at hl 0 rfl) ?_
          refine oh_get (v := .ref (a 2)) hC hP inX8_setControl_X8 0 rfl rfl 17 (by decide) (by decide +kernel) rfl dX8_setControl_70 ?_
          refine lv_iload_n hx hb dX8_setControl_73 rfl (lv_at hl 1 rfl) ?_
          refine lv_iload_n hx hb dX8_setControl_74 rfl (lv_at hl 2 rfl) ?_
          refine oh_zast (σ' := (oh_up s6 2 p1.toNatClampNeg p2)) hC hP hD hS 2 4 rfl rfl (oh_in6 c7 (oh_lt2 c8)) hbp2 rfl dX8_setControl_75 (fun H locs hP hD hS => ?_)
          refine lv_iload_n hx hb dX8_setControl_76 rfl (lv_at hl 1 rfl) ?_
          refine lv_bipush (v := (8 : Int32)) hx hb dX8_setControl_77 (by decide) ?_
          refine lv_icmp_ge (tgt := 92) hx hb dX8_setControl_79 (by decide) (fun c9 => ?_) (fun c9 => ?_)
          · refine lv_iload_n hx hb dX8_setControl_92 rfl (lv_at hl 2 rfl) ?_
            refine lv_if_eq (tgt := 101) hx hb dX8_setControl_93 (by decide) (fun c10 => ?_) (fun c10 => ?_)
            · exact oh_retv (u := (oh_up s6 2 p1.toNatClampNeg p2)) hC hP hD hS (by exact (((((if_neg c7).trans (if_pos c8)).trans (if_pos c9)).trans (if_pos c10)).symm).trans hK12) dX8_setControl_101
            · refine lv_aload_n hx hb dX8_setControl_96 rfl (lv_at hl 0 rfl) ?_
              refine lv_iload_n hx hb dX8_setControl_97 rfl (lv_at hl 1 rfl) ?_
              refine oh_cvv (As := [.int p1]) (rest := []) hC hP hD hS (mtX8_started l a k D (oh_up s6 2 p1.toNatClampNeg p2) p1 (oh_in6 c7 (oh_lt2 c8))) (cwV 1 hts gX8_setControl_X8_started rfl rfl rfl (by decide +kernel) ⟨Nat.le_of_ble_eq_true rfl, Nat.le_of_ble_eq_true rfl⟩) 0 8 rfl rfl rfl hl.1 rfl (Nat.le_of_ble_eq_true rfl) dX8_setControl_98 (fun s11 H locs hs11 hP hD hS => ?_)
              exact oh_retv (u := s11) hC hP hD hS (by subst hs11; exact (((((if_neg c7).trans (if_pos c8)).trans (if_pos c9)).trans (if_neg c10)).symm).trans hK12) dX8_setControl_101
          · refine lv_aload_n hx hb dX8_setControl_82 rfl (lv_at hl 0 rfl) ?_
            refine oh_get (v := .ref (a 5)) hC hP inX8_setControl_X8 0 rfl rfl 20 (by decide) (by decide +kernel) rfl dX8_setControl_83 ?_
            refine lv_iload_n hx hb dX8_setControl_86 rfl (lv_at hl 1 rfl) ?_
            refine lv_iload_n hx hb dX8_setControl_87 rfl (lv_at hl 2 rfl) ?_
            refine oh_zast (σ' := (oh_up (oh_up s6 2 p1.toNatClampNeg p2) 5 p1.toNatClampNeg p2)) hC hP hD hS 5 4 rfl rfl (oh_in6 c7 (oh_lt2 c8)) hbp2 rfl dX8_setControl_88 (fun H locs hP hD hS => ?_)
            refine lv_goto (tgt := 101) hx hb dX8_setControl_89 (by decide) ?_
            exact oh_retv (u := (oh_up (oh_up s6 2 p1.toNatClampNeg p2) 5 p1.toNatClampNeg p2)) hC hP hD hS (by exact ((((if_neg c7).trans (if_pos c8)).trans (if_neg c9)).symm).trans hK12) dX8_setControl_101
        · exact oh_retv (u := s6) hC hP hD hS (by exact (((if_neg c7).trans (if_neg c8)).symm).trans hK12) dX8_setControl_68
    refine lv_if_ne (tgt := 56) hx hb dX8_setControl_20 (by decide) (fun c4 => ?_) (fun c4 => ?_)
    · exact K12 _ (if_neg c4).symm ls _ _ hP hD hS (lv_sub hl [0, 1, 2] rfl)
    · refine lv_iload_n hx hb dX8_setControl_23 rfl (lv_at hl 2 rfl) ?_
      refine lv_if_ne (tgt := 56) hx hb dX8_setControl_24 (by decide) (fun c5 => ?_) (fun c5 => ?_)
      · exact K12 _ ((if_pos c4).trans (if_neg c5)).symm ls _ _ hP hD hS (lv_sub hl [0, 1, 2] rfl)
      · refine lv_bipush (v := (6 : Int32)) hx hb dX8_setControl_27 (by decide) ?_
        refine lv_istore_n (lv' := [(3, .int (6 : Int32)), (0, .ref (a 0)), (1, .int p1), (2, .int p2)]) hx hb dX8_setControl_29 rfl hl (by decide) rfl (fun ls hl => ?_)
        refine lv_iload_n hx hb dX8_setControl_30 rfl (lv_at hl 0 rfl) ?_
        refine lv_bipush (v := (12 : Int32)) hx hb dX8_setControl_31 (by decide) ?_
        refine lv_icmp_ge (tgt := 56) hx hb dX8_setControl_33 (by decide) (fun c0 => absurd c0 (by decide)) (fun _ => ?_)
        refine lv_aload_n hx hb dX8_setControl_36 rfl (lv_at hl 1 rfl) ?_
        refine oh_get (v := .ref (a 2)) hC hP inX8_setControl_X8 0 rfl rfl 17 (by decide) (by decide +kernel) rfl dX8_setControl_37 ?_
        refine lv_iload_n hx hb dX8_setControl_40 rfl (lv_at hl 0 rfl) ?_
        refine lv_iconst (v := (0 : Int32)) hx hb dX8_setControl_41 (by decide) ?_
        refine oh_zast (σ' := (oh_up s3 2 6 (0 : Int32))) hC hP hD hS 2 4 rfl rfl (vp_in_iff.mpr (by decide)) (by decide) rfl dX8_setControl_42 (fun H locs hP hD hS => ?_)
        refine lv_aload_n hx hb dX8_setControl_43 rfl (lv_at hl 1 rfl) ?_
        refine oh_get (v := .ref (a 5)) hC hP inX8_setControl_X8 0 rfl rfl 20 (by decide) (by decide +kernel) rfl dX8_setControl_44 ?_
        refine lv_iload_n hx hb dX8_setControl_47 rfl (lv_at hl 0 rfl) ?_
        refine lv_iconst (v := (0 : Int32)) hx hb dX8_setControl_48 (by decide) ?_
        refine oh_zast (σ' := (oh_up (oh_up s3 2 6 (0 : Int32)) 5 6 (0 : Int32))) hC hP hD hS 5 4 rfl rfl (vp_in_iff.mpr (by decide)) (by decide) rfl dX8_setControl_49 (fun H locs hP hD hS => ?_)
        refine lv_iinc (v := (7 : Int32)) (lv' := [(3, .int (7 : Int32)), (0, .ref (a 0)), (1, .int p1), (2, .int p2)]) hx hb dX8_setControl_50 hl (k := 0) rfl (by first | rfl | decide) (by decide) rfl (fun ls hl => ?_)
        refine lv_goto (tgt := 30) hx hb dX8_setControl_53 (by decide) ?_
        refine lv_iload_n hx hb dX8_setControl_30 rfl (lv_at hl 0 rfl) ?_
        refine lv_bipush (v := (12 : Int32)) hx hb dX8_setControl_31 (by decide) ?_
        refine lv_icmp_ge (tgt := 56) hx hb dX8_setControl_33 (by decide) (fun c0 => absurd c0 (by decide)) (fun _ => ?_)
        refine lv_aload_n hx hb dX8_setControl_36 rfl (lv_at hl 1 rfl) ?_
        refine oh_get (v := .ref (a 2)) hC hP inX8_setControl_X8 0 rfl rfl 17 (by decide) (by decide +kernel) rfl dX8_setControl_37 ?_
        refine lv_iload_n hx hb dX8_setControl_40 rfl (lv_at hl 0 rfl) ?_
        refine lv_iconst (v := (0 : Int32)) hx hb dX8_setControl_41 (by decide) ?_
        refine oh_zast (σ' := (oh_up (oh_up (oh_up s3 2 6 (0 : Int32)) 5 6 (0 : Int32)) 2 7 (0 : Int32))) hC hP hD hS 2 4 rfl rfl (vp_in_iff.mpr (by decide)) (by decide) rfl dX8_setControl_42 (fun H locs hP hD hS => ?_)
        refine lv_aload_n hx hb dX8_setControl_43 rfl (lv_at hl 1 rfl) ?_
        refine oh_get (v := .ref (a 5)) hC hP inX8_setControl_X8 0 rfl rfl 20 (by decide) (by decide +kernel) rfl dX8_setControl_44 ?_
        refine lv_iload_n hx hb dX8_setControl_47 rfl (lv_at hl 0 rfl) ?_
        refine lv_iconst (v := (0 : Int32)) hx hb dX8_setControl_48 (by decide) ?_
        refine oh_zast (σ' := (oh_up (oh_up (oh_up (oh_up s3 2 6 (0 : Int32)) 5 6 (0 : Int32)) 2 7 (0 : Int32)) 5 7 (0 : Int32))) hC hP hD hS 5 4 rfl rfl (vp_in_iff.mpr (by decide)) (by decide) rfl dX8_setControl_49 (fun H locs hP hD hS => ?_)
        refine lv_iinc (v := (8 : Int32)) (lv' := [(3, .int (8 : Int32)), (0, .ref (a 0)), (1, .int p1), (2, .int p2)]) hx hb dX8_setControl_50 hl (k := 0) rfl (by first | rfl | decide) (by decide) rfl (fun ls hl => ?_)
        refine lv_goto (tgt := 30) hx hb dX8_setControl_53 (by decide) ?_
        refine lv_iload_n hx hb dX8_setControl_30 rfl (lv_at hl 0 rfl) ?_
        refine lv_bipush (v := (12 : Int32)) hx hb dX8_setControl_31 (by decide) ?_
        refine lv_icmp_ge (tgt := 56) hx hb dX8_setControl_33 (by decide) (fun c0 => absurd c0 (by decide)) (fun _ => ?_)
        refine lv_aload_n hx hb dX8_setControl_36 rfl (lv_at hl 1 rfl) ?_
        refine oh_get (v := .ref (a 2)) hC hP inX8_setControl_X8 0 rfl rfl 17 (by decide) (by decide +kernel) rfl dX8_setControl_37 ?_
        refine lv_iload_n hx hb dX8_setControl_40 rfl (lv_at hl 0 rfl) ?_
        refine lv_iconst (v := (0 : Int32)) hx hb dX8_setControl_41 (by decide) ?_
        refine oh_zast (σ' := (oh_up (oh_up (oh_up (oh_up (oh_up s3 2 6 (0 : Int32)) 5 6 (0 : Int32)) 2 7 (0 : Int32)) 5 7 (0 : Int32)) 2 8 (0 : Int32))) hC hP hD hS 2 4 rfl rfl (vp_in_iff.mpr (by decide)) (by decide) rfl dX8_setControl_42 (fun H locs hP hD hS => ?_)
        refine lv_aload_n hx hb dX8_setControl_43 rfl (lv_at hl 1 rfl) ?_
        refine oh_get (v := .ref (a 5)) hC hP inX8_setControl_X8 0 rfl rfl 20 (by decide) (by decide +kernel) rfl dX8_setControl_44 ?_
        refine lv_iload_n hx hb dX8_setControl_47 rfl (lv_at hl 0 rfl) ?_
        refine lv_iconst (v := (0 : Int32)) hx hb dX8_setControl_48 (by decide) ?_
        refine oh_zast (σ' := (oh_up (oh_up (oh_up (oh_up (oh_up (oh_up s3 2 6 (0 : Int32)) 5 6 (0 : Int32)) 2 7 (0 : Int32)) 5 7 (0 : Int32)) 2 8 (0 : Int32)) 5 8 (0 : Int32))) hC hP hD hS 5 4 rfl rfl (vp_in_iff.mpr (by decide)) (by decide) rfl dX8_setControl_49 (fun H locs hP hD hS => ?_)
        refine lv_iinc (v := (9 : Int32)) (lv' := [(3, .int (9 : Int32)), (0, .ref (a 0)), (1, .int p1), (2, .int p2)]) hx hb dX8_setControl_50 hl (k := 0) rfl (by first | rfl | decide) (by decide) rfl (fun ls hl => ?_)
        refine lv_goto (tgt := 30) hx hb dX8_setControl_53 (by decide) ?_
        refine lv_iload_n hx hb dX8_setControl_30 rfl (lv_at hl 0 rfl) ?_
        refine lv_bipush (v := (12 : Int32)) hx hb dX8_setControl_31 (by decide) ?_
        refine lv_icmp_ge (tgt := 56) hx hb dX8_setControl_33 (by decide) (fun c0 => absurd c0 (by decide)) (fun _ => ?_)
        refine lv_aload_n hx hb dX8_setControl_36 rfl (lv_at hl 1 rfl) ?_
        refine oh_get (v := .ref (a 2)) hC hP inX8_setControl_X8 0 rfl rfl 17 (by decide) (by decide +kernel) rfl dX8_setControl_37 ?_
        refine lv_iload_n hx hb dX8_setControl_40 rfl (lv_at hl 0 rfl) ?_
        refine lv_iconst (v := (0 : Int32)) hx hb dX8_setControl_41 (by decide) ?_
        refine oh_zast (σ' := (oh_up (oh_up (oh_up (oh_up (oh_up (oh_up (oh_up s3 2 6 (0 : Int32)) 5 6 (0 : Int32)) 2 7 (0 : Int32)) 5 7 (0 : Int32)) 2 8 (0 : Int32)) 5 8 (0 : Int32)) 2 9 (0 : Int32))) hC hP hD hS 2 4 rfl rfl (vp_in_iff.mpr (by decide)) (by decide) rfl dX8_setControl_42 (fun H locs hP hD hS => ?_)
        refine lv_aload_n hx hb dX8_setControl_43 rfl (lv_at hl 1 rfl) ?_
        refine oh_get (v := .ref (a 5)) hC hP inX8_setControl_X8 0 rfl rfl 20 (by decide) (by decide +kernel) rfl dX8_setControl_44 ?_
        refine lv_iload_n hx hb dX8_setControl_47 rfl (lv_at hl 0 rfl) ?_
        refine lv_iconst (v := (0 : Int32)) hx hb dX8_setControl_48 (by decide) ?_
        refine oh_zast (σ' := (oh_up (oh_up (oh_up (oh_up (oh_up (oh_up (oh_up (oh_up s3 2 6 (0 : Int32)) 5 6 (0 : Int32)) 2 7 (0 : Int32)) 5 7 (0 : Int32)) 2 8 (0 : Int32)) 5 8 (0 : Int32)) 2 9 (0 : Int32)) 5 9 (0 : Int32))) hC hP hD hS 5 4 rfl rfl (vp_in_iff.mpr (by decide)) (by decide) rfl dX8_setControl_49 (fun H locs hP hD hS => ?_)
        refine lv_iinc (v := (10 : Int32)) (lv' := [(3, .int (10 : Int32)), (0, .ref (a 0)), (1, .int p1), (2, .int p2)]) hx hb dX8_setControl_50 hl (k := 0) rfl (by first | rfl | decide) (by decide) rfl (fun ls hl => ?_)
        refine lv_goto (tgt := 30) hx hb dX8_setControl_53 (by decide) ?_
        refine lv_iload_n hx hb dX8_setControl_30 rfl (lv_at hl 0 rfl) ?_
        refine lv_bipush (v := (12 : Int32)) hx hb dX8_setControl_31 (by decide) ?_
        refine lv_icmp_ge (tgt := 56) hx hb dX8_setControl_33 (by decide) (fun c0 => absurd c0 (by decide)) (fun _ => ?_)
        refine lv_aload_n hx hb dX8_setControl_36 rfl (lv_at hl 1 rfl) ?_
        refine oh_get (v := .ref (a 2)) hC hP inX8_setControl_X8 0 rfl rfl 17 (by decide) (by decide +kernel) rfl dX8_setControl_37 ?_
        refine lv_iload_n hx hb dX8_setControl_40 rfl (lv_at hl 0 rfl) ?_
        refine lv_iconst (v := (0 : Int32)) hx hb dX8_setControl_41 (by decide) ?_
        refine oh_zast (σ' := (oh_up (oh_up (oh_up (oh_up (oh_up (oh_up (oh_up (oh_up (oh_up s3 2 6 (0 : Int32)) 5 6 (0 : Int32)) 2 7 (0 : Int32)) 5 7 (0 : Int32)) 2 8 (0 : Int32)) 5 8 (0 : Int32)) 2 9 (0 : Int32)) 5 9 (0 : Int32)) 2 10 (0 : Int32))) hC hP hD hS 2 4 rfl rfl (vp_in_iff.mpr (by decide)) (by decide) rfl dX8_setControl_42 (fun H locs hP hD hS => ?_)
        refine lv_aload_n hx hb dX8_setControl_43 rfl (lv_at hl 1 rfl) ?_
        refine oh_get (v := .ref (a 5)) hC hP inX8_setControl_X8 0 rfl rfl 20 (by decide) (by decide +kernel) rfl dX8_setControl_44 ?_
        refine lv_iload_n hx hb dX8_setControl_47 rfl (lv_at hl 0 rfl) ?_
        refine lv_iconst (v := (0 : Int32)) hx hb dX8_setControl_48 (by decide) ?_
        refine oh_zast (σ' := (oh_up (oh_up (oh_up (oh_up (oh_up (oh_up (oh_up (oh_up (oh_up (oh_up s3 2 6 (0 : Int32)) 5 6 (0 : Int32)) 2 7 (0 : Int32)) 5 7 (0 : Int32)) 2 8 (0 : Int32)) 5 8 (0 : Int32)) 2 9 (0 : Int32)) 5 9 (0 : Int32)) 2 10 (0 : Int32)) 5 10 (0 : Int32))) hC hP hD hS 5 4 rfl rfl (vp_in_iff.mpr (by decide)) (by decide) rfl dX8_setControl_49 (fun H locs hP hD hS => ?_)
        refine lv_iinc (v := (11 : Int32)) (lv' := [(3, .int (11 : Int32)), (0, .ref (a 0)), (1, .int p1), (2, .int p2)]) hx hb dX8_setControl_50 hl (k := 0) rfl (by first | rfl | decide) (by decide) rfl (fun ls hl => ?_)
        refine lv_goto (tgt := 30) hx hb dX8_setControl_53 (by decide) ?_
        refine lv_iload_n hx hb dX8_setControl_30 rfl (lv_at hl 0 rfl) ?_
        refine lv_bipush (v := (12 : Int32)) hx hb dX8_setControl_31 (by decide) ?_
        refine lv_icmp_ge (tgt := 56) hx hb dX8_setControl_33 (by decide) (fun c0 => absurd c0 (by decide)) (fun _ => ?_)
        refine lv_aload_n hx hb dX8_setControl_36 rfl (lv_at hl 1 rfl) ?_
        refine oh_get (v := .ref (a 2)) hC hP inX8_setControl_X8 0 rfl rfl 17 (by decide) (by decide +kernel) rfl dX8_setControl_37 ?_
        refine lv_iload_n hx hb dX8_setControl_40 rfl (lv_at hl 0 rfl) ?_
        refine lv_iconst (v := (0 : Int32)) hx hb dX8_setControl_41 (by decide) ?_
        refine oh_zast (σ' := (oh_up (oh_up (oh_up (oh_up (oh_up (oh_up (oh_up (oh_up (oh_up (oh_up (oh_up s3 2 6 (0 : Int32)) 5 6 (0 : Int32)) 2 7 (0 : Int32)) 5 7 (0 : Int32)) 2 8 (0 : Int32)) 5 8 (0 : Int32)) 2 9 (0 : Int32)) 5 9 (0 : Int32)) 2 10 (0 : Int32)) 5 10 (0 : Int32)) 2 11 (0 : Int32))) hC hP hD hS 2 4 rfl rfl (vp_in_iff.mpr (by decide)) (by decide) rfl dX8_setControl_42 (fun H locs hP hD hS => ?_)
        refine lv_aload_n hx hb dX8_setControl_43 rfl (lv_at hl 1 rfl) ?_
        refine oh_get (v := .ref (a 5)) hC hP inX8_setControl_X8 0 rfl rfl 20 (by decide) (by decide +kernel) rfl dX8_setControl_44 ?_
        refine lv_iload_n hx hb dX8_setControl_47 rfl (lv_at hl 0 rfl) ?_
        refine lv_iconst (v := (0 : Int32)) hx hb dX8_setControl_48 (by decide) ?_
        refine oh_zast (σ' := (oh_up (oh_up (oh_up (oh_up (oh_up (oh_up (oh_up (oh_up (oh_up (oh_up (oh_up (oh_up s3 2 6 (0 : Int32)) 5 6 (0 : Int32)) 2 7 (0 : Int32)) 5 7 (0 : Int32)) 2 8 (0 : Int32)) 5 8 (0 : Int32)) 2 9 (0 : Int32)) 5 9 (0 : Int32)) 2 10 (0 : Int32)) 5 10 (0 : Int32)) 2 11 (0 : Int32)) 5 11 (0 : Int32))) hC hP hD hS 5 4 rfl rfl (vp_in_iff.mpr (by decide)) (by decide) rfl dX8_setControl_49 (fun H locs hP hD hS => ?_)
        refine lv_iinc (v := (12 : Int32)) (lv' := [(3, .int (12 : Int32)), (0, .ref (a 0)), (1, .int p1), (2, .int p2)]) hx hb dX8_setControl_50 hl (k := 0) rfl (by first | rfl | decide) (by decide) rfl (fun ls hl => ?_)
        refine lv_goto (tgt := 30) hx hb dX8_setControl_53 (by decide) ?_
        refine lv_iload_n hx hb dX8_setControl_30 rfl (lv_at hl 0 rfl) ?_
        refine lv_bipush (v := (12 : Int32)) hx hb dX8_setControl_31 (by decide) ?_
        refine lv_icmp_ge (tgt := 56) hx hb dX8_setControl_33 (by decide) (fun _ => ?_) (fun c0 => absurd c0 (by decide))
        exact K12 _ ((if_pos c4).trans (if_pos c5)).symm ls _ _ hP hD hS (lv_sub hl [1, 2, 3] rfl)
  refine lv_icmp_eq (tgt := 10) hx hb dX8_setControl_2 (by decide) (fun c1 => ?_) (fun c1 => ?_)
  · refine lv_aload_n hx hb dX8_setControl_10 rfl (lv_at hl 0 rfl) ?_
    refine oh_get (v := .ref (a 7)) hC hP inX8_setControl_X8 0 rfl rfl 22 (by decide) (by decide +kernel) rfl dX8_setControl_11 ?_
    refine lv_iload_n hx hb dX8_setControl_14 rfl (lv_at hl 1 rfl) ?_
    refine lv_iconst (v := (4 : Int32)) hx hb dX8_setControl_15 (by decide) ?_
    refine lv_iadd hx hb dX8_setControl_16 ?_
    refine lv_iload_n hx hb dX8_setControl_17 rfl (lv_at hl 2 rfl) ?_
    refine oh_zast (σ' := (oh_up σ 11 (p1 + (4 : Int32)).toNatClampNeg p2)) hC hP hD hS 7 4 rfl rfl (by rw [c1]; exact vp_in_iff.mpr (by decide)) hbp2 rfl dX8_setControl_18 (fun H locs hP hD hS => ?_)
    exact K13 _ (if_pos c1).symm ls _ _ hP hD hS (lv_sub hl [0, 1, 2] rfl)
  · refine lv_iload_n hx hb dX8_setControl_5 rfl (lv_at hl 1 rfl) ?_
    refine lv_iconst (v := (3 : Int32)) hx hb dX8_setControl_6 (by decide) ?_
    refine lv_icmp_ne (tgt := 19) hx hb dX8_setControl_7 (by decide) (fun c2 => ?_) (fun c2 => ?_)
    · exact K13 _ ((if_neg c1).trans (if_neg c2)).symm ls _ _ hP hD hS (lv_sub hl [0, 1, 2] rfl)
    · refine lv_aload_n hx hb dX8_setControl_10 rfl (lv_at hl 0 rfl) ?_
      refine oh_get (v := .ref (a 7)) hC hP inX8_setControl_X8 0 rfl rfl 22 (by decide) (by decide +kernel) rfl dX8_setControl_11 ?_
      refine lv_iload_n hx hb dX8_setControl_14 rfl (lv_at hl 1 rfl) ?_
      refine lv_iconst (v := (4 : Int32)) hx hb dX8_setControl_15 (by decide) ?_
      refine lv_iadd hx hb dX8_setControl_16 ?_
      refine lv_iload_n hx hb dX8_setControl_17 rfl (lv_at hl 2 rfl) ?_
      refine oh_zast (σ' := (oh_up σ 11 (p1 + (4 : Int32)).toNatClampNeg p2)) hC hP hD hS 7 4 rfl rfl (by rw [c2]; exact vp_in_iff.mpr (by decide)) hbp2 rfl dX8_setControl_18 (fun H locs hP hD hS => ?_)
      exact K13 _ ((if_neg c1).trans (if_pos c2)).symm ls _ _ hP hD hS (lv_sub hl [0, 1, 2] rfl)
-- OctalHouseModel.both
theorem inX8_both_X8 : ∀ w ∈ u_ws RX8 TX8 35, w ∈ wsX8_both := by decide +kernel
def spX8_both (σ : oh_St) : Int64 := ((((σ 0 15).toInt64) <<< ((16 : Int32).toInt64 &&& 63)) ||| ((σ 0 14).toInt64))
set_option maxHeartbeats 8000000 in
set_option maxRecDepth 100000 in
theorem mtX8_both (l : Launch) (a : Nat → Nat) (k : Nat → ClassId) (D : va_G) (σ : oh_St)  : oh_Ml l yX8_both wsX8_both { frames := 0, cells := 0, slots := 0, locals := 0 } D (oh_ty k) (oh_V a k) [.ref (a 0)] σ (fun r u => r = spX8_both σ ∧ u = σ) := by
  refine oh_inl (cc := cX8_both) (nL := 1) (rt := some .long) (by decide) rfl (Nat.le_of_ble_eq_true rfl) ?_
  intro p e s m below meth c A ls hC hP hD hS hl
  obtain ⟨hx, hb, hml, hown, hts, hr, hlocks, hK, hN, hA⟩ := id hC
  have hl : lv_has ls 1 [(0, .ref (a 0))] := hl
  refine lv_aload_n hx hb dX8_both_0 rfl (lv_at hl 0 rfl) ?_
  refine oh_get (v := .int (σ 0 15)) hC hP inX8_both_X8 0 rfl rfl 3 (by decide) (by decide +kernel) rfl dX8_both_1 ?_
  refine lv_i2l (v := ((σ 0 15).toInt64)) hx hb dX8_both_4 rfl ?_
  refine lv_bipush (v := (16 : Int32)) hx hb dX8_both_5 (by decide) ?_
  refine lv_lshl (v := (((σ 0 15).toInt64) <<< ((16 : Int32).toInt64 &&& 63))) hx hb dX8_both_7 rfl ?_
  refine lv_aload_n hx hb dX8_both_8 rfl (lv_at hl 0 rfl) ?_
  refine oh_get (v := .int (σ 0 14)) hC hP inX8_both_X8 0 rfl rfl 2 (by decide) (by decide +kernel) rfl dX8_both_9 ?_
  refine lv_i2l (v := ((σ 0 14).toInt64)) hx hb dX8_both_12 rfl ?_
  refine lv_lor hx hb dX8_both_13 ?_
  exact oh_retl (v := ((((σ 0 15).toInt64) <<< ((16 : Int32).toInt64 &&& 63)) ||| ((σ 0 14).toInt64))) (u := σ) hC hP hD hS ⟨(by exact rfl), rfl⟩ dX8_both_14
-- OctalHouseModel.both
theorem inX8_both__X8 : ∀ w ∈ u_ws RX8 TX8 35, w ∈ wsX8_both_ := by decide +kernel
def spX8_both_ (σ : oh_St) (p1 : Int64) : oh_St := (let y1 : Int32 := ((p1.toInt32) &&& (65535 : Int32)); (let y2 : Int32 := (((p1 >>> ((16 : Int32).toInt64 &&& 63)).toInt32) &&& (65535 : Int32)); (oh_up (oh_up σ 0 14 y1) 0 15 y2)))
set_option maxHeartbeats 8000000 in
set_option maxRecDepth 100000 in
theorem mtX8_both_ (l : Launch) (a : Nat → Nat) (k : Nat → ClassId) (D : va_G) (σ : oh_St) (p1 : Int64) : oh_Mv l yX8_both_ wsX8_both_ { frames := 0, cells := 0, slots := 0, locals := 0 } D (oh_ty k) (oh_V a k) [.ref (a 0), .long p1] σ (fun u => u = spX8_both_ σ p1) := by
  refine oh_inv (cc := cX8_both_) (nL := 3) (rt := none) (by decide) rfl (Nat.le_of_ble_eq_true rfl) ?_
  intro p e s m below meth c A ls hC hP hD hS hl
  obtain ⟨hx, hb, hml, hown, hts, hr, hlocks, hK, hN, hA⟩ := id hC
  have hl : lv_has ls 3 [(0, .ref (a 0)), (1, .long p1)] := hl
  refine lv_aload_n hx hb dX8_both__0 rfl (lv_at hl 0 rfl) ?_
  refine lv_lload_n hx hb dX8_both__1 rfl (lv_at hl 1 rfl) ?_
  refine lv_l2i (v := (p1.toInt32)) hx hb dX8_both__2 rfl ?_
  refine lv_ldc (v := (65535 : Int32)) hx hb hown (hts (.constant RX8 102 (65535)) (by decide +kernel)) dX8_both__3 ?_
  refine lv_iand hx hb dX8_both__5 ?_
  refine lv_topi (fun y1 hy1 => ?_)
  refine oh_put (σ' := (oh_up σ 0 14 y1)) (v := .int y1) hC hP hD hS inX8_both__X8 tyX8 tyX8_ok nmX8 0 rfl rfl 2 (by decide) (by decide +kernel) rfl rfl rfl (by simp) rfl dX8_both__6 (fun H locs hP hD hS => ?_)
  refine lv_aload_n hx hb dX8_both__9 rfl (lv_at hl 0 rfl) ?_
  refine lv_lload_n hx hb dX8_both__10 rfl (lv_at hl 1 rfl) ?_
  refine lv_bipush (v := (16 : Int32)) hx hb dX8_both__11 (by decide) ?_
  refine lv_lshr (v := (p1 >>> ((16 : Int32).toInt64 &&& 63))) hx hb dX8_both__13 rfl ?_
  refine lv_l2i (v := ((p1 >>> ((16 : Int32).toInt64 &&& 63)).toInt32)) hx hb dX8_both__14 rfl ?_
  refine lv_ldc (v := (65535 : Int32)) hx hb hown (hts (.constant RX8 102 (65535)) (by decide +kernel)) dX8_both__15 ?_
  refine lv_iand hx hb dX8_both__17 ?_
  refine lv_topi (fun y2 hy2 => ?_)
  refine oh_put (σ' := (oh_up (oh_up σ 0 14 y1) 0 15 y2)) (v := .int y2) hC hP hD hS inX8_both__X8 tyX8 tyX8_ok nmX8 0 rfl rfl 3 (by decide) (by decide +kernel) rfl rfl rfl (by simp) rfl dX8_both__18 (fun H locs hP hD hS => ?_)
  exact oh_retv (u := (oh_up (oh_up σ 0 14 y1) 0 15 y2)) hC hP hD hS (by subst hy2 hy1; exact rfl) dX8_both__21
