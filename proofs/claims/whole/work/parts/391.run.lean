def oh_it (F : oh_St → oh_St) : Nat → oh_St → oh_St
  | 0, σ => σ
  | n + 1, σ => F (oh_it F n σ)
def oh_rI (F : oh_St → oh_St) (p1 : Int32) (σ : oh_St) (f : Nat) (z : oh_St) (i : Int32) : Prop := ∃ j : Nat, i = nI j ∧ j + f = p1.toNatClampNeg + 1 ∧ j ≤ p1.toNatClampNeg ∧ z = oh_it F j σ
theorem oh_rI0 {F : oh_St → oh_St} {p1 : Int32} {σ z : oh_St} {i : Int32} : ¬ oh_rI F p1 σ 0 z i := by
  rintro ⟨j, -, h1, h2, -⟩
  omega
theorem oh_rIs {F : oh_St → oh_St} {p1 : Int32} {σ z z' : oh_St} {i : Int32} {f : Nat} (hI : oh_rI F p1 σ (f + 1) z i) (h : ¬ p1 ≤ i) (hz : z' = F z) : oh_rI F p1 σ f z' (i + 1) := by
  obtain ⟨j, rfl, h1, h2, rfl⟩ := hI
  have e : p1.toNatClampNeg = p1.toInt.toNat := rfl
  have hp : p1.toInt < 2147483648 := by
    have := Int32.toInt_lt p1
    omega
  rw [Int32.le_iff_toInt_le, nI_toInt (by omega)] at h
  exact ⟨j + 1, nI_1 j, by omega, by omega, hz⟩
theorem oh_rI9 {F : oh_St → oh_St} {p1 : Int32} {σ z : oh_St} {i : Int32} {f : Nat} (hJ : ∀ j : Nat, j ≤ p1.toNatClampNeg → oh_it F j σ 0 9 = 0 ∨ oh_it F j σ 0 9 = 1) (hI : oh_rI F p1 σ f z i) : z 0 9 = 0 ∨ z 0 9 = 1 := by
  obtain ⟨j, -, -, h2, rfl⟩ := hI
  exact hJ j h2
-- OctalHouse.run
theorem inX7_run_X6 : ∀ w ∈ u_ws RX6 TX6 6, w ∈ wsX7_run := by decide +kernel
theorem inX7_run_X7 : ∀ w ∈ u_ws RX7 TX7 7, w ∈ wsX7_run := by decide +kernel
def lpX7_run (F : oh_St → oh_St) (p1 : Int32) : Nat → oh_St → Int32 → Int32 × Int32 × oh_St
  | 0, z, i => ((0 : Int32), i, z)
  | f + 1, z, i => (let k7 : Int32 × Int32 × oh_St := ((0 : Int32), i, (oh_up z 0 0 ((z 0 0) + i))); (if p1 ≤ i then k7 else (if (z 0 7) = (0 : Int32) then (let s5 : oh_St := (F z); (lpX7_run F p1 f s5 (i + (1 : Int32)))) else k7)))
def spX7_run (F : oh_St → oh_St) (σ : oh_St) (p1 : Int32) : Int32 × Int32 × oh_St := (let k9 : Int32 × Int32 × oh_St := ((1 : Int32), (0 : Int32), σ); (if p1 < (0 : Int32) then k9 else (if p1 ≤ (2000 : Int32) then (lpX7_run F p1 (p1.toNatClampNeg + 1) σ (0 : Int32)) else k9)))
set_option maxHeartbeats 1000000 in
set_option maxRecDepth 100000 in
theorem mtX7_runF (l : Launch) (a : Nat → Nat) (k : Nat → ClassId) (D : va_G) (F : oh_St → oh_St) (hF : ∀ z : oh_St, z 0 9 = 0 ∨ z 0 9 = 1 → oh_Mv l yX7_doTurn wsX7_doTurn { frames := 5, cells := 0, slots := 0, locals := 118 } D (oh_ty k) (oh_W a k) [.ref (a 0)] z (fun u => u = F z)) (σ : oh_St) (hst : l.stackTraces = false) (p1 : Int32) (hJ : ¬ p1 < 0 → p1 ≤ 2000 → ∀ j : Nat, j ≤ p1.toNatClampNeg → oh_it F j σ 0 9 = 0 ∨ oh_it F j σ 0 9 = 1) : oh_Xi l yX7_run wsX7_run { frames := 6, cells := 1, slots := 6, locals := 140 } D (oh_ty k) (oh_W a k) [.ref (a 0), .int p1] σ (fun r u => ((0 : Int32), r, u) = spX7_run F σ p1) (fun E => (E = "java/lang/IllegalArgumentException" ∧ ((1 : Int32), (0 : Int32), σ) = spX7_run F σ p1)) := by
  refine oh_inxi (cc := cX7_run) (nL := 3) (rt := some .int) (by decide) rfl (Nat.le_of_ble_eq_true rfl) ?_
  intro p e s m below meth c A ls hC hX hP hD hS hl
  obtain ⟨hx, hb, hml, hown, hts, hr, hlocks, hK, hN, hA⟩ := id hC
  have hl : lv_has ls 3 [(0, .ref (a 0)), (1, .int p1)] := hl
  refine lv_iload_n hx hb dX7_run_0 rfl (lv_at hl 1 rfl) ?_
  have K8 : ((1 : Int32), (0 : Int32), σ) = spX7_run F σ p1 → ∀ (ls : Array Slot) (H : Heap) (locs : List Loc), va_P D vwCl (oh_W a k σ) H → va_D A (oh_W a k σ) → va_S A s.heap H locs → lv_has ls 3 [(0, .ref (a 0)), (1, .int p1)] → W p l e ({ frames := 6, cells := 1, slots := 6, locals := 140 } : Room) s m (([.ref (a 0), .int p1] : List Value).toArray) below meth c H locs 0 0 (oh_Exi below (fun r u => ((0 : Int32), r, u) = spX7_run F σ p1) (fun E => (E = "java/lang/IllegalArgumentException" ∧ ((1 : Int32), (0 : Int32), σ) = spX7_run F σ p1)) σ D (oh_W a k) A [.ref (a 0), .int p1] s) (F0 m 11 ls []) := by
    intro hK8 ls H locs hP hD hS hl
    obtain ⟨sa, hsa⟩ := hX.2.2.1.1
    exact oh_thr (cls := "java/lang/IllegalArgumentException") (ik := 45) (is := 47) (ic := 49) hst hC hX hP hD hS hl.1 (by decide +kernel) (by decide +kernel) (by decide +kernel) hsa (fun w h => List.mem_cons_of_mem _ (List.mem_append_right _ h)) (by decide +kernel) hX.2.2.2.1 (by decide +kernel) dX7_run_11 dX7_run_14 dX7_run_15 dX7_run_17 dX7_run_20 (by decide) (by decide) (by decide) (by decide) ⟨rfl, (by exact hK8)⟩
  refine lv_if_lt (tgt := 11) hx hb dX7_run_1 (by decide) (fun c1 => ?_) (fun c1 => ?_)
  · exact K8 ((if_pos c1).symm) ls _ _ hP hD hS (lv_sub hl [0, 1] rfl)
  · refine lv_iload_n hx hb dX7_run_4 rfl (lv_at hl 1 rfl) ?_
    refine lv_sipush (v := (2000 : Int32)) hx hb dX7_run_5 (by decide) ?_
    refine lv_icmp_le (tgt := 21) hx hb dX7_run_8 (by decide) (fun c2 => ?_) (fun c2 => ?_)
    · refine lv_iconst (v := (0 : Int32)) hx hb dX7_run_21 (by decide) ?_
      refine lv_istore_n (lv' := [(2, .int (0 : Int32)), (0, .ref (a 0)), (1, .int p1)]) hx hb dX7_run_22 rfl hl (by decide) rfl (fun ls hl => ?_)
      have LP : ∀ (f : Nat) (z : oh_St) (i : Int32), oh_rI F p1 σ f z i → lpX7_run F p1 f z i = spX7_run F σ p1 → ∀ (ls : Array Slot) (H : Heap) (locs : List Loc), va_P D vwCl (oh_W a k z) H → va_D A (oh_W a k z) → va_S A s.heap H locs → lv_has ls 3 [(2, .int i), (0, .ref (a 0)), (1, .int p1)] → W p l e ({ frames := 6, cells := 1, slots := 6, locals := 140 } : Room) s m (([.ref (a 0), .int p1] : List Value).toArray) below meth c H locs 0 0 (oh_Exi below (fun r u => ((0 : Int32), r, u) = spX7_run F σ p1) (fun E => (E = "java/lang/IllegalArgumentException" ∧ ((1 : Int32), (0 : Int32), σ) = spX7_run F σ p1)) σ D (oh_W a k) A [.ref (a 0), .int p1] s) (F0 m 23 ls []) := by
        intro f
        induction f with
        | zero => intro z i hI; exact absurd hI (oh_rI0)
        | succ f ih =>
          intro z i hI hk ls H locs hP hD hS hl
          refine lv_iload_n hx hb dX7_run_23 rfl (lv_at hl 0 rfl) ?_
          refine lv_iload_n hx hb dX7_run_24 rfl (lv_at hl 2 rfl) ?_
          have K6 : ((0 : Int32), i, (oh_up z 0 0 ((z 0 0) + i))) = spX7_run F σ p1 → ∀ (ls : Array Slot) (H : Heap) (locs : List Loc), va_P D vwCl (oh_W a k z) H → va_D A (oh_W a k z) → va_S A s.heap H locs → lv_has ls 3 [(2, .int i), (0, .ref (a 0)), (1, .int p1)] → W p l e ({ frames := 6, cells := 1, slots := 6, locals := 140 } : Room) s m (([.ref (a 0), .int p1] : List Value).toArray) below meth c H locs 0 0 (oh_Exi below (fun r u => ((0 : Int32), r, u) = spX7_run F σ p1) (fun E => (E = "java/lang/IllegalArgumentException" ∧ ((1 : Int32), (0 : Int32), σ) = spX7_run F σ p1)) σ D (oh_W a k) A [.ref (a 0), .int p1] s) (F0 m 48 ls []) := by
            intro hK6 ls H locs hP hD hS hl
            refine lv_aload_n hx hb dX7_run_48 rfl (lv_at hl 1 rfl) ?_
            refine lv_dup hx hb dX7_run_49 rfl ?_
            refine oh_get (v := .int (z 0 0)) hC hP inX7_run_X7 0 rfl rfl 4 (by decide) (by decide +kernel) rfl dX7_run_50 ?_
            refine lv_iload_n hx hb dX7_run_53 rfl (lv_at hl 0 rfl) ?_
            refine lv_iadd hx hb dX7_run_54 ?_
            refine oh_put (σ' := (oh_up z 0 0 ((z 0 0) + i))) (v := .int ((z 0 0) + i)) hC hP hD hS inX7_run_X7 tyX7 tyX7_ok nmX7 0 rfl rfl 4 (by decide) (by decide +kernel) rfl rfl rfl (by simp) rfl dX7_run_55 (fun H locs hP hD hS => ?_)
            refine lv_iload_n hx hb dX7_run_58 rfl (lv_at hl 0 rfl) ?_
            exact oh_retxi (v := i) (u := (oh_up z 0 0 ((z 0 0) + i))) hC hP hD hS (by exact hK6) dX7_run_59
          refine lv_icmp_ge (tgt := 48) hx hb dX7_run_25 (by decide) (fun c3 => ?_) (fun c3 => ?_)
          · exact K6 (((if_pos c3).symm).trans hk) ls _ _ hP hD hS (lv_sub hl [0, 1, 2] rfl)
          · refine lv_aload_n hx hb dX7_run_28 rfl (lv_at hl 1 rfl) ?_
            refine oh_get (v := .ref (a 3)) hC hP inX7_run_X7 0 rfl rfl 1 (by decide) (by decide +kernel) rfl dX7_run_29 ?_
            refine oh_getN (v := .int (z 0 7)) hC hP inX7_run_X6 3 rfl rfl 4 (by decide) (by decide +kernel) rfl dX7_run_32 ?_
            refine lv_if_ne (tgt := 48) hx hb dX7_run_35 (by decide) (fun c4 => ?_) (fun c4 => ?_)
            · exact K6 ((((if_neg c3).trans (if_neg c4)).symm).trans hk) ls _ _ hP hD hS (lv_sub hl [0, 1, 2] rfl)
            · refine lv_aload_n hx hb dX7_run_38 rfl (lv_at hl 1 rfl) ?_
              refine oh_cvv (As := []) (rest := []) hC hP hD hS (hF z (oh_rI9 (hJ c1 c2) hI)) (cwV 0 hts gX7_run_X7_doTurn rfl rfl rfl (by decide +kernel) ⟨Nat.le_of_ble_eq_true rfl, Nat.le_of_ble_eq_true rfl⟩) 0 7 rfl rfl rfl hl.1 rfl (Nat.le_of_ble_eq_true rfl) dX7_run_39 (fun s5 H locs hs5 hP hD hS => ?_)
              refine lv_iinc (v := (i + (1 : Int32))) (lv' := [(2, .int (i + (1 : Int32))), (0, .ref (a 0)), (1, .int p1)]) hx hb dX7_run_42 hl (k := 0) rfl (by first | rfl | decide) (by decide) rfl (fun ls hl => ?_)
              refine lv_goto (tgt := 23) hx hb dX7_run_45 (by decide) ?_
              exact ih s5 (i + (1 : Int32)) (oh_rIs hI c3 hs5) ((by subst hs5; exact (((if_neg c3).trans (if_pos c4)).symm).trans hk)) ls _ _ hP hD hS (lv_sub hl [0, 1, 2] rfl)
      exact LP (p1.toNatClampNeg + 1) σ (0 : Int32) ⟨0, rfl, by omega, by omega, rfl⟩ (((if_neg c1).trans (if_pos c2)).symm) ls _ _ hP hD hS (lv_sub hl [0, 1, 2] rfl)
    · exact K8 (((if_neg c1).trans (if_neg c2)).symm) ls _ _ hP hD hS (lv_sub hl [0, 1] rfl)
