def oh_im (F : oh_St → oh_St) : Nat → oh_St → oh_St
  | 0, τ => τ
  | n + 1, τ => F (oh_im F n τ)
def oh_mI (F : oh_St → oh_St) (p1 : Int32) (τ : oh_St) (f : Nat) (z : oh_St) (i : Int32) : Prop := ∃ j : Nat, i = nI j ∧ j + f = p1.toNatClampNeg + 1 ∧ j ≤ p1.toNatClampNeg ∧ z = oh_im F j τ ∧ (τ 0 12 = 0 ∨ j = 0)
theorem oh_mI0 {F : oh_St → oh_St} {p1 : Int32} {τ z : oh_St} {i : Int32} : ¬ oh_mI F p1 τ 0 z i := by
  rintro ⟨j, -, h1, h2, -⟩
  omega
theorem oh_mI12 {F : oh_St → oh_St} {p1 : Int32} {τ z : oh_St} {i : Int32} {f : Nat} (hI : oh_mI F p1 τ f z i) (h0 : z 0 12 = 0) : τ 0 12 = 0 := by
  obtain ⟨j, -, -, -, rfl, h⟩ := hI
  rcases h with h | h
  · exact h
  · subst h; exact h0
theorem oh_mIs {F : oh_St → oh_St} {p1 : Int32} {τ z z' : oh_St} {i : Int32} {f : Nat} (hI : oh_mI F p1 τ (f + 1) z i) (h0 : z 0 12 = 0) (h : ¬ p1 ≤ i) (hz : z' = F z) : oh_mI F p1 τ f z' (i + 1) := by
  have h12 := oh_mI12 hI h0
  obtain ⟨j, rfl, h1, h2, rfl, -⟩ := hI
  have e : p1.toNatClampNeg = p1.toInt.toNat := rfl
  have hp : p1.toInt < 2147483648 := by
    have := Int32.toInt_lt p1
    omega
  rw [Int32.le_iff_toInt_le, nI_toInt (by omega)] at h
  exact ⟨j + 1, nI_1 j, by omega, by omega, hz, Or.inl h12⟩
theorem oh_mIw {F : oh_St → oh_St} {p1 x3 : Int32} {σ z : oh_St} {i : Int32} {f : Nat} {M : Nat} (hJ : ¬ p1 < 0 → p1 ≤ 2000 → ∀ j : Nat, j ≤ p1.toNatClampNeg → oh_WM M (oh_im F j (oh_up σ 0 12 0))) (hx3 : x3 = (if p1 < (0 : Int32) then (1 : Int32) else (if p1 ≤ (2000 : Int32) then (0 : Int32) else (1 : Int32)))) (hI : oh_mI F p1 (oh_up σ 0 12 x3) f z i) (h0 : z 0 12 = 0) : oh_WM M z := by
  have h12 := oh_mI12 hI h0
  rw [oh_ups] at h12
  obtain ⟨j, -, -, h2, rfl, -⟩ := hI
  subst h12
  by_cases c1 : p1 < 0
  · rw [if_pos c1] at hx3; exact absurd hx3 (by decide)
  · by_cases c2 : p1 ≤ 2000
    · exact hJ c1 c2 j h2
    · rw [if_neg c1, if_neg c2] at hx3; exact absurd hx3 (by decide)
-- OctalHouseModel.run
theorem inX8_run_X8 : ∀ w ∈ u_ws RX8 TX8 35, w ∈ wsX8_run := by decide +kernel
def lpX8_run (F : oh_St → oh_St) (p1 : Int32) : Nat → oh_St → Int32 → Int32 × oh_St
  | 0, z, i => (i, z)
  | f + 1, z, i => (let k9 : Int32 × oh_St := (i, z); (if (z 0 12) = (0 : Int32) then (if p1 ≤ i then k9 else (if (z 0 7) = (0 : Int32) then (let s7 : oh_St := (F z); (lpX8_run F p1 f s7 (i + (1 : Int32)))) else k9)) else k9))
def spX8_run (F : oh_St → oh_St) (σ : oh_St) (p1 : Int32) : Int32 × oh_St := (let x3 : Int32 := (if p1 < (0 : Int32) then (1 : Int32) else (if p1 ≤ (2000 : Int32) then (0 : Int32) else (1 : Int32))); (lpX8_run F p1 (p1.toNatClampNeg + 1) (oh_up σ 0 12 x3) (0 : Int32)))
set_option maxHeartbeats 1000000 in
set_option maxRecDepth 100000 in
theorem mtX8_runF (l : Launch) (a : Nat → Nat) (k : Nat → ClassId) (D : va_G) (F : oh_St → oh_St) {M : Nat} (hF : ∀ z : oh_St, oh_WM M z → oh_Mv l yX8_turn wsX8_turn { frames := 5, cells := 0, slots := 0, locals := 116 } D (oh_ty k) (oh_V a k) [.ref (a 0)] z (fun u => u = F z)) (σ : oh_St) (p1 : Int32) (hJ : ¬ p1 < 0 → p1 ≤ 2000 → ∀ j : Nat, j ≤ p1.toNatClampNeg → oh_WM M (oh_im F j (oh_up σ 0 12 0))) : oh_Mi l yX8_run wsX8_run { frames := 6, cells := 0, slots := 0, locals := 139 } D (oh_ty k) (oh_V a k) [.ref (a 0), .int p1] σ (fun r u => r = (spX8_run F σ p1).1 ∧ u = (spX8_run F σ p1).2) := by
  refine oh_ini (cc := cX8_run) (nL := 3) (rt := some .int) (by decide) rfl (Nat.le_of_ble_eq_true rfl) ?_
  intro p e s m below meth c A ls hC hP hD hS hl
  obtain ⟨hx, hb, hml, hown, hts, hr, hlocks, hK, hN, hA⟩ := id hC
  have hl : lv_has ls 3 [(0, .ref (a 0)), (1, .int p1)] := hl
  refine lv_aload_n hx hb dX8_run_0 rfl (lv_at hl 0 rfl) ?_
  refine lv_iload_n hx hb dX8_run_1 rfl (lv_at hl 1 rfl) ?_
  have K10 : ∀ x3 : Int32, x3 = (if p1 < (0 : Int32) then (1 : Int32) else (if p1 ≤ (2000 : Int32) then (0 : Int32) else (1 : Int32))) → ∀ (ls : Array Slot) (H : Heap) (locs : List Loc), va_P D vwCl (oh_V a k σ) H → va_D A (oh_V a k σ) → va_S A s.heap H locs → lv_has ls 3 [(0, .ref (a 0)), (1, .int p1)] → W p l e ({ frames := 6, cells := 0, slots := 0, locals := 139 } : Room) s m (([.ref (a 0), .int p1] : List Value).toArray) below meth c H locs 0 0 (oh_Ei below (fun r u => r = (spX8_run F σ p1).1 ∧ u = (spX8_run F σ p1).2) D (oh_V a k) A [.ref (a 0), .int p1] s) (F0 m 17 ls [.int x3, .ref (a 0)]) := by
    intro x3 hx3 ls H locs hP hD hS hl
    refine oh_put (σ' := (oh_up σ 0 12 x3)) (v := .int x3) hC hP hD hS inX8_run_X8 tyX8 tyX8_ok nmX8 0 rfl rfl 0 (by decide) (by decide +kernel) rfl rfl rfl (by simp) rfl dX8_run_17 (fun H locs hP hD hS => ?_)
    refine lv_iconst (v := (0 : Int32)) hx hb dX8_run_20 (by decide) ?_
    refine lv_istore_n (lv' := [(2, .int (0 : Int32)), (0, .ref (a 0)), (1, .int p1)]) hx hb dX8_run_21 rfl hl (by decide) rfl (fun ls hl => ?_)
    have LP : ∀ (f : Nat) (z : oh_St) (i : Int32), oh_mI F p1 (oh_up σ 0 12 x3) f z i → lpX8_run F p1 f z i = spX8_run F σ p1 → ∀ (ls : Array Slot) (H : Heap) (locs : List Loc), va_P D vwCl (oh_V a k z) H → va_D A (oh_V a k z) → va_S A s.heap H locs → lv_has ls 3 [(2, .int i), (0, .ref (a 0)), (1, .int p1)] → W p l e ({ frames := 6, cells := 0, slots := 0, locals := 139 } : Room) s m (([.ref (a 0), .int p1] : List Value).toArray) below meth c H locs 0 0 (oh_Ei below (fun r u => r = (spX8_run F σ p1).1 ∧ u = (spX8_run F σ p1).2) D (oh_V a k) A [.ref (a 0), .int p1] s) (F0 m 22 ls []) := by
      intro f
      induction f with
      | zero => intro z i hI; exact absurd hI (oh_mI0)
      | succ f ih =>
        intro z i hI hk ls H locs hP hD hS hl
        refine lv_aload_n hx hb dX8_run_22 rfl (lv_at hl 1 rfl) ?_
        refine oh_get (v := .int (z 0 12)) hC hP inX8_run_X8 0 rfl rfl 0 (by decide) (by decide +kernel) rfl dX8_run_23 ?_
        have K8 : (i, z) = spX8_run F σ p1 → ∀ (ls : Array Slot) (H : Heap) (locs : List Loc), va_P D vwCl (oh_V a k z) H → va_D A (oh_V a k z) → va_S A s.heap H locs → lv_has ls 3 [(2, .int i), (0, .ref (a 0)), (1, .int p1)] → W p l e ({ frames := 6, cells := 0, slots := 0, locals := 139 } : Room) s m (([.ref (a 0), .int p1] : List Value).toArray) below meth c H locs 0 0 (oh_Ei below (fun r u => r = (spX8_run F σ p1).1 ∧ u = (spX8_run F σ p1).2) D (oh_V a k) A [.ref (a 0), .int p1] s) (F0 m 51 ls []) := by
          intro hK8 ls H locs hP hD hS hl
          refine lv_iload_n hx hb dX8_run_51 rfl (lv_at hl 0 rfl) ?_
          exact oh_reti (v := i) (u := z) hC hP hD hS (oh_pair (by exact hK8)) dX8_run_52
        refine lv_if_ne (tgt := 51) hx hb dX8_run_26 (by decide) (fun c4 => ?_) (fun c4 => ?_)
        · exact K8 (((if_neg c4).symm).trans hk) ls _ _ hP hD hS (lv_sub hl [0, 1, 2] rfl)
        · refine lv_iload_n hx hb dX8_run_29 rfl (lv_at hl 0 rfl) ?_
          refine lv_iload_n hx hb dX8_run_30 rfl (lv_at hl 2 rfl) ?_
          refine lv_icmp_ge (tgt := 51) hx hb dX8_run_31 (by decide) (fun c5 => ?_) (fun c5 => ?_)
          · exact K8 ((((if_pos c4).trans (if_pos c5)).symm).trans hk) ls _ _ hP hD hS (lv_sub hl [0, 1, 2] rfl)
          · refine lv_aload_n hx hb dX8_run_34 rfl (lv_at hl 1 rfl) ?_
            refine oh_get (v := .int (z 0 7)) hC hP inX8_run_X8 0 rfl rfl 10 (by decide) (by decide +kernel) rfl dX8_run_35 ?_
            refine lv_if_ne (tgt := 51) hx hb dX8_run_38 (by decide) (fun c6 => ?_) (fun c6 => ?_)
            · exact K8 (((((if_pos c4).trans (if_neg c5)).trans (if_neg c6)).symm).trans hk) ls _ _ hP hD hS (lv_sub hl [0, 1, 2] rfl)
            · refine lv_aload_n hx hb dX8_run_41 rfl (lv_at hl 1 rfl) ?_
              refine oh_cvv (As := []) (rest := []) hC hP hD hS (hF z (oh_mIw hJ hx3 hI c4)) (cwV 0 hts gX8_run_X8_turn rfl rfl rfl (by decide +kernel) ⟨Nat.le_of_ble_eq_true rfl, Nat.le_of_ble_eq_true rfl⟩) 0 8 rfl rfl rfl hl.1 rfl (Nat.le_of_ble_eq_true rfl) dX8_run_42 (fun s7 H locs hs7 hP hD hS => ?_)
              refine lv_iinc (v := (i + (1 : Int32))) (lv' := [(2, .int (i + (1 : Int32))), (0, .ref (a 0)), (1, .int p1)]) hx hb dX8_run_45 hl (k := 0) rfl (by first | rfl | decide) (by decide) rfl (fun ls hl => ?_)
              refine lv_goto (tgt := 22) hx hb dX8_run_48 (by decide) ?_
              exact ih s7 (i + (1 : Int32)) (oh_mIs hI c4 c5 hs7) ((by subst hs7; exact ((((if_pos c4).trans (if_neg c5)).trans (if_pos c6)).symm).trans hk)) ls _ _ hP hD hS (lv_sub hl [0, 1, 2] rfl)
    exact LP (p1.toNatClampNeg + 1) (oh_up σ 0 12 x3) (0 : Int32) ⟨0, rfl, by omega, by omega, rfl, Or.inr rfl⟩ ((by subst hx3; exact rfl)) ls _ _ hP hD hS (lv_sub hl [0, 1, 2] rfl)
  refine lv_if_lt (tgt := 12) hx hb dX8_run_2 (by decide) (fun c1 => ?_) (fun c1 => ?_)
  · refine lv_iconst (v := (1 : Int32)) hx hb dX8_run_12 (by decide) ?_
    refine lv_goto (tgt := 17) hx hb dX8_run_13 (by decide) ?_
    exact K10 _ (if_pos c1).symm ls _ _ hP hD hS (lv_sub hl [0, 1] rfl)
  · refine lv_iload_n hx hb dX8_run_5 rfl (lv_at hl 1 rfl) ?_
    refine lv_sipush (v := (2000 : Int32)) hx hb dX8_run_6 (by decide) ?_
    refine lv_icmp_le (tgt := 16) hx hb dX8_run_9 (by decide) (fun c2 => ?_) (fun c2 => ?_)
    · refine lv_iconst (v := (0 : Int32)) hx hb dX8_run_16 (by decide) ?_
      exact K10 _ ((if_neg c1).trans (if_pos c2)).symm ls _ _ hP hD hS (lv_sub hl [0, 1] rfl)
    · refine lv_iconst (v := (1 : Int32)) hx hb dX8_run_12 (by decide) ?_
      refine lv_goto (tgt := 17) hx hb dX8_run_13 (by decide) ?_
      exact K10 _ ((if_neg c1).trans (if_neg c2)).symm ls _ _ hP hD hS (lv_sub hl [0, 1] rfl)
