/-- what a device's being ready rests on -/
def oh_rdy (σ : oh_St) (p1 : Int32) : Prop := (∃ j : Nat, j < 4 ∧ p1 = nI (8 + j)) ∧ (∃ t : Nat, t ≤ 100 ∧ σ 16 p1.toNatClampNeg = nI t) ∧ ¬ σ 17 p1.toNatClampNeg < 0
theorem oh_rd12 {σ : oh_St} {p1 : Int32} (h : oh_rdy σ p1) : vp_in p1 12 := by
  obtain ⟨⟨j, hj, rfl⟩, -, -⟩ := h
  exact vp_in_nI (by omega) (by decide)
theorem oh_rdO {σ : oh_St} {p1 : Int32} (h : oh_rdy σ p1) (c : ¬ (200 : Int32) ≤ σ 17 p1.toNatClampNeg) : vp_in (((200 : Int32) * p1) + σ 17 p1.toNatClampNeg) 2400 := by
  obtain ⟨⟨j, hj, e⟩, -, h3⟩ := h
  obtain ⟨t, ht, e2⟩ := vp_in_of (oh_in (N := 200) (n := 200) h3 c rfl) (by decide)
  rw [e2, e, show (200 : Int32) = nI 200 from rfl, pk_mul, nI_add]
  exact vp_in_nI (by omega) (by decide)
theorem oh_rdT {σ : oh_St} {p1 : Int32} (h : oh_rdy σ p1) : vp_in ((100 : Int32) * p1) 1200 := by
  obtain ⟨⟨j, hj, e⟩, -, -⟩ := h
  rw [e, show (100 : Int32) = nI 100 from rfl, pk_mul]
  exact vp_in_nI (by omega) (by decide)
def oh_yI (p1 : Int32) (f : Nat) (z : oh_St) (i : Int32) : Prop := (∃ j : Nat, j < 4 ∧ p1 = nI (8 + j)) ∧ ∃ j t : Nat, i = nI j ∧ z 16 p1.toNatClampNeg = nI t ∧ t < 100 ∧ j + f = t + 1 ∧ j ≤ t
theorem oh_yI0 {p1 : Int32} {z : oh_St} {i : Int32} : ¬ oh_yI p1 0 z i := by
  rintro ⟨-, j, t, -, -, -, h1, h2⟩
  omega
theorem oh_yIi {σ z : oh_St} {p1 : Int32} (h : oh_rdy σ p1) (c : ¬ σ 16 p1.toNatClampNeg ≤ 0) (hz : z 16 p1.toNatClampNeg = σ 16 p1.toNatClampNeg - 1) : oh_yI p1 (σ 16 p1.toNatClampNeg).toNatClampNeg z 0 := by
  obtain ⟨h1, ⟨t, ht, e⟩, -⟩ := h
  rw [e] at c hz ⊢
  have : t ≠ 0 := fun e0 => c (by rw [e0]; decide)
  obtain ⟨u, rfl⟩ : ∃ u, t = u + 1 := ⟨t - 1, by omega⟩
  rw [nI_clamp (by omega)]
  exact ⟨h1, 0, u, rfl, by rw [hz]; exact nI_pred u, by omega, by omega, by omega⟩
theorem oh_yIs {p1 : Int32} {z z' : oh_St} {i : Int32} {f : Nat} (hI : oh_yI p1 (f + 1) z i) (c : ¬ z 16 p1.toNatClampNeg ≤ i) (hz : z' 16 p1.toNatClampNeg = z 16 p1.toNatClampNeg) : oh_yI p1 f z' (i + 1) := by
  obtain ⟨h1, j, t, rfl, e, h2, h3, h4⟩ := hI
  rw [e, Int32.le_iff_toInt_le, nI_toInt (by omega), nI_toInt (by omega)] at c
  exact ⟨h1, j + 1, t, nI_1 j, by rw [hz, e], h2, by omega, by omega⟩
theorem oh_yIa {p1 : Int32} {z : oh_St} {i : Int32} {f : Nat} (hI : oh_yI p1 (f + 1) z i) (c : ¬ z 16 p1.toNatClampNeg ≤ i) : vp_in (((100 : Int32) * p1) + i) 1200 ∧ vp_in ((((100 : Int32) * p1) + i) + 1) 1200 := by
  obtain ⟨⟨q, hq, e1⟩, j, t, rfl, e, h2, h3, h4⟩ := hI
  rw [e, Int32.le_iff_toInt_le, nI_toInt (by omega), nI_toInt (by omega)] at c
  rw [e1, show (100 : Int32) = nI 100 from rfl, pk_mul, nI_add, nI_1]
  exact ⟨vp_in_nI (by omega) (by decide), vp_in_nI (by omega) (by decide)⟩
theorem oh_yI12 {p1 : Int32} {z : oh_St} {i : Int32} {f : Nat} (hI : oh_yI p1 f z i) : vp_in p1 12 := by
  obtain ⟨⟨q, hq, e1⟩, -⟩ := hI
  rw [e1]
  exact vp_in_nI (by omega) (by decide)
-- OctalHouseModel.ready
theorem inX8_ready_X8 : ∀ w ∈ u_ws RX8 TX8 35, w ∈ wsX8_ready := by decide +kernel
def lpX8_ready (p1 : Int32) : Nat → oh_St → Int32 → oh_St
  | 0, z, i => z
  | f + 1, z, i => (if (z 16 p1.toNatClampNeg) ≤ i then (oh_up (oh_up z 3 p1.toNatClampNeg (1 : Int32)) 4 p1.toNatClampNeg (1 : Int32)) else (lpX8_ready p1 f (oh_up z 20 (((100 : Int32) * p1) + i).toNatClampNeg (z 20 ((((100 : Int32) * p1) + i) + (1 : Int32)).toNatClampNeg)) (i + (1 : Int32))))
def spX8_ready_k6 (p1 : Int32) (s5 : oh_St) : oh_St := (oh_up (oh_up (oh_up s5 17 p1.toNatClampNeg ((s5 17 p1.toNatClampNeg) + (1 : Int32))) 3 p1.toNatClampNeg (1 : Int32)) 4 p1.toNatClampNeg (1 : Int32))
def spX8_ready (σ : oh_St) (p1 : Int32) : oh_St := (if (σ 12 p1.toNatClampNeg) = (0 : Int32) then (if (σ 16 p1.toNatClampNeg) ≤ (0 : Int32) then (oh_up (oh_up (oh_up σ 14 p1.toNatClampNeg (0 : Int32)) 3 p1.toNatClampNeg (1 : Int32)) 4 p1.toNatClampNeg (1 : Int32)) else (lpX8_ready p1 ((σ 16 p1.toNatClampNeg).toNatClampNeg) (oh_up (oh_up (oh_up σ 14 p1.toNatClampNeg (0 : Int32)) 14 p1.toNatClampNeg (σ 20 ((100 : Int32) * p1).toNatClampNeg)) 16 p1.toNatClampNeg ((σ 16 p1.toNatClampNeg) - (1 : Int32))) (0 : Int32))) else (let s5 : oh_St := (if (200 : Int32) ≤ (σ 17 p1.toNatClampNeg) then σ else (oh_up σ 24 (((200 : Int32) * p1) + (σ 17 p1.toNatClampNeg)).toNatClampNeg (σ 14 p1.toNatClampNeg))); (spX8_ready_k6 p1 s5)))
set_option maxHeartbeats 8000000 in
set_option maxRecDepth 100000 in
theorem mtX8_ready (l : Launch) (a : Nat → Nat) (k : Nat → ClassId) (D : va_G) (σ : oh_St) (p1 : Int32) (hR : oh_rdy σ p1) : oh_Mv l yX8_ready wsX8_ready { frames := 0, cells := 0, slots := 0, locals := 0 } D (oh_ty k) (oh_V a k) [.ref (a 0), .int p1] σ (fun u => u = spX8_ready σ p1) := by
  refine oh_inv (cc := cX8_ready) (nL := 3) (rt := none) (by decide) rfl (Nat.le_of_ble_eq_true rfl) ?_
  intro p e s m below meth c A ls hC hP hD hS hl
  obtain ⟨hx, hb, hml, hown, hts, hr, hlocks, hK, hN, hA⟩ := id hC
  have hl : lv_has ls 3 [(0, .ref (a 0)), (1, .int p1)] := hl
  refine lv_aload_n hx hb dX8_ready_0 rfl (lv_at hl 0 rfl) ?_
  refine oh_get (v := .ref (a 12)) hC hP inX8_ready_X8 0 rfl rfl 27 (by decide) (by decide +kernel) rfl dX8_ready_1 ?_
  refine lv_iload_n hx hb dX8_ready_4 rfl (lv_at hl 1 rfl) ?_
  refine oh_zald hC hP 12 4 rfl rfl (oh_rd12 hR) dX8_ready_5 ?_
  refine lv_if_eq (tgt := 57) hx hb dX8_ready_6 (by decide) (fun c1 => ?_) (fun c1 => ?_)
  · refine lv_aload_n hx hb dX8_ready_57 rfl (lv_at hl 0 rfl) ?_
    refine oh_get (v := .ref (a 14)) hC hP inX8_ready_X8 0 rfl rfl 29 (by decide) (by decide +kernel) rfl dX8_ready_58 ?_
    refine lv_iload_n hx hb dX8_ready_61 rfl (lv_at hl 1 rfl) ?_
    refine lv_iconst (v := (0 : Int32)) hx hb dX8_ready_62 (by decide) ?_
    refine oh_iast (σ' := (oh_up σ 14 p1.toNatClampNeg (0 : Int32))) hC hP hD hS 14 0 rfl rfl (oh_rd12 hR) rfl dX8_ready_63 (fun H locs hP hD hS => ?_)
    refine lv_aload_n hx hb dX8_ready_64 rfl (lv_at hl 0 rfl) ?_
    refine oh_get (v := .ref (a 16)) hC hP inX8_ready_X8 0 rfl rfl 31 (by decide) (by decide +kernel) rfl dX8_ready_65 ?_
    refine lv_iload_n hx hb dX8_ready_68 rfl (lv_at hl 1 rfl) ?_
    refine oh_iald hC hP 16 0 rfl rfl (oh_rd12 hR) dX8_ready_69 ?_
    refine lv_if_le (tgt := 140) hx hb dX8_ready_70 (by decide) (fun c2 => ?_) (fun c2 => ?_)
    · refine lv_aload_n hx hb dX8_ready_140 rfl (lv_at hl 0 rfl) ?_
      refine oh_get (v := .ref (a 3)) hC hP inX8_ready_X8 0 rfl rfl 18 (by decide) (by decide +kernel) rfl dX8_ready_141 ?_
      refine lv_iload_n hx hb dX8_ready_144 rfl (lv_at hl 1 rfl) ?_
      refine lv_iconst (v := (1 : Int32)) hx hb dX8_ready_145 (by decide) ?_
      refine oh_zast (σ' := (oh_up (oh_up σ 14 p1.toNatClampNeg (0 : Int32)) 3 p1.toNatClampNeg (1 : Int32))) hC hP hD hS 3 4 rfl rfl (oh_rd12 hR) (by decide) rfl dX8_ready_146 (fun H locs hP hD hS => ?_)
      refine lv_aload_n hx hb dX8_ready_147 rfl (lv_at hl 0 rfl) ?_
      refine oh_get (v := .ref (a 4)) hC hP inX8_ready_X8 0 rfl rfl 19 (by decide) (by decide +kernel) rfl dX8_ready_148 ?_
      refine lv_iload_n hx hb dX8_ready_151 rfl (lv_at hl 1 rfl) ?_
      refine lv_iconst (v := (1 : Int32)) hx hb dX8_ready_152 (by decide) ?_
      refine oh_zast (σ' := (oh_up (oh_up (oh_up σ 14 p1.toNatClampNeg (0 : Int32)) 3 p1.toNatClampNeg (1 : Int32)) 4 p1.toNatClampNeg (1 : Int32))) hC hP hD hS 4 4 rfl rfl (oh_rd12 hR) (by decide) rfl dX8_ready_153 (fun H locs hP hD hS => ?_)
      exact oh_retv (u := (oh_up (oh_up (oh_up σ 14 p1.toNatClampNeg (0 : Int32)) 3 p1.toNatClampNeg (1 : Int32)) 4 p1.toNatClampNeg (1 : Int32))) hC hP hD hS (by exact ((if_pos c1).trans (if_pos c2)).symm) dX8_ready_154
    · refine lv_aload_n hx hb dX8_ready_73 rfl (lv_at hl 0 rfl) ?_
      refine oh_get (v := .ref (a 14)) hC hP inX8_ready_X8 0 rfl rfl 29 (by decide) (by decide +kernel) rfl dX8_ready_74 ?_
      refine lv_iload_n hx hb dX8_ready_77 rfl (lv_at hl 1 rfl) ?_
      refine lv_aload_n hx hb dX8_ready_78 rfl (lv_at hl 0 rfl) ?_
      refine oh_get (v := .ref (a 18)) hC hP inX8_ready_X8 0 rfl rfl 33 (by decide) (by decide +kernel) rfl dX8_ready_79 ?_
      refine lv_bipush (v := (100 : Int32)) hx hb dX8_ready_82 (by decide) ?_
      refine lv_iload_n hx hb dX8_ready_84 rfl (lv_at hl 1 rfl) ?_
      refine lv_imul hx hb dX8_ready_85 ?_
      refine oh_iald hC hP 18 0 rfl rfl (oh_rdT hR) dX8_ready_86 ?_
      refine oh_iast (σ' := (oh_up (oh_up σ 14 p1.toNatClampNeg (0 : Int32)) 14 p1.toNatClampNeg (σ 20 ((100 : Int32) * p1).toNatClampNeg))) hC hP hD hS 14 0 rfl rfl (oh_rd12 hR) rfl dX8_ready_87 (fun H locs hP hD hS => ?_)
      refine lv_aload_n hx hb dX8_ready_88 rfl (lv_at hl 0 rfl) ?_
      refine oh_get (v := .ref (a 16)) hC hP inX8_ready_X8 0 rfl rfl 31 (by decide) (by decide +kernel) rfl dX8_ready_89 ?_
      refine lv_iload_n hx hb dX8_ready_92 rfl (lv_at hl 1 rfl) ?_
      refine lv_dup2_11 hx hb dX8_ready_93 rfl rfl ?_
      refine oh_iald hC hP 16 0 rfl rfl (oh_rd12 hR) dX8_ready_94 ?_
      refine lv_iconst (v := (1 : Int32)) hx hb dX8_ready_95 (by decide) ?_
      refine lv_isub hx hb dX8_ready_96 ?_
      refine oh_iast (σ' := (oh_up (oh_up (oh_up σ 14 p1.toNatClampNeg (0 : Int32)) 14 p1.toNatClampNeg (σ 20 ((100 : Int32) * p1).toNatClampNeg)) 16 p1.toNatClampNeg ((σ 16 p1.toNatClampNeg) - (1 : Int32)))) hC hP hD hS 16 0 rfl rfl (oh_rd12 hR) rfl dX8_ready_97 (fun H locs hP hD hS => ?_)
      refine lv_iconst (v := (0 : Int32)) hx hb dX8_ready_98 (by decide) ?_
      refine lv_istore_n (lv' := [(2, .int (0 : Int32)), (0, .ref (a 0)), (1, .int p1)]) hx hb dX8_ready_99 rfl hl (by decide) rfl (fun ls hl => ?_)
      have LP : ∀ (f : Nat) (z : oh_St) (i : Int32), oh_yI p1 f z i → lpX8_ready p1 f z i = spX8_ready σ p1 → ∀ (ls : Array Slot) (H : Heap) (locs : List Loc), va_P D vwCl (oh_V a k z) H → va_D A (oh_V a k z) → va_S A s.heap H locs → lv_has ls 3 [(2, .int i), (0, .ref (a 0)), (1, .int p1)] → W p l e ({ frames := 0, cells := 0, slots := 0, locals := 0 } : Room) s m (([.ref (a 0), .int p1] : List Value).toArray) below meth c H locs 0 0 (oh_Ev below (fun u => u = spX8_ready σ p1) D (oh_V a k) A [.ref (a 0), .int p1] s) (F0 m 100 ls []) := by
        intro f
        induction f with
        | zero => intro z i hI; exact absurd hI (oh_yI0)
        | succ f ih =>
          intro z i hI hk ls H locs hP hD hS hl
          refine lv_iload_n hx hb dX8_ready_100 rfl (lv_at hl 0 rfl) ?_
          refine lv_aload_n hx hb dX8_ready_101 rfl (lv_at hl 1 rfl) ?_
          refine oh_get (v := .ref (a 16)) hC hP inX8_ready_X8 0 rfl rfl 31 (by decide) (by decide +kernel) rfl dX8_ready_102 ?_
          refine lv_iload_n hx hb dX8_ready_105 rfl (lv_at hl 2 rfl) ?_
          refine oh_iald hC hP 16 0 rfl rfl (oh_rd12 hR) dX8_ready_106 ?_
          refine lv_icmp_ge (tgt := 140) hx hb dX8_ready_107 (by decide) (fun c3 => ?_) (fun c3 => ?_)
          · refine lv_aload_n hx hb dX8_ready_140 rfl (lv_at hl 1 rfl) ?_
            refine oh_get (v := .ref (a 3)) hC hP inX8_ready_X8 0 rfl rfl 18 (by decide) (by decide +kernel) rfl dX8_ready_141 ?_
            refine lv_iload_n hx hb dX8_ready_144 rfl (lv_at hl 2 rfl) ?_
            refine lv_iconst (v := (1 : Int32)) hx hb dX8_ready_145 (by decide) ?_
            refine oh_zast (σ' := (oh_up z 3 p1.toNatClampNeg (1 : Int32))) hC hP hD hS 3 4 rfl rfl (oh_rd12 hR) (by decide) rfl dX8_ready_146 (fun H locs hP hD hS => ?_)
            refine lv_aload_n hx hb dX8_ready_147 rfl (lv_at hl 1 rfl) ?_
            refine oh_get (v := .ref (a 4)) hC hP inX8_ready_X8 0 rfl rfl 19 (by decide) (by decide +kernel) rfl dX8_ready_148 ?_
            refine lv_iload_n hx hb dX8_ready_151 rfl (lv_at hl 2 rfl) ?_
            refine lv_iconst (v := (1 : Int32)) hx hb dX8_ready_152 (by decide) ?_
            refine oh_zast (σ' := (oh_up (oh_up z 3 p1.toNatClampNeg (1 : Int32)) 4 p1.toNatClampNeg (1 : Int32))) hC hP hD hS 4 4 rfl rfl (oh_rd12 hR) (by decide) rfl dX8_ready_153 (fun H locs hP hD hS => ?_)
            exact oh_retv (u := (oh_up (oh_up z 3 p1.toNatClampNeg (1 : Int32)) 4 p1.toNatClampNeg (1 : Int32))) hC hP hD hS (by exact ((if_pos c3).symm).trans hk) dX8_ready_154
          · refine lv_aload_n hx hb dX8_ready_110 rfl (lv_at hl 1 rfl) ?_
            refine oh_get (v := .ref (a 18)) hC hP inX8_ready_X8 0 rfl rfl 33 (by decide) (by decide +kernel) rfl dX8_ready_111 ?_
            refine lv_bipush (v := (100 : Int32)) hx hb dX8_ready_114 (by decide) ?_
            refine lv_iload_n hx hb dX8_ready_116 rfl (lv_at hl 2 rfl) ?_
            refine lv_imul hx hb dX8_ready_117 ?_
            refine lv_iload_n hx hb dX8_ready_118 rfl (lv_at hl 0 rfl) ?_
            refine lv_iadd hx hb dX8_ready_119 ?_
            refine lv_aload_n hx hb dX8_ready_120 rfl (lv_at hl 1 rfl) ?_
            refine oh_get (v := .ref (a 18)) hC hP inX8_ready_X8 0 rfl rfl 33 (by decide) (by decide +kernel) rfl dX8_ready_121 ?_
            refine lv_bipush (v := (100 : Int32)) hx hb dX8_ready_124 (by decide) ?_
            refine lv_iload_n hx hb dX8_ready_126 rfl (lv_at hl 2 rfl) ?_
            refine lv_imul hx hb dX8_ready_127 ?_
            refine lv_iload_n hx hb dX8_ready_128 rfl (lv_at hl 0 rfl) ?_
            refine lv_iadd hx hb dX8_ready_129 ?_
            refine lv_iconst (v := (1 : Int32)) hx hb dX8_ready_130 (by decide) ?_
            refine lv_iadd hx hb dX8_ready_131 ?_
            refine oh_iald hC hP 18 0 rfl rfl (oh_yIa hI c3).2 dX8_ready_132 ?_
            refine oh_iast (σ' := (oh_up z 20 (((100 : Int32) * p1) + i).toNatClampNeg (z 20 ((((100 : Int32) * p1) + i) + (1 : Int32)).toNatClampNeg))) hC hP hD hS 18 0 rfl rfl (oh_yIa hI c3).1 rfl dX8_ready_133 (fun H locs hP hD hS => ?_)
            refine lv_iinc (v := (i + (1 : Int32))) (lv' := [(2, .int (i + (1 : Int32))), (0, .ref (a 0)), (1, .int p1)]) hx hb dX8_ready_134 hl (k := 0) rfl (by first | rfl | decide) (by decide) rfl (fun ls hl => ?_)
            refine lv_goto (tgt := 100) hx hb dX8_ready_137 (by decide) ?_
            exact ih (oh_up z 20 (((100 : Int32) * p1) + i).toNatClampNeg (z 20 ((((100 : Int32) * p1) + i) + (1 : Int32)).toNatClampNeg)) (i + (1 : Int32)) (oh_yIs hI c3 rfl) (((if_neg c3).symm).trans hk) ls _ _ hP hD hS (lv_sub hl [0, 1, 2] rfl)
      exact LP ((σ 16 p1.toNatClampNeg).toNatClampNeg) (oh_up (oh_up (oh_up σ 14 p1.toNatClampNeg (0 : Int32)) 14 p1.toNatClampNeg (σ 20 ((100 : Int32) * p1).toNatClampNeg)) 16 p1.toNatClampNeg ((σ 16 p1.toNatClampNeg) - (1 : Int32))) (0 : Int32) (oh_yIi hR c2 oh_ups) (((if_pos c1).trans (if_neg c2)).symm) ls _ _ hP hD hS (lv_sub hl [0, 1, 2] rfl)
  · refine lv_aload_n hx hb dX8_ready_9 rfl (lv_at hl 0 rfl) ?_
    refine oh_get (v := .ref (a 17)) hC hP inX8_ready_X8 0 rfl rfl 32 (by decide) (by decide +kernel) rfl dX8_ready_10 ?_
    refine lv_iload_n hx hb dX8_ready_13 rfl (lv_at hl 1 rfl) ?_
    refine oh_iald hC hP 17 0 rfl rfl (oh_rd12 hR) dX8_ready_14 ?_
    refine lv_sipush (v := (200 : Int32)) hx hb dX8_ready_15 (by decide) ?_
    have K6 : ∀ s5 : oh_St, s5 = (if (200 : Int32) ≤ (σ 17 p1.toNatClampNeg) then σ else (oh_up σ 24 (((200 : Int32) * p1) + (σ 17 p1.toNatClampNeg)).toNatClampNeg (σ 14 p1.toNatClampNeg))) → ∀ (ls : Array Slot) (H : Heap) (locs : List Loc), va_P D vwCl (oh_V a k s5) H → va_D A (oh_V a k s5) → va_S A s.heap H locs → lv_has ls 3 [(0, .ref (a 0)), (1, .int p1)] → W p l e ({ frames := 0, cells := 0, slots := 0, locals := 0 } : Room) s m (([.ref (a 0), .int p1] : List Value).toArray) below meth c H locs 0 0 (oh_Ev below (fun u => u = spX8_ready σ p1) D (oh_V a k) A [.ref (a 0), .int p1] s) (F0 m 44 ls []) := by
      intro s5 hs5 ls H locs hP hD hS hl
      have hK6 : spX8_ready_k6 p1 s5 = spX8_ready σ p1 := by
        subst hs5
        exact (if_neg c1).symm
      refine lv_aload_n hx hb dX8_ready_44 rfl (lv_at hl 0 rfl) ?_
      refine oh_get (v := .ref (a 17)) hC hP inX8_ready_X8 0 rfl rfl 32 (by decide) (by decide +kernel) rfl dX8_ready_45 ?_
      refine lv_iload_n hx hb dX8_ready_48 rfl (lv_at hl 1 rfl) ?_
      refine lv_dup2_11 hx hb dX8_ready_49 rfl rfl ?_
      refine oh_iald hC hP 17 0 rfl rfl (oh_rd12 hR) dX8_ready_50 ?_
      refine lv_iconst (v := (1 : Int32)) hx hb dX8_ready_51 (by decide) ?_
      refine lv_iadd hx hb dX8_ready_52 ?_
      refine oh_iast (σ' := (oh_up s5 17 p1.toNatClampNeg ((s5 17 p1.toNatClampNeg) + (1 : Int32)))) hC hP hD hS 17 0 rfl rfl (oh_rd12 hR) rfl dX8_ready_53 (fun H locs hP hD hS => ?_)
      refine lv_goto (tgt := 140) hx hb dX8_ready_54 (by decide) ?_
      refine lv_aload_n hx hb dX8_ready_140 rfl (lv_at hl 0 rfl) ?_
      refine oh_get (v := .ref (a 3)) hC hP inX8_ready_X8 0 rfl rfl 18 (by decide) (by decide +kernel) rfl dX8_ready_141 ?_
      refine lv_iload_n hx hb dX8_ready_144 rfl (lv_at hl 1 rfl) ?_
      refine lv_iconst (v := (1 : Int32)) hx hb dX8_ready_145 (by decide) ?_
      refine oh_zast (σ' := (oh_up (oh_up s5 17 p1.toNatClampNeg ((s5 17 p1.toNatClampNeg) + (1 : Int32))) 3 p1.toNatClampNeg (1 : Int32))) hC hP hD hS 3 4 rfl rfl (oh_rd12 hR) (by decide) rfl dX8_ready_146 (fun H locs hP hD hS => ?_)
      refine lv_aload_n hx hb dX8_ready_147 rfl (lv_at hl 0 rfl) ?_
      refine oh_get (v := .ref (a 4)) hC hP inX8_ready_X8 0 rfl rfl 19 (by decide) (by decide +kernel) rfl dX8_ready_148 ?_
      refine lv_iload_n hx hb dX8_ready_151 rfl (lv_at hl 1 rfl) ?_
      refine lv_iconst (v := (1 : Int32)) hx hb dX8_ready_152 (by decide) ?_
      refine oh_zast (σ' := (oh_up (oh_up (oh_up s5 17 p1.toNatClampNeg ((s5 17 p1.toNatClampNeg) + (1 : Int32))) 3 p1.toNatClampNeg (1 : Int32)) 4 p1.toNatClampNeg (1 : Int32))) hC hP hD hS 4 4 rfl rfl (oh_rd12 hR) (by decide) rfl dX8_ready_153 (fun H locs hP hD hS => ?_)
      exact oh_retv (u := (oh_up (oh_up (oh_up s5 17 p1.toNatClampNeg ((s5 17 p1.toNatClampNeg) + (1 : Int32))) 3 p1.toNatClampNeg (1 : Int32)) 4 p1.toNatClampNeg (1 : Int32))) hC hP hD hS (by exact hK6) dX8_ready_154
    refine lv_icmp_ge (tgt := 44) hx hb dX8_ready_18 (by decide) (fun c4 => ?_) (fun c4 => ?_)
    · exact K6 _ (if_pos c4).symm ls _ _ hP hD hS (lv_sub hl [0, 1] rfl)
    · refine lv_aload_n hx hb dX8_ready_21 rfl (lv_at hl 0 rfl) ?_
      refine oh_get (v := .ref (a 19)) hC hP inX8_ready_X8 0 rfl rfl 34 (by decide) (by decide +kernel) rfl dX8_ready_22 ?_
      refine lv_sipush (v := (200 : Int32)) hx hb dX8_ready_25 (by decide) ?_
      refine lv_iload_n hx hb dX8_ready_28 rfl (lv_at hl 1 rfl) ?_
      refine lv_imul hx hb dX8_ready_29 ?_
      refine lv_aload_n hx hb dX8_ready_30 rfl (lv_at hl 0 rfl) ?_
      refine oh_get (v := .ref (a 17)) hC hP inX8_ready_X8 0 rfl rfl 32 (by decide) (by decide +kernel) rfl dX8_ready_31 ?_
      refine lv_iload_n hx hb dX8_ready_34 rfl (lv_at hl 1 rfl) ?_
      refine oh_iald hC hP 17 0 rfl rfl (oh_rd12 hR) dX8_ready_35 ?_
      refine lv_iadd hx hb dX8_ready_36 ?_
      refine lv_aload_n hx hb dX8_ready_37 rfl (lv_at hl 0 rfl) ?_
      refine oh_get (v := .ref (a 14)) hC hP inX8_ready_X8 0 rfl rfl 29 (by decide) (by decide +kernel) rfl dX8_ready_38 ?_
      refine lv_iload_n hx hb dX8_ready_41 rfl (lv_at hl 1 rfl) ?_
      refine oh_iald hC hP 14 0 rfl rfl (oh_rd12 hR) dX8_ready_42 ?_
      refine oh_iast (σ' := (oh_up σ 24 (((200 : Int32) * p1) + (σ 17 p1.toNatClampNeg)).toNatClampNeg (σ 14 p1.toNatClampNeg))) hC hP hD hS 19 0 rfl rfl (oh_rdO hR c4) rfl dX8_ready_43 (fun H locs hP hD hS => ?_)
      exact K6 _ (if_neg c4).symm ls _ _ hP hD hS (lv_sub hl [0, 1] rfl)
