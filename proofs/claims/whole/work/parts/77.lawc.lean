/-! ===== the law's world, a turn of its loop ===== -/
def oh_LW (a b : Nat → Nat) (k : Nat → ClassId) (o : Nat) (kL : ClassId) (v : Nat → Int64) (σ τ : oh_St) : va_W := oh_W a k σ ++ (oh_V b k τ ++ [(o, .inl (kL, 1, .inr (.inl v)))])
section
variable {p : Program} {l : Launch} {e : Env} {R : Room} {s : State} {m : MethodId} {args : Array Value} {below : List Frame} {meth : Method} {c : Code} {H : Heap} {locs : List Loc} {cells slots : Nat} {Q : State → Prop} {D : va_G} {σ : oh_St} {v : Nat → Int64} {a : Nat → Nat} {k : Nat → ClassId} {o : Nat} {kL : ClassId} {cc : ByteArray} {nL pc : Nat} {ls : Array Slot} {ws : List Cond} {own : String} {A : Nat → Prop} {rt : Option FieldType}
variable {w wr : va_W} {y : MethodName} {wy : List Cond} {rm : Room} {bytes : ByteArray} {maxL index n : Nat} {ret : Option FieldType} {hh : List (Nat × Nat × Nat × Nat)} {As rest st0 : List Value}
theorem gc_h {post : Int32 → oh_S2 → Prop} (hC : oh_Cx p s m meth c cc nL rt ws args own D (oh_tyL k kL) A) (hT : oh_Tx A s s.heap) (hX : oh_Sx s) (hNx : oh_Nx s) (hP : va_P D vwCl w H) (hD : va_D A w) (hS : va_S A s.heap H locs) (hM : oh_Hi l y wy rm D a k o kL As σ v post) (cw : vx_CSW R s args own index y bytes maxL ret hh wy rm 1 6 n)
    (isC isR : List Nat) (h1 : isC.map (fun i => w[i]?) = (oh_L a k o kL v σ).map some) (h0 : va_nd isC = true) (h2 : isR.map (fun i => w[i]?) = wr.map some) (h3 : va_nd isR = true) (h4 : ∀ i ∈ isR, i ∉ isC)
    (hn : As.length = n) (hsz : ls.size = nL) (hst : st0 = As.reverse ++ rest) (hW : (rest.map fun v => v.category).sum ≤ 8) (hdg : decode cc pc = .ok (.invokestatic index, 3)) (hf : cells + 1 ≤ R.cells ∧ slots + 6 ≤ R.slots)
    (kk : ∀ (r : Int32) (u : oh_S2) (H1 : Heap) (locs1 : List Loc), post r u → va_P D vwCl (wr ++ oh_L a k o kL u.2 u.1) H1 → va_D A (wr ++ oh_L a k o kL u.2 u.1) → va_S A s.heap H1 locs1 → W p l e R s m args below meth c H1 locs1 (cells + 1) (slots + 6) Q (F0 m (pc + 3) ls (.int r :: rest))) : W p l e R s m args below meth c H locs cells slots Q (F0 m pc ls st0) := by
  obtain ⟨hx, hb, hml, hown, hts, hr, hlocks, hK, hN, hA⟩ := hC
  have hPc : va_P D vwCl (oh_L a k o kL v σ) H := hP.sub isC (oh_subs h1)
  have hDc : va_D A (oh_L a k o kL v σ) := hD.sub isC h0 h1
  have hF := va_free (wc := oh_L a k o kL v σ) hD hS hA isC h1
  have hTH : oh_Tx A s H := hT.kept hS.2.1
  subst hst
  refine va_calli (vx_runSW (As := As) (rest := rest) ⟨hx, hb, hml, hown, hts⟩ (hM H.size) cw ⟨oh_blindH, fun U hU hW => ⟨rfl, oh_PrX.at hPc hK hN hDc hF hTH hX U hU hW, hNx.moved hW.alike⟩⟩ rfl hn hsz rfl (lv_room hW) hdg hf) hS (fun q _ h => hF q h) hF (fun r u t H1 locs1 ht hvm hw hB hz1 hk1 hS1 => ?_)
  obtain ⟨hP1, hD1⟩ := hB
  rw [ht] at hP1
  obtain ⟨hP2, hD2⟩ := va_join (wr := wr) (w1 := oh_L a k o kL u.2 u.1) hP hD isC isR h1 h2 h3 h4 hk1 hF hP1 hD1
  exact kk r u H1 locs1 hw hP2 hD2 hS1
end
/-- what stands all along the law's walk -/
def lw_Cx (p : Program) (l : Launch) (s : State) (m : MethodId) (meth : Method) (c : Code) (D : va_G) (k : Nat → ClassId) (kL : ClassId) (b0 N : Nat) (xs : Nat → Int32) : Prop := oh_Cx p s m meth c code 7 ret wsL_law #[Value.ref b0] RL D (oh_tyL k kL) (fun q => s.heap.size ≤ q) ∧ oh_Tx (fun q => s.heap.size ≤ q) s s.heap ∧ oh_Sx s ∧ oh_Nx s ∧ va_X b0 N xs s s.heap ∧ b0 < s.heap.size ∧ l.stackTraces = false ∧ N ≤ 2048
def lw_St (D : va_G) (a b : Nat → Nat) (k : Nat → ClassId) (o : Nat) (kL : ClassId) (s : State) (v : Nat → Int64) (σ τ : oh_St) (H : Heap) (locs : List Loc) : Prop := va_P D vwCl (oh_LW a b k o kL v σ τ) H ∧ va_D (fun q => s.heap.size ≤ q) (oh_LW a b k o kL v σ τ) ∧ va_S (fun q => s.heap.size ≤ q) s.heap H locs
def lw_lv (a b : Nat → Nat) (o b0 j : Nat) : List (Nat × Value) := [(4, .int (nI (4 * j))), (0, .ref b0), (1, .ref (a 0)), (2, .ref (b 0)), (3, .ref o)]
def lw_Kt (p : Program) (l : Launch) (e : Env) (s : State) (m : MethodId) (below : List Frame) (meth : Method) (c : Code) (D : va_G) (a b : Nat → Nat) (k : Nat → ClassId) (o : Nat) (kL : ClassId) (b0 : Nat) (Q : State → Prop) (j : Nat) : Prop :=
  ∀ (v : Nat → Int64) (σ τ : oh_St) (H : Heap) (locs : List Loc) (ls : Array Slot), rl_L (8000 * (j + 1)) σ τ → lw_St D a b k o kL s v σ τ H locs → lv_has ls 7 (lw_lv a b o b0 j) → W p l e room_1 s m #[Value.ref b0] below meth c H locs (50 + j + 1) (13330 + 6 * j + 6) Q (F0 m 589 ls [])
theorem lw_in {N j d : Nat} (h : 4 * j + 4 ≤ N) (hd : d < 4) (hN : N ≤ 2048) : vp_in (nI (4 * j) + nI d) N := by
  rw [nI_add]
  rintro (h1 | h1)
  · exact nI_pos (by omega) h1
  · rw [nI_clamp (by omega)] at h1; omega
theorem lw_cmp0 (x : Int64) : lg_cmp x x = 0 := by
  unfold lg_cmp
  rw [if_neg (by simp), if_pos rfl]
/-! the reference's run at its turn -/
theorem lw_turn (l : Launch) (b : Nat → Nat) (k : Nat → ClassId) (D : va_G) (z : oh_St) (hz : oh_WM 1999990000 z) : oh_Mv l yX8_turn wsX8_turn { frames := 5, cells := 0, slots := 0, locals := 116 } D (oh_ty k) (oh_V b k) [.ref (b 0)] z (fun u => u = fT z) :=
  mtX8_turnF l b k D spX8_ready spX8_channel spX8_does (fun z p1 h => mtX8_ready l b k D z p1 h) (fun z p1 h1 h2 => mtX8_channel l b k D z p1 h1 h2) (fun z p1 p2 h1 h2 h3 h4 => mtX8_does l b k D z p1 p2 h1 h2 h3 h4) (fun M z p hM h => wm_ready hM h) (fun M z p h => wm_channel h) z does13 (M := 1999990000) (by omega) hz
theorem lw_J7 {M : Nat} {σ τ : oh_St} (L : rl_L M σ τ) (hM : M + 8000 < 1999999000) {q : Int32} (h0 : ¬ q < 0) (h1 : q ≤ 2000) (j : Nat) (hj : j ≤ q.toNatClampNeg) : oh_it spX7_doTurn j σ 0 9 = 0 ∨ oh_it spX7_doTurn j σ 0 9 = 1 := by
  obtain ⟨n, hn, rfl⟩ := nI_of h0
  have hn2 : n ≤ 2000 := (nI_leI (a := n) (b := 2000) (by omega) (by omega)).mp h1
  rw [nI_clamp hn] at hj
  have R := rl_it L j (by omega)
  rw [R.S 0 9 (rl_S0 9 (by omega))]
  exact rl_b01 (R.I 0 9 (b := 2) rfl (by decide))
theorem lw_J8 {M : Nat} {σ τ : oh_St} (L : rl_L M σ τ) (hM : M + 8000 < 1999990000) {q : Int32} (h0 : ¬ q < 0) (h1 : q ≤ 2000) (j : Nat) (hj : j ≤ q.toNatClampNeg) : oh_WM 1999990000 (oh_im fT j (oh_up τ 0 12 0)) := by
  obtain ⟨n, hn, rfl⟩ := nI_of h0
  have hn2 : n ≤ 2000 := (nI_leI (a := n) (b := 2000) (by omega) (by omega)).mp h1
  rw [nI_clamp hn] at hj
  exact wm_mono (rl_wm' (rl_it L j (by omega)).1) (by omega)
theorem lw_16 {M : Nat} {σ τ : oh_St} (L : rl_L M σ τ) (i : Nat) : ∃ t : Nat, t ≤ 100 ∧ τ 16 i = nI t := by
  obtain ⟨t, h1, h2⟩ := rl_R.I L 16 i (b := 101) rfl (by decide)
  rw [oh_ap, if_neg (by omega)] at h2
  exact ⟨t, by omega, h2⟩
set_option maxHeartbeats 2000000 in
set_option maxRecDepth 100000 in
theorem lw_case0 {p : Program} {l : Launch} {e : Env} {s : State} {m : MethodId} {below : List Frame} {meth : Method} {c : Code} {D : va_G} {a b : Nat → Nat} {k : Nat → ClassId} {o : Nat} {kL : ClassId} {b0 N : Nat} {xs : Nat → Int32} {Q : State → Prop} {j : Nat} (C0 : lw_Cx p l s m meth c D k kL b0 N xs) (hj : 4 * j + 4 ≤ N) {v : Nat → Int64} {σ τ : oh_St} {H : Heap} {locs : List Loc} {ls : Array Slot} (L0 : rl_L (8000 * j) σ τ) (S0 : lw_St D a b k o kL s v σ τ H locs) (hl : lv_has ls 7 (lw_lv a b o b0 j)) (K : lw_Kt p l e s m below meth c D a b k o kL b0 Q j) : W p l e room_1 s m #[Value.ref b0] below meth c H locs (50 + j) (13330 + 6 * j) Q (F0 m 96 ls []) := by
  obtain ⟨hC, hT, hX, hNx, hXs, hbl, hst, hN2⟩ := C0
  obtain ⟨hx, hb, hml, hown, hts, hr, hlocks, hK, hN, hA⟩ := id hC
  obtain ⟨hP, hD, hS⟩ := S0
  have hKc : va_K D vwCl (oh_ty k) s := hK.sub [0, 1, 2, 3, 4] rfl
  have hbA : ¬ (fun q : Nat => s.heap.size ≤ q) b0 := Nat.not_le.mpr hbl
  have hl : lv_has ls 7 [(4, .int (nI (4 * j))), (0, .ref b0), (1, .ref (a 0)), (2, .ref (b 0)), (3, .ref o)] := hl
  refine lv_aload_n hx hb dL_law_96 rfl (lv_at hl 2 rfl) ?_
  refine lv_aload_n hx hb dL_law_97 rfl (lv_at hl 1 rfl) ?_
  refine lv_iload hx hb dL_law_98 (lv_at hl 0 rfl) ?_
  refine lv_iconst (v := (1 : Int32)) hx hb dL_law_100 (by decide) ?_
  refine lv_iadd hx hb dL_law_101 ?_
  refine va_sld hx hb hXs hbl hbA hS (lw_in (d := 1) hj (by omega) hN2) dL_law_102 ?_
  refine lv_aload_n hx hb dL_law_103 rfl (lv_at hl 4 rfl) ?_
  refine gc_h (As := [.ref (a 0), .int (xs (nI (4 * j) + 1).toNatClampNeg), .ref o]) (rest := []) (wr := oh_V b k τ) hC hT hX hNx hP hD hS (mtL_run l a k o kL D σ v hst (xs (nI (4 * j) + 1).toNatClampNeg) spX7_doTurn (fun z h => mtX7_doTurn l a k D z h) (fun h0 h1 j9 hj9 => lw_J7 L0 (by omega) h0 h1 j9 hj9)) (vx_cwSW 3 hts gL_law_L_run rfl rfl rfl (by decide +kernel) ⟨Nat.le_of_ble_eq_true rfl, Nat.le_of_ble_eq_true rfl⟩) [0, 1, 2, 3, 4, 5, 6, 7, 8, 9, 10, 11, 12, 13, 14, 15, 16, 17, 18, 19, 20, 21, 22, 23, 24, 25, 26, 27, 28, 49] [29, 30, 31, 32, 33, 34, 35, 36, 37, 38, 39, 40, 41, 42, 43, 44, 45, 46, 47, 48] rfl (by decide) rfl (by decide) (by decide) rfl hl.1 rfl (Nat.le_of_ble_eq_true rfl) dL_law_104 ⟨by show 50 + j + 1 ≤ 601024; omega, by show 13330 + 6 * j + 6 ≤ 7293034; omega⟩ (fun r1 u1 H locs hp1 hP hD hS => ?_)
  obtain ⟨σ1, v1⟩ := u1
  dsimp only at hp1 hP hD
  have hP : va_P D vwCl (oh_LW a b k o kL v1 σ1 τ) H := hP.sub [20, 21, 22, 23, 24, 25, 26, 27, 28, 29, 30, 31, 32, 33, 34, 35, 36, 37, 38, 39, 40, 41, 42, 43, 44, 45, 46, 47, 48, 0, 1, 2, 3, 4, 5, 6, 7, 8, 9, 10, 11, 12, 13, 14, 15, 16, 17, 18, 19, 49] rfl
  have hD : va_D (fun q => s.heap.size ≤ q) (oh_LW a b k o kL v1 σ1 τ) := hD.sub [20, 21, 22, 23, 24, 25, 26, 27, 28, 29, 30, 31, 32, 33, 34, 35, 36, 37, 38, 39, 40, 41, 42, 43, 44, 45, 46, 47, 48, 0, 1, 2, 3, 4, 5, 6, 7, 8, 9, 10, 11, 12, 13, 14, 15, 16, 17, 18, 19, 49] (by decide) rfl
  obtain ⟨hr1, hs1, hv1⟩ := hp1
  refine lv_istore (lv' := [(5, .int r1), (4, .int (nI (4 * j))), (0, .ref b0), (1, .ref (a 0)), (2, .ref (b 0)), (3, .ref o)]) hx hb dL_law_107 hl (by decide) rfl (fun ls hl => ?_)
  refine lv_aload_n hx hb dL_law_109 rfl (lv_at hl 4 rfl) ?_
  refine lv_aload_n hx hb dL_law_110 rfl (lv_at hl 2 rfl) ?_
  refine lv_iload hx hb dL_law_111 (lv_at hl 1 rfl) ?_
  refine lv_iconst (v := (1 : Int32)) hx hb dL_law_113 (by decide) ?_
  refine lv_iadd hx hb dL_law_114 ?_
  refine va_sld hx hb hXs hbl hbA hS (lw_in (d := 1) hj (by omega) hN2) dL_law_115 ?_
  refine gc_vi (Wd := oh_V b k) (As := [.int (xs (nI (4 * j) + 1).toNatClampNeg)]) (rest := []) (wr := oh_W a k σ1 ++ [(o, .inl (kL, 1, .inr (.inl v1)))]) hC hKc hP hD hS (mtX8_runF l b k D fT (M := 1999990000) (fun z hz => lw_turn l b k D z hz) τ (xs (nI (4 * j) + 1).toNatClampNeg) (fun h0 h1 j9 hj9 => lw_J8 L0 (by omega) h0 h1 j9 hj9)) (cwV 1 hts gL_law_X8_run rfl rfl rfl (by decide +kernel) ⟨Nat.le_of_ble_eq_true rfl, Nat.le_of_ble_eq_true rfl⟩) [29, 30, 31, 32, 33, 34, 35, 36, 37, 38, 39, 40, 41, 42, 43, 44, 45, 46, 47, 48] [0, 1, 2, 3, 4, 5, 6, 7, 8, 9, 10, 11, 12, 13, 14, 15, 16, 17, 18, 19, 20, 21, 22, 23, 24, 25, 26, 27, 28, 49] rfl (by decide) rfl (by decide) (by decide) 0 8 rfl rfl rfl hl.1 rfl (Nat.le_of_ble_eq_true rfl) dL_law_116 ⟨by show 50 + j + 1 ≤ 601024; omega, by show 13330 + 6 * j + 6 ≤ 7293034; omega⟩ (fun r2 τ1 H locs hp2 hP hD hS => ?_)
  have hP : va_P D vwCl (oh_LW a b k o kL v1 σ1 τ1) H := hP.sub [0, 1, 2, 3, 4, 5, 6, 7, 8, 9, 10, 11, 12, 13, 14, 15, 16, 17, 18, 19, 20, 21, 22, 23, 24, 25, 26, 27, 28, 30, 31, 32, 33, 34, 35, 36, 37, 38, 39, 40, 41, 42, 43, 44, 45, 46, 47, 48, 49, 29] rfl
  have hD : va_D (fun q => s.heap.size ≤ q) (oh_LW a b k o kL v1 σ1 τ1) := hD.sub [0, 1, 2, 3, 4, 5, 6, 7, 8, 9, 10, 11, 12, 13, 14, 15, 16, 17, 18, 19, 20, 21, 22, 23, 24, 25, 26, 27, 28, 30, 31, 32, 33, 34, 35, 36, 37, 38, 39, 40, 41, 42, 43, 44, 45, 46, 47, 48, 49, 29] (by decide) rfl
  obtain ⟨hr2, ht1⟩ := hp2
  refine lv_istore (lv' := [(6, .int r2), (5, .int r1), (4, .int (nI (4 * j))), (0, .ref b0), (1, .ref (a 0)), (2, .ref (b 0)), (3, .ref o)]) hx hb dL_law_119 hl (by decide) rfl (fun ls hl => ?_)
  have CL := cl_run (by omega) L0 (xs (nI (4 * j) + 1).toNatClampNeg)
  rw [← hr1, ← hs1, ← hr2, ← ht1] at CL
  obtain ⟨⟨ck, cv⟩, L1⟩ := CL
  refine lv_aload_n hx hb dL_law_121 rfl (lv_at hl 5 rfl) ?_
  refine gc_vi (Wd := oh_V b k) (As := []) (rest := []) (wr := oh_W a k σ1 ++ [(o, .inl (kL, 1, .inr (.inl v1)))]) hC hKc hP hD hS (mtX8_thrown l b k D τ1) (cwV 0 hts gL_law_X8_thrown rfl rfl rfl (by decide +kernel) ⟨Nat.le_of_ble_eq_true rfl, Nat.le_of_ble_eq_true rfl⟩) [29, 30, 31, 32, 33, 34, 35, 36, 37, 38, 39, 40, 41, 42, 43, 44, 45, 46, 47, 48] [0, 1, 2, 3, 4, 5, 6, 7, 8, 9, 10, 11, 12, 13, 14, 15, 16, 17, 18, 19, 20, 21, 22, 23, 24, 25, 26, 27, 28, 49] rfl (by decide) rfl (by decide) (by decide) 0 8 rfl rfl rfl hl.1 rfl (Nat.le_of_ble_eq_true rfl) dL_law_122 ⟨by show 50 + j + 1 ≤ 601024; omega, by show 13330 + 6 * j + 6 ≤ 7293034; omega⟩ (fun r3 τ3 H locs hp3 hP hD hS => ?_)
  have hP : va_P D vwCl (oh_LW a b k o kL v1 σ1 τ3) H := hP.sub [0, 1, 2, 3, 4, 5, 6, 7, 8, 9, 10, 11, 12, 13, 14, 15, 16, 17, 18, 19, 20, 21, 22, 23, 24, 25, 26, 27, 28, 30, 31, 32, 33, 34, 35, 36, 37, 38, 39, 40, 41, 42, 43, 44, 45, 46, 47, 48, 49, 29] rfl
  have hD : va_D (fun q => s.heap.size ≤ q) (oh_LW a b k o kL v1 σ1 τ3) := hD.sub [0, 1, 2, 3, 4, 5, 6, 7, 8, 9, 10, 11, 12, 13, 14, 15, 16, 17, 18, 19, 20, 21, 22, 23, 24, 25, 26, 27, 28, 30, 31, 32, 33, 34, 35, 36, 37, 38, 39, 40, 41, 42, 43, 44, 45, 46, 47, 48, 49, 29] (by decide) rfl
  obtain ⟨hr3, ht3⟩ := hp3
  rw [ht3] at hP hD
  refine lv_iload hx hb dL_law_125 (lv_at hl 1 rfl) ?_
  refine lv_icmp_eq (tgt := 132) hx hb dL_law_127 (by decide) (fun _ => ?_) (fun c9 => absurd (hr3.trans ck) c9)
  have fin : W p l e room_1 s m #[Value.ref b0] below meth c H locs (50 + j + 1) (13330 + 6 * j + 6) Q (F0 m 149 ls []) := by
    refine lv_goto (tgt := 589) hx hb dL_law_149 (by decide) ?_
    exact K v1 σ1 τ1 _ _ _ (L1.mono (by omega)) ⟨hP, hD, hS⟩ (lv_sub hl [2, 3, 4, 5, 6] rfl)
  refine lv_iload hx hb dL_law_132 (lv_at hl 1 rfl) ?_
  refine lv_if_ne (tgt := 149) hx hb dL_law_134 (by decide) (fun _ => fin) (fun c8 => ?_)
  refine lv_aload_n hx hb dL_law_137 rfl (lv_at hl 6 rfl) ?_
  refine lv_iconst (v := (0 : Int32)) hx hb dL_law_138 (by decide) ?_
  refine va_lald (D := D) (i := (0 : Int32)) hx hb hK hP 49 5 rfl rfl (vp_in_iff.mpr (by decide)) dL_law_139 ?_
  refine lv_iload hx hb dL_law_140 (lv_at hl 0 rfl) ?_
  refine lv_i2l (v := r2.toInt64) hx hb dL_law_142 rfl ?_
  refine W.lcmp hx hb dL_law_143 ?_
  refine lv_if_eq (tgt := 149) hx hb dL_law_144 (by decide) (fun _ => fin) (fun c7 => absurd ?_ c7)
  show lg_cmp (v1 0) r2.toInt64 = 0
  rw [hv1 c8, cv c8]
  exact lw_cmp0 _
set_option maxHeartbeats 2000000 in
set_option maxRecDepth 100000 in
theorem lw_case2 {p : Program} {l : Launch} {e : Env} {s : State} {m : MethodId} {below : List Frame} {meth : Method} {c : Code} {D : va_G} {a b : Nat → Nat} {k : Nat → ClassId} {o : Nat} {kL : ClassId} {b0 N : Nat} {xs : Nat → Int32} {Q : State → Prop} {j : Nat} (C0 : lw_Cx p l s m meth c D k kL b0 N xs) (hj : 4 * j + 4 ≤ N) {v : Nat → Int64} {σ τ : oh_St} {H : Heap} {locs : List Loc} {ls : Array Slot} (L0 : rl_L (8000 * j) σ τ) (S0 : lw_St D a b k o kL s v σ τ H locs) (hl : lv_has ls 7 (lw_lv a b o b0 j)) (K : lw_Kt p l e s m below meth c D a b k o kL b0 Q j) : W p l e room_1 s m #[Value.ref b0] below meth c H locs (50 + j) (13330 + 6 * j) Q (F0 m 175 ls []) := by
  obtain ⟨hC, hT, hX, hNx, hXs, hbl, hst, hN2⟩ := C0
  obtain ⟨hx, hb, hml, hown, hts, hr, hlocks, hK, hN, hA⟩ := id hC
  obtain ⟨hP, hD, hS⟩ := S0
  have hKc : va_K D vwCl (oh_ty k) s := hK.sub [0, 1, 2, 3, 4] rfl
  have hbA : ¬ (fun q : Nat => s.heap.size ≤ q) b0 := Nat.not_le.mpr hbl
  have hl : lv_has ls 7 [(4, .int (nI (4 * j))), (0, .ref b0), (1, .ref (a 0)), (2, .ref (b 0)), (3, .ref o)] := hl
  refine lv_aload_n hx hb dL_law_175 rfl (lv_at hl 2 rfl) ?_
  refine lv_aload_n hx hb dL_law_176 rfl (lv_at hl 1 rfl) ?_
  refine lv_iload hx hb dL_law_177 (lv_at hl 0 rfl) ?_
  refine lv_iconst (v := (1 : Int32)) hx hb dL_law_179 (by decide) ?_
  refine lv_iadd hx hb dL_law_180 ?_
  refine va_sld hx hb hXs hbl hbA hS (lw_in (d := 1) hj (by omega) hN2) dL_law_181 ?_
  refine lv_aload_n hx hb dL_law_182 rfl (lv_at hl 4 rfl) ?_
  refine gc_h (As := [.ref (a 0), .int (xs (nI (4 * j) + 1).toNatClampNeg), .ref o]) (rest := []) (wr := oh_V b k τ) hC hT hX hNx hP hD hS (mtL_word l a k o kL D σ v hst (xs (nI (4 * j) + 1).toNatClampNeg)) (vx_cwSW 3 hts gL_law_L_word rfl rfl rfl (by decide +kernel) ⟨Nat.le_of_ble_eq_true rfl, Nat.le_of_ble_eq_true rfl⟩) [0, 1, 2, 3, 4, 5, 6, 7, 8, 9, 10, 11, 12, 13, 14, 15, 16, 17, 18, 19, 20, 21, 22, 23, 24, 25, 26, 27, 28, 49] [29, 30, 31, 32, 33, 34, 35, 36, 37, 38, 39, 40, 41, 42, 43, 44, 45, 46, 47, 48] rfl (by decide) rfl (by decide) (by decide) rfl hl.1 rfl (Nat.le_of_ble_eq_true rfl) dL_law_183 ⟨by show 50 + j + 1 ≤ 601024; omega, by show 13330 + 6 * j + 6 ≤ 7293034; omega⟩ (fun r1 u1 H locs hp1 hP hD hS => ?_)
  obtain ⟨σ1, v1⟩ := u1
  dsimp only at hp1 hP hD
  have hP : va_P D vwCl (oh_LW a b k o kL v1 σ1 τ) H := hP.sub [20, 21, 22, 23, 24, 25, 26, 27, 28, 29, 30, 31, 32, 33, 34, 35, 36, 37, 38, 39, 40, 41, 42, 43, 44, 45, 46, 47, 48, 0, 1, 2, 3, 4, 5, 6, 7, 8, 9, 10, 11, 12, 13, 14, 15, 16, 17, 18, 19, 49] rfl
  have hD : va_D (fun q => s.heap.size ≤ q) (oh_LW a b k o kL v1 σ1 τ) := hD.sub [20, 21, 22, 23, 24, 25, 26, 27, 28, 29, 30, 31, 32, 33, 34, 35, 36, 37, 38, 39, 40, 41, 42, 43, 44, 45, 46, 47, 48, 0, 1, 2, 3, 4, 5, 6, 7, 8, 9, 10, 11, 12, 13, 14, 15, 16, 17, 18, 19, 49] (by decide) rfl
  obtain ⟨hr1, hs1, hv1⟩ := hp1
  refine lv_istore (lv' := [(5, .int r1), (4, .int (nI (4 * j))), (0, .ref b0), (1, .ref (a 0)), (2, .ref (b 0)), (3, .ref o)]) hx hb dL_law_186 hl (by decide) rfl (fun ls hl => ?_)
  refine lv_aload_n hx hb dL_law_188 rfl (lv_at hl 4 rfl) ?_
  refine lv_aload_n hx hb dL_law_189 rfl (lv_at hl 2 rfl) ?_
  refine lv_iload hx hb dL_law_190 (lv_at hl 1 rfl) ?_
  refine lv_iconst (v := (1 : Int32)) hx hb dL_law_192 (by decide) ?_
  refine lv_iadd hx hb dL_law_193 ?_
  refine va_sld hx hb hXs hbl hbA hS (lw_in (d := 1) hj (by omega) hN2) dL_law_194 ?_
  refine gc_vi (Wd := oh_V b k) (As := [.int (xs (nI (4 * j) + 1).toNatClampNeg)]) (rest := []) (wr := oh_W a k σ1 ++ [(o, .inl (kL, 1, .inr (.inl v1)))]) hC hKc hP hD hS (mtX8_word l b k D τ (xs (nI (4 * j) + 1).toNatClampNeg)) (cwV 1 hts gL_law_X8_word rfl rfl rfl (by decide +kernel) ⟨Nat.le_of_ble_eq_true rfl, Nat.le_of_ble_eq_true rfl⟩) [29, 30, 31, 32, 33, 34, 35, 36, 37, 38, 39, 40, 41, 42, 43, 44, 45, 46, 47, 48] [0, 1, 2, 3, 4, 5, 6, 7, 8, 9, 10, 11, 12, 13, 14, 15, 16, 17, 18, 19, 20, 21, 22, 23, 24, 25, 26, 27, 28, 49] rfl (by decide) rfl (by decide) (by decide) 0 8 rfl rfl rfl hl.1 rfl (Nat.le_of_ble_eq_true rfl) dL_law_195 ⟨by show 50 + j + 1 ≤ 601024; omega, by show 13330 + 6 * j + 6 ≤ 7293034; omega⟩ (fun r2 τ1 H locs hp2 hP hD hS => ?_)
  have hP : va_P D vwCl (oh_LW a b k o kL v1 σ1 τ1) H := hP.sub [0, 1, 2, 3, 4, 5, 6, 7, 8, 9, 10, 11, 12, 13, 14, 15, 16, 17, 18, 19, 20, 21, 22, 23, 24, 25, 26, 27, 28, 30, 31, 32, 33, 34, 35, 36, 37, 38, 39, 40, 41, 42, 43, 44, 45, 46, 47, 48, 49, 29] rfl
  have hD : va_D (fun q => s.heap.size ≤ q) (oh_LW a b k o kL v1 σ1 τ1) := hD.sub [0, 1, 2, 3, 4, 5, 6, 7, 8, 9, 10, 11, 12, 13, 14, 15, 16, 17, 18, 19, 20, 21, 22, 23, 24, 25, 26, 27, 28, 30, 31, 32, 33, 34, 35, 36, 37, 38, 39, 40, 41, 42, 43, 44, 45, 46, 47, 48, 49, 29] (by decide) rfl
  obtain ⟨hr2, ht1⟩ := hp2
  refine lv_istore (lv' := [(6, .int r2), (5, .int r1), (4, .int (nI (4 * j))), (0, .ref b0), (1, .ref (a 0)), (2, .ref (b 0)), (3, .ref o)]) hx hb dL_law_198 hl (by decide) rfl (fun ls hl => ?_)
  have CL := cl_word L0 (xs (nI (4 * j) + 1).toNatClampNeg)
  rw [← hr1, ← hs1, ← hr2, ← ht1] at CL
  obtain ⟨⟨ck, cv⟩, L1⟩ := CL
  refine lv_aload_n hx hb dL_law_200 rfl (lv_at hl 5 rfl) ?_
  refine gc_vi (Wd := oh_V b k) (As := []) (rest := []) (wr := oh_W a k σ1 ++ [(o, .inl (kL, 1, .inr (.inl v1)))]) hC hKc hP hD hS (mtX8_thrown l b k D τ1) (cwV 0 hts gL_law_X8_thrown rfl rfl rfl (by decide +kernel) ⟨Nat.le_of_ble_eq_true rfl, Nat.le_of_ble_eq_true rfl⟩) [29, 30, 31, 32, 33, 34, 35, 36, 37, 38, 39, 40, 41, 42, 43, 44, 45, 46, 47, 48] [0, 1, 2, 3, 4, 5, 6, 7, 8, 9, 10, 11, 12, 13, 14, 15, 16, 17, 18, 19, 20, 21, 22, 23, 24, 25, 26, 27, 28, 49] rfl (by decide) rfl (by decide) (by decide) 0 8 rfl rfl rfl hl.1 rfl (Nat.le_of_ble_eq_true rfl) dL_law_201 ⟨by show 50 + j + 1 ≤ 601024; omega, by show 13330 + 6 * j + 6 ≤ 7293034; omega⟩ (fun r3 τ3 H locs hp3 hP hD hS => ?_)
  have hP : va_P D vwCl (oh_LW a b k o kL v1 σ1 τ3) H := hP.sub [0, 1, 2, 3, 4, 5, 6, 7, 8, 9, 10, 11, 12, 13, 14, 15, 16, 17, 18, 19, 20, 21, 22, 23, 24, 25, 26, 27, 28, 30, 31, 32, 33, 34, 35, 36, 37, 38, 39, 40, 41, 42, 43, 44, 45, 46, 47, 48, 49, 29] rfl
  have hD : va_D (fun q => s.heap.size ≤ q) (oh_LW a b k o kL v1 σ1 τ3) := hD.sub [0, 1, 2, 3, 4, 5, 6, 7, 8, 9, 10, 11, 12, 13, 14, 15, 16, 17, 18, 19, 20, 21, 22, 23, 24, 25, 26, 27, 28, 30, 31, 32, 33, 34, 35, 36, 37, 38, 39, 40, 41, 42, 43, 44, 45, 46, 47, 48, 49, 29] (by decide) rfl
  obtain ⟨hr3, ht3⟩ := hp3
  rw [ht3] at hP hD
  refine lv_iload hx hb dL_law_204 (lv_at hl 1 rfl) ?_
  refine lv_icmp_eq (tgt := 211) hx hb dL_law_206 (by decide) (fun _ => ?_) (fun c9 => absurd (hr3.trans ck) c9)
  have fin : W p l e room_1 s m #[Value.ref b0] below meth c H locs (50 + j + 1) (13330 + 6 * j + 6) Q (F0 m 228 ls []) := by
    refine lv_goto (tgt := 589) hx hb dL_law_228 (by decide) ?_
    exact K v1 σ1 τ1 _ _ _ (L1.mono (by omega)) ⟨hP, hD, hS⟩ (lv_sub hl [2, 3, 4, 5, 6] rfl)
  refine lv_iload hx hb dL_law_211 (lv_at hl 1 rfl) ?_
  refine lv_if_ne (tgt := 228) hx hb dL_law_213 (by decide) (fun _ => fin) (fun c8 => ?_)
  refine lv_aload_n hx hb dL_law_216 rfl (lv_at hl 6 rfl) ?_
  refine lv_iconst (v := (0 : Int32)) hx hb dL_law_217 (by decide) ?_
  refine va_lald (D := D) (i := (0 : Int32)) hx hb hK hP 49 5 rfl rfl (vp_in_iff.mpr (by decide)) dL_law_218 ?_
  refine lv_iload hx hb dL_law_219 (lv_at hl 0 rfl) ?_
  refine lv_i2l (v := r2.toInt64) hx hb dL_law_221 rfl ?_
  refine W.lcmp hx hb dL_law_222 ?_
  refine lv_if_eq (tgt := 228) hx hb dL_law_223 (by decide) (fun _ => fin) (fun c7 => absurd ?_ c7)
  show lg_cmp (v1 0) r2.toInt64 = 0
  rw [hv1 c8, cv c8]
  exact lw_cmp0 _
set_option maxHeartbeats 2000000 in
set_option maxRecDepth 100000 in
theorem lw_case7 {p : Program} {l : Launch} {e : Env} {s : State} {m : MethodId} {below : List Frame} {meth : Method} {c : Code} {D : va_G} {a b : Nat → Nat} {k : Nat → ClassId} {o : Nat} {kL : ClassId} {b0 N : Nat} {xs : Nat → Int32} {Q : State → Prop} {j : Nat} (C0 : lw_Cx p l s m meth c D k kL b0 N xs) (hj : 4 * j + 4 ≤ N) {v : Nat → Int64} {σ τ : oh_St} {H : Heap} {locs : List Loc} {ls : Array Slot} (L0 : rl_L (8000 * j) σ τ) (S0 : lw_St D a b k o kL s v σ τ H locs) (hl : lv_has ls 7 (lw_lv a b o b0 j)) (K : lw_Kt p l e s m below meth c D a b k o kL b0 Q j) : W p l e room_1 s m #[Value.ref b0] below meth c H locs (50 + j) (13330 + 6 * j) Q (F0 m 403 ls []) := by
  obtain ⟨hC, hT, hX, hNx, hXs, hbl, hst, hN2⟩ := C0
  obtain ⟨hx, hb, hml, hown, hts, hr, hlocks, hK, hN, hA⟩ := id hC
  obtain ⟨hP, hD, hS⟩ := S0
  have hKc : va_K D vwCl (oh_ty k) s := hK.sub [0, 1, 2, 3, 4] rfl
  have hbA : ¬ (fun q : Nat => s.heap.size ≤ q) b0 := Nat.not_le.mpr hbl
  have hl : lv_has ls 7 [(4, .int (nI (4 * j))), (0, .ref b0), (1, .ref (a 0)), (2, .ref (b 0)), (3, .ref o)] := hl
  refine lv_aload_n hx hb dL_law_403 rfl (lv_at hl 2 rfl) ?_
  refine lv_aload_n hx hb dL_law_404 rfl (lv_at hl 1 rfl) ?_
  refine lv_iload hx hb dL_law_405 (lv_at hl 0 rfl) ?_
  refine lv_iconst (v := (1 : Int32)) hx hb dL_law_407 (by decide) ?_
  refine lv_iadd hx hb dL_law_408 ?_
  refine va_sld hx hb hXs hbl hbA hS (lw_in (d := 1) hj (by omega) hN2) dL_law_409 ?_
  refine lv_aload_n hx hb dL_law_410 rfl (lv_at hl 1 rfl) ?_
  refine lv_iload hx hb dL_law_411 (lv_at hl 0 rfl) ?_
  refine lv_iconst (v := (2 : Int32)) hx hb dL_law_413 (by decide) ?_
  refine lv_iadd hx hb dL_law_414 ?_
  refine va_sld hx hb hXs hbl hbA hS (lw_in (d := 2) hj (by omega) hN2) dL_law_415 ?_
  refine lv_aload_n hx hb dL_law_416 rfl (lv_at hl 4 rfl) ?_
  refine gc_h (As := [.ref (a 0), .int (xs (nI (4 * j) + 1).toNatClampNeg), .int (xs (nI (4 * j) + 2).toNatClampNeg), .ref o]) (rest := []) (wr := oh_V b k τ) hC hT hX hNx hP hD hS (mtL_give l a k o kL D σ v hst (xs (nI (4 * j) + 1).toNatClampNeg) (xs (nI (4 * j) + 2).toNatClampNeg)) (vx_cwSW 4 hts gL_law_L_give rfl rfl rfl (by decide +kernel) ⟨Nat.le_of_ble_eq_true rfl, Nat.le_of_ble_eq_true rfl⟩) [0, 1, 2, 3, 4, 5, 6, 7, 8, 9, 10, 11, 12, 13, 14, 15, 16, 17, 18, 19, 20, 21, 22, 23, 24, 25, 26, 27, 28, 49] [29, 30, 31, 32, 33, 34, 35, 36, 37, 38, 39, 40, 41, 42, 43, 44, 45, 46, 47, 48] rfl (by decide) rfl (by decide) (by decide) rfl hl.1 rfl (Nat.le_of_ble_eq_true rfl) dL_law_417 ⟨by show 50 + j + 1 ≤ 601024; omega, by show 13330 + 6 * j + 6 ≤ 7293034; omega⟩ (fun r1 u1 H locs hp1 hP hD hS => ?_)
  obtain ⟨σ1, v1⟩ := u1
  dsimp only at hp1 hP hD
  have hP : va_P D vwCl (oh_LW a b k o kL v1 σ1 τ) H := hP.sub [20, 21, 22, 23, 24, 25, 26, 27, 28, 29, 30, 31, 32, 33, 34, 35, 36, 37, 38, 39, 40, 41, 42, 43, 44, 45, 46, 47, 48, 0, 1, 2, 3, 4, 5, 6, 7, 8, 9, 10, 11, 12, 13, 14, 15, 16, 17, 18, 19, 49] rfl
  have hD : va_D (fun q => s.heap.size ≤ q) (oh_LW a b k o kL v1 σ1 τ) := hD.sub [20, 21, 22, 23, 24, 25, 26, 27, 28, 29, 30, 31, 32, 33, 34, 35, 36, 37, 38, 39, 40, 41, 42, 43, 44, 45, 46, 47, 48, 0, 1, 2, 3, 4, 5, 6, 7, 8, 9, 10, 11, 12, 13, 14, 15, 16, 17, 18, 19, 49] (by decide) rfl
  obtain ⟨hr1, hs1, hv1⟩ := hp1
  refine lv_istore (lv' := [(5, .int r1), (4, .int (nI (4 * j))), (0, .ref b0), (1, .ref (a 0)), (2, .ref (b 0)), (3, .ref o)]) hx hb dL_law_420 hl (by decide) rfl (fun ls hl => ?_)
  refine lv_aload_n hx hb dL_law_422 rfl (lv_at hl 4 rfl) ?_
  refine lv_aload_n hx hb dL_law_423 rfl (lv_at hl 2 rfl) ?_
  refine lv_iload hx hb dL_law_424 (lv_at hl 1 rfl) ?_
  refine lv_iconst (v := (1 : Int32)) hx hb dL_law_426 (by decide) ?_
  refine lv_iadd hx hb dL_law_427 ?_
  refine va_sld hx hb hXs hbl hbA hS (lw_in (d := 1) hj (by omega) hN2) dL_law_428 ?_
  refine lv_aload_n hx hb dL_law_429 rfl (lv_at hl 2 rfl) ?_
  refine lv_iload hx hb dL_law_430 (lv_at hl 1 rfl) ?_
  refine lv_iconst (v := (2 : Int32)) hx hb dL_law_432 (by decide) ?_
  refine lv_iadd hx hb dL_law_433 ?_
  refine va_sld hx hb hXs hbl hbA hS (lw_in (d := 2) hj (by omega) hN2) dL_law_434 ?_
  refine gc_vi (Wd := oh_V b k) (As := [.int (xs (nI (4 * j) + 1).toNatClampNeg), .int (xs (nI (4 * j) + 2).toNatClampNeg)]) (rest := []) (wr := oh_W a k σ1 ++ [(o, .inl (kL, 1, .inr (.inl v1)))]) hC hKc hP hD hS (mtX8_give l b k D τ (xs (nI (4 * j) + 1).toNatClampNeg) (xs (nI (4 * j) + 2).toNatClampNeg) (lw_16 L0)) (cwV 2 hts gL_law_X8_give rfl rfl rfl (by decide +kernel) ⟨Nat.le_of_ble_eq_true rfl, Nat.le_of_ble_eq_true rfl⟩) [29, 30, 31, 32, 33, 34, 35, 36, 37, 38, 39, 40, 41, 42, 43, 44, 45, 46, 47, 48] [0, 1, 2, 3, 4, 5, 6, 7, 8, 9, 10, 11, 12, 13, 14, 15, 16, 17, 18, 19, 20, 21, 22, 23, 24, 25, 26, 27, 28, 49] rfl (by decide) rfl (by decide) (by decide) 0 8 rfl rfl rfl hl.1 rfl (Nat.le_of_ble_eq_true rfl) dL_law_435 ⟨by show 50 + j + 1 ≤ 601024; omega, by show 13330 + 6 * j + 6 ≤ 7293034; omega⟩ (fun r2 τ1 H locs hp2 hP hD hS => ?_)
  have hP : va_P D vwCl (oh_LW a b k o kL v1 σ1 τ1) H := hP.sub [0, 1, 2, 3, 4, 5, 6, 7, 8, 9, 10, 11, 12, 13, 14, 15, 16, 17, 18, 19, 20, 21, 22, 23, 24, 25, 26, 27, 28, 30, 31, 32, 33, 34, 35, 36, 37, 38, 39, 40, 41, 42, 43, 44, 45, 46, 47, 48, 49, 29] rfl
  have hD : va_D (fun q => s.heap.size ≤ q) (oh_LW a b k o kL v1 σ1 τ1) := hD.sub [0, 1, 2, 3, 4, 5, 6, 7, 8, 9, 10, 11, 12, 13, 14, 15, 16, 17, 18, 19, 20, 21, 22, 23, 24, 25, 26, 27, 28, 30, 31, 32, 33, 34, 35, 36, 37, 38, 39, 40, 41, 42, 43, 44, 45, 46, 47, 48, 49, 29] (by decide) rfl
  obtain ⟨hr2, ht1⟩ := hp2
  refine lv_istore (lv' := [(6, .int r2), (5, .int r1), (4, .int (nI (4 * j))), (0, .ref b0), (1, .ref (a 0)), (2, .ref (b 0)), (3, .ref o)]) hx hb dL_law_438 hl (by decide) rfl (fun ls hl => ?_)
  have CL := cl_give L0 (xs (nI (4 * j) + 1).toNatClampNeg) (xs (nI (4 * j) + 2).toNatClampNeg)
  rw [← hr1, ← hs1, ← hr2, ← ht1] at CL
  obtain ⟨⟨ck, cv⟩, L1⟩ := CL
  refine lv_aload_n hx hb dL_law_440 rfl (lv_at hl 5 rfl) ?_
  refine gc_vi (Wd := oh_V b k) (As := []) (rest := []) (wr := oh_W a k σ1 ++ [(o, .inl (kL, 1, .inr (.inl v1)))]) hC hKc hP hD hS (mtX8_thrown l b k D τ1) (cwV 0 hts gL_law_X8_thrown rfl rfl rfl (by decide +kernel) ⟨Nat.le_of_ble_eq_true rfl, Nat.le_of_ble_eq_true rfl⟩) [29, 30, 31, 32, 33, 34, 35, 36, 37, 38, 39, 40, 41, 42, 43, 44, 45, 46, 47, 48] [0, 1, 2, 3, 4, 5, 6, 7, 8, 9, 10, 11, 12, 13, 14, 15, 16, 17, 18, 19, 20, 21, 22, 23, 24, 25, 26, 27, 28, 49] rfl (by decide) rfl (by decide) (by decide) 0 8 rfl rfl rfl hl.1 rfl (Nat.le_of_ble_eq_true rfl) dL_law_441 ⟨by show 50 + j + 1 ≤ 601024; omega, by show 13330 + 6 * j + 6 ≤ 7293034; omega⟩ (fun r3 τ3 H locs hp3 hP hD hS => ?_)
  have hP : va_P D vwCl (oh_LW a b k o kL v1 σ1 τ3) H := hP.sub [0, 1, 2, 3, 4, 5, 6, 7, 8, 9, 10, 11, 12, 13, 14, 15, 16, 17, 18, 19, 20, 21, 22, 23, 24, 25, 26, 27, 28, 30, 31, 32, 33, 34, 35, 36, 37, 38, 39, 40, 41, 42, 43, 44, 45, 46, 47, 48, 49, 29] rfl
  have hD : va_D (fun q => s.heap.size ≤ q) (oh_LW a b k o kL v1 σ1 τ3) := hD.sub [0, 1, 2, 3, 4, 5, 6, 7, 8, 9, 10, 11, 12, 13, 14, 15, 16, 17, 18, 19, 20, 21, 22, 23, 24, 25, 26, 27, 28, 30, 31, 32, 33, 34, 35, 36, 37, 38, 39, 40, 41, 42, 43, 44, 45, 46, 47, 48, 49, 29] (by decide) rfl
  obtain ⟨hr3, ht3⟩ := hp3
  rw [ht3] at hP hD
  refine lv_iload hx hb dL_law_444 (lv_at hl 1 rfl) ?_
  refine lv_icmp_eq (tgt := 451) hx hb dL_law_446 (by decide) (fun _ => ?_) (fun c9 => absurd (hr3.trans ck) c9)
  have fin : W p l e room_1 s m #[Value.ref b0] below meth c H locs (50 + j + 1) (13330 + 6 * j + 6) Q (F0 m 468 ls []) := by
    refine lv_goto (tgt := 589) hx hb dL_law_468 (by decide) ?_
    exact K v1 σ1 τ1 _ _ _ (L1.mono (by omega)) ⟨hP, hD, hS⟩ (lv_sub hl [2, 3, 4, 5, 6] rfl)
  refine lv_iload hx hb dL_law_451 (lv_at hl 1 rfl) ?_
  refine lv_if_ne (tgt := 468) hx hb dL_law_453 (by decide) (fun _ => fin) (fun c8 => ?_)
  refine lv_aload_n hx hb dL_law_456 rfl (lv_at hl 6 rfl) ?_
  refine lv_iconst (v := (0 : Int32)) hx hb dL_law_457 (by decide) ?_
  refine va_lald (D := D) (i := (0 : Int32)) hx hb hK hP 49 5 rfl rfl (vp_in_iff.mpr (by decide)) dL_law_458 ?_
  refine lv_iload hx hb dL_law_459 (lv_at hl 0 rfl) ?_
  refine lv_i2l (v := r2.toInt64) hx hb dL_law_461 rfl ?_
  refine W.lcmp hx hb dL_law_462 ?_
  refine lv_if_eq (tgt := 468) hx hb dL_law_463 (by decide) (fun _ => fin) (fun c7 => absurd ?_ c7)
  show lg_cmp (v1 0) r2.toInt64 = 0
  rw [hv1 c8, cv c8]
  exact lw_cmp0 _
set_option maxHeartbeats 2000000 in
set_option maxRecDepth 100000 in
theorem lw_case8 {p : Program} {l : Launch} {e : Env} {s : State} {m : MethodId} {below : List Frame} {meth : Method} {c : Code} {D : va_G} {a b : Nat → Nat} {k : Nat → ClassId} {o : Nat} {kL : ClassId} {b0 N : Nat} {xs : Nat → Int32} {Q : State → Prop} {j : Nat} (C0 : lw_Cx p l s m meth c D k kL b0 N xs) (hj : 4 * j + 4 ≤ N) {v : Nat → Int64} {σ τ : oh_St} {H : Heap} {locs : List Loc} {ls : Array Slot} (L0 : rl_L (8000 * j) σ τ) (S0 : lw_St D a b k o kL s v σ τ H locs) (hl : lv_has ls 7 (lw_lv a b o b0 j)) (K : lw_Kt p l e s m below meth c D a b k o kL b0 Q j) : W p l e room_1 s m #[Value.ref b0] below meth c H locs (50 + j) (13330 + 6 * j) Q (F0 m 471 ls []) := by
  obtain ⟨hC, hT, hX, hNx, hXs, hbl, hst, hN2⟩ := C0
  obtain ⟨hx, hb, hml, hown, hts, hr, hlocks, hK, hN, hA⟩ := id hC
  obtain ⟨hP, hD, hS⟩ := S0
  have hKc : va_K D vwCl (oh_ty k) s := hK.sub [0, 1, 2, 3, 4] rfl
  have hbA : ¬ (fun q : Nat => s.heap.size ≤ q) b0 := Nat.not_le.mpr hbl
  have hl : lv_has ls 7 [(4, .int (nI (4 * j))), (0, .ref b0), (1, .ref (a 0)), (2, .ref (b 0)), (3, .ref o)] := hl
  refine lv_aload_n hx hb dL_law_471 rfl (lv_at hl 2 rfl) ?_
  refine lv_aload_n hx hb dL_law_472 rfl (lv_at hl 1 rfl) ?_
  refine lv_iload hx hb dL_law_473 (lv_at hl 0 rfl) ?_
  refine lv_iconst (v := (1 : Int32)) hx hb dL_law_475 (by decide) ?_
  refine lv_iadd hx hb dL_law_476 ?_
  refine va_sld hx hb hXs hbl hbA hS (lw_in (d := 1) hj (by omega) hN2) dL_law_477 ?_
  refine lv_aload_n hx hb dL_law_478 rfl (lv_at hl 1 rfl) ?_
  refine lv_iload hx hb dL_law_479 (lv_at hl 0 rfl) ?_
  refine lv_iconst (v := (2 : Int32)) hx hb dL_law_481 (by decide) ?_
  refine lv_iadd hx hb dL_law_482 ?_
  refine va_sld hx hb hXs hbl hbA hS (lw_in (d := 2) hj (by omega) hN2) dL_law_483 ?_
  refine lv_aload_n hx hb dL_law_484 rfl (lv_at hl 4 rfl) ?_
  refine gc_h (As := [.ref (a 0), .int (xs (nI (4 * j) + 1).toNatClampNeg), .int (xs (nI (4 * j) + 2).toNatClampNeg), .ref o]) (rest := []) (wr := oh_V b k τ) hC hT hX hNx hP hD hS (mtL_out l a k o kL D σ v hst (xs (nI (4 * j) + 1).toNatClampNeg) (xs (nI (4 * j) + 2).toNatClampNeg)) (vx_cwSW 4 hts gL_law_L_out rfl rfl rfl (by decide +kernel) ⟨Nat.le_of_ble_eq_true rfl, Nat.le_of_ble_eq_true rfl⟩) [0, 1, 2, 3, 4, 5, 6, 7, 8, 9, 10, 11, 12, 13, 14, 15, 16, 17, 18, 19, 20, 21, 22, 23, 24, 25, 26, 27, 28, 49] [29, 30, 31, 32, 33, 34, 35, 36, 37, 38, 39, 40, 41, 42, 43, 44, 45, 46, 47, 48] rfl (by decide) rfl (by decide) (by decide) rfl hl.1 rfl (Nat.le_of_ble_eq_true rfl) dL_law_485 ⟨by show 50 + j + 1 ≤ 601024; omega, by show 13330 + 6 * j + 6 ≤ 7293034; omega⟩ (fun r1 u1 H locs hp1 hP hD hS => ?_)
  obtain ⟨σ1, v1⟩ := u1
  dsimp only at hp1 hP hD
  have hP : va_P D vwCl (oh_LW a b k o kL v1 σ1 τ) H := hP.sub [20, 21, 22, 23, 24, 25, 26, 27, 28, 29, 30, 31, 32, 33, 34, 35, 36, 37, 38, 39, 40, 41, 42, 43, 44, 45, 46, 47, 48, 0, 1, 2, 3, 4, 5, 6, 7, 8, 9, 10, 11, 12, 13, 14, 15, 16, 17, 18, 19, 49] rfl
  have hD : va_D (fun q => s.heap.size ≤ q) (oh_LW a b k o kL v1 σ1 τ) := hD.sub [20, 21, 22, 23, 24, 25, 26, 27, 28, 29, 30, 31, 32, 33, 34, 35, 36, 37, 38, 39, 40, 41, 42, 43, 44, 45, 46, 47, 48, 0, 1, 2, 3, 4, 5, 6, 7, 8, 9, 10, 11, 12, 13, 14, 15, 16, 17, 18, 19, 49] (by decide) rfl
  obtain ⟨hr1, hs1, hv1⟩ := hp1
  refine lv_istore (lv' := [(5, .int r1), (4, .int (nI (4 * j))), (0, .ref b0), (1, .ref (a 0)), (2, .ref (b 0)), (3, .ref o)]) hx hb dL_law_488 hl (by decide) rfl (fun ls hl => ?_)
  refine lv_aload_n hx hb dL_law_490 rfl (lv_at hl 4 rfl) ?_
  refine lv_aload_n hx hb dL_law_491 rfl (lv_at hl 2 rfl) ?_
  refine lv_iload hx hb dL_law_492 (lv_at hl 1 rfl) ?_
  refine lv_iconst (v := (1 : Int32)) hx hb dL_law_494 (by decide) ?_
  refine lv_iadd hx hb dL_law_495 ?_
  refine va_sld hx hb hXs hbl hbA hS (lw_in (d := 1) hj (by omega) hN2) dL_law_496 ?_
  refine lv_aload_n hx hb dL_law_497 rfl (lv_at hl 2 rfl) ?_
  refine lv_iload hx hb dL_law_498 (lv_at hl 1 rfl) ?_
  refine lv_iconst (v := (2 : Int32)) hx hb dL_law_500 (by decide) ?_
  refine lv_iadd hx hb dL_law_501 ?_
  refine va_sld hx hb hXs hbl hbA hS (lw_in (d := 2) hj (by omega) hN2) dL_law_502 ?_
  refine gc_vi (Wd := oh_V b k) (As := [.int (xs (nI (4 * j) + 1).toNatClampNeg), .int (xs (nI (4 * j) + 2).toNatClampNeg)]) (rest := []) (wr := oh_W a k σ1 ++ [(o, .inl (kL, 1, .inr (.inl v1)))]) hC hKc hP hD hS (mtX8_out l b k D τ (xs (nI (4 * j) + 1).toNatClampNeg) (xs (nI (4 * j) + 2).toNatClampNeg)) (cwV 2 hts gL_law_X8_out rfl rfl rfl (by decide +kernel) ⟨Nat.le_of_ble_eq_true rfl, Nat.le_of_ble_eq_true rfl⟩) [29, 30, 31, 32, 33, 34, 35, 36, 37, 38, 39, 40, 41, 42, 43, 44, 45, 46, 47, 48] [0, 1, 2, 3, 4, 5, 6, 7, 8, 9, 10, 11, 12, 13, 14, 15, 16, 17, 18, 19, 20, 21, 22, 23, 24, 25, 26, 27, 28, 49] rfl (by decide) rfl (by decide) (by decide) 0 8 rfl rfl rfl hl.1 rfl (Nat.le_of_ble_eq_true rfl) dL_law_503 ⟨by show 50 + j + 1 ≤ 601024; omega, by show 13330 + 6 * j + 6 ≤ 7293034; omega⟩ (fun r2 τ1 H locs hp2 hP hD hS => ?_)
  have hP : va_P D vwCl (oh_LW a b k o kL v1 σ1 τ1) H := hP.sub [0, 1, 2, 3, 4, 5, 6, 7, 8, 9, 10, 11, 12, 13, 14, 15, 16, 17, 18, 19, 20, 21, 22, 23, 24, 25, 26, 27, 28, 30, 31, 32, 33, 34, 35, 36, 37, 38, 39, 40, 41, 42, 43, 44, 45, 46, 47, 48, 49, 29] rfl
  have hD : va_D (fun q => s.heap.size ≤ q) (oh_LW a b k o kL v1 σ1 τ1) := hD.sub [0, 1, 2, 3, 4, 5, 6, 7, 8, 9, 10, 11, 12, 13, 14, 15, 16, 17, 18, 19, 20, 21, 22, 23, 24, 25, 26, 27, 28, 30, 31, 32, 33, 34, 35, 36, 37, 38, 39, 40, 41, 42, 43, 44, 45, 46, 47, 48, 49, 29] (by decide) rfl
  obtain ⟨hr2, ht1⟩ := hp2
  refine lv_istore (lv' := [(6, .int r2), (5, .int r1), (4, .int (nI (4 * j))), (0, .ref b0), (1, .ref (a 0)), (2, .ref (b 0)), (3, .ref o)]) hx hb dL_law_506 hl (by decide) rfl (fun ls hl => ?_)
  have CL := cl_out L0 (by omega) (xs (nI (4 * j) + 1).toNatClampNeg) (xs (nI (4 * j) + 2).toNatClampNeg)
  rw [← hr1, ← hs1, ← hr2, ← ht1] at CL
  obtain ⟨⟨ck, cv⟩, L1⟩ := CL
  refine lv_aload_n hx hb dL_law_508 rfl (lv_at hl 5 rfl) ?_
  refine gc_vi (Wd := oh_V b k) (As := []) (rest := []) (wr := oh_W a k σ1 ++ [(o, .inl (kL, 1, .inr (.inl v1)))]) hC hKc hP hD hS (mtX8_thrown l b k D τ1) (cwV 0 hts gL_law_X8_thrown rfl rfl rfl (by decide +kernel) ⟨Nat.le_of_ble_eq_true rfl, Nat.le_of_ble_eq_true rfl⟩) [29, 30, 31, 32, 33, 34, 35, 36, 37, 38, 39, 40, 41, 42, 43, 44, 45, 46, 47, 48] [0, 1, 2, 3, 4, 5, 6, 7, 8, 9, 10, 11, 12, 13, 14, 15, 16, 17, 18, 19, 20, 21, 22, 23, 24, 25, 26, 27, 28, 49] rfl (by decide) rfl (by decide) (by decide) 0 8 rfl rfl rfl hl.1 rfl (Nat.le_of_ble_eq_true rfl) dL_law_509 ⟨by show 50 + j + 1 ≤ 601024; omega, by show 13330 + 6 * j + 6 ≤ 7293034; omega⟩ (fun r3 τ3 H locs hp3 hP hD hS => ?_)
  have hP : va_P D vwCl (oh_LW a b k o kL v1 σ1 τ3) H := hP.sub [0, 1, 2, 3, 4, 5, 6, 7, 8, 9, 10, 11, 12, 13, 14, 15, 16, 17, 18, 19, 20, 21, 22, 23, 24, 25, 26, 27, 28, 30, 31, 32, 33, 34, 35, 36, 37, 38, 39, 40, 41, 42, 43, 44, 45, 46, 47, 48, 49, 29] rfl
  have hD : va_D (fun q => s.heap.size ≤ q) (oh_LW a b k o kL v1 σ1 τ3) := hD.sub [0, 1, 2, 3, 4, 5, 6, 7, 8, 9, 10, 11, 12, 13, 14, 15, 16, 17, 18, 19, 20, 21, 22, 23, 24, 25, 26, 27, 28, 30, 31, 32, 33, 34, 35, 36, 37, 38, 39, 40, 41, 42, 43, 44, 45, 46, 47, 48, 49, 29] (by decide) rfl
  obtain ⟨hr3, ht3⟩ := hp3
  rw [ht3] at hP hD
  refine lv_iload hx hb dL_law_512 (lv_at hl 1 rfl) ?_
  refine lv_icmp_eq (tgt := 519) hx hb dL_law_514 (by decide) (fun _ => ?_) (fun c9 => absurd (hr3.trans ck) c9)
  have fin : W p l e room_1 s m #[Value.ref b0] below meth c H locs (50 + j + 1) (13330 + 6 * j + 6) Q (F0 m 536 ls []) := by
    refine lv_goto (tgt := 589) hx hb dL_law_536 (by decide) ?_
    exact K v1 σ1 τ1 _ _ _ (L1.mono (by omega)) ⟨hP, hD, hS⟩ (lv_sub hl [2, 3, 4, 5, 6] rfl)
  refine lv_iload hx hb dL_law_519 (lv_at hl 1 rfl) ?_
  refine lv_if_ne (tgt := 536) hx hb dL_law_521 (by decide) (fun _ => fin) (fun c8 => ?_)
  refine lv_aload_n hx hb dL_law_524 rfl (lv_at hl 6 rfl) ?_
  refine lv_iconst (v := (0 : Int32)) hx hb dL_law_525 (by decide) ?_
  refine va_lald (D := D) (i := (0 : Int32)) hx hb hK hP 49 5 rfl rfl (vp_in_iff.mpr (by decide)) dL_law_526 ?_
  refine lv_iload hx hb dL_law_527 (lv_at hl 0 rfl) ?_
  refine lv_i2l (v := r2.toInt64) hx hb dL_law_529 rfl ?_
  refine W.lcmp hx hb dL_law_530 ?_
  refine lv_if_eq (tgt := 536) hx hb dL_law_531 (by decide) (fun _ => fin) (fun c7 => absurd ?_ c7)
  show lg_cmp (v1 0) r2.toInt64 = 0
  rw [hv1 c8, cv c8]
  exact lw_cmp0 _
set_option maxHeartbeats 2000000 in
set_option maxRecDepth 100000 in
theorem lw_case1 {p : Program} {l : Launch} {e : Env} {s : State} {m : MethodId} {below : List Frame} {meth : Method} {c : Code} {D : va_G} {a b : Nat → Nat} {k : Nat → ClassId} {o : Nat} {kL : ClassId} {b0 N : Nat} {xs : Nat → Int32} {Q : State → Prop} {j : Nat} (C0 : lw_Cx p l s m meth c D k kL b0 N xs) (hj : 4 * j + 4 ≤ N) {v : Nat → Int64} {σ τ : oh_St} {H : Heap} {locs : List Loc} {ls : Array Slot} (L0 : rl_L (8000 * j) σ τ) (S0 : lw_St D a b k o kL s v σ τ H locs) (hl : lv_has ls 7 (lw_lv a b o b0 j)) (K : lw_Kt p l e s m below meth c D a b k o kL b0 Q j) : W p l e room_1 s m #[Value.ref b0] below meth c H locs (50 + j) (13330 + 6 * j) Q (F0 m 152 ls []) := by
  obtain ⟨hC, hT, hX, hNx, hXs, hbl, hst, hN2⟩ := C0
  obtain ⟨hx, hb, hml, hown, hts, hr, hlocks, hK, hN, hA⟩ := id hC
  obtain ⟨hP, hD, hS⟩ := S0
  have hKc : va_K D vwCl (oh_ty k) s := hK.sub [0, 1, 2, 3, 4] rfl
  have hbA : ¬ (fun q : Nat => s.heap.size ≤ q) b0 := Nat.not_le.mpr hbl
  have hl : lv_has ls 7 [(4, .int (nI (4 * j))), (0, .ref b0), (1, .ref (a 0)), (2, .ref (b 0)), (3, .ref o)] := hl
  refine lv_aload_n hx hb dL_law_152 rfl (lv_at hl 2 rfl) ?_
  refine lv_aload_n hx hb dL_law_153 rfl (lv_at hl 1 rfl) ?_
  refine lv_iload hx hb dL_law_154 (lv_at hl 0 rfl) ?_
  refine lv_iconst (v := (1 : Int32)) hx hb dL_law_156 (by decide) ?_
  refine lv_iadd hx hb dL_law_157 ?_
  refine va_sld hx hb hXs hbl hbA hS (lw_in (d := 1) hj (by omega) hN2) dL_law_158 ?_
  refine gc_vv (Wd := oh_W a k) (As := [.int (xs (nI (4 * j) + 1).toNatClampNeg)]) (rest := []) (wr := oh_V b k τ ++ [(o, .inl (kL, 1, .inr (.inl v)))]) hC hKc hP hD hS (mtX7_go l a k D σ (xs (nI (4 * j) + 1).toNatClampNeg)) (cwV 1 hts gL_law_X7_go rfl rfl rfl (by decide +kernel) ⟨Nat.le_of_ble_eq_true rfl, Nat.le_of_ble_eq_true rfl⟩) [0, 1, 2, 3, 4, 5, 6, 7, 8, 9, 10, 11, 12, 13, 14, 15, 16, 17, 18, 19, 20, 21, 22, 23, 24, 25, 26, 27, 28] [29, 30, 31, 32, 33, 34, 35, 36, 37, 38, 39, 40, 41, 42, 43, 44, 45, 46, 47, 48, 49] rfl (by decide) rfl (by decide) (by decide) 0 7 rfl rfl rfl hl.1 rfl (Nat.le_of_ble_eq_true rfl) dL_law_159 ⟨by show 50 + j ≤ 601024; omega, by show 13330 + 6 * j ≤ 7293034; omega⟩ (fun σ1 H locs hp1 hP hD hS => ?_)
  have hP : va_P D vwCl (oh_LW a b k o kL v σ1 τ) H := hP.sub [21, 22, 23, 24, 25, 26, 27, 28, 29, 30, 31, 32, 33, 34, 35, 36, 37, 38, 39, 40, 41, 42, 43, 44, 45, 46, 47, 48, 49, 0, 1, 2, 3, 4, 5, 6, 7, 8, 9, 10, 11, 12, 13, 14, 15, 16, 17, 18, 19, 20] rfl
  have hD : va_D (fun q => s.heap.size ≤ q) (oh_LW a b k o kL v σ1 τ) := hD.sub [21, 22, 23, 24, 25, 26, 27, 28, 29, 30, 31, 32, 33, 34, 35, 36, 37, 38, 39, 40, 41, 42, 43, 44, 45, 46, 47, 48, 49, 0, 1, 2, 3, 4, 5, 6, 7, 8, 9, 10, 11, 12, 13, 14, 15, 16, 17, 18, 19, 20] (by decide) rfl
  refine lv_aload_n hx hb dL_law_162 rfl (lv_at hl 3 rfl) ?_
  refine lv_aload_n hx hb dL_law_163 rfl (lv_at hl 1 rfl) ?_
  refine lv_iload hx hb dL_law_164 (lv_at hl 0 rfl) ?_
  refine lv_iconst (v := (1 : Int32)) hx hb dL_law_166 (by decide) ?_
  refine lv_iadd hx hb dL_law_167 ?_
  refine va_sld hx hb hXs hbl hbA hS (lw_in (d := 1) hj (by omega) hN2) dL_law_168 ?_
  refine gc_vv (Wd := oh_V b k) (As := [.int (xs (nI (4 * j) + 1).toNatClampNeg)]) (rest := []) (wr := oh_W a k σ1 ++ [(o, .inl (kL, 1, .inr (.inl v)))]) hC hKc hP hD hS (mtX8_go l b k D τ (xs (nI (4 * j) + 1).toNatClampNeg)) (cwV 1 hts gL_law_X8_go rfl rfl rfl (by decide +kernel) ⟨Nat.le_of_ble_eq_true rfl, Nat.le_of_ble_eq_true rfl⟩) [29, 30, 31, 32, 33, 34, 35, 36, 37, 38, 39, 40, 41, 42, 43, 44, 45, 46, 47, 48] [0, 1, 2, 3, 4, 5, 6, 7, 8, 9, 10, 11, 12, 13, 14, 15, 16, 17, 18, 19, 20, 21, 22, 23, 24, 25, 26, 27, 28, 49] rfl (by decide) rfl (by decide) (by decide) 0 8 rfl rfl rfl hl.1 rfl (Nat.le_of_ble_eq_true rfl) dL_law_169 ⟨by show 50 + j ≤ 601024; omega, by show 13330 + 6 * j ≤ 7293034; omega⟩ (fun τ1 H locs hp2 hP hD hS => ?_)
  have hP : va_P D vwCl (oh_LW a b k o kL v σ1 τ1) H := hP.sub [0, 1, 2, 3, 4, 5, 6, 7, 8, 9, 10, 11, 12, 13, 14, 15, 16, 17, 18, 19, 20, 21, 22, 23, 24, 25, 26, 27, 28, 30, 31, 32, 33, 34, 35, 36, 37, 38, 39, 40, 41, 42, 43, 44, 45, 46, 47, 48, 49, 29] rfl
  have hD : va_D (fun q => s.heap.size ≤ q) (oh_LW a b k o kL v σ1 τ1) := hD.sub [0, 1, 2, 3, 4, 5, 6, 7, 8, 9, 10, 11, 12, 13, 14, 15, 16, 17, 18, 19, 20, 21, 22, 23, 24, 25, 26, 27, 28, 30, 31, 32, 33, 34, 35, 36, 37, 38, 39, 40, 41, 42, 43, 44, 45, 46, 47, 48, 49, 29] (by decide) rfl
  have L1 := cl_go L0 (xs (nI (4 * j) + 1).toNatClampNeg)
  rw [← hp1, ← hp2] at L1
  refine lv_goto (tgt := 589) hx hb dL_law_172 (by decide) ?_
  refine W.widen (k := 50 + j + 1) (n := 13330 + 6 * j + 6) (by omega) (by omega) ?_
  exact K v σ1 τ1 _ _ _ (L1.mono (by omega)) ⟨hP, hD, hS⟩ (lv_sub hl [0, 1, 2, 3, 4] rfl)
set_option maxHeartbeats 2000000 in
set_option maxRecDepth 100000 in
theorem lw_case5 {p : Program} {l : Launch} {e : Env} {s : State} {m : MethodId} {below : List Frame} {meth : Method} {c : Code} {D : va_G} {a b : Nat → Nat} {k : Nat → ClassId} {o : Nat} {kL : ClassId} {b0 N : Nat} {xs : Nat → Int32} {Q : State → Prop} {j : Nat} (C0 : lw_Cx p l s m meth c D k kL b0 N xs) (hj : 4 * j + 4 ≤ N) {v : Nat → Int64} {σ τ : oh_St} {H : Heap} {locs : List Loc} {ls : Array Slot} (L0 : rl_L (8000 * j) σ τ) (S0 : lw_St D a b k o kL s v σ τ H locs) (hl : lv_has ls 7 (lw_lv a b o b0 j)) (K : lw_Kt p l e s m below meth c D a b k o kL b0 Q j) : W p l e room_1 s m #[Value.ref b0] below meth c H locs (50 + j) (13330 + 6 * j) Q (F0 m 304 ls []) := by
  obtain ⟨hC, hT, hX, hNx, hXs, hbl, hst, hN2⟩ := C0
  obtain ⟨hx, hb, hml, hown, hts, hr, hlocks, hK, hN, hA⟩ := id hC
  obtain ⟨hP, hD, hS⟩ := S0
  have hKc : va_K D vwCl (oh_ty k) s := hK.sub [0, 1, 2, 3, 4] rfl
  have hbA : ¬ (fun q : Nat => s.heap.size ≤ q) b0 := Nat.not_le.mpr hbl
  have hl : lv_has ls 7 [(4, .int (nI (4 * j))), (0, .ref b0), (1, .ref (a 0)), (2, .ref (b 0)), (3, .ref o)] := hl
  refine lv_aload_n hx hb dL_law_304 rfl (lv_at hl 2 rfl) ?_
  refine lv_aload_n hx hb dL_law_305 rfl (lv_at hl 1 rfl) ?_
  refine lv_iload hx hb dL_law_306 (lv_at hl 0 rfl) ?_
  refine lv_iconst (v := (1 : Int32)) hx hb dL_law_308 (by decide) ?_
  refine lv_iadd hx hb dL_law_309 ?_
  refine va_sld hx hb hXs hbl hbA hS (lw_in (d := 1) hj (by omega) hN2) dL_law_310 ?_
  refine gc_vv (Wd := oh_W a k) (As := [.int (xs (nI (4 * j) + 1).toNatClampNeg)]) (rest := []) (wr := oh_V b k τ ++ [(o, .inl (kL, 1, .inr (.inl v)))]) hC hKc hP hD hS (mtX7_switches l a k D σ (xs (nI (4 * j) + 1).toNatClampNeg)) (cwV 1 hts gL_law_X7_switches rfl rfl rfl (by decide +kernel) ⟨Nat.le_of_ble_eq_true rfl, Nat.le_of_ble_eq_true rfl⟩) [0, 1, 2, 3, 4, 5, 6, 7, 8, 9, 10, 11, 12, 13, 14, 15, 16, 17, 18, 19, 20, 21, 22, 23, 24, 25, 26, 27, 28] [29, 30, 31, 32, 33, 34, 35, 36, 37, 38, 39, 40, 41, 42, 43, 44, 45, 46, 47, 48, 49] rfl (by decide) rfl (by decide) (by decide) 0 7 rfl rfl rfl hl.1 rfl (Nat.le_of_ble_eq_true rfl) dL_law_311 ⟨by show 50 + j ≤ 601024; omega, by show 13330 + 6 * j ≤ 7293034; omega⟩ (fun σ1 H locs hp1 hP hD hS => ?_)
  have hP : va_P D vwCl (oh_LW a b k o kL v σ1 τ) H := hP.sub [21, 22, 23, 24, 25, 26, 27, 28, 29, 30, 31, 32, 33, 34, 35, 36, 37, 38, 39, 40, 41, 42, 43, 44, 45, 46, 47, 48, 49, 0, 1, 2, 3, 4, 5, 6, 7, 8, 9, 10, 11, 12, 13, 14, 15, 16, 17, 18, 19, 20] rfl
  have hD : va_D (fun q => s.heap.size ≤ q) (oh_LW a b k o kL v σ1 τ) := hD.sub [21, 22, 23, 24, 25, 26, 27, 28, 29, 30, 31, 32, 33, 34, 35, 36, 37, 38, 39, 40, 41, 42, 43, 44, 45, 46, 47, 48, 49, 0, 1, 2, 3, 4, 5, 6, 7, 8, 9, 10, 11, 12, 13, 14, 15, 16, 17, 18, 19, 20] (by decide) rfl
  refine lv_aload_n hx hb dL_law_314 rfl (lv_at hl 3 rfl) ?_
  refine lv_aload_n hx hb dL_law_315 rfl (lv_at hl 1 rfl) ?_
  refine lv_iload hx hb dL_law_316 (lv_at hl 0 rfl) ?_
  refine lv_iconst (v := (1 : Int32)) hx hb dL_law_318 (by decide) ?_
  refine lv_iadd hx hb dL_law_319 ?_
  refine va_sld hx hb hXs hbl hbA hS (lw_in (d := 1) hj (by omega) hN2) dL_law_320 ?_
  refine gc_vv (Wd := oh_V b k) (As := [.int (xs (nI (4 * j) + 1).toNatClampNeg)]) (rest := []) (wr := oh_W a k σ1 ++ [(o, .inl (kL, 1, .inr (.inl v)))]) hC hKc hP hD hS (mtX8_switches l b k D τ (xs (nI (4 * j) + 1).toNatClampNeg)) (cwV 1 hts gL_law_X8_switches rfl rfl rfl (by decide +kernel) ⟨Nat.le_of_ble_eq_true rfl, Nat.le_of_ble_eq_true rfl⟩) [29, 30, 31, 32, 33, 34, 35, 36, 37, 38, 39, 40, 41, 42, 43, 44, 45, 46, 47, 48] [0, 1, 2, 3, 4, 5, 6, 7, 8, 9, 10, 11, 12, 13, 14, 15, 16, 17, 18, 19, 20, 21, 22, 23, 24, 25, 26, 27, 28, 49] rfl (by decide) rfl (by decide) (by decide) 0 8 rfl rfl rfl hl.1 rfl (Nat.le_of_ble_eq_true rfl) dL_law_321 ⟨by show 50 + j ≤ 601024; omega, by show 13330 + 6 * j ≤ 7293034; omega⟩ (fun τ1 H locs hp2 hP hD hS => ?_)
  have hP : va_P D vwCl (oh_LW a b k o kL v σ1 τ1) H := hP.sub [0, 1, 2, 3, 4, 5, 6, 7, 8, 9, 10, 11, 12, 13, 14, 15, 16, 17, 18, 19, 20, 21, 22, 23, 24, 25, 26, 27, 28, 30, 31, 32, 33, 34, 35, 36, 37, 38, 39, 40, 41, 42, 43, 44, 45, 46, 47, 48, 49, 29] rfl
  have hD : va_D (fun q => s.heap.size ≤ q) (oh_LW a b k o kL v σ1 τ1) := hD.sub [0, 1, 2, 3, 4, 5, 6, 7, 8, 9, 10, 11, 12, 13, 14, 15, 16, 17, 18, 19, 20, 21, 22, 23, 24, 25, 26, 27, 28, 30, 31, 32, 33, 34, 35, 36, 37, 38, 39, 40, 41, 42, 43, 44, 45, 46, 47, 48, 49, 29] (by decide) rfl
  have L1 := cl_switches L0 (xs (nI (4 * j) + 1).toNatClampNeg)
  rw [← hp1, ← hp2] at L1
  refine lv_goto (tgt := 589) hx hb dL_law_324 (by decide) ?_
  refine W.widen (k := 50 + j + 1) (n := 13330 + 6 * j + 6) (by omega) (by omega) ?_
  exact K v σ1 τ1 _ _ _ (L1.mono (by omega)) ⟨hP, hD, hS⟩ (lv_sub hl [0, 1, 2, 3, 4] rfl)
set_option maxHeartbeats 2000000 in
set_option maxRecDepth 100000 in
theorem lw_case4 {p : Program} {l : Launch} {e : Env} {s : State} {m : MethodId} {below : List Frame} {meth : Method} {c : Code} {D : va_G} {a b : Nat → Nat} {k : Nat → ClassId} {o : Nat} {kL : ClassId} {b0 N : Nat} {xs : Nat → Int32} {Q : State → Prop} {j : Nat} (C0 : lw_Cx p l s m meth c D k kL b0 N xs) (hj : 4 * j + 4 ≤ N) {v : Nat → Int64} {σ τ : oh_St} {H : Heap} {locs : List Loc} {ls : Array Slot} (L0 : rl_L (8000 * j) σ τ) (S0 : lw_St D a b k o kL s v σ τ H locs) (hl : lv_has ls 7 (lw_lv a b o b0 j)) (K : lw_Kt p l e s m below meth c D a b k o kL b0 Q j) : W p l e room_1 s m #[Value.ref b0] below meth c H locs (50 + j) (13330 + 6 * j) Q (F0 m 279 ls []) := by
  obtain ⟨hC, hT, hX, hNx, hXs, hbl, hst, hN2⟩ := C0
  obtain ⟨hx, hb, hml, hown, hts, hr, hlocks, hK, hN, hA⟩ := id hC
  obtain ⟨hP, hD, hS⟩ := S0
  have hKc : va_K D vwCl (oh_ty k) s := hK.sub [0, 1, 2, 3, 4] rfl
  have hbA : ¬ (fun q : Nat => s.heap.size ≤ q) b0 := Nat.not_le.mpr hbl
  have hl : lv_has ls 7 [(4, .int (nI (4 * j))), (0, .ref b0), (1, .ref (a 0)), (2, .ref (b 0)), (3, .ref o)] := hl
  refine lv_aload_n hx hb dL_law_279 rfl (lv_at hl 2 rfl) ?_
  refine lv_aload_n hx hb dL_law_280 rfl (lv_at hl 1 rfl) ?_
  refine lv_iload hx hb dL_law_281 (lv_at hl 0 rfl) ?_
  refine lv_iconst (v := (1 : Int32)) hx hb dL_law_283 (by decide) ?_
  refine lv_iadd hx hb dL_law_284 ?_
  refine va_sld hx hb hXs hbl hbA hS (lw_in (d := 1) hj (by omega) hN2) dL_law_285 ?_
  refine gc_vi (Wd := oh_W a k) (As := [.int (xs (nI (4 * j) + 1).toNatClampNeg)]) (rest := []) (wr := oh_V b k τ ++ [(o, .inl (kL, 1, .inr (.inl v)))]) hC hKc hP hD hS (mtX7_state l a k D σ (xs (nI (4 * j) + 1).toNatClampNeg)) (cwV 1 hts gL_law_X7_state rfl rfl rfl (by decide +kernel) ⟨Nat.le_of_ble_eq_true rfl, Nat.le_of_ble_eq_true rfl⟩) [0, 1, 2, 3, 4, 5, 6, 7, 8, 9, 10, 11, 12, 13, 14, 15, 16, 17, 18, 19, 20, 21, 22, 23, 24, 25, 26, 27, 28] [29, 30, 31, 32, 33, 34, 35, 36, 37, 38, 39, 40, 41, 42, 43, 44, 45, 46, 47, 48, 49] rfl (by decide) rfl (by decide) (by decide) 0 7 rfl rfl rfl hl.1 rfl (Nat.le_of_ble_eq_true rfl) dL_law_286 ⟨by show 50 + j ≤ 601024; omega, by show 13330 + 6 * j ≤ 7293034; omega⟩ (fun r1 σ1 H locs hp1 hP hD hS => ?_)
  have hP : va_P D vwCl (oh_LW a b k o kL v σ1 τ) H := hP.sub [21, 22, 23, 24, 25, 26, 27, 28, 29, 30, 31, 32, 33, 34, 35, 36, 37, 38, 39, 40, 41, 42, 43, 44, 45, 46, 47, 48, 49, 0, 1, 2, 3, 4, 5, 6, 7, 8, 9, 10, 11, 12, 13, 14, 15, 16, 17, 18, 19, 20] rfl
  have hD : va_D (fun q => s.heap.size ≤ q) (oh_LW a b k o kL v σ1 τ) := hD.sub [21, 22, 23, 24, 25, 26, 27, 28, 29, 30, 31, 32, 33, 34, 35, 36, 37, 38, 39, 40, 41, 42, 43, 44, 45, 46, 47, 48, 49, 0, 1, 2, 3, 4, 5, 6, 7, 8, 9, 10, 11, 12, 13, 14, 15, 16, 17, 18, 19, 20] (by decide) rfl
  obtain ⟨hr1, hs1⟩ := hp1
  rw [hs1] at hP hD
  refine lv_aload_n hx hb dL_law_289 rfl (lv_at hl 3 rfl) ?_
  refine lv_aload_n hx hb dL_law_290 rfl (lv_at hl 1 rfl) ?_
  refine lv_iload hx hb dL_law_291 (lv_at hl 0 rfl) ?_
  refine lv_iconst (v := (1 : Int32)) hx hb dL_law_293 (by decide) ?_
  refine lv_iadd hx hb dL_law_294 ?_
  refine va_sld hx hb hXs hbl hbA hS (lw_in (d := 1) hj (by omega) hN2) dL_law_295 ?_
  refine gc_vi (Wd := oh_V b k) (As := [.int (xs (nI (4 * j) + 1).toNatClampNeg)]) (rest := [.int r1]) (wr := oh_W a k σ ++ [(o, .inl (kL, 1, .inr (.inl v)))]) hC hKc hP hD hS (mtX8_state l b k D τ (xs (nI (4 * j) + 1).toNatClampNeg)) (cwV 1 hts gL_law_X8_state rfl rfl rfl (by decide +kernel) ⟨Nat.le_of_ble_eq_true rfl, Nat.le_of_ble_eq_true rfl⟩) [29, 30, 31, 32, 33, 34, 35, 36, 37, 38, 39, 40, 41, 42, 43, 44, 45, 46, 47, 48] [0, 1, 2, 3, 4, 5, 6, 7, 8, 9, 10, 11, 12, 13, 14, 15, 16, 17, 18, 19, 20, 21, 22, 23, 24, 25, 26, 27, 28, 49] rfl (by decide) rfl (by decide) (by decide) 0 8 rfl rfl rfl hl.1 rfl (Nat.le_of_ble_eq_true rfl) dL_law_296 ⟨by show 50 + j ≤ 601024; omega, by show 13330 + 6 * j ≤ 7293034; omega⟩ (fun r2 τ1 H locs hp2 hP hD hS => ?_)
  have hP : va_P D vwCl (oh_LW a b k o kL v σ τ1) H := hP.sub [0, 1, 2, 3, 4, 5, 6, 7, 8, 9, 10, 11, 12, 13, 14, 15, 16, 17, 18, 19, 20, 21, 22, 23, 24, 25, 26, 27, 28, 30, 31, 32, 33, 34, 35, 36, 37, 38, 39, 40, 41, 42, 43, 44, 45, 46, 47, 48, 49, 29] rfl
  have hD : va_D (fun q => s.heap.size ≤ q) (oh_LW a b k o kL v σ τ1) := hD.sub [0, 1, 2, 3, 4, 5, 6, 7, 8, 9, 10, 11, 12, 13, 14, 15, 16, 17, 18, 19, 20, 21, 22, 23, 24, 25, 26, 27, 28, 30, 31, 32, 33, 34, 35, 36, 37, 38, 39, 40, 41, 42, 43, 44, 45, 46, 47, 48, 49, 29] (by decide) rfl
  obtain ⟨hr2, ht1⟩ := hp2
  have CL := cl_state L0 (xs (nI (4 * j) + 1).toNatClampNeg)
  rw [← hr1, ← hr2, ← ht1] at CL
  obtain ⟨ce, L1⟩ := CL
  refine lv_icmp_eq (tgt := 589) hx hb dL_law_299 (by decide) (fun _ => ?_) (fun c9 => absurd ce c9)
  refine W.widen (k := 50 + j + 1) (n := 13330 + 6 * j + 6) (by omega) (by omega) ?_
  exact K v σ τ1 _ _ _ (L1.mono (by omega)) ⟨hP, hD, hS⟩ (lv_sub hl [0, 1, 2, 3, 4] rfl)
set_option maxHeartbeats 2000000 in
set_option maxRecDepth 100000 in
theorem lw_case9 {p : Program} {l : Launch} {e : Env} {s : State} {m : MethodId} {below : List Frame} {meth : Method} {c : Code} {D : va_G} {a b : Nat → Nat} {k : Nat → ClassId} {o : Nat} {kL : ClassId} {b0 N : Nat} {xs : Nat → Int32} {Q : State → Prop} {j : Nat} (C0 : lw_Cx p l s m meth c D k kL b0 N xs) (hj : 4 * j + 4 ≤ N) {v : Nat → Int64} {σ τ : oh_St} {H : Heap} {locs : List Loc} {ls : Array Slot} (L0 : rl_L (8000 * j) σ τ) (S0 : lw_St D a b k o kL s v σ τ H locs) (hl : lv_has ls 7 (lw_lv a b o b0 j)) (K : lw_Kt p l e s m below meth c D a b k o kL b0 Q j) : W p l e room_1 s m #[Value.ref b0] below meth c H locs (50 + j) (13330 + 6 * j) Q (F0 m 539 ls []) := by
  obtain ⟨hC, hT, hX, hNx, hXs, hbl, hst, hN2⟩ := C0
  obtain ⟨hx, hb, hml, hown, hts, hr, hlocks, hK, hN, hA⟩ := id hC
  obtain ⟨hP, hD, hS⟩ := S0
  have hKc : va_K D vwCl (oh_ty k) s := hK.sub [0, 1, 2, 3, 4] rfl
  have hbA : ¬ (fun q : Nat => s.heap.size ≤ q) b0 := Nat.not_le.mpr hbl
  have hl : lv_has ls 7 [(4, .int (nI (4 * j))), (0, .ref b0), (1, .ref (a 0)), (2, .ref (b 0)), (3, .ref o)] := hl
  refine lv_aload_n hx hb dL_law_539 rfl (lv_at hl 2 rfl) ?_
  refine lv_aload_n hx hb dL_law_540 rfl (lv_at hl 1 rfl) ?_
  refine lv_iload hx hb dL_law_541 (lv_at hl 0 rfl) ?_
  refine lv_iconst (v := (1 : Int32)) hx hb dL_law_543 (by decide) ?_
  refine lv_iadd hx hb dL_law_544 ?_
  refine va_sld hx hb hXs hbl hbA hS (lw_in (d := 1) hj (by omega) hN2) dL_law_545 ?_
  refine lv_aload_n hx hb dL_law_546 rfl (lv_at hl 1 rfl) ?_
  refine lv_iload hx hb dL_law_547 (lv_at hl 0 rfl) ?_
  refine lv_iconst (v := (2 : Int32)) hx hb dL_law_549 (by decide) ?_
  refine lv_iadd hx hb dL_law_550 ?_
  refine va_sld hx hb hXs hbl hbA hS (lw_in (d := 2) hj (by omega) hN2) dL_law_551 ?_
  refine gc_vi (Wd := oh_W a k) (As := [.int (xs (nI (4 * j) + 1).toNatClampNeg), .int (xs (nI (4 * j) + 2).toNatClampNeg)]) (rest := []) (wr := oh_V b k τ ++ [(o, .inl (kL, 1, .inr (.inl v)))]) hC hKc hP hD hS (mtX7_code l a k D σ (xs (nI (4 * j) + 1).toNatClampNeg) (xs (nI (4 * j) + 2).toNatClampNeg)) (cwV 2 hts gL_law_X7_code rfl rfl rfl (by decide +kernel) ⟨Nat.le_of_ble_eq_true rfl, Nat.le_of_ble_eq_true rfl⟩) [0, 1, 2, 3, 4, 5, 6, 7, 8, 9, 10, 11, 12, 13, 14, 15, 16, 17, 18, 19, 20, 21, 22, 23, 24, 25, 26, 27, 28] [29, 30, 31, 32, 33, 34, 35, 36, 37, 38, 39, 40, 41, 42, 43, 44, 45, 46, 47, 48, 49] rfl (by decide) rfl (by decide) (by decide) 0 7 rfl rfl rfl hl.1 rfl (Nat.le_of_ble_eq_true rfl) dL_law_552 ⟨by show 50 + j ≤ 601024; omega, by show 13330 + 6 * j ≤ 7293034; omega⟩ (fun r1 σ1 H locs hp1 hP hD hS => ?_)
  have hP : va_P D vwCl (oh_LW a b k o kL v σ1 τ) H := hP.sub [21, 22, 23, 24, 25, 26, 27, 28, 29, 30, 31, 32, 33, 34, 35, 36, 37, 38, 39, 40, 41, 42, 43, 44, 45, 46, 47, 48, 49, 0, 1, 2, 3, 4, 5, 6, 7, 8, 9, 10, 11, 12, 13, 14, 15, 16, 17, 18, 19, 20] rfl
  have hD : va_D (fun q => s.heap.size ≤ q) (oh_LW a b k o kL v σ1 τ) := hD.sub [21, 22, 23, 24, 25, 26, 27, 28, 29, 30, 31, 32, 33, 34, 35, 36, 37, 38, 39, 40, 41, 42, 43, 44, 45, 46, 47, 48, 49, 0, 1, 2, 3, 4, 5, 6, 7, 8, 9, 10, 11, 12, 13, 14, 15, 16, 17, 18, 19, 20] (by decide) rfl
  obtain ⟨hr1, hs1⟩ := hp1
  rw [hs1] at hP hD
  refine lv_aload_n hx hb dL_law_555 rfl (lv_at hl 3 rfl) ?_
  refine lv_aload_n hx hb dL_law_556 rfl (lv_at hl 1 rfl) ?_
  refine lv_iload hx hb dL_law_557 (lv_at hl 0 rfl) ?_
  refine lv_iconst (v := (1 : Int32)) hx hb dL_law_559 (by decide) ?_
  refine lv_iadd hx hb dL_law_560 ?_
  refine va_sld hx hb hXs hbl hbA hS (lw_in (d := 1) hj (by omega) hN2) dL_law_561 ?_
  refine lv_aload_n hx hb dL_law_562 rfl (lv_at hl 1 rfl) ?_
  refine lv_iload hx hb dL_law_563 (lv_at hl 0 rfl) ?_
  refine lv_iconst (v := (2 : Int32)) hx hb dL_law_565 (by decide) ?_
  refine lv_iadd hx hb dL_law_566 ?_
  refine va_sld hx hb hXs hbl hbA hS (lw_in (d := 2) hj (by omega) hN2) dL_law_567 ?_
  refine gc_vi (Wd := oh_V b k) (As := [.int (xs (nI (4 * j) + 1).toNatClampNeg), .int (xs (nI (4 * j) + 2).toNatClampNeg)]) (rest := [.int r1]) (wr := oh_W a k σ ++ [(o, .inl (kL, 1, .inr (.inl v)))]) hC hKc hP hD hS (mtX8_code l b k D τ (xs (nI (4 * j) + 1).toNatClampNeg) (xs (nI (4 * j) + 2).toNatClampNeg)) (cwV 2 hts gL_law_X8_code rfl rfl rfl (by decide +kernel) ⟨Nat.le_of_ble_eq_true rfl, Nat.le_of_ble_eq_true rfl⟩) [29, 30, 31, 32, 33, 34, 35, 36, 37, 38, 39, 40, 41, 42, 43, 44, 45, 46, 47, 48] [0, 1, 2, 3, 4, 5, 6, 7, 8, 9, 10, 11, 12, 13, 14, 15, 16, 17, 18, 19, 20, 21, 22, 23, 24, 25, 26, 27, 28, 49] rfl (by decide) rfl (by decide) (by decide) 0 8 rfl rfl rfl hl.1 rfl (Nat.le_of_ble_eq_true rfl) dL_law_568 ⟨by show 50 + j ≤ 601024; omega, by show 13330 + 6 * j ≤ 7293034; omega⟩ (fun r2 τ1 H locs hp2 hP hD hS => ?_)
  have hP : va_P D vwCl (oh_LW a b k o kL v σ τ1) H := hP.sub [0, 1, 2, 3, 4, 5, 6, 7, 8, 9, 10, 11, 12, 13, 14, 15, 16, 17, 18, 19, 20, 21, 22, 23, 24, 25, 26, 27, 28, 30, 31, 32, 33, 34, 35, 36, 37, 38, 39, 40, 41, 42, 43, 44, 45, 46, 47, 48, 49, 29] rfl
  have hD : va_D (fun q => s.heap.size ≤ q) (oh_LW a b k o kL v σ τ1) := hD.sub [0, 1, 2, 3, 4, 5, 6, 7, 8, 9, 10, 11, 12, 13, 14, 15, 16, 17, 18, 19, 20, 21, 22, 23, 24, 25, 26, 27, 28, 30, 31, 32, 33, 34, 35, 36, 37, 38, 39, 40, 41, 42, 43, 44, 45, 46, 47, 48, 49, 29] (by decide) rfl
  obtain ⟨hr2, ht1⟩ := hp2
  have CL := cl_code L0 (xs (nI (4 * j) + 1).toNatClampNeg) (xs (nI (4 * j) + 2).toNatClampNeg)
  rw [← hr1, ← hr2, ← ht1] at CL
  obtain ⟨ce, L1⟩ := CL
  refine lv_icmp_eq (tgt := 589) hx hb dL_law_571 (by decide) (fun _ => ?_) (fun c9 => absurd ce c9)
  refine W.widen (k := 50 + j + 1) (n := 13330 + 6 * j + 6) (by omega) (by omega) ?_
  exact K v σ τ1 _ _ _ (L1.mono (by omega)) ⟨hP, hD, hS⟩ (lv_sub hl [0, 1, 2, 3, 4] rfl)
set_option maxHeartbeats 2000000 in
set_option maxRecDepth 100000 in
theorem lw_case10 {p : Program} {l : Launch} {e : Env} {s : State} {m : MethodId} {below : List Frame} {meth : Method} {c : Code} {D : va_G} {a b : Nat → Nat} {k : Nat → ClassId} {o : Nat} {kL : ClassId} {b0 N : Nat} {xs : Nat → Int32} {Q : State → Prop} {j : Nat} (C0 : lw_Cx p l s m meth c D k kL b0 N xs) (hj : 4 * j + 4 ≤ N) {v : Nat → Int64} {σ τ : oh_St} {H : Heap} {locs : List Loc} {ls : Array Slot} (L0 : rl_L (8000 * j) σ τ) (S0 : lw_St D a b k o kL s v σ τ H locs) (hl : lv_has ls 7 (lw_lv a b o b0 j)) (K : lw_Kt p l e s m below meth c D a b k o kL b0 Q j) : W p l e room_1 s m #[Value.ref b0] below meth c H locs (50 + j) (13330 + 6 * j) Q (F0 m 576 ls []) := by
  obtain ⟨hC, hT, hX, hNx, hXs, hbl, hst, hN2⟩ := C0
  obtain ⟨hx, hb, hml, hown, hts, hr, hlocks, hK, hN, hA⟩ := id hC
  obtain ⟨hP, hD, hS⟩ := S0
  have hKc : va_K D vwCl (oh_ty k) s := hK.sub [0, 1, 2, 3, 4] rfl
  have hbA : ¬ (fun q : Nat => s.heap.size ≤ q) b0 := Nat.not_le.mpr hbl
  have hl : lv_has ls 7 [(4, .int (nI (4 * j))), (0, .ref b0), (1, .ref (a 0)), (2, .ref (b 0)), (3, .ref o)] := hl
  refine lv_aload_n hx hb dL_law_576 rfl (lv_at hl 2 rfl) ?_
  refine gc_vi (Wd := oh_W a k) (As := []) (rest := []) (wr := oh_V b k τ ++ [(o, .inl (kL, 1, .inr (.inl v)))]) hC hKc hP hD hS (mtX7_sum l a k D σ ) (cwV 0 hts gL_law_X7_sum rfl rfl rfl (by decide +kernel) ⟨Nat.le_of_ble_eq_true rfl, Nat.le_of_ble_eq_true rfl⟩) [0, 1, 2, 3, 4, 5, 6, 7, 8, 9, 10, 11, 12, 13, 14, 15, 16, 17, 18, 19, 20, 21, 22, 23, 24, 25, 26, 27, 28] [29, 30, 31, 32, 33, 34, 35, 36, 37, 38, 39, 40, 41, 42, 43, 44, 45, 46, 47, 48, 49] rfl (by decide) rfl (by decide) (by decide) 0 7 rfl rfl rfl hl.1 rfl (Nat.le_of_ble_eq_true rfl) dL_law_577 ⟨by show 50 + j ≤ 601024; omega, by show 13330 + 6 * j ≤ 7293034; omega⟩ (fun r1 σ1 H locs hp1 hP hD hS => ?_)
  have hP : va_P D vwCl (oh_LW a b k o kL v σ1 τ) H := hP.sub [21, 22, 23, 24, 25, 26, 27, 28, 29, 30, 31, 32, 33, 34, 35, 36, 37, 38, 39, 40, 41, 42, 43, 44, 45, 46, 47, 48, 49, 0, 1, 2, 3, 4, 5, 6, 7, 8, 9, 10, 11, 12, 13, 14, 15, 16, 17, 18, 19, 20] rfl
  have hD : va_D (fun q => s.heap.size ≤ q) (oh_LW a b k o kL v σ1 τ) := hD.sub [21, 22, 23, 24, 25, 26, 27, 28, 29, 30, 31, 32, 33, 34, 35, 36, 37, 38, 39, 40, 41, 42, 43, 44, 45, 46, 47, 48, 49, 0, 1, 2, 3, 4, 5, 6, 7, 8, 9, 10, 11, 12, 13, 14, 15, 16, 17, 18, 19, 20] (by decide) rfl
  obtain ⟨hr1, hs1⟩ := hp1
  rw [hs1] at hP hD
  refine lv_aload_n hx hb dL_law_580 rfl (lv_at hl 3 rfl) ?_
  refine gc_vi (Wd := oh_V b k) (As := []) (rest := [.int r1]) (wr := oh_W a k σ ++ [(o, .inl (kL, 1, .inr (.inl v)))]) hC hKc hP hD hS (mtX8_sum_ l b k D τ ) (cwV 0 hts gL_law_X8_sum_ rfl rfl rfl (by decide +kernel) ⟨Nat.le_of_ble_eq_true rfl, Nat.le_of_ble_eq_true rfl⟩) [29, 30, 31, 32, 33, 34, 35, 36, 37, 38, 39, 40, 41, 42, 43, 44, 45, 46, 47, 48] [0, 1, 2, 3, 4, 5, 6, 7, 8, 9, 10, 11, 12, 13, 14, 15, 16, 17, 18, 19, 20, 21, 22, 23, 24, 25, 26, 27, 28, 49] rfl (by decide) rfl (by decide) (by decide) 0 8 rfl rfl rfl hl.1 rfl (Nat.le_of_ble_eq_true rfl) dL_law_581 ⟨by show 50 + j ≤ 601024; omega, by show 13330 + 6 * j ≤ 7293034; omega⟩ (fun r2 τ1 H locs hp2 hP hD hS => ?_)
  have hP : va_P D vwCl (oh_LW a b k o kL v σ τ1) H := hP.sub [0, 1, 2, 3, 4, 5, 6, 7, 8, 9, 10, 11, 12, 13, 14, 15, 16, 17, 18, 19, 20, 21, 22, 23, 24, 25, 26, 27, 28, 30, 31, 32, 33, 34, 35, 36, 37, 38, 39, 40, 41, 42, 43, 44, 45, 46, 47, 48, 49, 29] rfl
  have hD : va_D (fun q => s.heap.size ≤ q) (oh_LW a b k o kL v σ τ1) := hD.sub [0, 1, 2, 3, 4, 5, 6, 7, 8, 9, 10, 11, 12, 13, 14, 15, 16, 17, 18, 19, 20, 21, 22, 23, 24, 25, 26, 27, 28, 30, 31, 32, 33, 34, 35, 36, 37, 38, 39, 40, 41, 42, 43, 44, 45, 46, 47, 48, 49, 29] (by decide) rfl
  obtain ⟨hr2, ht1⟩ := hp2
  have CL := cl_sum L0 
  rw [← hr1, ← hr2, ← ht1] at CL
  obtain ⟨ce, L1⟩ := CL
  refine lv_icmp_eq (tgt := 589) hx hb dL_law_584 (by decide) (fun _ => ?_) (fun c9 => absurd ce c9)
  refine W.widen (k := 50 + j + 1) (n := 13330 + 6 * j + 6) (by omega) (by omega) ?_
  exact K v σ τ1 _ _ _ (L1.mono (by omega)) ⟨hP, hD, hS⟩ (lv_sub hl [0, 1, 2, 3, 4] rfl)
set_option maxHeartbeats 2000000 in
set_option maxRecDepth 100000 in
theorem lw_case3 {p : Program} {l : Launch} {e : Env} {s : State} {m : MethodId} {below : List Frame} {meth : Method} {c : Code} {D : va_G} {a b : Nat → Nat} {k : Nat → ClassId} {o : Nat} {kL : ClassId} {b0 N : Nat} {xs : Nat → Int32} {Q : State → Prop} {j : Nat} (C0 : lw_Cx p l s m meth c D k kL b0 N xs) (hj : 4 * j + 4 ≤ N) {v : Nat → Int64} {σ τ : oh_St} {H : Heap} {locs : List Loc} {ls : Array Slot} (L0 : rl_L (8000 * j) σ τ) (S0 : lw_St D a b k o kL s v σ τ H locs) (hl : lv_has ls 7 (lw_lv a b o b0 j)) (K : lw_Kt p l e s m below meth c D a b k o kL b0 Q j) : W p l e room_1 s m #[Value.ref b0] below meth c H locs (50 + j) (13330 + 6 * j) Q (F0 m 231 ls []) := by
  obtain ⟨hC, hT, hX, hNx, hXs, hbl, hst, hN2⟩ := C0
  obtain ⟨hx, hb, hml, hown, hts, hr, hlocks, hK, hN, hA⟩ := id hC
  obtain ⟨hP, hD, hS⟩ := S0
  have hKc : va_K D vwCl (oh_ty k) s := hK.sub [0, 1, 2, 3, 4] rfl
  have hbA : ¬ (fun q : Nat => s.heap.size ≤ q) b0 := Nat.not_le.mpr hbl
  have hl : lv_has ls 7 [(4, .int (nI (4 * j))), (0, .ref b0), (1, .ref (a 0)), (2, .ref (b 0)), (3, .ref o)] := hl
  refine lv_aload_n hx hb dL_law_231 rfl (lv_at hl 2 rfl) ?_
  refine lv_aload_n hx hb dL_law_232 rfl (lv_at hl 1 rfl) ?_
  refine lv_iload hx hb dL_law_233 (lv_at hl 0 rfl) ?_
  refine lv_iconst (v := (1 : Int32)) hx hb dL_law_235 (by decide) ?_
  refine lv_iadd hx hb dL_law_236 ?_
  refine va_sld hx hb hXs hbl hbA hS (lw_in (d := 1) hj (by omega) hN2) dL_law_237 ?_
  refine lv_aload_n hx hb dL_law_238 rfl (lv_at hl 1 rfl) ?_
  refine lv_iload hx hb dL_law_239 (lv_at hl 0 rfl) ?_
  refine lv_iconst (v := (2 : Int32)) hx hb dL_law_241 (by decide) ?_
  refine lv_iadd hx hb dL_law_242 ?_
  refine va_sld hx hb hXs hbl hbA hS (lw_in (d := 2) hj (by omega) hN2) dL_law_243 ?_
  refine gc_h (As := [.ref (a 0), .int (xs (nI (4 * j) + 1).toNatClampNeg), .int (xs (nI (4 * j) + 2).toNatClampNeg)]) (rest := []) (wr := oh_V b k τ) hC hT hX hNx hP hD hS (mtL_set l a k o kL D σ v hst (xs (nI (4 * j) + 1).toNatClampNeg) (xs (nI (4 * j) + 2).toNatClampNeg)) (vx_cwSW 3 hts gL_law_L_set rfl rfl rfl (by decide +kernel) ⟨Nat.le_of_ble_eq_true rfl, Nat.le_of_ble_eq_true rfl⟩) [0, 1, 2, 3, 4, 5, 6, 7, 8, 9, 10, 11, 12, 13, 14, 15, 16, 17, 18, 19, 20, 21, 22, 23, 24, 25, 26, 27, 28, 49] [29, 30, 31, 32, 33, 34, 35, 36, 37, 38, 39, 40, 41, 42, 43, 44, 45, 46, 47, 48] rfl (by decide) rfl (by decide) (by decide) rfl hl.1 rfl (Nat.le_of_ble_eq_true rfl) dL_law_244 ⟨by show 50 + j + 1 ≤ 601024; omega, by show 13330 + 6 * j + 6 ≤ 7293034; omega⟩ (fun r1 u1 H locs hp1 hP hD hS => ?_)
  obtain ⟨σ1, v1⟩ := u1
  dsimp only at hp1 hP hD
  have hP : va_P D vwCl (oh_LW a b k o kL v1 σ1 τ) H := hP.sub [20, 21, 22, 23, 24, 25, 26, 27, 28, 29, 30, 31, 32, 33, 34, 35, 36, 37, 38, 39, 40, 41, 42, 43, 44, 45, 46, 47, 48, 0, 1, 2, 3, 4, 5, 6, 7, 8, 9, 10, 11, 12, 13, 14, 15, 16, 17, 18, 19, 49] rfl
  have hD : va_D (fun q => s.heap.size ≤ q) (oh_LW a b k o kL v1 σ1 τ) := hD.sub [20, 21, 22, 23, 24, 25, 26, 27, 28, 29, 30, 31, 32, 33, 34, 35, 36, 37, 38, 39, 40, 41, 42, 43, 44, 45, 46, 47, 48, 0, 1, 2, 3, 4, 5, 6, 7, 8, 9, 10, 11, 12, 13, 14, 15, 16, 17, 18, 19, 49] (by decide) rfl
  obtain ⟨hr1, hs1⟩ := hp1
  refine lv_istore (lv' := [(5, .int r1), (4, .int (nI (4 * j))), (0, .ref b0), (1, .ref (a 0)), (2, .ref (b 0)), (3, .ref o)]) hx hb dL_law_247 hl (by decide) rfl (fun ls hl => ?_)
  refine lv_aload_n hx hb dL_law_249 rfl (lv_at hl 4 rfl) ?_
  refine lv_aload_n hx hb dL_law_250 rfl (lv_at hl 2 rfl) ?_
  refine lv_iload hx hb dL_law_251 (lv_at hl 1 rfl) ?_
  refine lv_iconst (v := (1 : Int32)) hx hb dL_law_253 (by decide) ?_
  refine lv_iadd hx hb dL_law_254 ?_
  refine va_sld hx hb hXs hbl hbA hS (lw_in (d := 1) hj (by omega) hN2) dL_law_255 ?_
  refine lv_aload_n hx hb dL_law_256 rfl (lv_at hl 2 rfl) ?_
  refine lv_iload hx hb dL_law_257 (lv_at hl 1 rfl) ?_
  refine lv_iconst (v := (2 : Int32)) hx hb dL_law_259 (by decide) ?_
  refine lv_iadd hx hb dL_law_260 ?_
  refine va_sld hx hb hXs hbl hbA hS (lw_in (d := 2) hj (by omega) hN2) dL_law_261 ?_
  refine gc_vv (Wd := oh_V b k) (As := [.int (xs (nI (4 * j) + 1).toNatClampNeg), .int (xs (nI (4 * j) + 2).toNatClampNeg)]) (rest := []) (wr := oh_W a k σ1 ++ [(o, .inl (kL, 1, .inr (.inl v1)))]) hC hKc hP hD hS (mtX8_set l b k D τ (xs (nI (4 * j) + 1).toNatClampNeg) (xs (nI (4 * j) + 2).toNatClampNeg)) (cwV 2 hts gL_law_X8_set rfl rfl rfl (by decide +kernel) ⟨Nat.le_of_ble_eq_true rfl, Nat.le_of_ble_eq_true rfl⟩) [29, 30, 31, 32, 33, 34, 35, 36, 37, 38, 39, 40, 41, 42, 43, 44, 45, 46, 47, 48] [0, 1, 2, 3, 4, 5, 6, 7, 8, 9, 10, 11, 12, 13, 14, 15, 16, 17, 18, 19, 20, 21, 22, 23, 24, 25, 26, 27, 28, 49] rfl (by decide) rfl (by decide) (by decide) 0 8 rfl rfl rfl hl.1 rfl (Nat.le_of_ble_eq_true rfl) dL_law_262 ⟨by show 50 + j + 1 ≤ 601024; omega, by show 13330 + 6 * j + 6 ≤ 7293034; omega⟩ (fun τ1 H locs ht1 hP hD hS => ?_)
  have hP : va_P D vwCl (oh_LW a b k o kL v1 σ1 τ1) H := hP.sub [0, 1, 2, 3, 4, 5, 6, 7, 8, 9, 10, 11, 12, 13, 14, 15, 16, 17, 18, 19, 20, 21, 22, 23, 24, 25, 26, 27, 28, 30, 31, 32, 33, 34, 35, 36, 37, 38, 39, 40, 41, 42, 43, 44, 45, 46, 47, 48, 49, 29] rfl
  have hD : va_D (fun q => s.heap.size ≤ q) (oh_LW a b k o kL v1 σ1 τ1) := hD.sub [0, 1, 2, 3, 4, 5, 6, 7, 8, 9, 10, 11, 12, 13, 14, 15, 16, 17, 18, 19, 20, 21, 22, 23, 24, 25, 26, 27, 28, 30, 31, 32, 33, 34, 35, 36, 37, 38, 39, 40, 41, 42, 43, 44, 45, 46, 47, 48, 49, 29] (by decide) rfl
  have CL := cl_set L0 (xs (nI (4 * j) + 1).toNatClampNeg) (xs (nI (4 * j) + 2).toNatClampNeg)
  rw [← hr1, ← hs1, ← ht1] at CL
  obtain ⟨ck, L1⟩ := CL
  refine lv_aload_n hx hb dL_law_265 rfl (lv_at hl 4 rfl) ?_
  refine gc_vi (Wd := oh_V b k) (As := []) (rest := []) (wr := oh_W a k σ1 ++ [(o, .inl (kL, 1, .inr (.inl v1)))]) hC hKc hP hD hS (mtX8_thrown l b k D τ1) (cwV 0 hts gL_law_X8_thrown rfl rfl rfl (by decide +kernel) ⟨Nat.le_of_ble_eq_true rfl, Nat.le_of_ble_eq_true rfl⟩) [29, 30, 31, 32, 33, 34, 35, 36, 37, 38, 39, 40, 41, 42, 43, 44, 45, 46, 47, 48] [0, 1, 2, 3, 4, 5, 6, 7, 8, 9, 10, 11, 12, 13, 14, 15, 16, 17, 18, 19, 20, 21, 22, 23, 24, 25, 26, 27, 28, 49] rfl (by decide) rfl (by decide) (by decide) 0 8 rfl rfl rfl hl.1 rfl (Nat.le_of_ble_eq_true rfl) dL_law_266 ⟨by show 50 + j + 1 ≤ 601024; omega, by show 13330 + 6 * j + 6 ≤ 7293034; omega⟩ (fun r3 τ3 H locs hp3 hP hD hS => ?_)
  have hP : va_P D vwCl (oh_LW a b k o kL v1 σ1 τ3) H := hP.sub [0, 1, 2, 3, 4, 5, 6, 7, 8, 9, 10, 11, 12, 13, 14, 15, 16, 17, 18, 19, 20, 21, 22, 23, 24, 25, 26, 27, 28, 30, 31, 32, 33, 34, 35, 36, 37, 38, 39, 40, 41, 42, 43, 44, 45, 46, 47, 48, 49, 29] rfl
  have hD : va_D (fun q => s.heap.size ≤ q) (oh_LW a b k o kL v1 σ1 τ3) := hD.sub [0, 1, 2, 3, 4, 5, 6, 7, 8, 9, 10, 11, 12, 13, 14, 15, 16, 17, 18, 19, 20, 21, 22, 23, 24, 25, 26, 27, 28, 30, 31, 32, 33, 34, 35, 36, 37, 38, 39, 40, 41, 42, 43, 44, 45, 46, 47, 48, 49, 29] (by decide) rfl
  obtain ⟨hr3, ht3⟩ := hp3
  rw [ht3] at hP hD
  refine lv_iload hx hb dL_law_269 (lv_at hl 0 rfl) ?_
  refine lv_icmp_eq (tgt := 276) hx hb dL_law_271 (by decide) (fun _ => ?_) (fun c9 => absurd (hr3.trans ck) c9)
  refine lv_goto (tgt := 589) hx hb dL_law_276 (by decide) ?_
  exact K v1 σ1 τ1 _ _ _ (L1.mono (by omega)) ⟨hP, hD, hS⟩ (lv_sub hl [1, 2, 3, 4, 5] rfl)
set_option maxHeartbeats 2000000 in
set_option maxRecDepth 100000 in
theorem lw_case6 {p : Program} {l : Launch} {e : Env} {s : State} {m : MethodId} {below : List Frame} {meth : Method} {c : Code} {D : va_G} {a b : Nat → Nat} {k : Nat → ClassId} {o : Nat} {kL : ClassId} {b0 N : Nat} {xs : Nat → Int32} {Q : State → Prop} {j : Nat} (C0 : lw_Cx p l s m meth c D k kL b0 N xs) (hj : 4 * j + 4 ≤ N) {v : Nat → Int64} {σ τ : oh_St} {H : Heap} {locs : List Loc} {ls : Array Slot} (L0 : rl_L (8000 * j) σ τ) (S0 : lw_St D a b k o kL s v σ τ H locs) (hl : lv_has ls 7 (lw_lv a b o b0 j)) (K : lw_Kt p l e s m below meth c D a b k o kL b0 Q j) : W p l e room_1 s m #[Value.ref b0] below meth c H locs (50 + j) (13330 + 6 * j) Q (F0 m 327 ls []) := by
  obtain ⟨hC, hT, hX, hNx, hXs, hbl, hst, hN2⟩ := C0
  obtain ⟨hx, hb, hml, hown, hts, hr, hlocks, hK, hN, hA⟩ := id hC
  obtain ⟨hP, hD, hS⟩ := S0
  have hKc : va_K D vwCl (oh_ty k) s := hK.sub [0, 1, 2, 3, 4] rfl
  have hbA : ¬ (fun q : Nat => s.heap.size ≤ q) b0 := Nat.not_le.mpr hbl
  have hl : lv_has ls 7 [(4, .int (nI (4 * j))), (0, .ref b0), (1, .ref (a 0)), (2, .ref (b 0)), (3, .ref o)] := hl
  refine lv_aload_n hx hb dL_law_327 rfl (lv_at hl 2 rfl) ?_
  refine lv_aload_n hx hb dL_law_328 rfl (lv_at hl 1 rfl) ?_
  refine lv_iload hx hb dL_law_329 (lv_at hl 0 rfl) ?_
  refine lv_iconst (v := (1 : Int32)) hx hb dL_law_331 (by decide) ?_
  refine lv_iadd hx hb dL_law_332 ?_
  refine va_sld hx hb hXs hbl hbA hS (lw_in (d := 1) hj (by omega) hN2) dL_law_333 ?_
  refine lv_aload_n hx hb dL_law_334 rfl (lv_at hl 1 rfl) ?_
  refine lv_iload hx hb dL_law_335 (lv_at hl 0 rfl) ?_
  refine lv_iconst (v := (2 : Int32)) hx hb dL_law_337 (by decide) ?_
  refine lv_iadd hx hb dL_law_338 ?_
  refine va_sld hx hb hXs hbl hbA hS (lw_in (d := 2) hj (by omega) hN2) dL_law_339 ?_
  refine lv_if_eq (tgt := 347) hx hb dL_law_340 (by decide) (fun z2 => ?_) (fun z2 => ?_)
  · skip
    refine lv_iconst (v := (0 : Int32)) hx hb dL_law_347 (by decide) ?_
    refine lv_aload_n hx hb dL_law_348 rfl (lv_at hl 1 rfl) ?_
    refine lv_iload hx hb dL_law_349 (lv_at hl 0 rfl) ?_
    refine lv_iconst (v := (3 : Int32)) hx hb dL_law_351 (by decide) ?_
    refine lv_iadd hx hb dL_law_352 ?_
    refine va_sld hx hb hXs hbl hbA hS (lw_in (d := 3) hj (by omega) hN2) dL_law_353 ?_
    refine gc_h (As := [.ref (a 0), .int (xs (nI (4 * j) + 1).toNatClampNeg), .int (0 : Int32), .int (xs (nI (4 * j) + 3).toNatClampNeg)]) (rest := []) (wr := oh_V b k τ) hC hT hX hNx hP hD hS (mtL_device l a k o kL D σ v hst (xs (nI (4 * j) + 1).toNatClampNeg) (0 : Int32) (xs (nI (4 * j) + 3).toNatClampNeg) (Or.inl rfl)) (vx_cwSW 4 hts gL_law_L_device rfl rfl rfl (by decide +kernel) ⟨Nat.le_of_ble_eq_true rfl, Nat.le_of_ble_eq_true rfl⟩) [0, 1, 2, 3, 4, 5, 6, 7, 8, 9, 10, 11, 12, 13, 14, 15, 16, 17, 18, 19, 20, 21, 22, 23, 24, 25, 26, 27, 28, 49] [29, 30, 31, 32, 33, 34, 35, 36, 37, 38, 39, 40, 41, 42, 43, 44, 45, 46, 47, 48] rfl (by decide) rfl (by decide) (by decide) rfl hl.1 rfl (Nat.le_of_ble_eq_true rfl) dL_law_354 ⟨by show 50 + j + 1 ≤ 601024; omega, by show 13330 + 6 * j + 6 ≤ 7293034; omega⟩ (fun r1 u1 H locs hp1 hP hD hS => ?_)
    obtain ⟨σ1, v1⟩ := u1
    dsimp only at hp1 hP hD
    have hP : va_P D vwCl (oh_LW a b k o kL v1 σ1 τ) H := hP.sub [20, 21, 22, 23, 24, 25, 26, 27, 28, 29, 30, 31, 32, 33, 34, 35, 36, 37, 38, 39, 40, 41, 42, 43, 44, 45, 46, 47, 48, 0, 1, 2, 3, 4, 5, 6, 7, 8, 9, 10, 11, 12, 13, 14, 15, 16, 17, 18, 19, 49] rfl
    have hD : va_D (fun q => s.heap.size ≤ q) (oh_LW a b k o kL v1 σ1 τ) := hD.sub [20, 21, 22, 23, 24, 25, 26, 27, 28, 29, 30, 31, 32, 33, 34, 35, 36, 37, 38, 39, 40, 41, 42, 43, 44, 45, 46, 47, 48, 0, 1, 2, 3, 4, 5, 6, 7, 8, 9, 10, 11, 12, 13, 14, 15, 16, 17, 18, 19, 49] (by decide) rfl
    obtain ⟨hr1, hs1⟩ := hp1
    refine lv_istore (lv' := [(5, .int r1), (4, .int (nI (4 * j))), (0, .ref b0), (1, .ref (a 0)), (2, .ref (b 0)), (3, .ref o)]) hx hb dL_law_357 hl (by decide) rfl (fun ls hl => ?_)
    refine lv_aload_n hx hb dL_law_359 rfl (lv_at hl 4 rfl) ?_
    refine lv_aload_n hx hb dL_law_360 rfl (lv_at hl 2 rfl) ?_
    refine lv_iload hx hb dL_law_361 (lv_at hl 1 rfl) ?_
    refine lv_iconst (v := (1 : Int32)) hx hb dL_law_363 (by decide) ?_
    refine lv_iadd hx hb dL_law_364 ?_
    refine va_sld hx hb hXs hbl hbA hS (lw_in (d := 1) hj (by omega) hN2) dL_law_365 ?_
    refine lv_aload_n hx hb dL_law_366 rfl (lv_at hl 2 rfl) ?_
    refine lv_iload hx hb dL_law_367 (lv_at hl 1 rfl) ?_
    refine lv_iconst (v := (2 : Int32)) hx hb dL_law_369 (by decide) ?_
    refine lv_iadd hx hb dL_law_370 ?_
    refine va_sld hx hb hXs hbl hbA hS (lw_in (d := 2) hj (by omega) hN2) dL_law_371 ?_
    refine lv_if_eq (tgt := 379) hx hb dL_law_372 (by decide) (fun _ => ?_) (fun z3 => absurd z2 z3)
    refine lv_iconst (v := (0 : Int32)) hx hb dL_law_379 (by decide) ?_
    refine lv_aload_n hx hb dL_law_380 rfl (lv_at hl 2 rfl) ?_
    refine lv_iload hx hb dL_law_381 (lv_at hl 1 rfl) ?_
    refine lv_iconst (v := (3 : Int32)) hx hb dL_law_383 (by decide) ?_
    refine lv_iadd hx hb dL_law_384 ?_
    refine va_sld hx hb hXs hbl hbA hS (lw_in (d := 3) hj (by omega) hN2) dL_law_385 ?_
    refine gc_vv (Wd := oh_V b k) (As := [.int (xs (nI (4 * j) + 1).toNatClampNeg), .int (0 : Int32), .int (xs (nI (4 * j) + 3).toNatClampNeg)]) (rest := []) (wr := oh_W a k σ1 ++ [(o, .inl (kL, 1, .inr (.inl v1)))]) hC hKc hP hD hS (mtX8_device l b k D τ (xs (nI (4 * j) + 1).toNatClampNeg) (0 : Int32) (xs (nI (4 * j) + 3).toNatClampNeg) (Or.inl rfl)) (cwV 3 hts gL_law_X8_device rfl rfl rfl (by decide +kernel) ⟨Nat.le_of_ble_eq_true rfl, Nat.le_of_ble_eq_true rfl⟩) [29, 30, 31, 32, 33, 34, 35, 36, 37, 38, 39, 40, 41, 42, 43, 44, 45, 46, 47, 48] [0, 1, 2, 3, 4, 5, 6, 7, 8, 9, 10, 11, 12, 13, 14, 15, 16, 17, 18, 19, 20, 21, 22, 23, 24, 25, 26, 27, 28, 49] rfl (by decide) rfl (by decide) (by decide) 0 8 rfl rfl rfl hl.1 rfl (Nat.le_of_ble_eq_true rfl) dL_law_386 ⟨by show 50 + j + 1 ≤ 601024; omega, by show 13330 + 6 * j + 6 ≤ 7293034; omega⟩ (fun τ1 H locs ht1 hP hD hS => ?_)
    have hP : va_P D vwCl (oh_LW a b k o kL v1 σ1 τ1) H := hP.sub [0, 1, 2, 3, 4, 5, 6, 7, 8, 9, 10, 11, 12, 13, 14, 15, 16, 17, 18, 19, 20, 21, 22, 23, 24, 25, 26, 27, 28, 30, 31, 32, 33, 34, 35, 36, 37, 38, 39, 40, 41, 42, 43, 44, 45, 46, 47, 48, 49, 29] rfl
    have hD : va_D (fun q => s.heap.size ≤ q) (oh_LW a b k o kL v1 σ1 τ1) := hD.sub [0, 1, 2, 3, 4, 5, 6, 7, 8, 9, 10, 11, 12, 13, 14, 15, 16, 17, 18, 19, 20, 21, 22, 23, 24, 25, 26, 27, 28, 30, 31, 32, 33, 34, 35, 36, 37, 38, 39, 40, 41, 42, 43, 44, 45, 46, 47, 48, 49, 29] (by decide) rfl
    have CL := cl_device L0 (xs (nI (4 * j) + 1).toNatClampNeg) (0 : Int32) (xs (nI (4 * j) + 3).toNatClampNeg) (Or.inl rfl)
    rw [← hr1, ← hs1, ← ht1] at CL
    obtain ⟨ck, L1⟩ := CL
    refine lv_aload_n hx hb dL_law_389 rfl (lv_at hl 4 rfl) ?_
    refine gc_vi (Wd := oh_V b k) (As := []) (rest := []) (wr := oh_W a k σ1 ++ [(o, .inl (kL, 1, .inr (.inl v1)))]) hC hKc hP hD hS (mtX8_thrown l b k D τ1) (cwV 0 hts gL_law_X8_thrown rfl rfl rfl (by decide +kernel) ⟨Nat.le_of_ble_eq_true rfl, Nat.le_of_ble_eq_true rfl⟩) [29, 30, 31, 32, 33, 34, 35, 36, 37, 38, 39, 40, 41, 42, 43, 44, 45, 46, 47, 48] [0, 1, 2, 3, 4, 5, 6, 7, 8, 9, 10, 11, 12, 13, 14, 15, 16, 17, 18, 19, 20, 21, 22, 23, 24, 25, 26, 27, 28, 49] rfl (by decide) rfl (by decide) (by decide) 0 8 rfl rfl rfl hl.1 rfl (Nat.le_of_ble_eq_true rfl) dL_law_390 ⟨by show 50 + j + 1 ≤ 601024; omega, by show 13330 + 6 * j + 6 ≤ 7293034; omega⟩ (fun r3 τ3 H locs hp3 hP hD hS => ?_)
    have hP : va_P D vwCl (oh_LW a b k o kL v1 σ1 τ3) H := hP.sub [0, 1, 2, 3, 4, 5, 6, 7, 8, 9, 10, 11, 12, 13, 14, 15, 16, 17, 18, 19, 20, 21, 22, 23, 24, 25, 26, 27, 28, 30, 31, 32, 33, 34, 35, 36, 37, 38, 39, 40, 41, 42, 43, 44, 45, 46, 47, 48, 49, 29] rfl
    have hD : va_D (fun q => s.heap.size ≤ q) (oh_LW a b k o kL v1 σ1 τ3) := hD.sub [0, 1, 2, 3, 4, 5, 6, 7, 8, 9, 10, 11, 12, 13, 14, 15, 16, 17, 18, 19, 20, 21, 22, 23, 24, 25, 26, 27, 28, 30, 31, 32, 33, 34, 35, 36, 37, 38, 39, 40, 41, 42, 43, 44, 45, 46, 47, 48, 49, 29] (by decide) rfl
    obtain ⟨hr3, ht3⟩ := hp3
    rw [ht3] at hP hD
    refine lv_iload hx hb dL_law_393 (lv_at hl 0 rfl) ?_
    refine lv_icmp_eq (tgt := 400) hx hb dL_law_395 (by decide) (fun _ => ?_) (fun c9 => absurd (hr3.trans ck) c9)
    refine lv_goto (tgt := 589) hx hb dL_law_400 (by decide) ?_
    exact K v1 σ1 τ1 _ _ _ (L1.mono (by omega)) ⟨hP, hD, hS⟩ (lv_sub hl [1, 2, 3, 4, 5] rfl)
  · skip
    refine lv_iconst (v := (1 : Int32)) hx hb dL_law_343 (by decide) ?_
    refine lv_goto (tgt := 348) hx hb dL_law_344 (by decide) ?_
    refine lv_aload_n hx hb dL_law_348 rfl (lv_at hl 1 rfl) ?_
    refine lv_iload hx hb dL_law_349 (lv_at hl 0 rfl) ?_
    refine lv_iconst (v := (3 : Int32)) hx hb dL_law_351 (by decide) ?_
    refine lv_iadd hx hb dL_law_352 ?_
    refine va_sld hx hb hXs hbl hbA hS (lw_in (d := 3) hj (by omega) hN2) dL_law_353 ?_
    refine gc_h (As := [.ref (a 0), .int (xs (nI (4 * j) + 1).toNatClampNeg), .int (1 : Int32), .int (xs (nI (4 * j) + 3).toNatClampNeg)]) (rest := []) (wr := oh_V b k τ) hC hT hX hNx hP hD hS (mtL_device l a k o kL D σ v hst (xs (nI (4 * j) + 1).toNatClampNeg) (1 : Int32) (xs (nI (4 * j) + 3).toNatClampNeg) (Or.inr rfl)) (vx_cwSW 4 hts gL_law_L_device rfl rfl rfl (by decide +kernel) ⟨Nat.le_of_ble_eq_true rfl, Nat.le_of_ble_eq_true rfl⟩) [0, 1, 2, 3, 4, 5, 6, 7, 8, 9, 10, 11, 12, 13, 14, 15, 16, 17, 18, 19, 20, 21, 22, 23, 24, 25, 26, 27, 28, 49] [29, 30, 31, 32, 33, 34, 35, 36, 37, 38, 39, 40, 41, 42, 43, 44, 45, 46, 47, 48] rfl (by decide) rfl (by decide) (by decide) rfl hl.1 rfl (Nat.le_of_ble_eq_true rfl) dL_law_354 ⟨by show 50 + j + 1 ≤ 601024; omega, by show 13330 + 6 * j + 6 ≤ 7293034; omega⟩ (fun r1 u1 H locs hp1 hP hD hS => ?_)
    obtain ⟨σ1, v1⟩ := u1
    dsimp only at hp1 hP hD
    have hP : va_P D vwCl (oh_LW a b k o kL v1 σ1 τ) H := hP.sub [20, 21, 22, 23, 24, 25, 26, 27, 28, 29, 30, 31, 32, 33, 34, 35, 36, 37, 38, 39, 40, 41, 42, 43, 44, 45, 46, 47, 48, 0, 1, 2, 3, 4, 5, 6, 7, 8, 9, 10, 11, 12, 13, 14, 15, 16, 17, 18, 19, 49] rfl
    have hD : va_D (fun q => s.heap.size ≤ q) (oh_LW a b k o kL v1 σ1 τ) := hD.sub [20, 21, 22, 23, 24, 25, 26, 27, 28, 29, 30, 31, 32, 33, 34, 35, 36, 37, 38, 39, 40, 41, 42, 43, 44, 45, 46, 47, 48, 0, 1, 2, 3, 4, 5, 6, 7, 8, 9, 10, 11, 12, 13, 14, 15, 16, 17, 18, 19, 49] (by decide) rfl
    obtain ⟨hr1, hs1⟩ := hp1
    refine lv_istore (lv' := [(5, .int r1), (4, .int (nI (4 * j))), (0, .ref b0), (1, .ref (a 0)), (2, .ref (b 0)), (3, .ref o)]) hx hb dL_law_357 hl (by decide) rfl (fun ls hl => ?_)
    refine lv_aload_n hx hb dL_law_359 rfl (lv_at hl 4 rfl) ?_
    refine lv_aload_n hx hb dL_law_360 rfl (lv_at hl 2 rfl) ?_
    refine lv_iload hx hb dL_law_361 (lv_at hl 1 rfl) ?_
    refine lv_iconst (v := (1 : Int32)) hx hb dL_law_363 (by decide) ?_
    refine lv_iadd hx hb dL_law_364 ?_
    refine va_sld hx hb hXs hbl hbA hS (lw_in (d := 1) hj (by omega) hN2) dL_law_365 ?_
    refine lv_aload_n hx hb dL_law_366 rfl (lv_at hl 2 rfl) ?_
    refine lv_iload hx hb dL_law_367 (lv_at hl 1 rfl) ?_
    refine lv_iconst (v := (2 : Int32)) hx hb dL_law_369 (by decide) ?_
    refine lv_iadd hx hb dL_law_370 ?_
    refine va_sld hx hb hXs hbl hbA hS (lw_in (d := 2) hj (by omega) hN2) dL_law_371 ?_
    refine lv_if_eq (tgt := 379) hx hb dL_law_372 (by decide) (fun z3 => absurd z3 z2) (fun _ => ?_)
    refine lv_iconst (v := (1 : Int32)) hx hb dL_law_375 (by decide) ?_
    refine lv_goto (tgt := 380) hx hb dL_law_376 (by decide) ?_
    refine lv_aload_n hx hb dL_law_380 rfl (lv_at hl 2 rfl) ?_
    refine lv_iload hx hb dL_law_381 (lv_at hl 1 rfl) ?_
    refine lv_iconst (v := (3 : Int32)) hx hb dL_law_383 (by decide) ?_
    refine lv_iadd hx hb dL_law_384 ?_
    refine va_sld hx hb hXs hbl hbA hS (lw_in (d := 3) hj (by omega) hN2) dL_law_385 ?_
    refine gc_vv (Wd := oh_V b k) (As := [.int (xs (nI (4 * j) + 1).toNatClampNeg), .int (1 : Int32), .int (xs (nI (4 * j) + 3).toNatClampNeg)]) (rest := []) (wr := oh_W a k σ1 ++ [(o, .inl (kL, 1, .inr (.inl v1)))]) hC hKc hP hD hS (mtX8_device l b k D τ (xs (nI (4 * j) + 1).toNatClampNeg) (1 : Int32) (xs (nI (4 * j) + 3).toNatClampNeg) (Or.inr rfl)) (cwV 3 hts gL_law_X8_device rfl rfl rfl (by decide +kernel) ⟨Nat.le_of_ble_eq_true rfl, Nat.le_of_ble_eq_true rfl⟩) [29, 30, 31, 32, 33, 34, 35, 36, 37, 38, 39, 40, 41, 42, 43, 44, 45, 46, 47, 48] [0, 1, 2, 3, 4, 5, 6, 7, 8, 9, 10, 11, 12, 13, 14, 15, 16, 17, 18, 19, 20, 21, 22, 23, 24, 25, 26, 27, 28, 49] rfl (by decide) rfl (by decide) (by decide) 0 8 rfl rfl rfl hl.1 rfl (Nat.le_of_ble_eq_true rfl) dL_law_386 ⟨by show 50 + j + 1 ≤ 601024; omega, by show 13330 + 6 * j + 6 ≤ 7293034; omega⟩ (fun τ1 H locs ht1 hP hD hS => ?_)
    have hP : va_P D vwCl (oh_LW a b k o kL v1 σ1 τ1) H := hP.sub [0, 1, 2, 3, 4, 5, 6, 7, 8, 9, 10, 11, 12, 13, 14, 15, 16, 17, 18, 19, 20, 21, 22, 23, 24, 25, 26, 27, 28, 30, 31, 32, 33, 34, 35, 36, 37, 38, 39, 40, 41, 42, 43, 44, 45, 46, 47, 48, 49, 29] rfl
    have hD : va_D (fun q => s.heap.size ≤ q) (oh_LW a b k o kL v1 σ1 τ1) := hD.sub [0, 1, 2, 3, 4, 5, 6, 7, 8, 9, 10, 11, 12, 13, 14, 15, 16, 17, 18, 19, 20, 21, 22, 23, 24, 25, 26, 27, 28, 30, 31, 32, 33, 34, 35, 36, 37, 38, 39, 40, 41, 42, 43, 44, 45, 46, 47, 48, 49, 29] (by decide) rfl
    have CL := cl_device L0 (xs (nI (4 * j) + 1).toNatClampNeg) (1 : Int32) (xs (nI (4 * j) + 3).toNatClampNeg) (Or.inr rfl)
    rw [← hr1, ← hs1, ← ht1] at CL
    obtain ⟨ck, L1⟩ := CL
    refine lv_aload_n hx hb dL_law_389 rfl (lv_at hl 4 rfl) ?_
    refine gc_vi (Wd := oh_V b k) (As := []) (rest := []) (wr := oh_W a k σ1 ++ [(o, .inl (kL, 1, .inr (.inl v1)))]) hC hKc hP hD hS (mtX8_thrown l b k D τ1) (cwV 0 hts gL_law_X8_thrown rfl rfl rfl (by decide +kernel) ⟨Nat.le_of_ble_eq_true rfl, Nat.le_of_ble_eq_true rfl⟩) [29, 30, 31, 32, 33, 34, 35, 36, 37, 38, 39, 40, 41, 42, 43, 44, 45, 46, 47, 48] [0, 1, 2, 3, 4, 5, 6, 7, 8, 9, 10, 11, 12, 13, 14, 15, 16, 17, 18, 19, 20, 21, 22, 23, 24, 25, 26, 27, 28, 49] rfl (by decide) rfl (by decide) (by decide) 0 8 rfl rfl rfl hl.1 rfl (Nat.le_of_ble_eq_true rfl) dL_law_390 ⟨by show 50 + j + 1 ≤ 601024; omega, by show 13330 + 6 * j + 6 ≤ 7293034; omega⟩ (fun r3 τ3 H locs hp3 hP hD hS => ?_)
    have hP : va_P D vwCl (oh_LW a b k o kL v1 σ1 τ3) H := hP.sub [0, 1, 2, 3, 4, 5, 6, 7, 8, 9, 10, 11, 12, 13, 14, 15, 16, 17, 18, 19, 20, 21, 22, 23, 24, 25, 26, 27, 28, 30, 31, 32, 33, 34, 35, 36, 37, 38, 39, 40, 41, 42, 43, 44, 45, 46, 47, 48, 49, 29] rfl
    have hD : va_D (fun q => s.heap.size ≤ q) (oh_LW a b k o kL v1 σ1 τ3) := hD.sub [0, 1, 2, 3, 4, 5, 6, 7, 8, 9, 10, 11, 12, 13, 14, 15, 16, 17, 18, 19, 20, 21, 22, 23, 24, 25, 26, 27, 28, 30, 31, 32, 33, 34, 35, 36, 37, 38, 39, 40, 41, 42, 43, 44, 45, 46, 47, 48, 49, 29] (by decide) rfl
    obtain ⟨hr3, ht3⟩ := hp3
    rw [ht3] at hP hD
    refine lv_iload hx hb dL_law_393 (lv_at hl 0 rfl) ?_
    refine lv_icmp_eq (tgt := 400) hx hb dL_law_395 (by decide) (fun _ => ?_) (fun c9 => absurd (hr3.trans ck) c9)
    refine lv_goto (tgt := 589) hx hb dL_law_400 (by decide) ?_
    exact K v1 σ1 τ1 _ _ _ (L1.mono (by omega)) ⟨hP, hD, hS⟩ (lv_sub hl [1, 2, 3, 4, 5] rfl)
