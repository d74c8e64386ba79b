/-! THE CLAIM OUT OF ONE WALK OF THE LAW'S BODY. Your part is whole_start (and what it stands on); all else here is the same for every law, but numbers. -/
def R_law : String := "OctalHouseLaw"
def lw_P (b : Addr) (xs : List Int32) (args : Array Value) (s : State) : Prop := args = #[.ref b] ∧ s.IntsAt b xs ∧ xs.length ≤ 2048 ∧ (Jvm.Cond.and given_1 narrow_1).before args s = true
def lw_Q (_ : Array Value) (s : State) (o : Outcome) (t : State) : Prop := o = .returned (some (.int 1)) ∧ Framed s o t [] 601024 7293034
def lw_Z (below : List Frame) (a : Array Value) (s : State) : State → Prop := fun t => ∃ o, t.status = .running ∧ Ended t below o ∧ lw_Q a s o t
/-- the law's own end, with 1 on the stack, nothing written that was there before, its room as the claim has it -/
theorem lw_ret {p : Program} {l : Launch} {e : Env} {s : State} {m : MethodId} {below : List Frame} {meth : Method} {c : Code} {b : Nat} (hx : p.tables.exec = Jvm.exec) (hb : c.code = code) (hr : meth.sig.returnType = ret) (hlocks : meth.locks = false) {pc : Nat} {H : Heap} {ls : Array Slot} (hdg : decode code pc = .ok (.ireturn, 1)) : W p l e room_1 s m #[Value.ref b] below meth c H [] 601024 7293034 (lw_Z below #[Value.ref b] s) (F0 m pc ls [.int 1]) := by
  intro T hT X
  obtain ⟨fs, hret, hrun, hended, hW, hframe⟩ := X.leave (v := some (.int 1)) (hlocks := hlocks) (fun h => by rw [hr] at h; cases h)
  have hmeth' : T.vm.method? m = some meth := X.method'
  refine ⟨T.setFrames fs, ?_, .returned (some (.int 1)), hrun, hended, rfl, ⟨_, rfl⟩, hW, hframe⟩
  jvm_step X.here [X.here.top, hx, hb, hdg, hmeth', hr, ret, narrow_b1]
  (try refine ⟨rfl, ?_⟩); (try refine ⟨rfl, ?_⟩)
  first | (intro acts; rw [hret _ acts rfl rfl rfl]) | rw [hret _ _ rfl rfl rfl]
  exact Steps.refl _
/-- what holds at the law's entry: the machine, the code, the tables' words (any of lw_tbl by 'hts w (by decide +kernel)'), the script of L ints xs at the cell b, what the Statement gives of the start (any of its parts by flat_of_before) -/
def lw_At (p : Program) (s : State) (m : MethodId) (meth : Method) (c : Code) (b L : Nat) (xs : Nat → Int32) : Prop :=
  p.tables.exec = Jvm.exec ∧ c.code = code ∧ meth.sig.returnType = ret ∧ c.maxLocals = 7 ∧ s.vm.findClass R_law = some m.cls ∧ (∀ w ∈ lw_tbl, w.before #[Value.ref b] s = true) ∧ va_X b L xs s s.heap ∧ b < s.heap.size ∧ meth.locks = false ∧ (Jvm.Cond.and given_1 narrow_1).before #[Value.ref b] s = true
theorem lw_gt {N j : Nat} (hN : N ≤ 2048) (hj : 4 * j ≤ N) (h : ¬ Int32.ofNat N - 4 < nI (4 * j)) : 4 * j + 4 ≤ N := by
  rw [Int32.lt_iff_toInt_lt] at h
  have e1 : (Int32.ofNat N - 4).toInt = (N : Int) - 4 := pk_sub_toInt (a := N) (b := 4) (by omega) (by omega)
  rw [e1, nI_toInt (by omega)] at h
  omega
theorem lw_in0 {N j : Nat} (h : 4 * j + 4 ≤ N) (hN : N ≤ 2048) : vp_in (nI (4 * j)) N := by
  rintro (h1 | h1)
  · exact nI_pos (by omega) h1
  · rw [nI_clamp (by omega)] at h1; omega
set_option maxHeartbeats 2000000 in
set_option maxRecDepth 100000 in
/-- the law's loop -/
theorem law_loop {p : Program} {l : Launch} {e : Env} {s : State} {m : MethodId} {below : List Frame} {meth : Method} {c : Code} {D : va_G} {a b : Nat → Nat} {k : Nat → ClassId} {o : Nat} {kL : ClassId} {b0 N : Nat} {xs : Nat → Int32} (C0 : lw_Cx p l s m meth c D k kL b0 N xs) : ∀ (f j : Nat) (v : Nat → Int64) (σ τ : oh_St) (H : Heap) (locs : List Loc) (ls : Array Slot), N < 4 * (j + f) → 4 * j ≤ N → rl_L (8000 * j) σ τ → lw_St D a b k o kL s v σ τ H locs → lv_has ls 7 (lw_lv a b o b0 j) → W p l e room_1 s m #[Value.ref b0] below meth c H locs (50 + j) (13330 + 6 * j) (lw_Z below #[Value.ref b0] s) (F0 m 23 ls []) := by
  intro f
  induction f with
  | zero => intro j v σ τ H locs ls h1 h2; exact absurd h1 (by omega)
  | succ f ih =>
    intro j v σ τ H locs ls h1 h2 L0 S0 hl
    obtain ⟨hC, hT, hX, hNx, hXs, hbl, hst, hN2⟩ := id C0
    obtain ⟨hx, hb, hml, hown, hts, hr, hlocks, hK, hN, hA⟩ := id hC
    obtain ⟨hP, hD, hS⟩ := id S0
    have hbA : ¬ (fun q : Nat => s.heap.size ≤ q) b0 := Nat.not_le.mpr hbl
    refine lv_iload hx hb dL_law_23 (lv_at hl 0 rfl) ?_
    refine lv_aload_n hx hb dL_law_25 rfl (lv_at hl 1 rfl) ?_
    refine va_slen hx hb hXs hbl hbA hS dL_law_26 ?_
    refine lv_iconst (v := (4 : Int32)) hx hb dL_law_27 (by decide) ?_
    refine lv_isub hx hb dL_law_28 ?_
    refine lv_icmp_gt (tgt := 595) hx hb dL_law_29 (by decide) (fun _ => ?_) (fun c1 => ?_)
    · refine lv_iconst (v := (1 : Int32)) hx hb dL_law_595 (by decide) ?_
      refine va_forget hS.2.2 ?_
      refine W.widen (k := 601024) (n := 7293034) (by omega) (by omega) ?_
      exact lw_ret hx hb hr hlocks dL_law_596
    · have hj := lw_gt hN2 h2 c1
      have K : lw_Kt p l e s m below meth c D a b k o kL b0 (lw_Z below #[Value.ref b0] s) j := by
        intro v σ τ H locs ls L1 S1 hl
        refine lv_iinc (v := nI (4 * (j + 1))) (lv' := lw_lv a b o b0 (j + 1)) hx hb dL_law_589 hl (k := 0) rfl (by show nI (4 * j) + nI 4 = nI (4 * (j + 1)); rw [nI_add]; rfl) (by decide) rfl (fun ls hl => ?_)
        refine lv_goto (tgt := 23) hx hb dL_law_592 (by decide) ?_
        have := ih (j + 1) v σ τ H locs ls (by omega) (by omega) L1 S1 hl
        rw [show 50 + (j + 1) = 50 + j + 1 by omega, show 13330 + 6 * (j + 1) = 13330 + 6 * j + 6 by omega] at this
        exact this
      refine lv_aload_n hx hb dL_law_32 rfl (lv_at hl 1 rfl) ?_
      refine lv_iload hx hb dL_law_33 (lv_at hl 0 rfl) ?_
      refine va_sld hx hb hXs hbl hbA hS (lw_in0 hj hN2) dL_law_35 ?_
      refine lv_bipush (v := (15 : Int32)) hx hb dL_law_36 (by decide) ?_
      refine lv_iand hx hb dL_law_38 ?_
      refine lv_topi (fun y hy => ?_)
      by_cases c10 : y = (0 : Int32)
      · refine lv_tableIn (tgt := 96) hx hb dL_law_39 (by rw [c10]; decide) (by rw [c10]; decide) (by rw [c10]; rfl) (by decide) ?_
        exact lw_case0 C0 hj L0 S0 hl K
      by_cases c11 : y = (1 : Int32)
      · refine lv_tableIn (tgt := 152) hx hb dL_law_39 (by rw [c11]; decide) (by rw [c11]; decide) (by rw [c11]; rfl) (by decide) ?_
        exact lw_case1 C0 hj L0 S0 hl K
      by_cases c12 : y = (2 : Int32)
      · refine lv_tableIn (tgt := 175) hx hb dL_law_39 (by rw [c12]; decide) (by rw [c12]; decide) (by rw [c12]; rfl) (by decide) ?_
        exact lw_case2 C0 hj L0 S0 hl K
      by_cases c13 : y = (3 : Int32)
      · refine lv_tableIn (tgt := 231) hx hb dL_law_39 (by rw [c13]; decide) (by rw [c13]; decide) (by rw [c13]; rfl) (by decide) ?_
        exact lw_case3 C0 hj L0 S0 hl K
      by_cases c14 : y = (4 : Int32)
      · refine lv_tableIn (tgt := 279) hx hb dL_law_39 (by rw [c14]; decide) (by rw [c14]; decide) (by rw [c14]; rfl) (by decide) ?_
        exact lw_case4 C0 hj L0 S0 hl K
      by_cases c15 : y = (5 : Int32)
      · refine lv_tableIn (tgt := 304) hx hb dL_law_39 (by rw [c15]; decide) (by rw [c15]; decide) (by rw [c15]; rfl) (by decide) ?_
        exact lw_case5 C0 hj L0 S0 hl K
      by_cases c16 : y = (6 : Int32)
      · refine lv_tableIn (tgt := 327) hx hb dL_law_39 (by rw [c16]; decide) (by rw [c16]; decide) (by rw [c16]; rfl) (by decide) ?_
        exact lw_case6 C0 hj L0 S0 hl K
      by_cases c17 : y = (7 : Int32)
      · refine lv_tableIn (tgt := 403) hx hb dL_law_39 (by rw [c17]; decide) (by rw [c17]; decide) (by rw [c17]; rfl) (by decide) ?_
        exact lw_case7 C0 hj L0 S0 hl K
      by_cases c18 : y = (8 : Int32)
      · refine lv_tableIn (tgt := 471) hx hb dL_law_39 (by rw [c18]; decide) (by rw [c18]; decide) (by rw [c18]; rfl) (by decide) ?_
        exact lw_case8 C0 hj L0 S0 hl K
      by_cases c19 : y = (9 : Int32)
      · refine lv_tableIn (tgt := 539) hx hb dL_law_39 (by rw [c19]; decide) (by rw [c19]; decide) (by rw [c19]; rfl) (by decide) ?_
        exact lw_case9 C0 hj L0 S0 hl K
      by_cases c20 : y = (10 : Int32)
      · refine lv_tableIn (tgt := 576) hx hb dL_law_39 (by rw [c20]; decide) (by rw [c20]; decide) (by rw [c20]; rfl) (by decide) ?_
        exact lw_case10 C0 hj L0 S0 hl K
      refine lv_tableOut (tgt := 589) hx hb dL_law_39 (by have h0 : y.toInt ≠ 0 := oh_ne c10; have h1 : y.toInt ≠ 1 := oh_ne c11; have h2 : y.toInt ≠ 2 := oh_ne c12; have h3 : y.toInt ≠ 3 := oh_ne c13; have h4 : y.toInt ≠ 4 := oh_ne c14; have h5 : y.toInt ≠ 5 := oh_ne c15; have h6 : y.toInt ≠ 6 := oh_ne c16; have h7 : y.toInt ≠ 7 := oh_ne c17; have h8 : y.toInt ≠ 8 := oh_ne c18; have h9 : y.toInt ≠ 9 := oh_ne c19; have h10 : y.toInt ≠ 10 := oh_ne c20; omega) (by decide) ?_
      refine W.widen (k := 50 + j + 1) (n := 13330 + 6 * j + 6) (by omega) (by omega) ?_
      exact K v σ τ H locs ls (L0.mono (by omega)) S0 hl
