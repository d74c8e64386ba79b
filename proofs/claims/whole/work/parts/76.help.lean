/-! ===== the law's helpers: a call that may throw, told by a number ===== -/
def oh_L (a : Nat → Nat) (k : Nat → ClassId) (o : Nat) (kL : ClassId) (v : Nat → Int64) (σ : oh_St) : va_W := oh_W a k σ ++ [(o, .inl (kL, 1, .inr (.inl v)))]
def oh_Nx (U : State) : Prop := va_Nc "java/lang/IllegalArgumentException" "java/lang/IndexOutOfBoundsException" U ∧ va_Nc "java/lang/IllegalStateException" "java/lang/IndexOutOfBoundsException" U
theorem oh_Nx.moved {u U : State} (hvm : u.vm.Alike U.vm) (h : oh_Nx u) : oh_Nx U := ⟨h.1.moved hvm, h.2.moved hvm⟩
def oh_PrH (D : va_G) (tys : List (ClassId × FieldType)) (w : va_W) (sz : Nat) (U : State) : Prop := oh_PrX D tys w sz U ∧ oh_Nx U
theorem oh_blindH {av : List Value} {D : va_G} {tys : List (ClassId × FieldType)} {w : va_W} {sz : Nat} : FrameBlind (va_Pc av (oh_PrH D tys w sz)) := fun a U g mk q => by
  obtain ⟨q0, q1, q2⟩ := q
  have h := oh_blindX (av := av) (D := D) (tys := tys) (w := w) (sz := sz) a U g mk ⟨q0, q1⟩
  exact ⟨h.1, h.2, oh_Nx.moved (u := U) (U := U.calling g mk a) (Vm.Alike.refl U.vm) q2⟩
abbrev oh_S2 : Type := oh_St × (Nat → Int64)
def oh_HB (D : va_G) (a : Nat → Nat) (k : Nat → ClassId) (o : Nat) (kL : ClassId) (A : Nat → Prop) (u : oh_S2) (t : State) : Prop := va_P D vwCl (oh_L a k o kL u.2 u.1) t.heap ∧ va_D A (oh_L a k o kL u.2 u.1)
def oh_Hi (l : Launch) (y : MethodName) (ws : List Cond) (rm : Room) (D : va_G) (a : Nat → Nat) (k : Nat → ClassId) (o : Nat) (kL : ClassId) (av : List Value) (σ : oh_St) (v : Nat → Int64) (post : Int32 → oh_S2 → Prop) : Prop :=
  ∀ sz : Nat, Met l y ws rm (va_Pc av (oh_PrH D (oh_tyL k kL) (oh_L a k o kL v σ) sz)) (va_Qi post (oh_HB D a k o kL (va_A (oh_L a k o kL v σ) sz)) (va_A (oh_L a k o kL v σ) sz)) 1 6 (va_A (oh_L a k o kL v σ) sz)
theorem oh_ofWW {l : Launch} {y : MethodName} {ws ws' : List Cond} {rm : Room} {Pc : Array Value → State → Prop} {Qc : Array Value → State → Outcome → State → Prop} {mc ms : Nat} {free : Addr → Prop} {cc : ByteArray} {maxL : Nat} {ret : Option FieldType} {hh : List (Nat × Nat × Nat × Nat)}
    (hy : plainName y.cls = true) (hw : ws = Cond.codeWith y cc maxL ret hh :: ws')
    (body : ∀ p e s m args below meth c s₁, BodyLoose p l y (headSpec ws rm) cc maxL ret e s m args below meth c s₁ → c.maxLocals = maxL → Pc args s →
      W p l e (headSpec ws rm).room s m args below meth c s.heap [] 0 0 (MQ below Qc args s mc ms free) (entryFrame m args maxL)) : Met l y ws rm Pc Qc mc ms free := by
  refine MetFree.of_bodyS (code := cc) (maxLocals := maxL) (ret := ret) hy ?_ ?_
  · intro args s m h hn
    obtain ⟨m9, meth, c, hn9, h1, h2, h3, h4, -, h5, h6, -⟩ := Cond.codeWith_spec (atoms_spec (ws := ws) h _ (by rw [hw]; exact List.mem_cons_self))
    cases hn.symm.trans hn9
    exact ⟨meth, c, h1, h2, h3, h4, h5, h6⟩
  · intro p e s m args below meth c s₁ B hml hP _
    have hh0 : s₁.heap = s.heap := by rw [B.state]; rfl
    obtain ⟨t, a1, o, b1, b2, b3⟩ := body p e s m args below meth c s₁ B hml hP s₁ hh0 (Stand.of_body B)
    exact ⟨t, o, a1, b1, b2, ⟨b3.1, b3.2⟩⟩
def oh_Eh (below : List Frame) (post : Int32 → oh_S2 → Prop) (D : va_G) (a : Nat → Nat) (k : Nat → ClassId) (o : Nat) (kL : ClassId) (A : Nat → Prop) (av : List Value) (s : State) : State → Prop := MQ below (va_Qi post (oh_HB D a k o kL A) A) av.toArray s 1 6 A
theorem oh_inh {l : Launch} {y : MethodName} {ws ws' : List Cond} {rm : Room} {D : va_G} {a : Nat → Nat} {k : Nat → ClassId} {o : Nat} {kL : ClassId} {av : List Value} {σ : oh_St} {v : Nat → Int64} {post : Int32 → oh_S2 → Prop} {cc : ByteArray} {nL : Nat} {hh : List (Nat × Nat × Nat × Nat)} (hy : plainName y.cls = true) (hw : ws = Cond.codeWith y cc nL (some .int) hh :: ws') (hn : (lg_sl av).length ≤ nL)
    (body : ∀ (p : Program) (e : Env) (s : State) (m : MethodId) (below : List Frame) (meth : Method) (c : Code) (A : Nat → Prop) (ls : Array Slot), oh_Cx p s m meth c cc nL (some .int) ws av.toArray y.cls D (oh_tyL k kL) A → c.exceptionTable.toList = tableOf hh → oh_Tx A s s.heap → oh_Sx s → oh_Nx s → va_P D vwCl (oh_L a k o kL v σ) s.heap → va_D A (oh_L a k o kL v σ) → va_S A s.heap s.heap [] → lv_has ls nL (lv_args 0 av) → W p l e rm s m av.toArray below meth c s.heap [] 0 0 (oh_Eh below post D a k o kL A av s) (F0 m 0 ls [])) : oh_Hi l y ws rm D a k o kL av σ v post := by
  intro sz
  refine oh_ofWW (cc := cc) (maxL := nL) (ret := some .int) (hh := hh) hy hw ?_
  intro p e s m args below meth c s₁ B hml hv
  obtain ⟨rfl, ⟨⟨hsz, hP, hK, hN, hD0⟩, hT, hX⟩, hNx⟩ := hv
  have hts := atoms_spec (ws := ws) B.pre
  have hown : s.vm.findClass y.cls = some m.cls := findClass_of_methodNamed B.named
  have htab := vx_table (x := y) B (hts _ (by rw [hw]; exact List.mem_cons_self))
  subst hsz
  have hl := lv_entry av (n := nL) hn
  rw [lg_entry_eq]
  exact body p e s m below meth c _ _ ⟨B.exec, B.bytes, hml, hown, hts, B.returns, B.notSynchronized, hK, hN, fun q h => Or.inr h⟩ htab hT hX hNx hP hD0.self va_S.rf hl
section
variable {p : Program} {l : Launch} {e : Env} {R : Room} {s : State} {m : MethodId} {below : List Frame} {meth : Method} {c : Code} {H : Heap} {locs : List Loc} {D : va_G} {tys : List (ClassId × FieldType)} {a : Nat → Nat} {k : Nat → ClassId} {o : Nat} {kL : ClassId} {av : List Value} {u : oh_S2} {cc : ByteArray} {nL pc : Nat} {ls : Array Slot} {ws : List Cond} {own : String} {A : Nat → Prop}
theorem oh_reth {post : Int32 → oh_S2 → Prop} {v : Int32} (hC : oh_Cx p s m meth c cc nL (some .int) ws av.toArray own D tys A) (hP : va_P D vwCl (oh_L a k o kL u.2 u.1) H) (hD : va_D A (oh_L a k o kL u.2 u.1)) (hS : va_S A s.heap H locs) (hp : post v u) (hdg : decode cc pc = .ok (.ireturn, 1)) : W p l e R s m av.toArray below meth c H locs 1 6 (oh_Eh below post D a k o kL A av s) (F0 m pc ls [.int v]) := by
  obtain ⟨hx, hb, hml, hown, hts, hr, hlocks, hK, hN, hA⟩ := hC
  exact W.iret (v := v) hx hb hr (fun t ht hW => ⟨⟨v, u, rfl, hp, by rw [ht]; exact hP, hD⟩, hS.F ht⟩) hS.2.2 hdg
end
theorem vp_updL_0 (v : Nat → Int64) (x : Int64) : vp_updL v 0 x 0 = x := by simp [vp_updL]
set_option maxHeartbeats 1000000 in
set_option maxRecDepth 100000 in
theorem mtL_run (l : Launch) (a : Nat → Nat) (k : Nat → ClassId) (o : Nat) (kL : ClassId) (D : va_G) (σ : oh_St) (v : Nat → Int64) (hst : l.stackTraces = false) (p1 : Int32) (F : oh_St → oh_St) (hF : ∀ z : oh_St, z 0 9 = 0 ∨ z 0 9 = 1 → oh_Mv l yX7_doTurn wsX7_doTurn { frames := 5, cells := 0, slots := 0, locals := 118 } D (oh_ty k) (oh_W a k) [.ref (a 0)] z (fun u => u = F z)) (hJ : ¬ p1 < 0 → p1 ≤ 2000 → ∀ j : Nat, j ≤ p1.toNatClampNeg → oh_it F j σ 0 9 = 0 ∨ oh_it F j σ 0 9 = 1) : oh_Hi l yL_run wsH_run { frames := 7, cells := 1, slots := 6, locals := 170 } D a k o kL [.ref (a 0), .int p1, .ref o] σ v (fun r u => r = (spX7_run F σ p1).1 ∧ u.1 = (spX7_run F σ p1).2.2 ∧ (r = 0 → u.2 0 = (spX7_run F σ p1).2.1.toInt64)) := by
  refine oh_inh (cc := cL_run) (nL := 4) (hh := [(0, 9, 12, 13)]) (by decide) rfl (Nat.le_of_ble_eq_true rfl) ?_
  intro p e s m below meth c A ls hC htab hT hX hNx hP hD hS hl
  obtain ⟨hx, hb, hml, hown, hts, hr, hlocks, hK, hN, hA⟩ := id hC
  have hl : lv_has ls 4 [(0, .ref (a 0)), (1, .int p1), (2, .ref o)] := hl
  refine lv_aload_n hx hb dL_run_0 rfl (lv_at hl 2 rfl) ?_
  refine lv_iconst (v := (0 : Int32)) hx hb dL_run_1 (by decide) ?_
  refine lv_aload_n hx hb dL_run_2 rfl (lv_at hl 0 rfl) ?_
  refine lv_iload_n hx hb dL_run_3 rfl (lv_at hl 1 rfl) ?_
  refine gc_xi (Wd := oh_W a k) (As := [.int p1]) (rest := [.int (0 : Int32), .ref o]) (wr := [(o, .inl (kL, 1, .inr (.inl v)))]) hC (hK.sub (tys' := oh_ty k) [0, 1, 2, 3, 4] rfl) hT hX hP hD hS (mtX7_runF l a k D F hF σ hst p1 hJ) (cwV 1 hts gH_run_X7_run rfl rfl rfl (by decide +kernel) ⟨Nat.le_of_ble_eq_true rfl, Nat.le_of_ble_eq_true rfl⟩) [0, 1, 2, 3, 4, 5, 6, 7, 8, 9, 10, 11, 12, 13, 14, 15, 16, 17, 18, 19, 20, 21, 22, 23, 24, 25, 26, 27, 28] [29] rfl (by decide) rfl (by decide) (by decide) 0 7 rfl rfl rfl hl.1 rfl (Nat.le_of_ble_eq_true rfl) dL_run_4 ⟨Nat.le_of_ble_eq_true rfl, Nat.le_of_ble_eq_true rfl⟩ (fun E ce q9 H locs hpx hP hD hS hce hcv hcl => ?_) (fun r u H locs hp hP hD hS => ?_)
  · obtain rfl := hpx.1
    refine vx_catch (own := RL) (name := "java/lang/IllegalArgumentException") (E := "java/lang/IllegalArgumentException") hown [] ⟨0, 9, 12, 13⟩ [] (by rw [htab]; rfl) (fun z hz => absurd hz List.not_mem_nil) (by decide) (by decide) (hts (.classLink RL 13 "java/lang/IllegalArgumentException") (by decide +kernel)) (va_Nw.use rfl hX.2.1) hce hcv hcl ?_
    refine lv_astore_n (lv' := [(3, .ref q9), (0, .ref (a 0)), (1, .int p1), (2, .ref o)]) hx hb dL_run_12 rfl hl (by decide) rfl (fun ls hl => ?_)
    refine lv_iconst (v := (1 : Int32)) hx hb dL_run_13 (by decide) ?_
    exact oh_reth (u := (σ, v)) hC (hP.sub [1, 2, 3, 4, 5, 6, 7, 8, 9, 10, 11, 12, 13, 14, 15, 16, 17, 18, 19, 20, 21, 22, 23, 24, 25, 26, 27, 28, 29, 0] rfl) (hD.sub [1, 2, 3, 4, 5, 6, 7, 8, 9, 10, 11, 12, 13, 14, 15, 16, 17, 18, 19, 20, 21, 22, 23, 24, 25, 26, 27, 28, 29, 0] (by decide) rfl) hS ⟨by rw [← hpx.2], by rw [← hpx.2], fun e9 => absurd e9 (by decide)⟩ dL_run_14
  · skip
    refine lv_i2l (v := r.toInt64) hx hb dL_run_7 rfl ?_
    refine va_last (D := D) hx hb hK hP hD hS 0 5 rfl rfl (vp_in_iff.mpr (by decide)) dL_run_8 (fun H locs hP hD hS => ?_)
    refine lv_goto (tgt := 15) hx hb dL_run_9 (by decide) ?_
    refine lv_iconst (v := (0 : Int32)) hx hb dL_run_15 (by decide) ?_
    exact oh_reth (u := (u, vp_updL v 0 r.toInt64)) hC (hP.sub [1, 2, 3, 4, 5, 6, 7, 8, 9, 10, 11, 12, 13, 14, 15, 16, 17, 18, 19, 20, 21, 22, 23, 24, 25, 26, 27, 28, 29, 0] rfl) (hD.sub [1, 2, 3, 4, 5, 6, 7, 8, 9, 10, 11, 12, 13, 14, 15, 16, 17, 18, 19, 20, 21, 22, 23, 24, 25, 26, 27, 28, 29, 0] (by decide) rfl) hS ⟨by rw [← hp], by rw [← hp], fun _ => by rw [← hp]; exact vp_updL_0 v _⟩ dL_run_16
set_option maxHeartbeats 1000000 in
set_option maxRecDepth 100000 in
theorem mtL_word (l : Launch) (a : Nat → Nat) (k : Nat → ClassId) (o : Nat) (kL : ClassId) (D : va_G) (σ : oh_St) (v : Nat → Int64) (hst : l.stackTraces = false) (p1 : Int32) : oh_Hi l yL_word wsL_word { frames := 7, cells := 1, slots := 6, locals := 170 } D a k o kL [.ref (a 0), .int p1, .ref o] σ v (fun r u => r = (spX7_word σ p1).1 ∧ u.1 = (spX7_word σ p1).2.2 ∧ (r = 0 → u.2 0 = (spX7_word σ p1).2.1.toInt64)) := by
  refine oh_inh (cc := cL_word) (nL := 4) (hh := [(0, 9, 12, 18)]) (by decide) rfl (Nat.le_of_ble_eq_true rfl) ?_
  intro p e s m below meth c A ls hC htab hT hX hNx hP hD hS hl
  obtain ⟨hx, hb, hml, hown, hts, hr, hlocks, hK, hN, hA⟩ := id hC
  have hl : lv_has ls 4 [(0, .ref (a 0)), (1, .int p1), (2, .ref o)] := hl
  refine lv_aload_n hx hb dL_word_0 rfl (lv_at hl 2 rfl) ?_
  refine lv_iconst (v := (0 : Int32)) hx hb dL_word_1 (by decide) ?_
  refine lv_aload_n hx hb dL_word_2 rfl (lv_at hl 0 rfl) ?_
  refine lv_iload_n hx hb dL_word_3 rfl (lv_at hl 1 rfl) ?_
  refine gc_xi (Wd := oh_W a k) (As := [.int p1]) (rest := [.int (0 : Int32), .ref o]) (wr := [(o, .inl (kL, 1, .inr (.inl v)))]) hC (hK.sub (tys' := oh_ty k) [0, 1, 2, 3, 4] rfl) hT hX hP hD hS (mtX7_word l a k D σ hst p1) (cwV 1 hts gL_word_X7_word rfl rfl rfl (by decide +kernel) ⟨Nat.le_of_ble_eq_true rfl, Nat.le_of_ble_eq_true rfl⟩) [0, 1, 2, 3, 4, 5, 6, 7, 8, 9, 10, 11, 12, 13, 14, 15, 16, 17, 18, 19, 20, 21, 22, 23, 24, 25, 26, 27, 28] [29] rfl (by decide) rfl (by decide) (by decide) 0 7 rfl rfl rfl hl.1 rfl (Nat.le_of_ble_eq_true rfl) dL_word_4 ⟨Nat.le_of_ble_eq_true rfl, Nat.le_of_ble_eq_true rfl⟩ (fun E ce q9 H locs hpx hP hD hS hce hcv hcl => ?_) (fun r u H locs hp hP hD hS => ?_)
  · obtain rfl := hpx.1
    refine vx_catch (own := RL) (name := "java/lang/IndexOutOfBoundsException") (E := "java/lang/IndexOutOfBoundsException") hown [] ⟨0, 9, 12, 18⟩ [] (by rw [htab]; rfl) (fun z hz => absurd hz List.not_mem_nil) (by decide) (by decide) (hts (.classLink RL 18 "java/lang/IndexOutOfBoundsException") (by decide +kernel)) (va_Nw.use rfl hX.2.2.1) hce hcv hcl ?_
    refine lv_astore_n (lv' := [(3, .ref q9), (0, .ref (a 0)), (1, .int p1), (2, .ref o)]) hx hb dL_word_12 rfl hl (by decide) rfl (fun ls hl => ?_)
    refine lv_iconst (v := (1 : Int32)) hx hb dL_word_13 (by decide) ?_
    exact oh_reth (u := (σ, v)) hC (hP.sub [1, 2, 3, 4, 5, 6, 7, 8, 9, 10, 11, 12, 13, 14, 15, 16, 17, 18, 19, 20, 21, 22, 23, 24, 25, 26, 27, 28, 29, 0] rfl) (hD.sub [1, 2, 3, 4, 5, 6, 7, 8, 9, 10, 11, 12, 13, 14, 15, 16, 17, 18, 19, 20, 21, 22, 23, 24, 25, 26, 27, 28, 29, 0] (by decide) rfl) hS ⟨by rw [← hpx.2], by rw [← hpx.2], fun e9 => absurd e9 (by decide)⟩ dL_word_14
  · skip
    refine lv_i2l (v := r.toInt64) hx hb dL_word_7 rfl ?_
    refine va_last (D := D) hx hb hK hP hD hS 0 5 rfl rfl (vp_in_iff.mpr (by decide)) dL_word_8 (fun H locs hP hD hS => ?_)
    refine lv_goto (tgt := 15) hx hb dL_word_9 (by decide) ?_
    refine lv_iconst (v := (0 : Int32)) hx hb dL_word_15 (by decide) ?_
    exact oh_reth (u := (u, vp_updL v 0 r.toInt64)) hC (hP.sub [1, 2, 3, 4, 5, 6, 7, 8, 9, 10, 11, 12, 13, 14, 15, 16, 17, 18, 19, 20, 21, 22, 23, 24, 25, 26, 27, 28, 29, 0] rfl) (hD.sub [1, 2, 3, 4, 5, 6, 7, 8, 9, 10, 11, 12, 13, 14, 15, 16, 17, 18, 19, 20, 21, 22, 23, 24, 25, 26, 27, 28, 29, 0] (by decide) rfl) hS ⟨by rw [← hp], by rw [← hp], fun _ => by rw [← hp]; exact vp_updL_0 v _⟩ dL_word_16
set_option maxHeartbeats 1000000 in
set_option maxRecDepth 100000 in
theorem mtL_set (l : Launch) (a : Nat → Nat) (k : Nat → ClassId) (o : Nat) (kL : ClassId) (D : va_G) (σ : oh_St) (v : Nat → Int64) (hst : l.stackTraces = false) (p1 : Int32) (p2 : Int32) : oh_Hi l yL_set wsL_set { frames := 7, cells := 1, slots := 6, locals := 170 } D a k o kL [.ref (a 0), .int p1, .int p2] σ v (fun r u => r = (spX7_set σ p1 p2).1 ∧ u.1 = (spX7_set σ p1 p2).2) := by
  refine oh_inh (cc := cL_set) (nL := 4) (hh := [(0, 6, 9, 18)]) (by decide) rfl (Nat.le_of_ble_eq_true rfl) ?_
  intro p e s m below meth c A ls hC htab hT hX hNx hP hD hS hl
  obtain ⟨hx, hb, hml, hown, hts, hr, hlocks, hK, hN, hA⟩ := id hC
  have hl : lv_has ls 4 [(0, .ref (a 0)), (1, .int p1), (2, .int p2)] := hl
  refine lv_aload_n hx hb dL_set_0 rfl (lv_at hl 0 rfl) ?_
  refine lv_iload_n hx hb dL_set_1 rfl (lv_at hl 1 rfl) ?_
  refine lv_iload_n hx hb dL_set_2 rfl (lv_at hl 2 rfl) ?_
  refine gc_xv (Wd := oh_W a k) (As := [.int p1, .int p2]) (rest := []) (wr := [(o, .inl (kL, 1, .inr (.inl v)))]) hC (hK.sub (tys' := oh_ty k) [0, 1, 2, 3, 4] rfl) hT hX hP hD hS (mtX7_set l a k D σ hst p1 p2) (cwV 2 hts gL_set_X7_set rfl rfl rfl (by decide +kernel) ⟨Nat.le_of_ble_eq_true rfl, Nat.le_of_ble_eq_true rfl⟩) [0, 1, 2, 3, 4, 5, 6, 7, 8, 9, 10, 11, 12, 13, 14, 15, 16, 17, 18, 19, 20, 21, 22, 23, 24, 25, 26, 27, 28] [29] rfl (by decide) rfl (by decide) (by decide) 0 7 rfl rfl rfl hl.1 rfl (Nat.le_of_ble_eq_true rfl) dL_set_3 ⟨Nat.le_of_ble_eq_true rfl, Nat.le_of_ble_eq_true rfl⟩ (fun E ce q9 H locs hpx hP hD hS hce hcv hcl => ?_) (fun u H locs hp hP hD hS => ?_)
  · obtain rfl := hpx.1
    refine vx_catch (own := RL) (name := "java/lang/IndexOutOfBoundsException") (E := "java/lang/IndexOutOfBoundsException") hown [] ⟨0, 6, 9, 18⟩ [] (by rw [htab]; rfl) (fun z hz => absurd hz List.not_mem_nil) (by decide) (by decide) (hts (.classLink RL 18 "java/lang/IndexOutOfBoundsException") (by decide +kernel)) (va_Nw.use rfl hX.2.2.1) hce hcv hcl ?_
    refine lv_astore_n (lv' := [(3, .ref q9), (0, .ref (a 0)), (1, .int p1), (2, .int p2)]) hx hb dL_set_9 rfl hl (by decide) rfl (fun ls hl => ?_)
    refine lv_iconst (v := (1 : Int32)) hx hb dL_set_10 (by decide) ?_
    exact oh_reth (u := (σ, v)) hC (hP.sub [1, 2, 3, 4, 5, 6, 7, 8, 9, 10, 11, 12, 13, 14, 15, 16, 17, 18, 19, 20, 21, 22, 23, 24, 25, 26, 27, 28, 29, 0] rfl) (hD.sub [1, 2, 3, 4, 5, 6, 7, 8, 9, 10, 11, 12, 13, 14, 15, 16, 17, 18, 19, 20, 21, 22, 23, 24, 25, 26, 27, 28, 29, 0] (by decide) rfl) hS ⟨by rw [← hpx.2], by rw [← hpx.2]⟩ dL_set_11
  · skip
    refine lv_goto (tgt := 12) hx hb dL_set_6 (by decide) ?_
    refine lv_iconst (v := (0 : Int32)) hx hb dL_set_12 (by decide) ?_
    exact oh_reth (u := (u, v)) hC (hP.sub [1, 2, 3, 4, 5, 6, 7, 8, 9, 10, 11, 12, 13, 14, 15, 16, 17, 18, 19, 20, 21, 22, 23, 24, 25, 26, 27, 28, 29, 0] rfl) (hD.sub [1, 2, 3, 4, 5, 6, 7, 8, 9, 10, 11, 12, 13, 14, 15, 16, 17, 18, 19, 20, 21, 22, 23, 24, 25, 26, 27, 28, 29, 0] (by decide) rfl) hS ⟨by rw [← hp], by rw [← hp]⟩ dL_set_13
set_option maxHeartbeats 1000000 in
set_option maxRecDepth 100000 in
theorem mtL_device (l : Launch) (a : Nat → Nat) (k : Nat → ClassId) (o : Nat) (kL : ClassId) (D : va_G) (σ : oh_St) (v : Nat → Int64) (hst : l.stackTraces = false) (p1 : Int32) (p2 : Int32) (p3 : Int32) (hb2 : p2 = 0 ∨ p2 = 1) : oh_Hi l yL_device wsL_device { frames := 7, cells := 1, slots := 6, locals := 170 } D a k o kL [.ref (a 0), .int p1, .int p2, .int p3] σ v (fun r u => r = (spX7_device σ p1 p2 p3).1 ∧ u.1 = (spX7_device σ p1 p2 p3).2) := by
  refine oh_inh (cc := cL_device) (nL := 5) (hh := [(0, 7, 10, 18), (0, 7, 14, 13)]) (by decide) rfl (Nat.le_of_ble_eq_true rfl) ?_
  intro p e s m below meth c A ls hC htab hT hX hNx hP hD hS hl
  obtain ⟨hx, hb, hml, hown, hts, hr, hlocks, hK, hN, hA⟩ := id hC
  have hl : lv_has ls 5 [(0, .ref (a 0)), (1, .int p1), (2, .int p2), (3, .int p3)] := hl
  refine lv_aload_n hx hb dL_device_0 rfl (lv_at hl 0 rfl) ?_
  refine lv_iload_n hx hb dL_device_1 rfl (lv_at hl 1 rfl) ?_
  refine lv_iload_n hx hb dL_device_2 rfl (lv_at hl 2 rfl) ?_
  refine lv_iload_n hx hb dL_device_3 rfl (lv_at hl 3 rfl) ?_
  refine gc_xv (Wd := oh_W a k) (As := [.int p1, .int p2, .int p3]) (rest := []) (wr := [(o, .inl (kL, 1, .inr (.inl v)))]) hC (hK.sub (tys' := oh_ty k) [0, 1, 2, 3, 4] rfl) hT hX hP hD hS (mtX7_device l a k D σ hst p1 p2 p3 hb2) (cwV 3 hts gL_device_X7_device rfl rfl rfl (by decide +kernel) ⟨Nat.le_of_ble_eq_true rfl, Nat.le_of_ble_eq_true rfl⟩) [0, 1, 2, 3, 4, 5, 6, 7, 8, 9, 10, 11, 12, 13, 14, 15, 16, 17, 18, 19, 20, 21, 22, 23, 24, 25, 26, 27, 28] [29] rfl (by decide) rfl (by decide) (by decide) 0 7 rfl rfl rfl hl.1 rfl (Nat.le_of_ble_eq_true rfl) dL_device_4 ⟨Nat.le_of_ble_eq_true rfl, Nat.le_of_ble_eq_true rfl⟩ (fun E ce q9 H locs hpx hP hD hS hce hcv hcl => ?_) (fun u H locs hp hP hD hS => ?_)
  · rcases hpx with hpx | hpx
    · obtain rfl := hpx.1
      refine vx_catch (own := RL) (name := "java/lang/IndexOutOfBoundsException") (E := "java/lang/IndexOutOfBoundsException") hown [] ⟨0, 7, 10, 18⟩ [⟨0, 7, 14, 13⟩] (by rw [htab]; rfl) (fun z hz => absurd hz List.not_mem_nil) (by decide) (by decide) (hts (.classLink RL 18 "java/lang/IndexOutOfBoundsException") (by decide +kernel)) (va_Nw.use rfl hX.2.2.1) hce hcv hcl ?_
      refine lv_astore (lv' := [(4, .ref q9), (0, .ref (a 0)), (1, .int p1), (2, .int p2), (3, .int p3)]) hx hb dL_device_10 hl (by decide) rfl (fun ls hl => ?_)
      refine lv_iconst (v := (1 : Int32)) hx hb dL_device_12 (by decide) ?_
      exact oh_reth (u := (σ, v)) hC (hP.sub [1, 2, 3, 4, 5, 6, 7, 8, 9, 10, 11, 12, 13, 14, 15, 16, 17, 18, 19, 20, 21, 22, 23, 24, 25, 26, 27, 28, 29, 0] rfl) (hD.sub [1, 2, 3, 4, 5, 6, 7, 8, 9, 10, 11, 12, 13, 14, 15, 16, 17, 18, 19, 20, 21, 22, 23, 24, 25, 26, 27, 28, 29, 0] (by decide) rfl) hS ⟨by rw [← hpx.2], by rw [← hpx.2]⟩ dL_device_13
    · obtain rfl := hpx.1
      refine vx_catch (own := RL) (name := "java/lang/IllegalArgumentException") (E := "java/lang/IllegalArgumentException") hown [⟨0, 7, 10, 18⟩] ⟨0, 7, 14, 13⟩ [] (by rw [htab]; rfl) (fun z hz => by obtain rfl := List.mem_singleton.mp hz; exact Or.inr ⟨by decide, "java/lang/IndexOutOfBoundsException", hts (.classLink RL 18 "java/lang/IndexOutOfBoundsException") (by decide +kernel), hNx.1⟩) (by decide) (by decide) (hts (.classLink RL 13 "java/lang/IllegalArgumentException") (by decide +kernel)) (va_Nw.use rfl hX.2.1) hce hcv hcl ?_
      refine lv_astore (lv' := [(4, .ref q9), (0, .ref (a 0)), (1, .int p1), (2, .int p2), (3, .int p3)]) hx hb dL_device_14 hl (by decide) rfl (fun ls hl => ?_)
      refine lv_iconst (v := (2 : Int32)) hx hb dL_device_16 (by decide) ?_
      exact oh_reth (u := (σ, v)) hC (hP.sub [1, 2, 3, 4, 5, 6, 7, 8, 9, 10, 11, 12, 13, 14, 15, 16, 17, 18, 19, 20, 21, 22, 23, 24, 25, 26, 27, 28, 29, 0] rfl) (hD.sub [1, 2, 3, 4, 5, 6, 7, 8, 9, 10, 11, 12, 13, 14, 15, 16, 17, 18, 19, 20, 21, 22, 23, 24, 25, 26, 27, 28, 29, 0] (by decide) rfl) hS ⟨by rw [← hpx.2], by rw [← hpx.2]⟩ dL_device_17
  · skip
    refine lv_goto (tgt := 18) hx hb dL_device_7 (by decide) ?_
    refine lv_iconst (v := (0 : Int32)) hx hb dL_device_18 (by decide) ?_
    exact oh_reth (u := (u, v)) hC (hP.sub [1, 2, 3, 4, 5, 6, 7, 8, 9, 10, 11, 12, 13, 14, 15, 16, 17, 18, 19, 20, 21, 22, 23, 24, 25, 26, 27, 28, 29, 0] rfl) (hD.sub [1, 2, 3, 4, 5, 6, 7, 8, 9, 10, 11, 12, 13, 14, 15, 16, 17, 18, 19, 20, 21, 22, 23, 24, 25, 26, 27, 28, 29, 0] (by decide) rfl) hS ⟨by rw [← hp], by rw [← hp]⟩ dL_device_19
set_option maxHeartbeats 1000000 in
set_option maxRecDepth 100000 in
theorem mtL_give (l : Launch) (a : Nat → Nat) (k : Nat → ClassId) (o : Nat) (kL : ClassId) (D : va_G) (σ : oh_St) (v : Nat → Int64) (hst : l.stackTraces = false) (p1 : Int32) (p2 : Int32) : oh_Hi l yL_give wsL_give { frames := 7, cells := 1, slots := 6, locals := 170 } D a k o kL [.ref (a 0), .int p1, .int p2, .ref o] σ v (fun r u => r = (spX7_give σ p1 p2).1 ∧ u.1 = (spX7_give σ p1 p2).2.2 ∧ (r = 0 → u.2 0 = (spX7_give σ p1 p2).2.1.toInt64)) := by
  refine oh_inh (cc := cL_give) (nL := 5) (hh := [(0, 10, 13, 18), (0, 10, 17, 32)]) (by decide) rfl (Nat.le_of_ble_eq_true rfl) ?_
  intro p e s m below meth c A ls hC htab hT hX hNx hP hD hS hl
  obtain ⟨hx, hb, hml, hown, hts, hr, hlocks, hK, hN, hA⟩ := id hC
  have hl : lv_has ls 5 [(0, .ref (a 0)), (1, .int p1), (2, .int p2), (3, .ref o)] := hl
  refine lv_aload_n hx hb dL_give_0 rfl (lv_at hl 3 rfl) ?_
  refine lv_iconst (v := (0 : Int32)) hx hb dL_give_1 (by decide) ?_
  refine lv_aload_n hx hb dL_give_2 rfl (lv_at hl 0 rfl) ?_
  refine lv_iload_n hx hb dL_give_3 rfl (lv_at hl 1 rfl) ?_
  refine lv_iload_n hx hb dL_give_4 rfl (lv_at hl 2 rfl) ?_
  refine gc_xi (Wd := oh_W a k) (As := [.int p1, .int p2]) (rest := [.int (0 : Int32), .ref o]) (wr := [(o, .inl (kL, 1, .inr (.inl v)))]) hC (hK.sub (tys' := oh_ty k) [0, 1, 2, 3, 4] rfl) hT hX hP hD hS (mtX7_give l a k D σ hst p1 p2) (cwV 2 hts gL_give_X7_give rfl rfl rfl (by decide +kernel) ⟨Nat.le_of_ble_eq_true rfl, Nat.le_of_ble_eq_true rfl⟩) [0, 1, 2, 3, 4, 5, 6, 7, 8, 9, 10, 11, 12, 13, 14, 15, 16, 17, 18, 19, 20, 21, 22, 23, 24, 25, 26, 27, 28] [29] rfl (by decide) rfl (by decide) (by decide) 0 7 rfl rfl rfl hl.1 rfl (Nat.le_of_ble_eq_true rfl) dL_give_5 ⟨Nat.le_of_ble_eq_true rfl, Nat.le_of_ble_eq_true rfl⟩ (fun E ce q9 H locs hpx hP hD hS hce hcv hcl => ?_) (fun r u H locs hp hP hD hS => ?_)
  · rcases hpx with hpx | hpx
    · obtain rfl := hpx.1
      refine vx_catch (own := RL) (name := "java/lang/IndexOutOfBoundsException") (E := "java/lang/IndexOutOfBoundsException") hown [] ⟨0, 10, 13, 18⟩ [⟨0, 10, 17, 32⟩] (by rw [htab]; rfl) (fun z hz => absurd hz List.not_mem_nil) (by decide) (by decide) (hts (.classLink RL 18 "java/lang/IndexOutOfBoundsException") (by decide +kernel)) (va_Nw.use rfl hX.2.2.1) hce hcv hcl ?_
      refine lv_astore (lv' := [(4, .ref q9), (0, .ref (a 0)), (1, .int p1), (2, .int p2), (3, .ref o)]) hx hb dL_give_13 hl (by decide) rfl (fun ls hl => ?_)
      refine lv_iconst (v := (1 : Int32)) hx hb dL_give_15 (by decide) ?_
      exact oh_reth (u := (σ, v)) hC (hP.sub [1, 2, 3, 4, 5, 6, 7, 8, 9, 10, 11, 12, 13, 14, 15, 16, 17, 18, 19, 20, 21, 22, 23, 24, 25, 26, 27, 28, 29, 0] rfl) (hD.sub [1, 2, 3, 4, 5, 6, 7, 8, 9, 10, 11, 12, 13, 14, 15, 16, 17, 18, 19, 20, 21, 22, 23, 24, 25, 26, 27, 28, 29, 0] (by decide) rfl) hS ⟨by rw [← hpx.2], by rw [← hpx.2], fun e9 => absurd e9 (by decide)⟩ dL_give_16
    · obtain rfl := hpx.1
      refine vx_catch (own := RL) (name := "java/lang/IllegalStateException") (E := "java/lang/IllegalStateException") hown [⟨0, 10, 13, 18⟩] ⟨0, 10, 17, 32⟩ [] (by rw [htab]; rfl) (fun z hz => by obtain rfl := List.mem_singleton.mp hz; exact Or.inr ⟨by decide, "java/lang/IndexOutOfBoundsException", hts (.classLink RL 18 "java/lang/IndexOutOfBoundsException") (by decide +kernel), hNx.2⟩) (by decide) (by decide) (hts (.classLink RL 32 "java/lang/IllegalStateException") (by decide +kernel)) (va_Nw.use rfl hX.2.2.2.1) hce hcv hcl ?_
      refine lv_astore (lv' := [(4, .ref q9), (0, .ref (a 0)), (1, .int p1), (2, .int p2), (3, .ref o)]) hx hb dL_give_17 hl (by decide) rfl (fun ls hl => ?_)
      refine lv_iconst (v := (2 : Int32)) hx hb dL_give_19 (by decide) ?_
      exact oh_reth (u := (σ, v)) hC (hP.sub [1, 2, 3, 4, 5, 6, 7, 8, 9, 10, 11, 12, 13, 14, 15, 16, 17, 18, 19, 20, 21, 22, 23, 24, 25, 26, 27, 28, 29, 0] rfl) (hD.sub [1, 2, 3, 4, 5, 6, 7, 8, 9, 10, 11, 12, 13, 14, 15, 16, 17, 18, 19, 20, 21, 22, 23, 24, 25, 26, 27, 28, 29, 0] (by decide) rfl) hS ⟨by rw [← hpx.2], by rw [← hpx.2], fun e9 => absurd e9 (by decide)⟩ dL_give_20
  · skip
    refine lv_i2l (v := r.toInt64) hx hb dL_give_8 rfl ?_
    refine va_last (D := D) hx hb hK hP hD hS 0 5 rfl rfl (vp_in_iff.mpr (by decide)) dL_give_9 (fun H locs hP hD hS => ?_)
    refine lv_goto (tgt := 21) hx hb dL_give_10 (by decide) ?_
    refine lv_iconst (v := (0 : Int32)) hx hb dL_give_21 (by decide) ?_
    exact oh_reth (u := (u, vp_updL v 0 r.toInt64)) hC (hP.sub [1, 2, 3, 4, 5, 6, 7, 8, 9, 10, 11, 12, 13, 14, 15, 16, 17, 18, 19, 20, 21, 22, 23, 24, 25, 26, 27, 28, 29, 0] rfl) (hD.sub [1, 2, 3, 4, 5, 6, 7, 8, 9, 10, 11, 12, 13, 14, 15, 16, 17, 18, 19, 20, 21, 22, 23, 24, 25, 26, 27, 28, 29, 0] (by decide) rfl) hS ⟨by rw [← hp], by rw [← hp], fun _ => by rw [← hp]; exact vp_updL_0 v _⟩ dL_give_22
set_option maxHeartbeats 1000000 in
set_option maxRecDepth 100000 in
theorem mtL_out (l : Launch) (a : Nat → Nat) (k : Nat → ClassId) (o : Nat) (kL : ClassId) (D : va_G) (σ : oh_St) (v : Nat → Int64) (hst : l.stackTraces = false) (p1 : Int32) (p2 : Int32) : oh_Hi l yL_out wsL_out { frames := 7, cells := 1, slots := 6, locals := 170 } D a k o kL [.ref (a 0), .int p1, .int p2, .ref o] σ v (fun r u => r = (spX7_out σ p1 p2).1 ∧ u.1 = (spX7_out σ p1 p2).2.2 ∧ (r = 0 → u.2 0 = (spX7_out σ p1 p2).2.1.toInt64)) := by
  refine oh_inh (cc := cL_out) (nL := 5) (hh := [(0, 10, 13, 18)]) (by decide) rfl (Nat.le_of_ble_eq_true rfl) ?_
  intro p e s m below meth c A ls hC htab hT hX hNx hP hD hS hl
  obtain ⟨hx, hb, hml, hown, hts, hr, hlocks, hK, hN, hA⟩ := id hC
  have hl : lv_has ls 5 [(0, .ref (a 0)), (1, .int p1), (2, .int p2), (3, .ref o)] := hl
  refine lv_aload_n hx hb dL_out_0 rfl (lv_at hl 3 rfl) ?_
  refine lv_iconst (v := (0 : Int32)) hx hb dL_out_1 (by decide) ?_
  refine lv_aload_n hx hb dL_out_2 rfl (lv_at hl 0 rfl) ?_
  refine lv_iload_n hx hb dL_out_3 rfl (lv_at hl 1 rfl) ?_
  refine lv_iload_n hx hb dL_out_4 rfl (lv_at hl 2 rfl) ?_
  refine gc_xi (Wd := oh_W a k) (As := [.int p1, .int p2]) (rest := [.int (0 : Int32), .ref o]) (wr := [(o, .inl (kL, 1, .inr (.inl v)))]) hC (hK.sub (tys' := oh_ty k) [0, 1, 2, 3, 4] rfl) hT hX hP hD hS (mtX7_out l a k D σ hst p1 p2) (cwV 2 hts gL_out_X7_out rfl rfl rfl (by decide +kernel) ⟨Nat.le_of_ble_eq_true rfl, Nat.le_of_ble_eq_true rfl⟩) [0, 1, 2, 3, 4, 5, 6, 7, 8, 9, 10, 11, 12, 13, 14, 15, 16, 17, 18, 19, 20, 21, 22, 23, 24, 25, 26, 27, 28] [29] rfl (by decide) rfl (by decide) (by decide) 0 7 rfl rfl rfl hl.1 rfl (Nat.le_of_ble_eq_true rfl) dL_out_5 ⟨Nat.le_of_ble_eq_true rfl, Nat.le_of_ble_eq_true rfl⟩ (fun E ce q9 H locs hpx hP hD hS hce hcv hcl => ?_) (fun r u H locs hp hP hD hS => ?_)
  · obtain rfl := hpx.1
    refine vx_catch (own := RL) (name := "java/lang/IndexOutOfBoundsException") (E := "java/lang/IndexOutOfBoundsException") hown [] ⟨0, 10, 13, 18⟩ [] (by rw [htab]; rfl) (fun z hz => absurd hz List.not_mem_nil) (by decide) (by decide) (hts (.classLink RL 18 "java/lang/IndexOutOfBoundsException") (by decide +kernel)) (va_Nw.use rfl hX.2.2.1) hce hcv hcl ?_
    refine lv_astore (lv' := [(4, .ref q9), (0, .ref (a 0)), (1, .int p1), (2, .int p2), (3, .ref o)]) hx hb dL_out_13 hl (by decide) rfl (fun ls hl => ?_)
    refine lv_iconst (v := (1 : Int32)) hx hb dL_out_15 (by decide) ?_
    exact oh_reth (u := (σ, v)) hC (hP.sub [1, 2, 3, 4, 5, 6, 7, 8, 9, 10, 11, 12, 13, 14, 15, 16, 17, 18, 19, 20, 21, 22, 23, 24, 25, 26, 27, 28, 29, 0] rfl) (hD.sub [1, 2, 3, 4, 5, 6, 7, 8, 9, 10, 11, 12, 13, 14, 15, 16, 17, 18, 19, 20, 21, 22, 23, 24, 25, 26, 27, 28, 29, 0] (by decide) rfl) hS ⟨by rw [← hpx.2], by rw [← hpx.2], fun e9 => absurd e9 (by decide)⟩ dL_out_16
  · skip
    refine lv_i2l (v := r.toInt64) hx hb dL_out_8 rfl ?_
    refine va_last (D := D) hx hb hK hP hD hS 0 5 rfl rfl (vp_in_iff.mpr (by decide)) dL_out_9 (fun H locs hP hD hS => ?_)
    refine lv_goto (tgt := 17) hx hb dL_out_10 (by decide) ?_
    refine lv_iconst (v := (0 : Int32)) hx hb dL_out_17 (by decide) ?_
    exact oh_reth (u := (u, vp_updL v 0 r.toInt64)) hC (hP.sub [1, 2, 3, 4, 5, 6, 7, 8, 9, 10, 11, 12, 13, 14, 15, 16, 17, 18, 19, 20, 21, 22, 23, 24, 25, 26, 27, 28, 29, 0] rfl) (hD.sub [1, 2, 3, 4, 5, 6, 7, 8, 9, 10, 11, 12, 13, 14, 15, 16, 17, 18, 19, 20, 21, 22, 23, 24, 25, 26, 27, 28, 29, 0] (by decide) rfl) hS ⟨by rw [← hp], by rw [← hp], fun _ => by rw [← hp]; exact vp_updL_0 v _⟩ dL_out_18
