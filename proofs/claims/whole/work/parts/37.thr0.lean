/-! ===== methods that may throw ===== -/
def oh_nms : List String := ["java/lang/RuntimeException", "java/lang/Exception"]
def oh_IAE : String := "java/lang/IllegalArgumentException"
def oh_IOB : String := "java/lang/IndexOutOfBoundsException"
def oh_ISE : String := "java/lang/IllegalStateException"
def oh_Tx (A : Nat → Prop) (U : State) (H : Heap) : Prop := vx_Zq Bundle.tN "UNASSIGNED_STACK" Bundle.steD A U H ∧ vx_Zq Bundle.tN "SUPPRESSED_SENTINEL" Bundle.listD A U H
/-- constants of the texts; an exception is of its own class -/
def oh_Sx (U : State) : Prop := ((∃ q, vk_R RX7 47 "the turns are not 0 to 2000" q U) ∧ (∃ q, vk_R RX7 67 "the address is not 0 to 4095" q U) ∧ (∃ q, vk_R RX7 111 "there is no such device" q U) ∧ (∃ q, vk_R RX7 113 "the delay is not 1 to 100" q U) ∧ (∃ q, vk_R RX7 126 "the tape is full" q U)) ∧ va_Nw (.castable "java/lang/IllegalArgumentException" "java/lang/IllegalArgumentException") U ∧ va_Nw (.castable "java/lang/IndexOutOfBoundsException" "java/lang/IndexOutOfBoundsException") U ∧ va_Nw (.castable "java/lang/IllegalStateException" "java/lang/IllegalStateException") U ∧ va_Nw (.declares (Bundle.initS "java/lang/RuntimeException")) U ∧ va_Nw (.declares (Bundle.initS "java/lang/Exception")) U ∧ va_Nw (.declares (Bundle.initS Bundle.tN)) U
theorem oh_Sx.warm {s U : State} (hW : s.WarmedH U.vm) (h : oh_Sx s) : oh_Sx U := by
  obtain ⟨⟨⟨a, ha⟩, ⟨b, hb⟩, ⟨c, hc⟩, ⟨d, hd⟩, ⟨f, hf⟩⟩, h1, h2, h3, h4, h5, h6⟩ := h
  exact ⟨⟨⟨a, vk_R.warm hW ha⟩, ⟨b, vk_R.warm hW hb⟩, ⟨c, vk_R.warm hW hc⟩, ⟨d, vk_R.warm hW hd⟩, ⟨f, vk_R.warm hW hf⟩⟩, va_Nw.warmC hW h1, va_Nw.warmC hW h2, va_Nw.warmC hW h3, va_Nw.warmD hW h4, va_Nw.warmD hW h5, va_Nw.warmD hW h6⟩
theorem oh_Sx.same {u U : State} (e : u.vm = U.vm) (h : oh_Sx u) : oh_Sx U := by
  obtain ⟨⟨⟨a, ha⟩, ⟨b, hb⟩, ⟨c, hc⟩, ⟨d, hd⟩, ⟨f, hf⟩⟩, h1, h2, h3, h4, h5, h6⟩ := h
  exact ⟨⟨⟨a, vk_R.same e.symm ha⟩, ⟨b, vk_R.same e.symm hb⟩, ⟨c, vk_R.same e.symm hc⟩, ⟨d, vk_R.same e.symm hd⟩, ⟨f, vk_R.same e.symm hf⟩⟩, va_Nw.same rfl e h1, va_Nw.same rfl e h2, va_Nw.same rfl e h3, va_Nw.same rfl e h4, va_Nw.same rfl e h5, va_Nw.same rfl e h6⟩
theorem oh_Tx.moved {A : Nat → Prop} {u U : State} {H : Heap} (hvm : u.vm.Alike U.vm) (h : oh_Tx A u H) : oh_Tx A U H := ⟨h.1.moved hvm, h.2.moved hvm⟩
theorem oh_Tx.kept {A : Nat → Prop} {U : State} {H H1 : Heap} (h : oh_Tx A U H) (hq : ∀ a : Nat, a < H.size → ¬ A a → H1[a]? = H[a]?) : oh_Tx A U H1 := ⟨h.1.kept hq, h.2.kept hq⟩
theorem oh_Tx.narrow {A B : Nat → Prop} {U : State} {H : Heap} (h : oh_Tx A U H) (hAB : ∀ q, B q → A q) : oh_Tx B U H := ⟨h.1.narrow hAB, h.2.narrow hAB⟩
def oh_PrX (D : va_G) (tys : List (ClassId × FieldType)) (w : va_W) (sz : Nat) (U : State) : Prop := oh_Pr D tys w sz U ∧ oh_Tx (va_A w sz) U U.heap ∧ oh_Sx U
theorem oh_blindX {av : List Value} {D : va_G} {tys : List (ClassId × FieldType)} {w : va_W} {sz : Nat} : FrameBlind (va_Pc av (oh_PrX D tys w sz)) := fun a U g mk q => by
  obtain ⟨q0, q1, q2, q3⟩ := q
  have h := oh_blind (av := av) (D := D) (tys := tys) (w := w) (sz := sz) a U g mk ⟨q0, q1⟩
  exact ⟨h.1, h.2, oh_Tx.moved (u := U) (U := U.calling g mk a) (Vm.Alike.refl U.vm) q2, q3.same rfl⟩
theorem oh_PrX.at {D : va_G} {tys : List (ClassId × FieldType)} {w : va_W} {A : Nat → Prop} {s : State} {H : Heap} (hP : va_P D vwCl w H) (hK : va_K D vwCl tys s) (hN : oh_N s) (hD : va_D A w) (hF : ∀ q, va_A w H.size q → A q) (hT : oh_Tx A s H) (hX : oh_Sx s) (U : State) (hU : U.heap = H) (hW : s.WarmedH U.vm) : oh_PrX D tys w H.size U :=
  ⟨oh_Pr.at hP hK hN hD U hU hW, by rw [hU]; exact (hT.narrow hF).moved hW.alike, hX.warm hW⟩
def oh_XC (px : String → Prop) (D : va_G) (Wd : oh_St → va_W) (σ : oh_St) (A : Nat → Prop) : String → State → State → Prop := vx_X (S := Unit) (fun _ => True) (fun E _ t => px E ∧ oh_Bk D Wd A σ t) A
def oh_Xi (l : Launch) (y : MethodName) (ws : List Cond) (rm : Room) (D : va_G) (tys : List (ClassId × FieldType)) (Wd : oh_St → va_W) (av : List Value) (σ : oh_St) (post : Int32 → oh_St → Prop) (px : String → Prop) : Prop :=
  ∀ sz : Nat, vx_Met l y ws rm (va_Pc av (oh_PrX D tys (Wd σ) sz)) (va_Qi post (oh_Bk D Wd (va_A (Wd σ) sz)) (va_A (Wd σ) sz)) (oh_XC px D Wd σ (va_A (Wd σ) sz)) 1 6 (va_A (Wd σ) sz)
def oh_Xv (l : Launch) (y : MethodName) (ws : List Cond) (rm : Room) (D : va_G) (tys : List (ClassId × FieldType)) (Wd : oh_St → va_W) (av : List Value) (σ : oh_St) (post : oh_St → Prop) (px : String → Prop) : Prop :=
  ∀ sz : Nat, vx_Met l y ws rm (va_Pc av (oh_PrX D tys (Wd σ) sz)) (va_Qv post (oh_Bk D Wd (va_A (Wd σ) sz)) (va_A (Wd σ) sz)) (oh_XC px D Wd σ (va_A (Wd σ) sz)) 1 6 (va_A (Wd σ) sz)
def oh_Exi (below : List Frame) (post : Int32 → oh_St → Prop) (px : String → Prop) (σ : oh_St) (D : va_G) (Wd : oh_St → va_W) (A : Nat → Prop) (av : List Value) (s : State) : State → Prop := vx_MQ below (va_Qi post (oh_Bk D Wd A) A) (oh_XC px D Wd σ A) av.toArray s 1 6 A
def oh_Exv (below : List Frame) (post : oh_St → Prop) (px : String → Prop) (σ : oh_St) (D : va_G) (Wd : oh_St → va_W) (A : Nat → Prop) (av : List Value) (s : State) : State → Prop := vx_MQ below (va_Qv post (oh_Bk D Wd A) A) (oh_XC px D Wd σ A) av.toArray s 1 6 A
def oh_XX (c : Code) (A : Nat → Prop) (s : State) : Prop := (∀ x ∈ c.exceptionTable.toList, False) ∧ oh_Tx A s s.heap ∧ oh_Sx s
section
variable {l : Launch} {y : MethodName} {ws ws' : List Cond} {rm : Room} {D : va_G} {tys : List (ClassId × FieldType)} {Wd : oh_St → va_W} {av : List Value} {σ : oh_St} {cc : ByteArray} {nL : Nat} {rt : Option FieldType} {px : String → Prop}
theorem oh_inxi {post : Int32 → oh_St → Prop} (hy : plainName y.cls = true) (hw : ws = Cond.code y cc nL rt :: ws') (hn : (lg_sl av).length ≤ nL)
    (body : ∀ (p : Program) (e : Env) (s : State) (m : MethodId) (below : List Frame) (meth : Method) (c : Code) (A : Nat → Prop) (ls : Array Slot), oh_Cx p s m meth c cc nL rt ws av.toArray y.cls D tys A → oh_XX c A s → va_P D vwCl (Wd σ) s.heap → va_D A (Wd σ) → va_S A s.heap s.heap [] → lv_has ls nL (lv_args 0 av) → W p l e rm s m av.toArray below meth c s.heap [] 0 0 (oh_Exi below post px σ D Wd A av s) (F0 m 0 ls [])) : oh_Xi l y ws rm D tys Wd av σ post px := by
  intro sz
  refine vx_ofW (cc := cc) (maxL := nL) (ret := rt) hy hw ?_
  intro p e s m args below meth c s₁ B hml htb hv
  obtain ⟨rfl, ⟨hsz, hP, hK, hN, hD0⟩, hT, hX⟩ := hv
  have hts := atoms_spec (ws := ws) B.pre
  have hown : s.vm.findClass y.cls = some m.cls := findClass_of_methodNamed B.named
  subst hsz
  have hl := lv_entry av (n := nL) hn
  rw [lg_entry_eq]
  exact body p e s m below meth c _ _ ⟨B.exec, B.bytes, hml, hown, hts, B.returns, B.notSynchronized, hK, hN, fun q h => Or.inr h⟩ ⟨htb, hT, hX⟩ hP hD0.self va_S.rf hl
theorem oh_inxv {post : oh_St → Prop} (hy : plainName y.cls = true) (hw : ws = Cond.code y cc nL rt :: ws') (hn : (lg_sl av).length ≤ nL)
    (body : ∀ (p : Program) (e : Env) (s : State) (m : MethodId) (below : List Frame) (meth : Method) (c : Code) (A : Nat → Prop) (ls : Array Slot), oh_Cx p s m meth c cc nL rt ws av.toArray y.cls D tys A → oh_XX c A s → va_P D vwCl (Wd σ) s.heap → va_D A (Wd σ) → va_S A s.heap s.heap [] → lv_has ls nL (lv_args 0 av) → W p l e rm s m av.toArray below meth c s.heap [] 0 0 (oh_Exv below post px σ D Wd A av s) (F0 m 0 ls [])) : oh_Xv l y ws rm D tys Wd av σ post px := by
  intro sz
  refine vx_ofW (cc := cc) (maxL := nL) (ret := rt) hy hw ?_
  intro p e s m args below meth c s₁ B hml htb hv
  obtain ⟨rfl, ⟨hsz, hP, hK, hN, hD0⟩, hT, hX⟩ := hv
  have hts := atoms_spec (ws := ws) B.pre
  have hown : s.vm.findClass y.cls = some m.cls := findClass_of_methodNamed B.named
  subst hsz
  have hl := lv_entry av (n := nL) hn
  rw [lg_entry_eq]
  exact body p e s m below meth c _ _ ⟨B.exec, B.bytes, hml, hown, hts, B.returns, B.notSynchronized, hK, hN, fun q h => Or.inr h⟩ ⟨htb, hT, hX⟩ hP hD0.self va_S.rf hl
end
section
variable {p : Program} {l : Launch} {e : Env} {R : Room} {s : State} {m : MethodId} {below : List Frame} {meth : Method} {c : Code} {H : Heap} {locs : List Loc} {D : va_G} {tys : List (ClassId × FieldType)} {Wd : oh_St → va_W} {av : List Value} {σ u : oh_St} {cc : ByteArray} {nL pc : Nat} {ls : Array Slot} {ws : List Cond} {own : String} {A : Nat → Prop} {px : String → Prop}
theorem oh_retxi {post : Int32 → oh_St → Prop} {v : Int32} (hC : oh_Cx p s m meth c cc nL (some .int) ws av.toArray own D tys A) (hP : va_P D vwCl (Wd u) H) (hD : va_D A (Wd u)) (hS : va_S A s.heap H locs) (hp : post v u) (hdg : decode cc pc = .ok (.ireturn, 1)) : W p l e R s m av.toArray below meth c H locs 0 0 (oh_Exi below post px σ D Wd A av s) (F0 m pc ls [.int v]) := by
  obtain ⟨hx, hb, hml, hown, hts, hr, hlocks, hK, hN, hA⟩ := hC
  refine W.widen (k := 1) (n := 6) (by omega) (by omega) ?_
  exact vx_ret (W.iret (v := v) hx hb hr (fun t ht hW => ⟨⟨v, u, rfl, hp, by rw [ht]; exact hP, hD⟩, hS.F ht⟩) hS.2.2 hdg)
theorem oh_retxv {post : oh_St → Prop} (hC : oh_Cx p s m meth c cc nL none ws av.toArray own D tys A) (hP : va_P D vwCl (Wd u) H) (hD : va_D A (Wd u)) (hS : va_S A s.heap H locs) (hp : post u) (hdg : decode cc pc = .ok (.return_, 1)) : W p l e R s m av.toArray below meth c H locs 0 0 (oh_Exv below post px σ D Wd A av s) (F0 m pc ls []) := by
  obtain ⟨hx, hb, hml, hown, hts, hr, hlocks, hK, hN, hA⟩ := hC
  refine W.widen (k := 1) (n := 6) (by omega) (by omega) ?_
  exact vx_ret (W.vret hx hb hr (fun t ht hW => ⟨⟨u, rfl, hp, by rw [ht]; exact hP, hD⟩, hS.F ht⟩) hS.2.2 hdg)
theorem oh_thr {Qc : Array Value → State → Outcome → State → Prop} {rt : Option FieldType} {cls text : String} {ik is ic sa : Nat} {rest : List Value} (hst : l.stackTraces = false) (hC : oh_Cx p s m meth c cc nL rt ws av.toArray own D tys A) (hX : oh_XX c A s) (hP : va_P D vwCl (Wd σ) H) (hD : va_D A (Wd σ)) (hS : va_S A s.heap H locs) (hsz : ls.size = nL)
    (hcls : Bundle.fit cls = true) (hk : Cond.classLink own ik cls ∈ ws) (hini : Cond.initialized cls ∈ ws) (hstr : vk_R own is text sa s) (hg : ∀ w ∈ (vx_atS own ic cls oh_nms).filter goodWord, w ∈ ws) (hng : ∀ w ∈ (vx_atS own ic cls oh_nms).filter (fun w => !goodWord w), w ∈ [Cond.castable cls cls, .declares (Bundle.initS "java/lang/RuntimeException"), .declares (Bundle.initS "java/lang/Exception"), .declares (Bundle.initS Bundle.tN)]) (hca : va_Nw (.castable cls cls) s)
    (hgood : ∀ w ∈ Cond.classLink own ik cls :: Cond.initialized cls :: vx_atS own ic cls oh_nms, vx_ot w = true)
    (d0 : decode cc pc = .ok (.new ik, 3)) (d3 : decode cc (pc + 3) = .ok (.dup, 1)) (d4 : decode cc (pc + 4) = .ok (.ldc is, 2)) (d6 : decode cc (pc + 6) = .ok (.invokespecial ic, 3)) (d9 : decode cc (pc + 9) = .ok (.athrow, 1))
    (hRframes : 5 < R.frames) (hRlocals : (rest.map fun v => v.category).sum + 82 ≤ R.locals) (hRcells : 1 ≤ R.cells) (hRslots : 6 ≤ R.slots) (hpx : px cls) : W p l e R s m av.toArray below meth c H locs 0 0 (vx_MQ below Qc (oh_XC px D Wd σ A) av.toArray s 1 6 A) (F0 m pc ls rest) := by
  obtain ⟨hx, hb, hml, hown, hts, hr, hlocks, hK, hN, hA⟩ := hC
  have hat : ∀ w ∈ vx_atS own ic cls oh_nms, w.before av.toArray s = true := vx_hat (B := [Cond.castable cls cls, .declares (Bundle.initS "java/lang/RuntimeException"), .declares (Bundle.initS "java/lang/Exception"), .declares (Bundle.initS Bundle.tN)]) (fun w hw => hts w (hg w hw)) hng (vx_c (va_Nw.use rfl hca) (vx_c (va_Nw.use rfl hX.2.2.2.2.2.2.1) (vx_c (va_Nw.use rfl hX.2.2.2.2.2.2.2.1) (vx_c (va_Nw.use rfl hX.2.2.2.2.2.2.2.2) vx_n))))
  refine vx_throwS (names := oh_nms) hx hb hst hown hcls (by decide) (hts _ hk) (hts _ hini) hstr hat hgood hX.2.1.1 hX.2.1.2 hS (by rw [hml]; exact hsz) d0 d3 d4 d6 d9 (fun x hx9 => (hX.1 x hx9).elim) (by exact hRframes) (by exact hRlocals) (by omega) (by omega) hlocks ?_ hS.2.2 (by omega) (by omega)
  intro t hvm hz hk9
  refine ⟨(), trivial, ⟨hpx, ?_, hD⟩, Nat.le_trans hS.1 hz, fun q h1 h2 => ?_⟩
  · exact va_P.kept hP (fun k q hq => hk9 q.1 (vx_lt hP hq))
  · rw [hk9 q (Nat.lt_of_lt_of_le h1 hS.1)]
    exact hS.2.1 q h1 h2
end
