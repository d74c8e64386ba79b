/-! ===== the state in numbers, the class's world, contracts over one world ===== -/
abbrev oh_St : Type := Nat → Nat → Int32
def oh_up (σ : oh_St) (k i : Nat) (v : Int32) : oh_St := va_up σ k (upd (σ k) i v)
/-- links between nest mates -/
def oh_nf : List (String × Nat × String × String × String) := [(RX5, 23, RX6, "p", "I"), (RX7, 62, RX6, "p", "I"), (RX7, 78, RX6, "e", "I"), (RX5, 98, RX6, "e", "I"), (RX7, 81, RX6, "o", "I"), (RX0, 79, RX6, "o", "I"), (RX5, 101, RX6, "o", "I"), (RX7, 91, RX6, "heldOff", "Z"), (RX5, 93, RX6, "heldOff", "Z"), (RX7, 52, RX6, "halted", "Z"), (RX7, 94, RX6, "haltCode", "I"), (RX1, 61, RX3, "control", "Z"), (RX0, 70, RX3, "control", "Z"), (RX7, 140, RX3, "control", "Z"), (RX0, 59, RX3, "flag", "Z"), (RX7, 145, RX3, "flag", "Z"), (RX0, 73, RX3, "asks", "Z"), (RX7, 148, RX3, "asks", "Z"), (RX0, 34, RX1, "line", "LOctalHouse$Line;"), (RX0, 51, RX1, "active", "Z"), (RX0, 95, RX1, "count", "I"), (RX0, 55, RX1, "firstWord", "I"), (RX0, 111, RX1, "countComesNext", "Z"), (RX0, 39, RX2, "line", "LOctalHouse$Line;"), (RX1, 41, RX2, "line", "LOctalHouse$Line;"), (RX1, 26, RX2, "buffer", "I"), (RX0, 98, RX2, "buffer", "I"), (RX7, 121, RX2, "tapeLength", "I"), (RX7, 84, RX0, "interruptsOn", "Z"), (RX7, 104, RX0, "switchWord", "I"), (RX7, 97, RX0, "lamps", "I")]
def oh_nm : List (String × Nat × MethodName) := [(RX7, 9, yX4_init), (RX7, 18, yX6_init), (RX0, 33, yX1_init), (RX1, 11, yX3_init), (RX0, 38, yX2_init), (RX2, 11, yX3_init), (RX1, 73, yX7_bit), (RX2, 60, yX7_bit), (RX0, 84, yX7_bit), (RX5, 168, yX7_bit)]
def oh_N (U : State) : Prop := (∀ q ∈ oh_nf, va_Nw (.fieldLinkNest q.1 q.2.1 q.2.2.1 q.2.2.2.1 q.2.2.2.2 RX7) U) ∧ (∀ q ∈ oh_nm, va_Nw (.methodLinkNest q.1 q.2.1 q.2.2 RX7) U)
theorem oh_N.warm {s U : State} (hW : s.WarmedH U.vm) (h : oh_N s) : oh_N U := ⟨fun q hq => va_Nw.warmF hW (h.1 q hq), fun q hq => va_Nw.warmM hW (h.2 q hq)⟩
theorem oh_N.same {u U : State} (e : u.vm = U.vm) (h : oh_N u) : oh_N U := ⟨fun q hq => va_Nw.same rfl e (h.1 q hq), fun q hq => va_Nw.same rfl e (h.2 q hq)⟩
theorem oh_nF {s : State} {args : Array Value} (h : oh_N s) {o : String} {i : Nat} {b n d : String} (hm : (o, i, b, n, d) ∈ oh_nf) : (Cond.fieldLinkNest o i b n d RX7).before args s = true := va_Nw.use rfl (h.1 _ hm)
theorem oh_nM {s : State} (h : oh_N s) {o : String} {i : Nat} {y : MethodName} (hm : (o, i, y) ∈ oh_nm) : va_Nw (.methodLinkNest o i y RX7) s := h.2 _ hm
/-- a contract's start -/
def oh_Pr (D : va_G) (tys : List (ClassId × FieldType)) (w : va_W) (sz : Nat) (U : State) : Prop := U.heap.size = sz ∧ va_P D vwCl w U.heap ∧ va_K D vwCl tys U ∧ oh_N U ∧ va_D (fun _ => True) w
theorem oh_blind {av : List Value} {D : va_G} {tys : List (ClassId × FieldType)} {w : va_W} {sz : Nat} : FrameBlind (va_Pc av (oh_Pr D tys w sz)) := fun a U g mk q => by
  obtain ⟨q0, q1, qP, qK, qN, qD⟩ := q
  exact ⟨q0, q1, qP, va_K.moved (u := U) (U := U.calling g mk a) (Vm.Alike.refl U.vm) qK, qN.same rfl, qD⟩
theorem oh_Pr.at {D : va_G} {tys : List (ClassId × FieldType)} {w : va_W} {A : Nat → Prop} {s : State} {H : Heap} (hP : va_P D vwCl w H) (hK : va_K D vwCl tys s) (hN : oh_N s) (hD : va_D A w) (U : State) (hU : U.heap = H) (hW : s.WarmedH U.vm) : oh_Pr D tys w H.size U :=
  ⟨by rw [hU], by rw [hU]; exact hP, va_K.moved hW.alike hK, hN.warm hW, hD.weaken (fun _ _ _ _ => trivial)⟩
def oh_Bk (D : va_G) (Wd : oh_St → va_W) (A : Nat → Prop) (u : oh_St) (t : State) : Prop := va_P D vwCl (Wd u) t.heap ∧ va_D A (Wd u)
def oh_Mi (l : Launch) (y : MethodName) (ws : List Cond) (rm : Room) (D : va_G) (tys : List (ClassId × FieldType)) (Wd : oh_St → va_W) (av : List Value) (σ : oh_St) (post : Int32 → oh_St → Prop) : Prop :=
  ∀ sz : Nat, Met l y ws rm (va_Pc av (oh_Pr D tys (Wd σ) sz)) (va_Qi post (oh_Bk D Wd (va_A (Wd σ) sz)) (va_A (Wd σ) sz)) 0 0 (va_A (Wd σ) sz)
def oh_Ml (l : Launch) (y : MethodName) (ws : List Cond) (rm : Room) (D : va_G) (tys : List (ClassId × FieldType)) (Wd : oh_St → va_W) (av : List Value) (σ : oh_St) (post : Int64 → oh_St → Prop) : Prop :=
  ∀ sz : Nat, Met l y ws rm (va_Pc av (oh_Pr D tys (Wd σ) sz)) (va_Ql post (oh_Bk D Wd (va_A (Wd σ) sz)) (va_A (Wd σ) sz)) 0 0 (va_A (Wd σ) sz)
def oh_Mv (l : Launch) (y : MethodName) (ws : List Cond) (rm : Room) (D : va_G) (tys : List (ClassId × FieldType)) (Wd : oh_St → va_W) (av : List Value) (σ : oh_St) (post : oh_St → Prop) : Prop :=
  ∀ sz : Nat, Met l y ws rm (va_Pc av (oh_Pr D tys (Wd σ) sz)) (va_Qv post (oh_Bk D Wd (va_A (Wd σ) sz)) (va_A (Wd σ) sz)) 0 0 (va_A (Wd σ) sz)
def oh_Mq (l : Launch) (y : MethodName) (ws : List Cond) (rm : Room) (D : va_G) (tys : List (ClassId × FieldType)) (Wd : oh_St → va_W) (av : List Value) (σ : oh_St) (post : Option Nat → oh_St → Prop) : Prop :=
  ∀ sz : Nat, Met l y ws rm (va_Pc av (oh_Pr D tys (Wd σ) sz)) (va_Qq post (oh_Bk D Wd (va_A (Wd σ) sz)) (va_A (Wd σ) sz)) 0 0 (va_A (Wd σ) sz)
def oh_Ei (below : List Frame) (post : Int32 → oh_St → Prop) (D : va_G) (Wd : oh_St → va_W) (A : Nat → Prop) (av : List Value) (s : State) : State → Prop := MQ below (va_Qi post (oh_Bk D Wd A) A) av.toArray s 0 0 A
def oh_El (below : List Frame) (post : Int64 → oh_St → Prop) (D : va_G) (Wd : oh_St → va_W) (A : Nat → Prop) (av : List Value) (s : State) : State → Prop := MQ below (va_Ql post (oh_Bk D Wd A) A) av.toArray s 0 0 A
def oh_Ev (below : List Frame) (post : oh_St → Prop) (D : va_G) (Wd : oh_St → va_W) (A : Nat → Prop) (av : List Value) (s : State) : State → Prop := MQ below (va_Qv post (oh_Bk D Wd A) A) av.toArray s 0 0 A
def oh_Eq (below : List Frame) (post : Option Nat → oh_St → Prop) (D : va_G) (Wd : oh_St → va_W) (A : Nat → Prop) (av : List Value) (s : State) : State → Prop := MQ below (va_Qq post (oh_Bk D Wd A) A) av.toArray s 0 0 A
/-- what stands all along a method's walk -/
def oh_Cx (p : Program) (s : State) (m : MethodId) (meth : Method) (c : Code) (cc : ByteArray) (nL : Nat) (rt : Option FieldType) (ws : List Cond) (args : Array Value) (own : String) (D : va_G) (tys : List (ClassId × FieldType)) (A : Nat → Prop) : Prop :=
  p.tables.exec = Jvm.exec ∧ c.code = cc ∧ c.maxLocals = nL ∧ s.vm.findClass own = some m.cls ∧ (∀ w ∈ ws, w.before args s = true) ∧ meth.sig.returnType = rt ∧ meth.locks = false ∧ va_K D vwCl tys s ∧ oh_N s ∧ (∀ q : Nat, s.heap.size ≤ q → A q)
section
variable {l : Launch} {y : MethodName} {ws ws' : List Cond} {rm : Room} {D : va_G} {tys : List (ClassId × FieldType)} {Wd : oh_St → va_W} {av : List Value} {σ : oh_St} {cc : ByteArray} {nL : Nat} {rt : Option FieldType}
theorem oh_ini {post : Int32 → oh_St → Prop} (hy : plainName y.cls = true) (hw : ws = Cond.code y cc nL rt :: ws') (hn : (lg_sl av).length ≤ nL)
    (body : ∀ (p : Program) (e : Env) (s : State) (m : MethodId) (below : List Frame) (meth : Method) (c : Code) (A : Nat → Prop) (ls : Array Slot), oh_Cx p s m meth c cc nL rt ws av.toArray y.cls D tys A → va_P D vwCl (Wd σ) s.heap → va_D A (Wd σ) → va_S A s.heap s.heap [] → lv_has ls nL (lv_args 0 av) → W p l e rm s m av.toArray below meth c s.heap [] 0 0 (oh_Ei below post D Wd A av s) (F0 m 0 ls [])) : oh_Mi l y ws rm D tys Wd av σ post := by
  intro sz
  refine Met.ofW (cc := cc) (maxL := nL) (ret := rt) hy hw ?_
  intro p e s m args below meth c s₁ B hml hv
  obtain ⟨rfl, hsz, hP, hK, hN, hD0⟩ := hv
  have hts := atoms_spec (ws := ws) B.pre
  have hown : s.vm.findClass y.cls = some m.cls := findClass_of_methodNamed B.named
  subst hsz
  have hl := lv_entry av (n := nL) hn
  rw [lg_entry_eq]
  exact body p e s m below meth c _ _ ⟨B.exec, B.bytes, hml, hown, hts, B.returns, B.notSynchronized, hK, hN, fun q h => Or.inr h⟩ hP hD0.self va_S.rf hl
theorem oh_inl {post : Int64 → oh_St → Prop} (hy : plainName y.cls = true) (hw : ws = Cond.code y cc nL rt :: ws') (hn : (lg_sl av).length ≤ nL)
    (body : ∀ (p : Program) (e : Env) (s : State) (m : MethodId) (below : List Frame) (meth : Method) (c : Code) (A : Nat → Prop) (ls : Array Slot), oh_Cx p s m meth c cc nL rt ws av.toArray y.cls D tys A → va_P D vwCl (Wd σ) s.heap → va_D A (Wd σ) → va_S A s.heap s.heap [] → lv_has ls nL (lv_args 0 av) → W p l e rm s m av.toArray below meth c s.heap [] 0 0 (oh_El below post D Wd A av s) (F0 m 0 ls [])) : oh_Ml l y ws rm D tys Wd av σ post := by
  intro sz
  refine Met.ofW (cc := cc) (maxL := nL) (ret := rt) hy hw ?_
  intro p e s m args below meth c s₁ B hml hv
  obtain ⟨rfl, hsz, hP, hK, hN, hD0⟩ := hv
  have hts := atoms_spec (ws := ws) B.pre
  have hown : s.vm.findClass y.cls = some m.cls := findClass_of_methodNamed B.named
  subst hsz
  have hl := lv_entry av (n := nL) hn
  rw [lg_entry_eq]
  exact body p e s m below meth c _ _ ⟨B.exec, B.bytes, hml, hown, hts, B.returns, B.notSynchronized, hK, hN, fun q h => Or.inr h⟩ hP hD0.self va_S.rf hl
theorem oh_inv {post : oh_St → Prop} (hy : plainName y.cls = true) (hw : ws = Cond.code y cc nL rt :: ws') (hn : (lg_sl av).length ≤ nL)
    (body : ∀ (p : Program) (e : Env) (s : State) (m : MethodId) (below : List Frame) (meth : Method) (c : Code) (A : Nat → Prop) (ls : Array Slot), oh_Cx p s m meth c cc nL rt ws av.toArray y.cls D tys A → va_P D vwCl (Wd σ) s.heap → va_D A (Wd σ) → va_S A s.heap s.heap [] → lv_has ls nL (lv_args 0 av) → W p l e rm s m av.toArray below meth c s.heap [] 0 0 (oh_Ev below post D Wd A av s) (F0 m 0 ls [])) : oh_Mv l y ws rm D tys Wd av σ post := by
  intro sz
  refine Met.ofW (cc := cc) (maxL := nL) (ret := rt) hy hw ?_
  intro p e s m args below meth c s₁ B hml hv
  obtain ⟨rfl, hsz, hP, hK, hN, hD0⟩ := hv
  have hts := atoms_spec (ws := ws) B.pre
  have hown : s.vm.findClass y.cls = some m.cls := findClass_of_methodNamed B.named
  subst hsz
  have hl := lv_entry av (n := nL) hn
  rw [lg_entry_eq]
  exact body p e s m below meth c _ _ ⟨B.exec, B.bytes, hml, hown, hts, B.returns, B.notSynchronized, hK, hN, fun q h => Or.inr h⟩ hP hD0.self va_S.rf hl
theorem oh_inq {post : Option Nat → oh_St → Prop} (hy : plainName y.cls = true) (hw : ws = Cond.code y cc nL rt :: ws') (hn : (lg_sl av).length ≤ nL)
    (body : ∀ (p : Program) (e : Env) (s : State) (m : MethodId) (below : List Frame) (meth : Method) (c : Code) (A : Nat → Prop) (ls : Array Slot), oh_Cx p s m meth c cc nL rt ws av.toArray y.cls D tys A → va_P D vwCl (Wd σ) s.heap → va_D A (Wd σ) → va_S A s.heap s.heap [] → lv_has ls nL (lv_args 0 av) → W p l e rm s m av.toArray below meth c s.heap [] 0 0 (oh_Eq below post D Wd A av s) (F0 m 0 ls [])) : oh_Mq l y ws rm D tys Wd av σ post := by
  intro sz
  refine Met.ofW (cc := cc) (maxL := nL) (ret := rt) hy hw ?_
  intro p e s m args below meth c s₁ B hml hv
  obtain ⟨rfl, hsz, hP, hK, hN, hD0⟩ := hv
  have hts := atoms_spec (ws := ws) B.pre
  have hown : s.vm.findClass y.cls = some m.cls := findClass_of_methodNamed B.named
  subst hsz
  have hl := lv_entry av (n := nL) hn
  rw [lg_entry_eq]
  exact body p e s m below meth c _ _ ⟨B.exec, B.bytes, hml, hown, hts, B.returns, B.notSynchronized, hK, hN, fun q h => Or.inr h⟩ hP hD0.self va_S.rf hl
end
section
variable {p : Program} {l : Launch} {e : Env} {R : Room} {s : State} {m : MethodId} {below : List Frame} {meth : Method} {c : Code} {H : Heap} {locs : List Loc} {D : va_G} {tys : List (ClassId × FieldType)} {Wd : oh_St → va_W} {av : List Value} {u : oh_St} {cc : ByteArray} {nL pc : Nat} {ls : Array Slot} {ws : List Cond} {own : String} {A : Nat → Prop}
theorem oh_reti {post : Int32 → oh_St → Prop} {v : Int32} (hC : oh_Cx p s m meth c cc nL (some .int) ws av.toArray own D tys A) (hP : va_P D vwCl (Wd u) H) (hD : va_D A (Wd u)) (hS : va_S A s.heap H locs) (hp : post v u) (hdg : decode cc pc = .ok (.ireturn, 1)) : W p l e R s m av.toArray below meth c H locs 0 0 (oh_Ei below post D Wd A av s) (F0 m pc ls [.int v]) := by
  obtain ⟨hx, hb, hml, hown, hts, hr, hlocks, hK, hN, hA⟩ := hC
  exact W.iret (v := v) hx hb hr (fun t ht hW => ⟨⟨v, u, rfl, hp, by rw [ht]; exact hP, hD⟩, hS.F ht⟩) hS.2.2 hdg
theorem oh_retz {post : Int32 → oh_St → Prop} {v : Int32} {ty : FieldType} (hC : oh_Cx p s m meth c cc nL (some ty) ws av.toArray own D tys A) (hn : narrow ty (.int v) = .int v) (hP : va_P D vwCl (Wd u) H) (hD : va_D A (Wd u)) (hS : va_S A s.heap H locs) (hp : post v u) (hdg : decode cc pc = .ok (.ireturn, 1)) : W p l e R s m av.toArray below meth c H locs 0 0 (oh_Ei below post D Wd A av s) (F0 m pc ls [.int v]) := by
  obtain ⟨hx, hb, hml, hown, hts, hr, hlocks, hK, hN, hA⟩ := hC
  exact W.zret (v := v) hx hb hr hn (fun t ht hW => ⟨⟨v, u, rfl, hp, by rw [ht]; exact hP, hD⟩, hS.F ht⟩) hS.2.2 hdg
theorem oh_retl {post : Int64 → oh_St → Prop} {v : Int64} (hC : oh_Cx p s m meth c cc nL (some .long) ws av.toArray own D tys A) (hP : va_P D vwCl (Wd u) H) (hD : va_D A (Wd u)) (hS : va_S A s.heap H locs) (hp : post v u) (hdg : decode cc pc = .ok (.lreturn, 1)) : W p l e R s m av.toArray below meth c H locs 0 0 (oh_El below post D Wd A av s) (F0 m pc ls [.long v]) := by
  obtain ⟨hx, hb, hml, hown, hts, hr, hlocks, hK, hN, hA⟩ := hC
  exact W.lret (v := v) hx hb hr (fun t ht hW => ⟨⟨v, u, rfl, hp, by rw [ht]; exact hP, hD⟩, hS.F ht⟩) hS.2.2 hdg
theorem oh_retv {post : oh_St → Prop} (hC : oh_Cx p s m meth c cc nL none ws av.toArray own D tys A) (hP : va_P D vwCl (Wd u) H) (hD : va_D A (Wd u)) (hS : va_S A s.heap H locs) (hp : post u) (hdg : decode cc pc = .ok (.return_, 1)) : W p l e R s m av.toArray below meth c H locs 0 0 (oh_Ev below post D Wd A av s) (F0 m pc ls []) := by
  obtain ⟨hx, hb, hml, hown, hts, hr, hlocks, hK, hN, hA⟩ := hC
  exact W.vret hx hb hr (fun t ht hW => ⟨⟨u, rfl, hp, by rw [ht]; exact hP, hD⟩, hS.F ht⟩) hS.2.2 hdg
theorem oh_retq {post : Option Nat → oh_St → Prop} {v : Option Nat} {C : String} (hC : oh_Cx p s m meth c cc nL (some (.object C)) ws av.toArray own D tys A) (hP : va_P D vwCl (Wd u) H) (hD : va_D A (Wd u)) (hS : va_S A s.heap H locs) (hp : post v u) (hdg : decode cc pc = .ok (.areturn, 1)) : W p l e R s m av.toArray below meth c H locs 0 0 (oh_Eq below post D Wd A av s) (F0 m pc ls [va_rf v]) := by
  obtain ⟨hx, hb, hml, hown, hts, hr, hlocks, hK, hN, hA⟩ := hC
  exact W.aret (v := va_rf v) hx hb hr (Or.inl ⟨C, rfl⟩) (va_rf_or v) (fun t ht hW => ⟨⟨v, u, rfl, hp, by rw [ht]; exact hP, hD⟩, hS.F ht⟩) hS.2.2 hdg
end
