/-! ===== constructors: explicit worlds ===== -/
def oh_AO (U : State) : Prop := va_AO RX1 U ∧ va_AO RX2 U ∧ va_AO RX3 U
theorem oh_AO.moved {u U : State} (h : u.vm.Alike U.vm) (q : oh_AO u) : oh_AO U := ⟨va_AO.moved h q.1, va_AO.moved h q.2.1, va_AO.moved h q.2.2⟩
theorem oh_cA {D : va_G} {cl : List vw_C} {tys : List (ClassId × FieldType)} {U : State} (hK : va_K D cl tys U) {i j : Nat} {c1 c2 : ClassId} {ty : FieldType} (h1 : tys[i]? = some (c1, ty)) (h2 : tys[j]? = some (c2, ty)) : c1 = c2 := by
  have a := (hK.2 i _ h1).2
  have b := (hK.2 j _ h2).2
  cases ty with
  | object C =>
    obtain ⟨_, _, _, _, _, e1⟩ := a
    obtain ⟨_, _, _, _, _, e2⟩ := b
    exact Option.some.inj (e1.symm.trans e2)
  | _ => exact Option.some.inj (a.symm.trans b)
def oh_PrC (D : va_G) (tys : List (ClassId × FieldType)) (w : va_W) (sz : Nat) (U : State) : Prop := oh_Pr D tys w sz U ∧ oh_AO U
theorem oh_blindC {av : List Value} {D : va_G} {tys : List (ClassId × FieldType)} {w : va_W} {sz : Nat} : FrameBlind (va_Pc av (oh_PrC D tys w sz)) := fun a U g mk q => by
  obtain ⟨q0, q1, q2⟩ := q
  have h := oh_blind (av := av) (D := D) (tys := tys) (w := w) (sz := sz) a U g mk ⟨q0, q1⟩
  exact ⟨h.1, h.2, oh_AO.moved (u := U) (U := U.calling g mk a) (Vm.Alike.refl U.vm) q2⟩
def oh_Mc (l : Launch) (y : MethodName) (ws : List Cond) (rm : Room) (D : va_G) (tys : List (ClassId × FieldType)) (av : List Value) (w0 : va_W) (w1 : (Nat → Nat) → va_W) (mc ms : Nat) : Prop :=
  ∀ sz : Nat, Met l y ws rm (va_Pc av (oh_PrC D tys w0 sz)) (va_Qv (fun _ : Nat → Nat => True) (fun u t => va_P D vwCl (w1 u) t.heap ∧ va_D (va_A w0 sz) (w1 u)) (va_A w0 sz)) mc ms (va_A w0 sz)
def oh_Ec (below : List Frame) (D : va_G) (w1 : (Nat → Nat) → va_W) (A : Nat → Prop) (av : List Value) (s : State) (mc ms : Nat) : State → Prop := MQ below (va_Qv (fun _ : Nat → Nat => True) (fun u t => va_P D vwCl (w1 u) t.heap ∧ va_D A (w1 u)) A) av.toArray s mc ms A
theorem oh_inc {l : Launch} {y : MethodName} {ws ws' : List Cond} {rm : Room} {D : va_G} {tys : List (ClassId × FieldType)} {av : List Value} {w0 : va_W} {w1 : (Nat → Nat) → va_W} {mc ms : Nat} {cc : ByteArray} {nL : Nat} (hy : plainName y.cls = true) (hw : ws = Cond.code y cc nL none :: ws') (hn : (lg_sl av).length ≤ nL)
    (body : ∀ (p : Program) (e : Env) (s : State) (m : MethodId) (below : List Frame) (meth : Method) (c : Code) (A : Nat → Prop) (ls : Array Slot), oh_Cx p s m meth c cc nL none ws av.toArray y.cls D tys A → oh_AO s → meth.name = y.name → va_P D vwCl w0 s.heap → va_D A w0 → va_S A s.heap s.heap [] → lv_has ls nL (lv_args 0 av) → W p l e rm s m av.toArray below meth c s.heap [] 0 0 (oh_Ec below D w1 A av s mc ms) (F0 m 0 ls [])) : oh_Mc l y ws rm D tys av w0 w1 mc ms := by
  intro sz
  refine Met.ofW (cc := cc) (maxL := nL) (ret := none) hy hw ?_
  intro p e s m args below meth c s₁ B hml hv
  obtain ⟨rfl, ⟨hsz, hP, hK, hN, hD0⟩, hAO⟩ := hv
  have hts := atoms_spec (ws := ws) B.pre
  have hown : s.vm.findClass y.cls = some m.cls := findClass_of_methodNamed B.named
  subst hsz
  have hl := lv_entry av (n := nL) hn
  rw [lg_entry_eq]
  exact body p e s m below meth c _ _ ⟨B.exec, B.bytes, hml, hown, hts, B.returns, B.notSynchronized, hK, hN, fun q h => Or.inr h⟩ hAO (name_of_methodNamed B.named B.method).1 hP hD0.self va_S.rf hl
section
variable {p : Program} {l : Launch} {e : Env} {R : Room} {s : State} {m : MethodId} {args : Array Value} {below : List Frame} {meth : Method} {c : Code} {H : Heap} {locs : List Loc} {cells slots : Nat} {Q : State → Prop} {D : va_G} {tys : List (ClassId × FieldType)} {av : List Value} {cc : ByteArray} {nL pc : Nat} {ls : Array Slot} {ws : List Cond} {own : String} {A : Nat → Prop} {rt : Option FieldType} {w1 : (Nat → Nat) → va_W} {mc ms : Nat}
theorem oh_retc (hC : oh_Cx p s m meth c cc nL none ws av.toArray own D tys A) (u : Nat → Nat) (hP : va_P D vwCl (w1 u) H) (hD : va_D A (w1 u)) (hS : va_S A s.heap H locs) (hdg : decode cc pc = .ok (.return_, 1)) : W p l e R s m av.toArray below meth c H locs mc ms (oh_Ec below D w1 A av s mc ms) (F0 m pc ls []) := by
  obtain ⟨hx, hb, hml, hown, hts, hr, hlocks, hK, hN, hA⟩ := hC
  exact W.vret hx hb hr (fun t ht hW => ⟨⟨u, rfl, trivial, by rw [ht]; exact hP, hD⟩, hS.F ht⟩) hS.2.2 hdg
theorem oh_fre {w wc : va_W} (hA : ∀ q : Nat, s.heap.size ≤ q → A q) (hD : va_D A w) (hS : va_S A s.heap H locs) (is : List Nat) (hs : is.map (fun i => w[i]?) = wc.map some) : ∀ q, va_A wc H.size q → A q := va_free hD hS hA is hs
section
variable {w wr : va_W} {y : MethodName} {wy wy' : List Cond} {rm : Room} {bytes : ByteArray} {maxL index n : Nat} {b : Nat} {cell : va_E} {As rest st0 : List Value}
theorem oh_cci (hC : oh_Cx p s m meth c cc nL rt ws args own D tys A) (hAO : oh_AO s) (hP : va_P D vwCl w H) (hD : va_D A w) (hS : va_S A s.heap H locs) (hM : oh_Mc l y wy rm D tys (.ref b :: As) [(b, cell)] w1 mc ms) (cw : CallB R s args own index y bytes maxL none wy rm mc ms n ∧ y.name = "<init>" ∧ (Cond.instanceMethod y).before args s = true) (isC isR : List Nat) (h1 : isC.map (fun i => w[i]?) = [(b, cell)].map some) (h2 : isR.map (fun i => w[i]?) = wr.map some) (h3 : va_nd isR = true) (h4 : ∀ i ∈ isR, i ∉ isC) (hn : As.length = n) (hsz : ls.size = nL) (hst : st0 = As.reverse ++ .ref b :: rest) (hW : (rest.map fun v => v.category).sum ≤ 8) (hdg : decode cc pc = .ok (.invokespecial index, 3)) (hf : cells + mc ≤ R.cells ∧ slots + ms ≤ R.slots) (kk : ∀ (u : Nat → Nat) (H1 : Heap) (locs1 : List Loc), va_P D vwCl (wr ++ w1 u) H1 → va_D A (wr ++ w1 u) → va_S A s.heap H1 locs1 → W p l e R s m args below meth c H1 locs1 (cells + mc) (slots + ms) Q (F0 m (pc + 3) ls rest)) : W p l e R s m args below meth c H locs cells slots Q (F0 m pc ls st0) := by
  obtain ⟨hx, hb, hml, hown, hts, hr, hlocks, hK, hN, hA⟩ := hC
  have hPc : va_P D vwCl [(b, cell)] H := hP.sub isC (by
    have := congrArg (fun l => l.filterMap id) h1
    simpa [List.filterMap_map] using this)
  have hF := va_free (wc := [(b, cell)]) hD hS hA isC h1
  have hDc : va_D (fun _ => True) [(b, cell)] := ⟨fun i j p q h5 h6 _ => by
    rcases i with _ | i <;> rcases j with _ | j <;> simp at h5 h6 ⊢, fun _ _ _ => trivial⟩
  subst hst
  refine va_callv (va_runI (As := As) (rest := rest) ⟨hx, hb, hml, hown, hts⟩ (hM H.size) cw ⟨oh_blindC, fun U hU hW => ⟨rfl, oh_Pr.at hPc hK hN hDc U hU hW, oh_AO.moved hW.alike hAO⟩⟩ rfl hn hsz rfl (lv_room hW) hdg hf) hS (fun q _ h => hF q h) hF (fun u t H1 locs1 ht hvm hw hB hz1 hk1 hS1 => ?_)
  obtain ⟨hP1, hD1⟩ := hB
  rw [ht] at hP1
  obtain ⟨hP2, hD2⟩ := va_join (wr := wr) (w1 := w1 u) hP hD isC isR h1 h2 h3 h4 hk1 hF hP1 hD1
  exact kk u H1 locs1 hP2 hD2 hS1
theorem oh_ccn (hC : oh_Cx p s m meth c cc nL rt ws args own D tys A) (hAO : oh_AO s) (hP : va_P D vwCl w H) (hD : va_D A w) (hS : va_S A s.heap H locs) (hM : oh_Mc l y wy rm D tys (.ref b :: As) [(b, cell)] w1 mc ms) (cw : va_CN R s args own index y RX7 bytes maxL none wy rm mc ms n ∧ y.name = "<init>" ∧ (Cond.instanceMethod y).before args s = true) (isC isR : List Nat) (h1 : isC.map (fun i => w[i]?) = [(b, cell)].map some) (h2 : isR.map (fun i => w[i]?) = wr.map some) (h3 : va_nd isR = true) (h4 : ∀ i ∈ isR, i ∉ isC) (hn : As.length = n) (hsz : ls.size = nL) (hst : st0 = As.reverse ++ .ref b :: rest) (hW : (rest.map fun v => v.category).sum ≤ 8) (hdg : decode cc pc = .ok (.invokespecial index, 3)) (hf : cells + mc ≤ R.cells ∧ slots + ms ≤ R.slots) (kk : ∀ (u : Nat → Nat) (H1 : Heap) (locs1 : List Loc), va_P D vwCl (wr ++ w1 u) H1 → va_D A (wr ++ w1 u) → va_S A s.heap H1 locs1 → W p l e R s m args below meth c H1 locs1 (cells + mc) (slots + ms) Q (F0 m (pc + 3) ls rest)) : W p l e R s m args below meth c H locs cells slots Q (F0 m pc ls st0) := by
  obtain ⟨hx, hb, hml, hown, hts, hr, hlocks, hK, hN, hA⟩ := hC
  have hPc : va_P D vwCl [(b, cell)] H := hP.sub isC (by
    have := congrArg (fun l => l.filterMap id) h1
    simpa [List.filterMap_map] using this)
  have hF := va_free (wc := [(b, cell)]) hD hS hA isC h1
  have hDc : va_D (fun _ => True) [(b, cell)] := ⟨fun i j p q h5 h6 _ => by
    rcases i with _ | i <;> rcases j with _ | j <;> simp at h5 h6 ⊢, fun _ _ _ => trivial⟩
  subst hst
  refine va_callv (va_runIN (As := As) (rest := rest) ⟨hx, hb, hml, hown, hts⟩ (hM H.size) cw ⟨oh_blindC, fun U hU hW => ⟨rfl, oh_Pr.at hPc hK hN hDc U hU hW, oh_AO.moved hW.alike hAO⟩⟩ rfl hn hsz rfl (lv_room hW) hdg hf) hS (fun q _ h => hF q h) hF (fun u t H1 locs1 ht hvm hw hB hz1 hk1 hS1 => ?_)
  obtain ⟨hP1, hD1⟩ := hB
  rw [ht] at hP1
  obtain ⟨hP2, hD2⟩ := va_join (wr := wr) (w1 := w1 u) hP hD isC isR h1 h2 h3 h4 hk1 hF hP1 hD1
  exact kk u H1 locs1 hP2 hD2 hS1
end
end
