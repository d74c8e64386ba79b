/-! ===== calls over a part of a larger world ===== -/
def oh_tyL (k : Nat → ClassId) (kL : ClassId) : List (ClassId × FieldType) := oh_ty k ++ [(kL, .long)]
theorem oh_subs {w wc : va_W} {is : List Nat} (h : is.map (fun i => w[i]?) = wc.map some) : is.filterMap (fun i => w[i]?) = wc := by
  have := congrArg (fun l => l.filterMap id) h
  simpa [List.filterMap_map] using this
section
variable {p : Program} {l : Launch} {e : Env} {R : Room} {s : State} {m : MethodId} {args : Array Value} {below : List Frame} {meth : Method} {c : Code} {H : Heap} {locs : List Loc} {cells slots : Nat} {Q : State → Prop} {D : va_G} {tys tysC : List (ClassId × FieldType)} {Wd : oh_St → va_W} {σ : oh_St} {cc : ByteArray} {nL pc : Nat} {ls : Array Slot} {ws : List Cond} {own : String} {A : Nat → Prop} {rt : Option FieldType}
variable {w wr : va_W} {y : MethodName} {wy : List Cond} {rm : Room} {bytes : ByteArray} {maxL index n : Nat} {ret : Option FieldType} {C : String} {b : Nat} {As rest st0 : List Value}
theorem gc_vi {post : Int32 → oh_St → Prop} (hC : oh_Cx p s m meth c cc nL rt ws args own D tys A) (hKc : va_K D vwCl tysC s) (hP : va_P D vwCl w H) (hD : va_D A w) (hS : va_S A s.heap H locs) (hM : oh_Mi l y wy rm D tysC Wd (.ref b :: As) σ post) (cw : CallW R s args own C index y bytes maxL ret wy rm 0 0 n)
    (isC isR : List Nat) (h1 : isC.map (fun i => w[i]?) = (Wd σ).map some) (h0 : va_nd isC = true) (h2 : isR.map (fun i => w[i]?) = wr.map some) (h3 : va_nd isR = true) (h4 : ∀ i ∈ isR, i ∉ isC) (q0 ci : Nat) {T : u_T} {N : Nat} {fs : List Value} (he : (Wd σ)[q0]? = some (b, .inr (ci, fs))) (hc : vwCl[ci]? = some (C, T, N))
    (hn : As.length = n) (hsz : ls.size = nL) (hst : st0 = As.reverse ++ .ref b :: rest) (hW : (rest.map fun v => v.category).sum ≤ 8) (hdg : decode cc pc = .ok (.invokevirtual index, 3)) (hf : cells ≤ R.cells ∧ slots ≤ R.slots)
    (kk : ∀ (r : Int32) (u : oh_St) (H1 : Heap) (locs1 : List Loc), post r u → va_P D vwCl (wr ++ Wd u) H1 → va_D A (wr ++ Wd u) → va_S A s.heap H1 locs1 → W p l e R s m args below meth c H1 locs1 cells slots Q (F0 m (pc + 3) ls (.int r :: rest))) : W p l e R s m args below meth c H locs cells slots Q (F0 m pc ls st0) := by
  obtain ⟨hx, hb, hml, hown, hts, hr, hlocks, hK, hN, hA⟩ := hC
  have hPc : va_P D vwCl (Wd σ) H := hP.sub isC (oh_subs h1)
  have hDc : va_D A (Wd σ) := hD.sub isC h0 h1
  have hF := va_free (wc := Wd σ) hD hS hA isC h1
  subst hst
  refine va_calli (va_runV (As := As) (rest := rest) ⟨hx, hb, hml, hown, hts⟩ (hM H.size) cw ⟨oh_blind, va_recv hKc hPc hc he, fun U hU hW => ⟨rfl, oh_Pr.at hPc hKc hN hDc U hU hW⟩⟩ rfl hn hsz rfl (lv_room hW) hdg hf) hS (fun q _ h => hF q h) hF (fun r u t H1 locs1 ht hvm hw hB hz1 hk1 hS1 => ?_)
  obtain ⟨hP1, hD1⟩ := hB
  rw [ht] at hP1
  obtain ⟨hP2, hD2⟩ := va_join (wr := wr) (w1 := Wd u) hP hD isC isR h1 h2 h3 h4 hk1 hF hP1 hD1
  exact kk r u H1 locs1 hw hP2 hD2 hS1
theorem gc_vv {post : oh_St → Prop} (hC : oh_Cx p s m meth c cc nL rt ws args own D tys A) (hKc : va_K D vwCl tysC s) (hP : va_P D vwCl w H) (hD : va_D A w) (hS : va_S A s.heap H locs) (hM : oh_Mv l y wy rm D tysC Wd (.ref b :: As) σ post) (cw : CallW R s args own C index y bytes maxL ret wy rm 0 0 n)
    (isC isR : List Nat) (h1 : isC.map (fun i => w[i]?) = (Wd σ).map some) (h0 : va_nd isC = true) (h2 : isR.map (fun i => w[i]?) = wr.map some) (h3 : va_nd isR = true) (h4 : ∀ i ∈ isR, i ∉ isC) (q0 ci : Nat) {T : u_T} {N : Nat} {fs : List Value} (he : (Wd σ)[q0]? = some (b, .inr (ci, fs))) (hc : vwCl[ci]? = some (C, T, N))
    (hn : As.length = n) (hsz : ls.size = nL) (hst : st0 = As.reverse ++ .ref b :: rest) (hW : (rest.map fun v => v.category).sum ≤ 8) (hdg : decode cc pc = .ok (.invokevirtual index, 3)) (hf : cells ≤ R.cells ∧ slots ≤ R.slots)
    (kk : ∀ (u : oh_St) (H1 : Heap) (locs1 : List Loc), post u → va_P D vwCl (wr ++ Wd u) H1 → va_D A (wr ++ Wd u) → va_S A s.heap H1 locs1 → W p l e R s m args below meth c H1 locs1 cells slots Q (F0 m (pc + 3) ls rest)) : W p l e R s m args below meth c H locs cells slots Q (F0 m pc ls st0) := by
  obtain ⟨hx, hb, hml, hown, hts, hr, hlocks, hK, hN, hA⟩ := hC
  have hPc : va_P D vwCl (Wd σ) H := hP.sub isC (oh_subs h1)
  have hDc : va_D A (Wd σ) := hD.sub isC h0 h1
  have hF := va_free (wc := Wd σ) hD hS hA isC h1
  subst hst
  refine va_callv (va_runV (As := As) (rest := rest) ⟨hx, hb, hml, hown, hts⟩ (hM H.size) cw ⟨oh_blind, va_recv hKc hPc hc he, fun U hU hW => ⟨rfl, oh_Pr.at hPc hKc hN hDc U hU hW⟩⟩ rfl hn hsz rfl (lv_room hW) hdg hf) hS (fun q _ h => hF q h) hF (fun u t H1 locs1 ht hvm hw hB hz1 hk1 hS1 => ?_)
  obtain ⟨hP1, hD1⟩ := hB
  rw [ht] at hP1
  obtain ⟨hP2, hD2⟩ := va_join (wr := wr) (w1 := Wd u) hP hD isC isR h1 h2 h3 h4 hk1 hF hP1 hD1
  exact kk u H1 locs1 hw hP2 hD2 hS1
theorem gc_xi {post : Int32 → oh_St → Prop} {px : String → Prop} (hC : oh_Cx p s m meth c cc nL rt ws args own D tys A) (hKc : va_K D vwCl tysC s) (hT : oh_Tx A s s.heap) (hX : oh_Sx s) (hP : va_P D vwCl w H) (hD : va_D A w) (hS : va_S A s.heap H locs) (hM : oh_Xi l y wy rm D tysC Wd (.ref b :: As) σ post px) (cw : CallW R s args own C index y bytes maxL ret wy rm 1 6 n)
    (isC isR : List Nat) (h1 : isC.map (fun i => w[i]?) = (Wd σ).map some) (h0 : va_nd isC = true) (h2 : isR.map (fun i => w[i]?) = wr.map some) (h3 : va_nd isR = true) (h4 : ∀ i ∈ isR, i ∉ isC) (q0 ci : Nat) {T : u_T} {N : Nat} {fs : List Value} (he : (Wd σ)[q0]? = some (b, .inr (ci, fs))) (hc : vwCl[ci]? = some (C, T, N))
    (hn : As.length = n) (hsz : ls.size = nL) (hst : st0 = As.reverse ++ .ref b :: rest) (hW : (rest.map fun v => v.category).sum ≤ 8) (hdg : decode cc pc = .ok (.invokevirtual index, 3)) (hf : cells + 1 ≤ R.cells ∧ slots + 6 ≤ R.slots)
    (kx : ∀ (E : String) (ce : Cell) (q9 : Addr) (H1 : Heap) (locs1 : List Loc), px E → va_P D vwCl (wr ++ Wd σ) H1 → va_D A (wr ++ Wd σ) → va_S A s.heap H1 locs1 → H1[q9]? = some ce → ce.vm = .none → s.vm.findClass E = some ce.cls → vx_W p l e R s m args below meth c H1 locs1 (cells + 1) (slots + 6) Q (F0 m pc ls rest) q9)
    (kk : ∀ (r : Int32) (u : oh_St) (H1 : Heap) (locs1 : List Loc), post r u → va_P D vwCl (wr ++ Wd u) H1 → va_D A (wr ++ Wd u) → va_S A s.heap H1 locs1 → W p l e R s m args below meth c H1 locs1 (cells + 1) (slots + 6) Q (F0 m (pc + 3) ls (.int r :: rest))) : W p l e R s m args below meth c H locs cells slots Q (F0 m pc ls st0) := by
  obtain ⟨hx, hb, hml, hown, hts, hr, hlocks, hK, hN, hA⟩ := hC
  have hPc : va_P D vwCl (Wd σ) H := hP.sub isC (oh_subs h1)
  have hDc : va_D A (Wd σ) := hD.sub isC h0 h1
  have hF := va_free (wc := Wd σ) hD hS hA isC h1
  have hTH : oh_Tx A s H := hT.kept hS.2.1
  subst hst
  refine vx_calli (vx_runV (As := As) (rest := rest) ⟨hx, hb, hml, hown, hts⟩ (hM H.size) cw ⟨oh_blindX, va_recv hKc hPc hc he, fun U hU hW => ⟨rfl, oh_PrX.at hPc hKc hN hDc hF hTH hX U hU hW⟩⟩ rfl hn hsz rfl (lv_room hW) hdg hf) hS (fun q _ h => hF q h) hF (fun q _ h => hF q h) (fun E ce q9 u t H1 locs1 ht hvm hw hB hz1 hk1 hS1 hce hcv hcl => ?_) (fun r u t H1 locs1 ht hvm hw hB hz1 hk1 hS1 => ?_)
  · obtain ⟨hpx, hP1, hD1⟩ := hB
    rw [ht] at hP1
    obtain ⟨hP2, hD2⟩ := va_join (wr := wr) (w1 := Wd σ) hP hD isC isR h1 h2 h3 h4 hk1 hF hP1 hD1
    exact kx E ce q9 H1 locs1 hpx hP2 hD2 hS1 hce hcv hcl
  · obtain ⟨hP1, hD1⟩ := hB
    rw [ht] at hP1
    obtain ⟨hP2, hD2⟩ := va_join (wr := wr) (w1 := Wd u) hP hD isC isR h1 h2 h3 h4 hk1 hF hP1 hD1
    exact kk r u H1 locs1 hw hP2 hD2 hS1
theorem gc_xv {post : oh_St → Prop} {px : String → Prop} (hC : oh_Cx p s m meth c cc nL rt ws args own D tys A) (hKc : va_K D vwCl tysC s) (hT : oh_Tx A s s.heap) (hX : oh_Sx s) (hP : va_P D vwCl w H) (hD : va_D A w) (hS : va_S A s.heap H locs) (hM : oh_Xv l y wy rm D tysC Wd (.ref b :: As) σ post px) (cw : CallW R s args own C index y bytes maxL ret wy rm 1 6 n)
    (isC isR : List Nat) (h1 : isC.map (fun i => w[i]?) = (Wd σ).map some) (h0 : va_nd isC = true) (h2 : isR.map (fun i => w[i]?) = wr.map some) (h3 : va_nd isR = true) (h4 : ∀ i ∈ isR, i ∉ isC) (q0 ci : Nat) {T : u_T} {N : Nat} {fs : List Value} (he : (Wd σ)[q0]? = some (b, .inr (ci, fs))) (hc : vwCl[ci]? = some (C, T, N))
    (hn : As.length = n) (hsz : ls.size = nL) (hst : st0 = As.reverse ++ .ref b :: rest) (hW : (rest.map fun v => v.category).sum ≤ 8) (hdg : decode cc pc = .ok (.invokevirtual index, 3)) (hf : cells + 1 ≤ R.cells ∧ slots + 6 ≤ R.slots)
    (kx : ∀ (E : String) (ce : Cell) (q9 : Addr) (H1 : Heap) (locs1 : List Loc), px E → va_P D vwCl (wr ++ Wd σ) H1 → va_D A (wr ++ Wd σ) → va_S A s.heap H1 locs1 → H1[q9]? = some ce → ce.vm = .none → s.vm.findClass E = some ce.cls → vx_W p l e R s m args below meth c H1 locs1 (cells + 1) (slots + 6) Q (F0 m pc ls rest) q9)
    (kk : ∀ (u : oh_St) (H1 : Heap) (locs1 : List Loc), post u → va_P D vwCl (wr ++ Wd u) H1 → va_D A (wr ++ Wd u) → va_S A s.heap H1 locs1 → W p l e R s m args below meth c H1 locs1 (cells + 1) (slots + 6) Q (F0 m (pc + 3) ls rest)) : W p l e R s m args below meth c H locs cells slots Q (F0 m pc ls st0) := by
  obtain ⟨hx, hb, hml, hown, hts, hr, hlocks, hK, hN, hA⟩ := hC
  have hPc : va_P D vwCl (Wd σ) H := hP.sub isC (oh_subs h1)
  have hDc : va_D A (Wd σ) := hD.sub isC h0 h1
  have hF := va_free (wc := Wd σ) hD hS hA isC h1
  have hTH : oh_Tx A s H := hT.kept hS.2.1
  subst hst
  refine vx_callv (vx_runV (As := As) (rest := rest) ⟨hx, hb, hml, hown, hts⟩ (hM H.size) cw ⟨oh_blindX, va_recv hKc hPc hc he, fun U hU hW => ⟨rfl, oh_PrX.at hPc hKc hN hDc hF hTH hX U hU hW⟩⟩ rfl hn hsz rfl (lv_room hW) hdg hf) hS (fun q _ h => hF q h) hF (fun q _ h => hF q h) (fun E ce q9 u t H1 locs1 ht hvm hw hB hz1 hk1 hS1 hce hcv hcl => ?_) (fun u t H1 locs1 ht hvm hw hB hz1 hk1 hS1 => ?_)
  · obtain ⟨hpx, hP1, hD1⟩ := hB
    rw [ht] at hP1
    obtain ⟨hP2, hD2⟩ := va_join (wr := wr) (w1 := Wd σ) hP hD isC isR h1 h2 h3 h4 hk1 hF hP1 hD1
    exact kx E ce q9 H1 locs1 hpx hP2 hD2 hS1 hce hcv hcl
  · obtain ⟨hP1, hD1⟩ := hB
    rw [ht] at hP1
    obtain ⟨hP2, hD2⟩ := va_join (wr := wr) (w1 := Wd u) hP hD isC isR h1 h2 h3 h4 hk1 hF hP1 hD1
    exact kk u H1 locs1 hw hP2 hD2 hS1
end
