/-! ===== the worlds at the start ===== -/
theorem oh_s0_1 : oh_s0 1 = fun _ => 0 := by funext i; simp [oh_s0]
theorem oh_s0_20 : oh_s0 20 = fun _ => 0 := by funext i; simp [oh_s0]
theorem oh_s0_21 : oh_s0 21 = fun _ => 0 := by funext i; simp [oh_s0]
theorem oh_s0_22 : oh_s0 22 = fun _ => 0 := by funext i; simp [oh_s0]
theorem oh_s0_23 : oh_s0 23 = fun _ => 0 := by funext i; simp [oh_s0]
theorem oh_s0_24 : oh_s0 24 = fun _ => 0 := by funext i; simp [oh_s0]
theorem oh_s0_25 : oh_s0 25 = fun _ => 0 := by funext i; simp [oh_s0]
theorem oh_s0_26 : oh_s0 26 = fun _ => 0 := by funext i; simp [oh_s0]
theorem oh_s0_27 : oh_s0 27 = fun _ => 0 := by funext i; simp [oh_s0]
theorem oh_t0_1 : oh_t0 1 = fun _ => 0 := by funext i; simp [oh_t0]
theorem oh_t0_2 : oh_t0 2 = fun _ => 0 := by funext i; simp [oh_t0]
theorem oh_t0_3 : oh_t0 3 = fun _ => 0 := by funext i; simp [oh_t0]
theorem oh_t0_4 : oh_t0 4 = fun _ => 0 := by funext i; simp [oh_t0]
theorem oh_t0_5 : oh_t0 5 = fun _ => 0 := by funext i; simp [oh_t0]
theorem oh_t0_6 : oh_t0 6 = fun _ => 0 := by funext i; simp [oh_t0]
theorem oh_t0_7 : oh_t0 7 = fun _ => 0 := by funext i; simp [oh_t0]
theorem oh_t0_8 : oh_t0 8 = fun _ => 0 := by funext i; simp [oh_t0]
theorem oh_t0_9 : oh_t0 9 = fun _ => 0 := by funext i; simp [oh_t0]
theorem oh_t0_10 : oh_t0 10 = fun _ => 0 := by funext i; simp [oh_t0]
theorem oh_t0_11 : oh_t0 11 = fun _ => 0 := by funext i; simp [oh_t0]
theorem oh_t0_12 : oh_t0 12 = fun _ => 0 := by funext i; simp [oh_t0]
theorem oh_t0_14 : oh_t0 14 = fun _ => 0 := by funext i; simp [oh_t0]
theorem oh_t0_15 : oh_t0 15 = fun _ => 0 := by funext i; simp [oh_t0]
theorem oh_t0_16 : oh_t0 16 = fun _ => 0 := by funext i; simp [oh_t0]
theorem oh_t0_17 : oh_t0 17 = fun _ => 0 := by funext i; simp [oh_t0]
theorem oh_t0_20 : oh_t0 20 = fun _ => 0 := by funext i; simp [oh_t0]
theorem oh_t0_24 : oh_t0 24 = fun _ => 0 := by funext i; simp [oh_t0]
theorem oh_t0_13 : oh_t0 13 = upd (upd (upd (upd (fun _ => 0) 8 (1 : Int32)) 9 (1 : Int32)) 10 (1 : Int32)) 11 (1 : Int32) := by
  funext i
  show (if (13 : Nat) = 0 ∧ (i = 2 ∨ i = 8) then (-1 : Int32) else (if (13 : Nat) = 13 ∧ 8 ≤ i ∧ i ≤ 11 then 1 else 0)) = (if i = 11 then (1 : Int32) else if i = 10 then 1 else if i = 9 then 1 else if i = 8 then 1 else 0)
  rw [if_neg (by omega)]
  by_cases h : i = 8 ∨ i = 9 ∨ i = 10 ∨ i = 11
  · rw [if_pos (by omega)]
    rcases h with rfl | rfl | rfl | rfl <;> rfl
  · rw [if_neg (by omega), if_neg (by omega), if_neg (by omega), if_neg (by omega), if_neg (by omega)]
theorem oh_W0 (a : Nat → Nat) (k : Nat → ClassId) : oh_W a k oh_s0 = [ (a 0, .inr (7, [.ref (a 1), .ref (a 3), .ref (a 4), .ref (a 8), .int 0, .int 0, .int (-1)])), (a 1, .inr (4, [.ref (a 2)])), (a 2, .inl (k 0, 4096, .inl (fun _ => 0))), (a 3, .inr (6, [.int 0, .int 0, .int 0, .int 0, .int 0, .int (-1)])), (a 4, .inr (0, [.ref (a 3), .ref (a 5), .ref (a 6), .ref (a 7), .int 0, .int 0, .int 0])), (a 5, .inl (k 1, 2, .inr (.inr (.inr (.inr (fun i => some (a (15 + i)))))))), (a 6, .inl (k 2, 4, .inr (.inr (.inr (.inr (fun i => some (a (17 + i)))))))), (a 7, .inl (k 3, 6, .inr (.inr (.inr (.inr (fun i => some (a (9 + i)))))))), (a 8, .inr (5, [.ref (a 1), .ref (a 3), .ref (a 4)])), (a 9, .inr (3, [.int 0, .int 0, .int 0])), (a 10, .inr (3, [.int 0, .int 0, .int 0])), (a 11, .inr (3, [.int 0, .int 0, .int 0])), (a 12, .inr (3, [.int 0, .int 0, .int 0])), (a 13, .inr (3, [.int 0, .int 0, .int 0])), (a 14, .inr (3, [.int 0, .int 0, .int 0])), (a 15, .inr (1, [.ref (a 9), .int 0, .int 0, .int 0, .int 0, .int 0, .int 0, .int 0])), (a 16, .inr (1, [.ref (a 10), .int 0, .int 0, .int 0, .int 0, .int 0, .int 0, .int 0])), (a 17, .inr (2, [.ref (a (11)), .ref (a 21), .ref (a 25), .int 1, .int 1, .int 0, .int 0, .int 0, .int 0, .int 0])), (a 18, .inr (2, [.ref (a (12)), .ref (a 22), .ref (a 26), .int 1, .int 1, .int 0, .int 0, .int 0, .int 0, .int 0])), (a 19, .inr (2, [.ref (a (13)), .ref (a 23), .ref (a 27), .int 1, .int 1, .int 0, .int 0, .int 0, .int 0, .int 0])), (a 20, .inr (2, [.ref (a (14)), .ref (a 24), .ref (a 28), .int 1, .int 1, .int 0, .int 0, .int 0, .int 0, .int 0])), (a 21, .inl (k 0, 100, .inl (fun _ => 0))), (a 22, .inl (k 0, 100, .inl (fun _ => 0))), (a 23, .inl (k 0, 100, .inl (fun _ => 0))), (a 24, .inl (k 0, 100, .inl (fun _ => 0))), (a 25, .inl (k 0, 200, .inl (fun _ => 0))), (a 26, .inl (k 0, 200, .inl (fun _ => 0))), (a 27, .inl (k 0, 200, .inl (fun _ => 0))), (a 28, .inl (k 0, 200, .inl (fun _ => 0)))] := by
  unfold oh_W
  rw [oh_s0_1, oh_s0_20, oh_s0_21, oh_s0_22, oh_s0_23, oh_s0_24, oh_s0_25, oh_s0_26, oh_s0_27]
  rfl
theorem oh_V0 (a : Nat → Nat) (k : Nat → ClassId) : oh_V a k oh_t0 = [ (a 0, .inr (8, [.int 0, .ref (a 1), .int 0, .int 0, .int 0, .int 0, .int 0, .int 0, .int 0, .int 0, .int 0, .int (-1), .int 0, .int 0, .int 0, .int 0, .int (-1), .ref (a 2), .ref (a 3), .ref (a 4), .ref (a 5), .ref (a 6), .ref (a 7), .ref (a 8), .ref (a 9), .ref (a 10), .ref (a 11), .ref (a 12), .ref (a 13), .ref (a 14), .ref (a 15), .ref (a 16), .ref (a 17), .ref (a 18), .ref (a 19)])), (a 1, .inl (k 0, 4096, .inl (fun _ => 0))), (a 2, .inl (k 4, 12, .inl (fun _ => 0))), (a 3, .inl (k 4, 12, .inl (fun _ => 0))), (a 4, .inl (k 4, 12, .inl (fun _ => 0))), (a 5, .inl (k 4, 12, .inl (fun _ => 0))), (a 6, .inl (k 4, 12, .inl (fun _ => 0))), (a 7, .inl (k 4, 12, .inl (fun _ => 0))), (a 8, .inl (k 0, 12, .inl (fun _ => 0))), (a 9, .inl (k 0, 12, .inl (fun _ => 0))), (a 10, .inl (k 0, 12, .inl (fun _ => 0))), (a 11, .inl (k 0, 12, .inl (fun _ => 0))), (a 12, .inl (k 4, 12, .inl (fun _ => 0))), (a 13, .inl (k 0, 12, .inl (upd (upd (upd (upd (fun _ => 0) 8 (1 : Int32)) 9 (1 : Int32)) 10 (1 : Int32)) 11 (1 : Int32)))), (a 14, .inl (k 0, 12, .inl (fun _ => 0))), (a 15, .inl (k 0, 12, .inl (fun _ => 0))), (a 16, .inl (k 0, 12, .inl (fun _ => 0))), (a 17, .inl (k 0, 12, .inl (fun _ => 0))), (a 18, .inl (k 0, 1200, .inl (fun _ => 0))), (a 19, .inl (k 0, 2400, .inl (fun _ => 0)))] := by
  unfold oh_V
  rw [oh_t0_1, oh_t0_2, oh_t0_3, oh_t0_4, oh_t0_5, oh_t0_8, oh_t0_11, oh_t0_6, oh_t0_7, oh_t0_9, oh_t0_10, oh_t0_12, oh_t0_13, oh_t0_14, oh_t0_15, oh_t0_16, oh_t0_17, oh_t0_20, oh_t0_24]
  rfl
def oh_aM (q : Nat) (u : Nat → Nat) (i : Nat) : Nat := match i with | 0 => q | 1 => u 0 | 2 => u 1 | 3 => u 2 | 4 => u 3 | 5 => u 4 | 6 => u 5 | 7 => u 6 | 8 => u 27 | 9 => u 8 | 10 => u 10 | 11 => u 12 | 12 => u 16 | 13 => u 20 | 14 => u 24 | 15 => u 7 | 16 => u 9 | 17 => u 11 | 18 => u 15 | 19 => u 19 | 20 => u 23 | 21 => u 13 | 22 => u 17 | 23 => u 21 | 24 => u 25 | 25 => u 14 | 26 => u 18 | 27 => u 22 | 28 => u 26 | _ => 0
def oh_bM (q : Nat) (u : Nat → Nat) (i : Nat) : Nat := match i with | 0 => q | i + 1 => u i
/-- a row of references, by its places alone -/
theorem oh_refs {D : va_G} {cl : List vw_C} {w : va_W} {H : Heap} (hP : va_P D cl w H) {k q : Nat} {cA : ClassId} {n : Nat} {f f' : Nat → Option Nat} (hk : w[k]? = some (q, .inl (cA, n, .inr (.inr (.inr (.inr f)))))) (hf : ∀ i, i < n → f i = f' i) : va_P D cl (w.set k (q, .inl (cA, n, .inr (.inr (.inr (.inr f')))))) H := by
  intro j x hx
  by_cases e : j = k
  · subst e
    have hlt : j < w.length := (List.getElem?_eq_some_iff.mp hk).1
    rw [List.getElem?_set_self hlt] at hx
    cases hx
    have h1 := hP j _ hk
    show H[q]? = some (vp_cell _ _)
    have h2 : H[q]? = some (vp_cell cA (n, .inr (.inr (.inr (.inr f))))) := h1
    rw [h2, vp_cell_q, vp_cell_q]
    congr 1
    unfold arrV
    congr 1
    congr 1
    funext i
    show va_rf (f i.1) = va_rf (f' i.1)
    rw [hf i.1 i.2]
  · rw [List.getElem?_set_ne (Ne.symm e)] at hx
    exact hP j x hx
set_option maxHeartbeats 4000000 in
set_option maxRecDepth 100000 in
/-- the worlds that the constructors leave are the worlds of the states at the start -/
theorem oh_start {D : va_G} {A : Nat → Prop} {H : Heap} {k : Nat → ClassId} {kL : ClassId} {q0 q1 o : Nat} {u u' : Nat → Nat} (hP : va_P D vwCl (wcX7 k q0 u ++ (wcX8 k q1 u' ++ [(o, .inl (kL, 1, .inr (.inl (fun _ => 0))))])) H) (hD : va_D A (wcX7 k q0 u ++ (wcX8 k q1 u' ++ [(o, .inl (kL, 1, .inr (.inl (fun _ => 0))))]))) : va_P D vwCl (oh_LW (oh_aM q0 u) (oh_bM q1 u') k o kL (fun _ => 0) oh_s0 oh_t0) H ∧ va_D A (oh_LW (oh_aM q0 u) (oh_bM q1 u') k o kL (fun _ => 0) oh_s0 oh_t0) := by
  obtain ⟨w, hw⟩ : ∃ w, w = [0, 1, 2, 3, 4, 5, 6, 7, 28, 9, 11, 13, 17, 21, 25, 8, 10, 12, 16, 20, 24, 14, 18, 22, 26, 15, 19, 23, 27, 29, 30, 31, 32, 33, 34, 35, 36, 37, 38, 39, 40, 41, 42, 43, 44, 45, 46, 47, 48, 49].filterMap (fun i => (wcX7 k q0 u ++ (wcX8 k q1 u' ++ [(o, .inl (kL, 1, .inr (.inl (fun _ => 0))))]))[i]?) := ⟨_, rfl⟩
  have hP := hP.sub [0, 1, 2, 3, 4, 5, 6, 7, 28, 9, 11, 13, 17, 21, 25, 8, 10, 12, 16, 20, 24, 14, 18, 22, 26, 15, 19, 23, 27, 29, 30, 31, 32, 33, 34, 35, 36, 37, 38, 39, 40, 41, 42, 43, 44, 45, 46, 47, 48, 49] hw.symm
  have hD := hD.sub (ws' := w) [0, 1, 2, 3, 4, 5, 6, 7, 28, 9, 11, 13, 17, 21, 25, 8, 10, 12, 16, 20, 24, 14, 18, 22, 26, 15, 19, 23, 27, 29, 30, 31, 32, 33, 34, 35, 36, 37, 38, 39, 40, 41, 42, 43, 44, 45, 46, 47, 48, 49] (by decide) (by rw [hw]; rfl)
  have h5 : w[5]? = some (u 4, .inl (k 1, 2, .inr (.inr (.inr (.inr (va_up (va_up (fun _ => none) 0 (some (u 7))) 1 (some (u 9)))))))) := by rw [hw]; rfl
  have hP := oh_refs (f' := fun i => some (oh_aM q0 u (15 + i))) hP h5 (fun i hi => by rcases (by omega : i = 0 ∨ i = 1) with rfl | rfl <;> rfl)
  have hD := hD.set (e := .inl (k 1, 2, .inr (.inr (.inr (.inr (fun i => some (oh_aM q0 u (15 + i)))))))) h5
  have h6 : (w.set 5 (u 4, .inl (k 1, 2, .inr (.inr (.inr (.inr (fun i => some (oh_aM q0 u (15 + i)))))))))[6]? = some (u 5, .inl (k 2, 4, .inr (.inr (.inr (.inr (va_up (va_up (va_up (va_up (fun _ => none) 0 (some (u 11))) 1 (some (u 15))) 2 (some (u 19))) 3 (some (u 23)))))))) := by rw [hw]; rfl
  have hP := oh_refs (f' := fun i => some (oh_aM q0 u (17 + i))) hP h6 (fun i hi => by rcases (by omega : i = 0 ∨ i = 1 ∨ i = 2 ∨ i = 3) with rfl | rfl | rfl | rfl <;> rfl)
  have hD := hD.set (e := .inl (k 2, 4, .inr (.inr (.inr (.inr (fun i => some (oh_aM q0 u (17 + i)))))))) h6
  have h7 : ((w.set 5 (u 4, .inl (k 1, 2, .inr (.inr (.inr (.inr (fun i => some (oh_aM q0 u (15 + i))))))))).set 6 (u 5, .inl (k 2, 4, .inr (.inr (.inr (.inr (fun i => some (oh_aM q0 u (17 + i)))))))))[7]? = some (u 6, .inl (k 3, 6, .inr (.inr (.inr (.inr (va_up (va_up (va_up (va_up (va_up (va_up (fun _ => none) 0 (some (u 8))) 1 (some (u 10))) 2 (some (u 12))) 3 (some (u 16))) 4 (some (u 20))) 5 (some (u 24)))))))) := by rw [hw]; rfl
  have hP := oh_refs (f' := fun i => some (oh_aM q0 u (9 + i))) hP h7 (fun i hi => by rcases (by omega : i = 0 ∨ i = 1 ∨ i = 2 ∨ i = 3 ∨ i = 4 ∨ i = 5) with rfl | rfl | rfl | rfl | rfl | rfl <;> rfl)
  have hD := hD.set (e := .inl (k 3, 6, .inr (.inr (.inr (.inr (fun i => some (oh_aM q0 u (9 + i)))))))) h7
  have e : oh_LW (oh_aM q0 u) (oh_bM q1 u') k o kL (fun _ => 0) oh_s0 oh_t0 = ((w.set 5 (u 4, .inl (k 1, 2, .inr (.inr (.inr (.inr (fun i => some (oh_aM q0 u (15 + i))))))))).set 6 (u 5, .inl (k 2, 4, .inr (.inr (.inr (.inr (fun i => some (oh_aM q0 u (17 + i))))))))).set 7 (u 6, .inl (k 3, 6, .inr (.inr (.inr (.inr (fun i => some (oh_aM q0 u (9 + i)))))))) := by
    unfold oh_LW
    rw [oh_W0, oh_V0, hw]
    rfl
  rw [e]
  exact ⟨hP, hD⟩
set_option maxHeartbeats 4000000 in
set_option maxRecDepth 100000 in
/-- THE LAW, from its entry -/
theorem whole_start {p : Program} {e : Env} {s : State} {m : MethodId} {below : List Frame} {meth : Method} {c : Code} (l : Launch) (hst : l.stackTraces = false) {b L : Nat} {xs : Nat → Int32} (hL : L ≤ 2048) (C0 : lw_At p s m meth c b L xs) : W p l e room_1 s m #[Value.ref b] below meth c s.heap [] 0 0 (lw_Z below #[Value.ref b] s) (entryFrame m ([Value.ref b] : List Value).toArray 7) := by
  obtain ⟨hx, hb, hr, hml, hown, hts0, hX, hbl, hlocks, hgv⟩ := id C0
  have hts : ∀ w ∈ wsL_law, w.before #[Value.ref b] s = true := fun w h => hts0 w (wsL_law_in w h)
  obtain ⟨hN, hAO, hT, hSx, hNx⟩ := lw_given hts0 hgv
  obtain ⟨D, k, kL, hKL⟩ := lw_know hts0
  have hK : va_K D vwCl (oh_ty k) s := hKL.sub [0, 1, 2, 3, 4] rfl
  have hA : ∀ q : Nat, s.heap.size ≤ q → (fun q : Nat => s.heap.size ≤ q) q := fun _ h => h
  have hC : oh_Cx p s m meth c code 7 ret wsL_law #[Value.ref b] RL D (oh_ty k) (fun q => s.heap.size ≤ q) := ⟨hx, hb, hml, hown, hts, hr, hlocks, hK, hN, hA⟩
  have hCL : lw_Cx p l s m meth c D k kL b L xs := ⟨⟨hx, hb, hml, hown, hts, hr, hlocks, hKL, hN, hA⟩, hT, hSx, hNx, hX, hbl, hst, hL⟩
  have hS : va_S (fun q : Nat => s.heap.size ≤ q) s.heap s.heap [] := va_S.rf
  have hP : va_P D vwCl [] s.heap := fun k q h => by simp at h
  have hD : va_D (fun q : Nat => s.heap.size ≤ q) [] := ⟨fun i j p q h => by simp at h, fun k q h => by simp at h⟩
  have hl := lv_entry ([.ref b]) (n := 7) (Nat.le_of_ble_eq_true rfl)
  rw [lg_entry_eq]
  generalize (lg_sl ([.ref b]) ++ List.replicate (7 - (lg_sl ([.ref b])).length) Slot.unset).toArray = ls at hl ⊢
  have hl : lv_has ls 7 [(0, .ref b)] := hl
  refine va_new (ci := 7) (fs := [.null, .null, .null, .null, .int 0, .int 0, .int 0]) (C := RX7) (T := TX7) (N := 7) hx hb hts0 (fun w h => inX7 w (lw_iX7 w h)) tyX7 tyX7_ok hown (hts (.classLink RL 8 RX7) (by decide +kernel)) (hts (.instantiable RX7 7) (by decide +kernel)) (hts (.initialized RX7) (by decide +kernel)) hK hP hD hS hA rfl (fun j hj => by rcases (show j = 0 ∨ j = 1 ∨ j = 2 ∨ j = 3 ∨ j = 4 ∨ j = 5 ∨ j = 6 by omega) with rfl | rfl | rfl | rfl | rfl | rfl | rfl <;> rfl) (Nat.le_of_ble_eq_true rfl) (Nat.le_of_ble_eq_true rfl) dL_law_0 (fun q0 H hP hD hS => ?_)
  have hP : va_P D vwCl [(q0, .inr (7, [.null, .null, .null, .null, .int 0, .int 0, .int 0]))] H := hP
  have hD : va_D (fun q : Nat => s.heap.size ≤ q) [(q0, .inr (7, [.null, .null, .null, .null, .int 0, .int 0, .int 0]))] := hD
  refine lv_dup hx hb dL_law_3 rfl ?_
  refine oh_cci (As := []) (rest := [.ref q0]) (wr := []) hC hAO hP hD hS (ctX7_init l k D q0) (cwI 0 hts gL_law_X7_init rfl rfl rfl (hts (.initialized RX7) (by decide +kernel)) (hts (.methodLink RL 37 yX7_init) (by decide +kernel)) (hts (.instanceMethod yX7_init) (by decide +kernel)) rfl (by decide +kernel) ⟨Nat.le_of_ble_eq_true rfl, Nat.le_of_ble_eq_true rfl⟩) [0] [] rfl rfl (by decide) (by decide) rfl hl.1 rfl (Nat.le_of_ble_eq_true rfl) dL_law_4 ⟨Nat.le_of_ble_eq_true rfl, Nat.le_of_ble_eq_true rfl⟩ (fun u H locs hP hD hS => ?_)
  have hP : va_P D vwCl (wcX7 k q0 u) H := hP
  have hD : va_D (fun q : Nat => s.heap.size ≤ q) (wcX7 k q0 u) := hD
  refine lv_astore_n (lv' := [(1, .ref q0), (0, .ref b)]) hx hb dL_law_7 rfl hl (by decide) rfl (fun ls hl => ?_)
  refine va_new (ci := 8) (fs := [.int 0, .null, .int 0, .int 0, .int 0, .int 0, .int 0, .int 0, .int 0, .int 0, .int 0, .int 0, .int 0, .int 0, .int 0, .int 0, .int 0, .null, .null, .null, .null, .null, .null, .null, .null, .null, .null, .null, .null, .null, .null, .null, .null, .null, .null]) (C := RX8) (T := TX8) (N := 35) hx hb hts0 (fun w h => inX8 w (lw_iX8 w h)) tyX8 tyX8_ok hown (hts (.classLink RL 38 RX8) (by decide +kernel)) (hts (.instantiable RX8 35) (by decide +kernel)) (hts (.initialized RX8) (by decide +kernel)) hK hP hD hS hA rfl (fun j hj => by rcases (show j = 0 ∨ j = 1 ∨ j = 2 ∨ j = 3 ∨ j = 4 ∨ j = 5 ∨ j = 6 ∨ j = 7 ∨ j = 8 ∨ j = 9 ∨ j = 10 ∨ j = 11 ∨ j = 12 ∨ j = 13 ∨ j = 14 ∨ j = 15 ∨ j = 16 ∨ j = 17 ∨ j = 18 ∨ j = 19 ∨ j = 20 ∨ j = 21 ∨ j = 22 ∨ j = 23 ∨ j = 24 ∨ j = 25 ∨ j = 26 ∨ j = 27 ∨ j = 28 ∨ j = 29 ∨ j = 30 ∨ j = 31 ∨ j = 32 ∨ j = 33 ∨ j = 34 by omega) with rfl | rfl | rfl | rfl | rfl | rfl | rfl | rfl | rfl | rfl | rfl | rfl | rfl | rfl | rfl | rfl | rfl | rfl | rfl | rfl | rfl | rfl | rfl | rfl | rfl | rfl | rfl | rfl | rfl | rfl | rfl | rfl | rfl | rfl | rfl <;> rfl) (Nat.le_of_ble_eq_true rfl) (Nat.le_of_ble_eq_true rfl) dL_law_8 (fun q1 H hP hD hS => ?_)
  refine lv_dup hx hb dL_law_11 rfl ?_
  refine oh_cci (As := []) (rest := [.ref q1]) (wr := wcX7 k q0 u) hC hAO hP hD hS (ctX8_init l k D q1) (cwI 0 hts gL_law_X8_init rfl rfl rfl (hts (.initialized RX8) (by decide +kernel)) (hts (.methodLink RL 40 yX8_init) (by decide +kernel)) (hts (.instanceMethod yX8_init) (by decide +kernel)) rfl (by decide +kernel) ⟨Nat.le_of_ble_eq_true rfl, Nat.le_of_ble_eq_true rfl⟩) [29] [0, 1, 2, 3, 4, 5, 6, 7, 8, 9, 10, 11, 12, 13, 14, 15, 16, 17, 18, 19, 20, 21, 22, 23, 24, 25, 26, 27, 28] rfl rfl (by decide) (by decide) rfl hl.1 rfl (Nat.le_of_ble_eq_true rfl) dL_law_12 ⟨Nat.le_of_ble_eq_true rfl, Nat.le_of_ble_eq_true rfl⟩ (fun u' H locs hP hD hS => ?_)
  refine lv_astore_n (lv' := [(2, .ref q1), (1, .ref q0), (0, .ref b)]) hx hb dL_law_15 rfl hl (by decide) rfl (fun ls hl => ?_)
  refine lv_iconst (v := (1 : Int32)) hx hb dL_law_16 (by decide) ?_
  refine va_newa (atype := .long) (ty := .long) (N' := 1) (a0 := (1, .inr (.inl (fun _ => 0)))) hx hb (hts (.arrayClass .long) (by decide +kernel)) rfl hKL hP hD hS hA (fun _ => rfl) (by decide +kernel) (by decide +kernel) (by decide +kernel) (Nat.le_of_ble_eq_true rfl) (Nat.le_of_ble_eq_true rfl) dL_law_17 (fun o cA H hK9 hP hD hS => ?_)
  obtain rfl : cA = kL := oh_cA (i := 6) (j := 5) hK9 rfl rfl
  refine lv_astore_n (lv' := [(3, .ref o), (2, .ref q1), (1, .ref q0), (0, .ref b)]) hx hb dL_law_19 rfl hl (by decide) rfl (fun ls hl => ?_)
  refine lv_iconst (v := (0 : Int32)) hx hb dL_law_20 (by decide) ?_
  refine lv_istore (lv' := [(4, .int 0), (3, .ref o), (2, .ref q1), (1, .ref q0), (0, .ref b)]) hx hb dL_law_21 hl (by decide) rfl (fun ls hl => ?_)
  rw [List.append_assoc] at hP hD
  obtain ⟨hP, hD⟩ := oh_start hP hD
  refine W.widen (k := 50 + 0) (n := 13330 + 6 * 0) (Nat.le_of_ble_eq_true rfl) (Nat.le_of_ble_eq_true rfl) ?_
  exact law_loop hCL (L + 1) 0 (fun _ => 0) oh_s0 oh_t0 H _ ls (by omega) (by omega) oh_r0.L ⟨hP, hD, hS⟩ (lv_sub hl [0, 4, 3, 2, 1] rfl)

