-- OctalHouse$Line.<init>
def wcX3 (k : Nat → ClassId) (h0 : Nat) (u : Nat → Nat) : va_W := [(h0, .inr (3, [.int 0, .int 0, .int 0]))]
set_option maxHeartbeats 1000000 in
set_option maxRecDepth 100000 in
theorem ctX3_init (l : Launch) (k : Nat → ClassId) (D : va_G) (h0 : Nat) : oh_Mc l yX3_init wsX3_init { frames := 1, cells := 0, slots := 0, locals := 20 } D (oh_ty k) [.ref h0] [(h0, .inr (3, [.int 0, .int 0, .int 0]))] (wcX3 k h0) 0 0 := by
  refine oh_inc (cc := cX3_init) (nL := 1) (by decide) rfl (Nat.le_of_ble_eq_true rfl) ?_
  intro p e s m below meth c A ls hC hAO hin hP hD hS hl
  obtain ⟨hx, hb, hml, hown, hts, hr, hlocks, hK, hN, hA⟩ := id hC
  have hl : lv_has ls 1 [(0, .ref h0)] := hl
  refine lv_aload_n hx hb dX3_init_0 rfl (lv_at hl 0 rfl) ?_
  refine W.objInit hx hb hown (hts (.methodLink RX3 1 objectInit) (by decide +kernel)) (hts (.instanceMethod objectInit) (by decide +kernel)) (hts (.code objectInit ⟨#[0xb1]⟩ 1 none) (by decide +kernel)) rfl (by rw [hml]; exact hl.1) rfl dX3_init_1 (Nat.le_of_ble_eq_true rfl) (Nat.le_of_ble_eq_true rfl) ?_
  refine W.eq (g2 := F0 m 4 ls []) rfl ?_
  refine W.widen (k := 0) (n := 0) (Nat.le_of_ble_eq_true rfl) (by exact Nat.le_of_ble_eq_true rfl) ?_
  exact oh_retc hC (fun j =>  0) (hP.sub [0] rfl) (hD.sub [0] (by decide) rfl) hS dX3_init_4
-- OctalHouse$Memory.<init>
theorem inX4_init_X4 : ∀ w ∈ u_ws RX4 TX4 1, w ∈ wsX4_init := by decide +kernel
def wcX4 (k : Nat → ClassId) (h0 : Nat) (u : Nat → Nat) : va_W := [(h0, .inr (4, [.ref (u 0)])), ((u 0), .inl (k 0, 4096, .inl (fun _ => 0)))]
set_option maxHeartbeats 1000000 in
set_option maxRecDepth 100000 in
theorem ctX4_init (l : Launch) (k : Nat → ClassId) (D : va_G) (h0 : Nat) : oh_Mc l yX4_init wsX4_init { frames := 1, cells := 1, slots := 4096, locals := 20 } D (oh_ty k) [.ref h0] [(h0, .inr (4, [.null]))] (wcX4 k h0) 1 4096 := by
  refine oh_inc (cc := cX4_init) (nL := 1) (by decide) rfl (Nat.le_of_ble_eq_true rfl) ?_
  intro p e s m below meth c A ls hC hAO hin hP hD hS hl
  obtain ⟨hx, hb, hml, hown, hts, hr, hlocks, hK, hN, hA⟩ := id hC
  have hl : lv_has ls 1 [(0, .ref h0)] := hl
  refine lv_aload_n hx hb dX4_init_0 rfl (lv_at hl 0 rfl) ?_
  refine W.objInit hx hb hown (hts (.methodLink RX4 3 objectInit) (by decide +kernel)) (hts (.instanceMethod objectInit) (by decide +kernel)) (hts (.code objectInit ⟨#[0xb1]⟩ 1 none) (by decide +kernel)) rfl (by rw [hml]; exact hl.1) rfl dX4_init_1 (Nat.le_of_ble_eq_true rfl) (Nat.le_of_ble_eq_true rfl) ?_
  refine W.eq (g2 := F0 m 4 ls []) rfl ?_
  refine lv_aload_n hx hb dX4_init_4 rfl (lv_at hl 0 rfl) ?_
  refine lv_sipush (v := (4096 : Int32)) hx hb dX4_init_5 (by decide) ?_
  obtain ⟨Nq0, hNq0⟩ : ∃ N : Nat, N = 4096 := ⟨_, rfl⟩
  refine va_newa (atype := .int) (ty := .int) (N' := Nq0) (a0 := (Nq0, .inl (fun _ => 0))) hx hb (hts (.arrayClass .int) (by decide +kernel)) rfl hK hP hD hS hA (oh_newcI _) (by decide +kernel) (by rw [hNq0]; decide +kernel) (by rw [hNq0]; decide +kernel) (Nat.le_of_ble_eq_true rfl) (by (try rw [hNq0]); exact Nat.le_of_ble_eq_true rfl) dX4_init_8 (fun q0 cA H hK9 hP hD hS => ?_)
  obtain rfl : cA = k 0 := oh_cA (i := 5) (j := 0) hK9 rfl rfl
  have hP : va_P D vwCl [(h0, .inr (4, [.null])), (q0, .inl (k 0, Nq0, .inl (fun _ => 0)))] H := hP
  have hD : va_D A [(h0, .inr (4, [.null])), (q0, .inl (k 0, Nq0, .inl (fun _ => 0)))] := hD
  refine va_putF (D := D) (ci := 4) (v := .ref q0) (ty := tyX4 0) (C := RX4) (T := TX4) (N := 1) hx hb hts inX4_init_X4 tyX4 tyX4_ok nmX4 hown hK hP hD hS 0 rfl rfl 0 (by decide) (hts (.fieldLink RX4 9 "OctalHouse$Memory" "words" (TX4 0).2.2.1) (by decide +kernel)) (fun _ h9 => h9) rfl hin rfl (tyX4_ok 0 (by decide)) rfl rfl (by simp) dX4_init_10 (fun H locs hP hD hS => ?_)
  have hP : va_P D vwCl [(h0, .inr (4, [.ref q0])), (q0, .inl (k 0, Nq0, .inl (fun _ => 0)))] H := hP
  have hD : va_D A [(h0, .inr (4, [.ref q0])), (q0, .inl (k 0, Nq0, .inl (fun _ => 0)))] := hD
  refine W.widen (k := 1) (n := 4096) (Nat.le_of_ble_eq_true rfl) (by (try rw [hNq0]); exact Nat.le_of_ble_eq_true rfl) ?_
  subst hNq0
  exact oh_retc hC (fun j => if j = 0 then q0 else 0) (hP.sub [0, 1] rfl) (hD.sub [0, 1] (by decide) rfl) hS dX4_init_13
-- OctalHouse$Registers.<init>
theorem inX6_init_X6 : ∀ w ∈ u_ws RX6 TX6 6, w ∈ wsX6_init := by decide +kernel
def wcX6 (k : Nat → ClassId) (h0 : Nat) (u : Nat → Nat) : va_W := [(h0, .inr (6, [.int 0, .int 0, .int 0, .int 0, .int 0, .int (-1 : Int32)]))]
set_option maxHeartbeats 1000000 in
set_option maxRecDepth 100000 in
theorem ctX6_init (l : Launch) (k : Nat → ClassId) (D : va_G) (h0 : Nat) : oh_Mc l yX6_init wsX6_init { frames := 1, cells := 0, slots := 0, locals := 20 } D (oh_ty k) [.ref h0] [(h0, .inr (6, [.int 0, .int 0, .int 0, .int 0, .int 0, .int 0]))] (wcX6 k h0) 0 0 := by
  refine oh_inc (cc := cX6_init) (nL := 1) (by decide) rfl (Nat.le_of_ble_eq_true rfl) ?_
  intro p e s m below meth c A ls hC hAO hin hP hD hS hl
  obtain ⟨hx, hb, hml, hown, hts, hr, hlocks, hK, hN, hA⟩ := id hC
  have hl : lv_has ls 1 [(0, .ref h0)] := hl
  refine lv_aload_n hx hb dX6_init_0 rfl (lv_at hl 0 rfl) ?_
  refine W.objInit hx hb hown (hts (.methodLink RX6 3 objectInit) (by decide +kernel)) (hts (.instanceMethod objectInit) (by decide +kernel)) (hts (.code objectInit ⟨#[0xb1]⟩ 1 none) (by decide +kernel)) rfl (by rw [hml]; exact hl.1) rfl dX6_init_1 (Nat.le_of_ble_eq_true rfl) (Nat.le_of_ble_eq_true rfl) ?_
  refine W.eq (g2 := F0 m 4 ls []) rfl ?_
  refine lv_aload_n hx hb dX6_init_4 rfl (lv_at hl 0 rfl) ?_
  refine lv_iconst (v := (-1 : Int32)) hx hb dX6_init_5 (by decide) ?_
  refine va_put (D := D) (ci := 6) (v := .int (-1 : Int32)) (ty := tyX6 5) (C := RX6) (T := TX6) (N := 6) hx hb hts inX6_init_X6 tyX6 tyX6_ok nmX6 hown hK hP hD hS 0 rfl rfl 5 (by decide) (hts (.fieldLink RX6 9 "OctalHouse$Registers" "haltCode" (TX6 5).2.2.1) (by decide +kernel)) (fun _ h9 => h9) rfl (tyX6_ok 5 (by decide)) rfl rfl (by simp) dX6_init_6 (fun H locs hP hD hS => ?_)
  have hP : va_P D vwCl [(h0, .inr (6, [.int 0, .int 0, .int 0, .int 0, .int 0, .int (-1 : Int32)]))] H := hP
  have hD : va_D A [(h0, .inr (6, [.int 0, .int 0, .int 0, .int 0, .int 0, .int (-1 : Int32)]))] := hD
  refine W.widen (k := 0) (n := 0) (Nat.le_of_ble_eq_true rfl) (by exact Nat.le_of_ble_eq_true rfl) ?_
  exact oh_retc hC (fun j =>  0) (hP.sub [0] rfl) (hD.sub [0] (by decide) rfl) hS dX6_init_9
-- OctalHouse$Channel.<init>
theorem inX1_init_X1 : ∀ w ∈ u_ws RX1 TX1 8, w ∈ wsX1_init := by decide +kernel
theorem inX1_init_X3 : ∀ w ∈ u_ws RX3 TX3 3, w ∈ wsX1_init := by decide +kernel
def wcX1 (k : Nat → ClassId) (h0 : Nat) (u : Nat → Nat) : va_W := [(h0, .inr (1, [.ref (u 0), .int 0, .int 0, .int 0, .int 0, .int 0, .int 0, .int 0])), ((u 0), .inr (3, [.int 0, .int 0, .int 0]))]
set_option maxHeartbeats 1000000 in
set_option maxRecDepth 100000 in
theorem ctX1_init (l : Launch) (k : Nat → ClassId) (D : va_G) (h0 : Nat) : oh_Mc l yX1_init wsX1_init { frames := 2, cells := 1, slots := 3, locals := 40 } D (oh_ty k) [.ref h0] [(h0, .inr (1, [.null, .int 0, .int 0, .int 0, .int 0, .int 0, .int 0, .int 0]))] (wcX1 k h0) 1 3 := by
  refine oh_inc (cc := cX1_init) (nL := 1) (by decide) rfl (Nat.le_of_ble_eq_true rfl) ?_
  intro p e s m below meth c A ls hC hAO hin hP hD hS hl
  obtain ⟨hx, hb, hml, hown, hts, hr, hlocks, hK, hN, hA⟩ := id hC
  have hl : lv_has ls 1 [(0, .ref h0)] := hl
  refine lv_aload_n hx hb dX1_init_0 rfl (lv_at hl 0 rfl) ?_
  refine W.objInit hx hb hown (hts (.methodLink RX1 3 objectInit) (by decide +kernel)) (hts (.instanceMethod objectInit) (by decide +kernel)) (hts (.code objectInit ⟨#[0xb1]⟩ 1 none) (by decide +kernel)) rfl (by rw [hml]; exact hl.1) rfl dX1_init_1 (Nat.le_of_ble_eq_true rfl) (Nat.le_of_ble_eq_true rfl) ?_
  refine W.eq (g2 := F0 m 4 ls []) rfl ?_
  refine lv_aload_n hx hb dX1_init_4 rfl (lv_at hl 0 rfl) ?_
  refine va_new (ci := 3) (fs := [.int 0, .int 0, .int 0]) (C := RX3) (T := TX3) (N := 3) hx hb hts inX1_init_X3 tyX3 tyX3_ok hown (hts (.classLink RX1 9 RX3) (by decide +kernel)) (hts (.instantiable RX3 3) (by decide +kernel)) (hts (.initialized RX3) (by decide +kernel)) hK hP hD hS hA rfl (fun j hj => by rcases (show j = 0 ∨ j = 1 ∨ j = 2 by omega) with rfl | rfl | rfl <;> rfl) (Nat.le_of_ble_eq_true rfl) (Nat.le_of_ble_eq_true rfl) dX1_init_5 (fun q0 H hP hD hS => ?_)
  have hP : va_P D vwCl [(h0, .inr (1, [.null, .int 0, .int 0, .int 0, .int 0, .int 0, .int 0, .int 0])), (q0, .inr (3, [.int 0, .int 0, .int 0]))] H := hP
  have hD : va_D A [(h0, .inr (1, [.null, .int 0, .int 0, .int 0, .int 0, .int 0, .int 0, .int 0])), (q0, .inr (3, [.int 0, .int 0, .int 0]))] := hD
  refine lv_dup hx hb dX1_init_8 rfl ?_
  refine oh_ccn (As := []) (rest := [.ref q0, .ref h0]) (wr := [(h0, .inr (1, [.null, .int 0, .int 0, .int 0, .int 0, .int 0, .int 0, .int 0]))]) hC hAO hP hD hS (ctX3_init l k D q0) ⟨va_cnB 0 hts gX1_init_X3_init_n11 rfl rfl rfl (oh_nM hN (by decide +kernel)) (hts (.initialized RX3) (by decide +kernel)) (by decide +kernel) ⟨Nat.le_of_ble_eq_true rfl, Nat.le_of_ble_eq_true rfl⟩, rfl, hts (.instanceMethod yX3_init) (by decide +kernel)⟩ [1] [0] rfl rfl (by decide) (by decide) rfl hl.1 rfl (Nat.le_of_ble_eq_true rfl) dX1_init_9 ⟨Nat.le_of_ble_eq_true rfl, Nat.le_of_ble_eq_true rfl⟩ (fun u1 H locs hP hD hS => ?_)
  have hP : va_P D vwCl [(h0, .inr (1, [.null, .int 0, .int 0, .int 0, .int 0, .int 0, .int 0, .int 0])), (q0, .inr (3, [.int 0, .int 0, .int 0]))] H := hP
  have hD : va_D A [(h0, .inr (1, [.null, .int 0, .int 0, .int 0, .int 0, .int 0, .int 0, .int 0])), (q0, .inr (3, [.int 0, .int 0, .int 0]))] := hD
  refine va_putF (D := D) (ci := 1) (v := .ref q0) (ty := tyX1 0) (C := RX1) (T := TX1) (N := 8) hx hb hts inX1_init_X1 tyX1 tyX1_ok nmX1 hown hK hP hD hS 0 rfl rfl 0 (by decide) (hts (.fieldLink RX1 12 "OctalHouse$Channel" "line" (TX1 0).2.2.1) (by decide +kernel)) (fun _ h9 => h9) rfl hin rfl (tyX1_ok 0 (by decide)) rfl rfl (by simp) dX1_init_12 (fun H locs hP hD hS => ?_)
  have hP : va_P D vwCl [(h0, .inr (1, [.ref q0, .int 0, .int 0, .int 0, .int 0, .int 0, .int 0, .int 0])), (q0, .inr (3, [.int 0, .int 0, .int 0]))] H := hP
  have hD : va_D A [(h0, .inr (1, [.ref q0, .int 0, .int 0, .int 0, .int 0, .int 0, .int 0, .int 0])), (q0, .inr (3, [.int 0, .int 0, .int 0]))] := hD
  refine W.widen (k := 1) (n := 3) (Nat.le_of_ble_eq_true rfl) (by exact Nat.le_of_ble_eq_true rfl) ?_
  exact oh_retc hC (fun j => if j = 0 then q0 else 0) (hP.sub [0, 1] rfl) (hD.sub [0, 1] (by decide) rfl) hS dX1_init_15
-- OctalHouse$Device.<init>
theorem inX2_init_X2 : ∀ w ∈ u_ws RX2 TX2 10, w ∈ wsX2_init := by decide +kernel
theorem inX2_init_X3 : ∀ w ∈ u_ws RX3 TX3 3, w ∈ wsX2_init := by decide +kernel
def wcX2 (k : Nat → ClassId) (h0 : Nat) (u : Nat → Nat) : va_W := [(h0, .inr (2, [.ref (u 0), .ref (u 1), .ref (u 2), .int (1 : Int32), .int (1 : Int32), .int 0, .int 0, .int 0, .int 0, .int 0])), ((u 0), .inr (3, [.int 0, .int 0, .int 0])), ((u 1), .inl (k 0, 100, .inl (fun _ => 0))), ((u 2), .inl (k 0, 200, .inl (fun _ => 0)))]
set_option maxHeartbeats 1000000 in
set_option maxRecDepth 100000 in
theorem ctX2_init (l : Launch) (k : Nat → ClassId) (D : va_G) (h0 : Nat) : oh_Mc l yX2_init wsX2_init { frames := 2, cells := 3, slots := 303, locals := 40 } D (oh_ty k) [.ref h0] [(h0, .inr (2, [.null, .null, .null, .int 0, .int 0, .int 0, .int 0, .int 0, .int 0, .int 0]))] (wcX2 k h0) 3 303 := by
  refine oh_inc (cc := cX2_init) (nL := 1) (by decide) rfl (Nat.le_of_ble_eq_true rfl) ?_
  intro p e s m below meth c A ls hC hAO hin hP hD hS hl
  obtain ⟨hx, hb, hml, hown, hts, hr, hlocks, hK, hN, hA⟩ := id hC
  have hl : lv_has ls 1 [(0, .ref h0)] := hl
  refine lv_aload_n hx hb dX2_init_0 rfl (lv_at hl 0 rfl) ?_
  refine W.objInit hx hb hown (hts (.methodLink RX2 3 objectInit) (by decide +kernel)) (hts (.instanceMethod objectInit) (by decide +kernel)) (hts (.code objectInit ⟨#[0xb1]⟩ 1 none) (by decide +kernel)) rfl (by rw [hml]; exact hl.1) rfl dX2_init_1 (Nat.le_of_ble_eq_true rfl) (Nat.le_of_ble_eq_true rfl) ?_
  refine W.eq (g2 := F0 m 4 ls []) rfl ?_
  refine lv_aload_n hx hb dX2_init_4 rfl (lv_at hl 0 rfl) ?_
  refine va_new (ci := 3) (fs := [.int 0, .int 0, .int 0]) (C := RX3) (T := TX3) (N := 3) hx hb hts inX2_init_X3 tyX3 tyX3_ok hown (hts (.classLink RX2 9 RX3) (by decide +kernel)) (hts (.instantiable RX3 3) (by decide +kernel)) (hts (.initialized RX3) (by decide +kernel)) hK hP hD hS hA rfl (fun j hj => by rcases (show j = 0 ∨ j = 1 ∨ j = 2 by omega) with rfl | rfl | rfl <;> rfl) (Nat.le_of_ble_eq_true rfl) (Nat.le_of_ble_eq_true rfl) dX2_init_5 (fun q0 H hP hD hS => ?_)
  have hP : va_P D vwCl [(h0, .inr (2, [.null, .null, .null, .int 0, .int 0, .int 0, .int 0, .int 0, .int 0, .int 0])), (q0, .inr (3, [.int 0, .int 0, .int 0]))] H := hP
  have hD : va_D A [(h0, .inr (2, [.null, .null, .null, .int 0, .int 0, .int 0, .int 0, .int 0, .int 0, .int 0])), (q0, .inr (3, [.int 0, .int 0, .int 0]))] := hD
  refine lv_dup hx hb dX2_init_8 rfl ?_
  refine oh_ccn (As := []) (rest := [.ref q0, .ref h0]) (wr := [(h0, .inr (2, [.null, .null, .null, .int 0, .int 0, .int 0, .int 0, .int 0, .int 0, .int 0]))]) hC hAO hP hD hS (ctX3_init l k D q0) ⟨va_cnB 0 hts gX2_init_X3_init_n11 rfl rfl rfl (oh_nM hN (by decide +kernel)) (hts (.initialized RX3) (by decide +kernel)) (by decide +kernel) ⟨Nat.le_of_ble_eq_true rfl, Nat.le_of_ble_eq_true rfl⟩, rfl, hts (.instanceMethod yX3_init) (by decide +kernel)⟩ [1] [0] rfl rfl (by decide) (by decide) rfl hl.1 rfl (Nat.le_of_ble_eq_true rfl) dX2_init_9 ⟨Nat.le_of_ble_eq_true rfl, Nat.le_of_ble_eq_true rfl⟩ (fun u1 H locs hP hD hS => ?_)
  have hP : va_P D vwCl [(h0, .inr (2, [.null, .null, .null, .int 0, .int 0, .int 0, .int 0, .int 0, .int 0, .int 0])), (q0, .inr (3, [.int 0, .int 0, .int 0]))] H := hP
  have hD : va_D A [(h0, .inr (2, [.null, .null, .null, .int 0, .int 0, .int 0, .int 0, .int 0, .int 0, .int 0])), (q0, .inr (3, [.int 0, .int 0, .int 0]))] := hD
  refine va_putF (D := D) (ci := 2) (v := .ref q0) (ty := tyX2 0) (C := RX2) (T := TX2) (N := 10) hx hb hts inX2_init_X2 tyX2 tyX2_ok nmX2 hown hK hP hD hS 0 rfl rfl 0 (by decide) (hts (.fieldLink RX2 12 "OctalHouse$Device" "line" (TX2 0).2.2.1) (by decide +kernel)) (fun _ h9 => h9) rfl hin rfl (tyX2_ok 0 (by decide)) rfl rfl (by simp) dX2_init_12 (fun H locs hP hD hS => ?_)
  have hP : va_P D vwCl [(h0, .inr (2, [.ref q0, .null, .null, .int 0, .int 0, .int 0, .int 0, .int 0, .int 0, .int 0])), (q0, .inr (3, [.int 0, .int 0, .int 0]))] H := hP
  have hD : va_D A [(h0, .inr (2, [.ref q0, .null, .null, .int 0, .int 0, .int 0, .int 0, .int 0, .int 0, .int 0])), (q0, .inr (3, [.int 0, .int 0, .int 0]))] := hD
  refine lv_aload_n hx hb dX2_init_15 rfl (lv_at hl 0 rfl) ?_
  refine lv_bipush (v := (100 : Int32)) hx hb dX2_init_16 (by decide) ?_
  obtain ⟨Nq2, hNq2⟩ : ∃ N : Nat, N = 100 := ⟨_, rfl⟩
  refine va_newa (atype := .int) (ty := .int) (N' := Nq2) (a0 := (Nq2, .inl (fun _ => 0))) hx hb (hts (.arrayClass .int) (by decide +kernel)) rfl hK hP hD hS hA (oh_newcI _) (by decide +kernel) (by rw [hNq2]; decide +kernel) (by rw [hNq2]; decide +kernel) (Nat.le_of_ble_eq_true rfl) (by (try rw [hNq2]); exact Nat.le_of_ble_eq_true rfl) dX2_init_18 (fun q2 cA H hK9 hP hD hS => ?_)
  obtain rfl : cA = k 0 := oh_cA (i := 5) (j := 0) hK9 rfl rfl
  have hP : va_P D vwCl [(h0, .inr (2, [.ref q0, .null, .null, .int 0, .int 0, .int 0, .int 0, .int 0, .int 0, .int 0])), (q0, .inr (3, [.int 0, .int 0, .int 0])), (q2, .inl (k 0, Nq2, .inl (fun _ => 0)))] H := hP
  have hD : va_D A [(h0, .inr (2, [.ref q0, .null, .null, .int 0, .int 0, .int 0, .int 0, .int 0, .int 0, .int 0])), (q0, .inr (3, [.int 0, .int 0, .int 0])), (q2, .inl (k 0, Nq2, .inl (fun _ => 0)))] := hD
  refine va_putF (D := D) (ci := 2) (v := .ref q2) (ty := tyX2 1) (C := RX2) (T := TX2) (N := 10) hx hb hts inX2_init_X2 tyX2 tyX2_ok nmX2 hown hK hP hD hS 0 rfl rfl 1 (by decide) (hts (.fieldLink RX2 18 "OctalHouse$Device" "tape" (TX2 1).2.2.1) (by decide +kernel)) (fun _ h9 => h9) rfl hin rfl (tyX2_ok 1 (by decide)) rfl rfl (by simp) dX2_init_20 (fun H locs hP hD hS => ?_)
  have hP : va_P D vwCl [(h0, .inr (2, [.ref q0, .ref q2, .null, .int 0, .int 0, .int 0, .int 0, .int 0, .int 0, .int 0])), (q0, .inr (3, [.int 0, .int 0, .int 0])), (q2, .inl (k 0, Nq2, .inl (fun _ => 0)))] H := hP
  have hD : va_D A [(h0, .inr (2, [.ref q0, .ref q2, .null, .int 0, .int 0, .int 0, .int 0, .int 0, .int 0, .int 0])), (q0, .inr (3, [.int 0, .int 0, .int 0])), (q2, .inl (k 0, Nq2, .inl (fun _ => 0)))] := hD
  refine lv_aload_n hx hb dX2_init_23 rfl (lv_at hl 0 rfl) ?_
  refine lv_sipush (v := (200 : Int32)) hx hb dX2_init_24 (by decide) ?_
  obtain ⟨Nq3, hNq3⟩ : ∃ N : Nat, N = 200 := ⟨_, rfl⟩
  refine va_newa (atype := .int) (ty := .int) (N' := Nq3) (a0 := (Nq3, .inl (fun _ => 0))) hx hb (hts (.arrayClass .int) (by decide +kernel)) rfl hK hP hD hS hA (oh_newcI _) (by decide +kernel) (by rw [hNq3]; decide +kernel) (by rw [hNq3]; decide +kernel) (Nat.le_of_ble_eq_true rfl) (by (try rw [hNq2]); (try rw [hNq3]); exact Nat.le_of_ble_eq_true rfl) dX2_init_27 (fun q3 cA H hK9 hP hD hS => ?_)
  obtain rfl : cA = k 0 := oh_cA (i := 5) (j := 0) hK9 rfl rfl
  have hP : va_P D vwCl [(h0, .inr (2, [.ref q0, .ref q2, .null, .int 0, .int 0, .int 0, .int 0, .int 0, .int 0, .int 0])), (q0, .inr (3, [.int 0, .int 0, .int 0])), (q2, .inl (k 0, Nq2, .inl (fun _ => 0))), (q3, .inl (k 0, Nq3, .inl (fun _ => 0)))] H := hP
  have hD : va_D A [(h0, .inr (2, [.ref q0, .ref q2, .null, .int 0, .int 0, .int 0, .int 0, .int 0, .int 0, .int 0])), (q0, .inr (3, [.int 0, .int 0, .int 0])), (q2, .inl (k 0, Nq2, .inl (fun _ => 0))), (q3, .inl (k 0, Nq3, .inl (fun _ => 0)))] := hD
  refine va_putF (D := D) (ci := 2) (v := .ref q3) (ty := tyX2 2) (C := RX2) (T := TX2) (N := 10) hx hb hts inX2_init_X2 tyX2 tyX2_ok nmX2 hown hK hP hD hS 0 rfl rfl 2 (by decide) (hts (.fieldLink RX2 22 "OctalHouse$Device" "kept" (TX2 2).2.2.1) (by decide +kernel)) (fun _ h9 => h9) rfl hin rfl (tyX2_ok 2 (by decide)) rfl rfl (by simp) dX2_init_29 (fun H locs hP hD hS => ?_)
  have hP : va_P D vwCl [(h0, .inr (2, [.ref q0, .ref q2, .ref q3, .int 0, .int 0, .int 0, .int 0, .int 0, .int 0, .int 0])), (q0, .inr (3, [.int 0, .int 0, .int 0])), (q2, .inl (k 0, Nq2, .inl (fun _ => 0))), (q3, .inl (k 0, Nq3, .inl (fun _ => 0)))] H := hP
  have hD : va_D A [(h0, .inr (2, [.ref q0, .ref q2, .ref q3, .int 0, .int 0, .int 0, .int 0, .int 0, .int 0, .int 0])), (q0, .inr (3, [.int 0, .int 0, .int 0])), (q2, .inl (k 0, Nq2, .inl (fun _ => 0))), (q3, .inl (k 0, Nq3, .inl (fun _ => 0)))] := hD
  refine lv_aload_n hx hb dX2_init_32 rfl (lv_at hl 0 rfl) ?_
  refine lv_iconst (v := (1 : Int32)) hx hb dX2_init_33 (by decide) ?_
  refine va_put (D := D) (ci := 2) (v := .int (1 : Int32)) (ty := tyX2 3) (C := RX2) (T := TX2) (N := 10) hx hb hts inX2_init_X2 tyX2 tyX2_ok nmX2 hown hK hP hD hS 0 rfl rfl 3 (by decide) (hts (.fieldLink RX2 25 "OctalHouse$Device" "takesIn" (TX2 3).2.2.1) (by decide +kernel)) (fun _ h9 => h9) rfl (tyX2_ok 3 (by decide)) (oh_nb (by decide)) (oh_fb (by decide)) (by simp) dX2_init_34 (fun H locs hP hD hS => ?_)
  have hP : va_P D vwCl [(h0, .inr (2, [.ref q0, .ref q2, .ref q3, .int (1 : Int32), .int 0, .int 0, .int 0, .int 0, .int 0, .int 0])), (q0, .inr (3, [.int 0, .int 0, .int 0])), (q2, .inl (k 0, Nq2, .inl (fun _ => 0))), (q3, .inl (k 0, Nq3, .inl (fun _ => 0)))] H := hP
  have hD : va_D A [(h0, .inr (2, [.ref q0, .ref q2, .ref q3, .int (1 : Int32), .int 0, .int 0, .int 0, .int 0, .int 0, .int 0])), (q0, .inr (3, [.int 0, .int 0, .int 0])), (q2, .inl (k 0, Nq2, .inl (fun _ => 0))), (q3, .inl (k 0, Nq3, .inl (fun _ => 0)))] := hD
  refine lv_aload_n hx hb dX2_init_37 rfl (lv_at hl 0 rfl) ?_
  refine lv_iconst (v := (1 : Int32)) hx hb dX2_init_38 (by decide) ?_
  refine va_put (D := D) (ci := 2) (v := .int (1 : Int32)) (ty := tyX2 4) (C := RX2) (T := TX2) (N := 10) hx hb hts inX2_init_X2 tyX2 tyX2_ok nmX2 hown hK hP hD hS 0 rfl rfl 4 (by decide) (hts (.fieldLink RX2 29 "OctalHouse$Device" "delay" (TX2 4).2.2.1) (by decide +kernel)) (fun _ h9 => h9) rfl (tyX2_ok 4 (by decide)) rfl rfl (by simp) dX2_init_39 (fun H locs hP hD hS => ?_)
  have hP : va_P D vwCl [(h0, .inr (2, [.ref q0, .ref q2, .ref q3, .int (1 : Int32), .int (1 : Int32), .int 0, .int 0, .int 0, .int 0, .int 0])), (q0, .inr (3, [.int 0, .int 0, .int 0])), (q2, .inl (k 0, Nq2, .inl (fun _ => 0))), (q3, .inl (k 0, Nq3, .inl (fun _ => 0)))] H := hP
  have hD : va_D A [(h0, .inr (2, [.ref q0, .ref q2, .ref q3, .int (1 : Int32), .int (1 : Int32), .int 0, .int 0, .int 0, .int 0, .int 0])), (q0, .inr (3, [.int 0, .int 0, .int 0])), (q2, .inl (k 0, Nq2, .inl (fun _ => 0))), (q3, .inl (k 0, Nq3, .inl (fun _ => 0)))] := hD
  refine W.widen (k := 3) (n := 303) (Nat.le_of_ble_eq_true rfl) (by (try rw [hNq2]); (try rw [hNq3]); exact Nat.le_of_ble_eq_true rfl) ?_
  subst hNq2
  subst hNq3
  exact oh_retc hC (fun j => if j = 0 then q0 else if j = 1 then q2 else if j = 2 then q3 else 0) (hP.sub [0, 1, 2, 3] rfl) (hD.sub [0, 1, 2, 3] (by decide) rfl) hS dX2_init_42
-- OctalHouse$Processor.<init>
theorem inX5_init_X5 : ∀ w ∈ u_ws RX5 TX5 3, w ∈ wsX5_init := by decide +kernel
def wcX5 (k : Nat → ClassId) (h0 : Nat) (a1 : Nat) (a2 : Nat) (a3 : Nat) (u : Nat → Nat) : va_W := [(h0, .inr (5, [.ref a1, .ref a2, .ref a3]))]
set_option maxHeartbeats 1000000 in
set_option maxRecDepth 100000 in
theorem ctX5_init (l : Launch) (k : Nat → ClassId) (D : va_G) (h0 : Nat) (a1 : Nat) (a2 : Nat) (a3 : Nat) : oh_Mc l yX5_init wsX5_init { frames := 1, cells := 0, slots := 0, locals := 20 } D (oh_ty k) [.ref h0, .ref a1, .ref a2, .ref a3] [(h0, .inr (5, [.null, .null, .null]))] (wcX5 k h0 a1 a2 a3) 0 0 := by
  refine oh_inc (cc := cX5_init) (nL := 4) (by decide) rfl (Nat.le_of_ble_eq_true rfl) ?_
  intro p e s m below meth c A ls hC hAO hin hP hD hS hl
  obtain ⟨hx, hb, hml, hown, hts, hr, hlocks, hK, hN, hA⟩ := id hC
  have hl : lv_has ls 4 [(0, .ref h0), (1, .ref a1), (2, .ref a2), (3, .ref a3)] := hl
  refine lv_aload_n hx hb dX5_init_0 rfl (lv_at hl 0 rfl) ?_
  refine W.objInit hx hb hown (hts (.methodLink RX5 3 objectInit) (by decide +kernel)) (hts (.instanceMethod objectInit) (by decide +kernel)) (hts (.code objectInit ⟨#[0xb1]⟩ 1 none) (by decide +kernel)) rfl (by rw [hml]; exact hl.1) rfl dX5_init_1 (Nat.le_of_ble_eq_true rfl) (Nat.le_of_ble_eq_true rfl) ?_
  refine W.eq (g2 := F0 m 4 ls []) rfl ?_
  refine lv_aload_n hx hb dX5_init_4 rfl (lv_at hl 0 rfl) ?_
  refine lv_aload_n hx hb dX5_init_5 rfl (lv_at hl 1 rfl) ?_
  refine va_putF (D := D) (ci := 5) (v := .ref a1) (ty := tyX5 0) (C := RX5) (T := TX5) (N := 3) hx hb hts inX5_init_X5 tyX5 tyX5_ok nmX5 hown hK hP hD hS 0 rfl rfl 0 (by decide) (hts (.fieldLink RX5 9 "OctalHouse$Processor" "memory" (TX5 0).2.2.1) (by decide +kernel)) (fun _ h9 => h9) rfl hin rfl (tyX5_ok 0 (by decide)) rfl rfl (by simp) dX5_init_6 (fun H locs hP hD hS => ?_)
  have hP : va_P D vwCl [(h0, .inr (5, [.ref a1, .null, .null]))] H := hP
  have hD : va_D A [(h0, .inr (5, [.ref a1, .null, .null]))] := hD
  refine lv_aload_n hx hb dX5_init_9 rfl (lv_at hl 0 rfl) ?_
  refine lv_aload_n hx hb dX5_init_10 rfl (lv_at hl 2 rfl) ?_
  refine va_putF (D := D) (ci := 5) (v := .ref a2) (ty := tyX5 1) (C := RX5) (T := TX5) (N := 3) hx hb hts inX5_init_X5 tyX5 tyX5_ok nmX5 hown hK hP hD hS 0 rfl rfl 1 (by decide) (hts (.fieldLink RX5 15 "OctalHouse$Processor" "registers" (TX5 1).2.2.1) (by decide +kernel)) (fun _ h9 => h9) rfl hin rfl (tyX5_ok 1 (by decide)) rfl rfl (by simp) dX5_init_11 (fun H locs hP hD hS => ?_)
  have hP : va_P D vwCl [(h0, .inr (5, [.ref a1, .ref a2, .null]))] H := hP
  have hD : va_D A [(h0, .inr (5, [.ref a1, .ref a2, .null]))] := hD
  refine lv_aload_n hx hb dX5_init_14 rfl (lv_at hl 0 rfl) ?_
  refine lv_aload_n hx hb dX5_init_15 rfl (lv_at hl 3 rfl) ?_
  refine va_putF (D := D) (ci := 5) (v := .ref a3) (ty := tyX5 2) (C := RX5) (T := TX5) (N := 3) hx hb hts inX5_init_X5 tyX5 tyX5_ok nmX5 hown hK hP hD hS 0 rfl rfl 2 (by decide) (hts (.fieldLink RX5 19 "OctalHouse$Processor" "bus" (TX5 2).2.2.1) (by decide +kernel)) (fun _ h9 => h9) rfl hin rfl (tyX5_ok 2 (by decide)) rfl rfl (by simp) dX5_init_16 (fun H locs hP hD hS => ?_)
  have hP : va_P D vwCl [(h0, .inr (5, [.ref a1, .ref a2, .ref a3]))] H := hP
  have hD : va_D A [(h0, .inr (5, [.ref a1, .ref a2, .ref a3]))] := hD
  refine W.widen (k := 0) (n := 0) (Nat.le_of_ble_eq_true rfl) (by exact Nat.le_of_ble_eq_true rfl) ?_
  exact oh_retc hC (fun j =>  0) (hP.sub [0] rfl) (hD.sub [0] (by decide) rfl) hS dX5_init_19
