set_option maxRecDepth 20000 in
theorem lw_nf : ∀ q ∈ oh_nf, Cond.fieldLinkNest q.1 q.2.1 q.2.2.1 q.2.2.2.1 q.2.2.2.2 RX7 ∈ lw_tbl := by decide +kernel
theorem lw_nm : ∀ q ∈ oh_nm, Cond.methodLinkNest q.1 q.2.1 q.2.2 RX7 ∈ lw_tbl := by decide +kernel
theorem lw_iX0 : ∀ w ∈ u_ws RX0 TX0 7, w ∈ wsX00 := by decide +kernel
theorem lw_iX1 : ∀ w ∈ u_ws RX1 TX1 8, w ∈ wsX10 := by decide +kernel
theorem lw_iX2 : ∀ w ∈ u_ws RX2 TX2 10, w ∈ wsX20 := by decide +kernel
theorem lw_iX3 : ∀ w ∈ u_ws RX3 TX3 3, w ∈ wsX30 := by decide +kernel
theorem lw_iX4 : ∀ w ∈ u_ws RX4 TX4 1, w ∈ wsX40 := by decide +kernel
theorem lw_iX5 : ∀ w ∈ u_ws RX5 TX5 3, w ∈ wsX50 := by decide +kernel
theorem lw_iX6 : ∀ w ∈ u_ws RX6 TX6 6, w ∈ wsX60 := by decide +kernel
theorem lw_iX7 : ∀ w ∈ u_ws RX7 TX7 7, w ∈ wsX70 := by decide +kernel
theorem lw_iX8 : ∀ w ∈ u_ws RX8 TX8 35, w ∈ wsX80 := by decide +kernel
/-- what the Statement gives of the start, in the contracts' words -/
theorem lw_given {s : State} {b : Nat} (hts : ∀ w ∈ lw_tbl, w.before #[Value.ref b] s = true) (hgv : (Jvm.Cond.and given_1 narrow_1).before #[Value.ref b] s = true) : oh_N s ∧ oh_AO s ∧ oh_Tx (fun q => s.heap.size ≤ q) s s.heap ∧ oh_Sx s ∧ oh_Nx s := by
  have hs := flat_of_before _ hgv
  have hAo : ∀ a : Nat, a < s.heap.size → ¬ (fun q => s.heap.size ≤ q) a := fun a h => Nat.not_le.mpr h
  have str : ∀ (n : Nat) (tx : String), Cond.stringRef RX7 n tx ∈ lw_tbl → (Cond.exactly (Term.string RX7 n) "java/lang/String").before #[Value.ref b] s = true → ∃ q, vk_R RX7 n tx q s := fun n tx h1 h2 => by
    obtain ⟨a, c, cA, kA, q1, -⟩ := Cond.exactly_spec (args := #[Value.ref b]) (first := s) (o := none) (s := s) (idx := []) (t := Term.string RX7 n) (cls := "java/lang/String") h2
    exact ⟨a, vk_R.of (hts _ h1) q1⟩
  refine ⟨⟨fun q hq => va_Nw.of rfl (hts _ (lw_nf q hq)), fun q hq => va_Nw.of rfl (hts _ (lw_nm q hq))⟩, ⟨va_AO.of (hts (.arrayOver (.object RX1)) (by decide +kernel)), va_AO.of (hts (.arrayOver (.object RX2)) (by decide +kernel)), va_AO.of (hts (.arrayOver (.object RX3)) (by decide +kernel))⟩, ⟨vx_Zqof (hts _ (by decide +kernel)) (hts _ (by decide +kernel)) (hs _ (by decide +kernel)) hAo, vx_Zqof (hts _ (by decide +kernel)) (hts _ (by decide +kernel)) (hs _ (by decide +kernel)) hAo⟩, ⟨⟨str 47 _ (by decide +kernel) (hs _ (by decide +kernel)), str 67 _ (by decide +kernel) (hs _ (by decide +kernel)), str 111 _ (by decide +kernel) (hs _ (by decide +kernel)), str 113 _ (by decide +kernel) (hs _ (by decide +kernel)), str 126 _ (by decide +kernel) (hs _ (by decide +kernel))⟩, va_Nw.of rfl (hts _ (by decide +kernel)), va_Nw.of rfl (hts _ (by decide +kernel)), va_Nw.of rfl (hts _ (by decide +kernel)), va_Nw.of rfl (hts _ (by decide +kernel)), va_Nw.of rfl (hts _ (by decide +kernel)), va_Nw.of rfl (hts _ (by decide +kernel))⟩, va_Nc.of (hs _ (by decide +kernel)), va_Nc.of (hs _ (by decide +kernel))⟩
theorem lw_know {s : State} {b : Nat} (hts : ∀ w ∈ lw_tbl, w.before #[Value.ref b] s = true) : ∃ (D : va_G) (k : Nat → ClassId) (kL : ClassId), va_K D vwCl (oh_tyL k kL) s := by
  obtain ⟨c0, i0, hKn0⟩ := u_known (C := RX0) (T := TX0) (N := 7) (n := 7) hts (fun w h => inX0 w (lw_iX0 w h)) (hts (.instantiable RX0 7) (by decide +kernel))
  obtain ⟨c1, i1, hKn1⟩ := u_known (C := RX1) (T := TX1) (N := 8) (n := 8) hts (fun w h => inX1 w (lw_iX1 w h)) (hts (.instantiable RX1 8) (by decide +kernel))
  obtain ⟨c2, i2, hKn2⟩ := u_known (C := RX2) (T := TX2) (N := 10) (n := 10) hts (fun w h => inX2 w (lw_iX2 w h)) (hts (.instantiable RX2 10) (by decide +kernel))
  obtain ⟨c3, i3, hKn3⟩ := u_known (C := RX3) (T := TX3) (N := 3) (n := 3) hts (fun w h => inX3 w (lw_iX3 w h)) (hts (.instantiable RX3 3) (by decide +kernel))
  obtain ⟨c4, i4, hKn4⟩ := u_known (C := RX4) (T := TX4) (N := 1) (n := 1) hts (fun w h => inX4 w (lw_iX4 w h)) (hts (.instantiable RX4 1) (by decide +kernel))
  obtain ⟨c5, i5, hKn5⟩ := u_known (C := RX5) (T := TX5) (N := 3) (n := 3) hts (fun w h => inX5 w (lw_iX5 w h)) (hts (.instantiable RX5 3) (by decide +kernel))
  obtain ⟨c6, i6, hKn6⟩ := u_known (C := RX6) (T := TX6) (N := 6) (n := 6) hts (fun w h => inX6 w (lw_iX6 w h)) (hts (.instantiable RX6 6) (by decide +kernel))
  obtain ⟨c7, i7, hKn7⟩ := u_known (C := RX7) (T := TX7) (N := 7) (n := 7) hts (fun w h => inX7 w (lw_iX7 w h)) (hts (.instantiable RX7 7) (by decide +kernel))
  obtain ⟨c8, i8, hKn8⟩ := u_known (C := RX8) (T := TX8) (N := 35) (n := 35) hts (fun w h => inX8 w (lw_iX8 w h)) (hts (.instantiable RX8 35) (by decide +kernel))
  obtain ⟨kI, kA0, q0, f0, g0, e0⟩ := Cond.arrayClass_spec (type := .int) (hts (.arrayClass .int) (by decide +kernel))
  obtain ⟨kZ, kA4, q4, f4, g4, e4⟩ := Cond.arrayClass_spec (type := .boolean) (hts (.arrayClass .boolean) (by decide +kernel))
  obtain ⟨kJ, kA5, q5, f5, g5, e5⟩ := Cond.arrayClass_spec (type := .long) (hts (.arrayClass .long) (by decide +kernel))
  obtain ⟨q1, k1, kA1, f1, -, g1, e1, n1⟩ := Cond.arrayOver_spec (n := RX1) (hts (.arrayOver (.object RX1)) (by decide +kernel))
  obtain ⟨q2, k2, kA2, f2, -, g2, e2, n2⟩ := Cond.arrayOver_spec (n := RX2) (hts (.arrayOver (.object RX2)) (by decide +kernel))
  obtain ⟨q3, k3, kA3, f3, -, g3, e3, n3⟩ := Cond.arrayOver_spec (n := RX3) (hts (.arrayOver (.object RX3)) (by decide +kernel))
  refine ⟨(fun z => match z with | 0 => c0 | 1 => c1 | 2 => c2 | 3 => c3 | 4 => c4 | 5 => c5 | 6 => c6 | 7 => c7 | _ => c8, fun z => match z with | 0 => i0 | 1 => i1 | 2 => i2 | 3 => i3 | 4 => i4 | 5 => i5 | 6 => i6 | 7 => i7 | _ => i8), fun z => match z with | 0 => kI | 1 => k1 | 2 => k2 | 3 => k3 | _ => kZ, kJ, ?_, ?_⟩
  · intro z q hq
    match z, hq with
    | 0, hq => cases hq; exact hKn0
    | 1, hq => cases hq; exact hKn1
    | 2, hq => cases hq; exact hKn2
    | 3, hq => cases hq; exact hKn3
    | 4, hq => cases hq; exact hKn4
    | 5, hq => cases hq; exact hKn5
    | 6, hq => cases hq; exact hKn6
    | 7, hq => cases hq; exact hKn7
    | 8, hq => cases hq; exact hKn8
    | z + 9, hq => simp [vwCl] at hq
  · intro z q hq
    match z, hq with
    | 0, hq => cases hq; exact ⟨fun n z => ⟨fun k h => (by cases h), kA0, g0, q0, e0⟩, f0⟩
    | 1, hq => cases hq; exact ⟨fun n z => ⟨fun k h => (by cases h), kA1, g1, q1, e1⟩, kA1, q1, g1, e1, f1, n1⟩
    | 2, hq => cases hq; exact ⟨fun n z => ⟨fun k h => (by cases h), kA2, g2, q2, e2⟩, kA2, q2, g2, e2, f2, n2⟩
    | 3, hq => cases hq; exact ⟨fun n z => ⟨fun k h => (by cases h), kA3, g3, q3, e3⟩, kA3, q3, g3, e3, f3, n3⟩
    | 4, hq => cases hq; exact ⟨fun n z => ⟨fun k h => (by cases h), kA4, g4, q4, e4⟩, f4⟩
    | 5, hq => cases hq; exact ⟨fun n z => ⟨fun k h => (by cases h), kA5, g5, q5, e5⟩, f5⟩
    | z + 6, hq => simp [oh_tyL, oh_ty] at hq
