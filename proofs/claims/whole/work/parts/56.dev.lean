/-! ===== devices ===== -/
theorem rl_cnt {M h : Nat} {c : Int32} {σ τ : oh_St} (R : rl_R M h c σ τ) : rl_R M h (c + 1) σ (oh_up τ 0 0 (τ 0 0 + 1)) := by
  obtain ⟨hI, hs, h0, h6, hh, ha, hb, hm, hd⟩ := R
  refine ⟨hI.up (Or.inl rfl), fun k' i' h' => ?_, ?_, ?_, hh, ?_, ?_, fun j h2 h4 => ?_, fun n hn => (hd n hn).same rfl ?_ rfl ?_ (fun j => rfl) (fun j => ?_) ?_ (fun j => rfl) (fun j => ?_)⟩
  · have h'' := h'
    unfold rl_S at h'
    rw [oh_ap, if_neg (by omega)]; exact hs k' i' h''
  · rw [oh_ups, h0, Int32.add_assoc]
  · rw [oh_ap, if_neg (by omega)]; exact h6
  · rw [oh_ap, if_neg (by omega)]; exact ha
  · rw [oh_ap, if_neg (by omega)]; exact hb
  · rw [oh_ap, if_neg (by omega)]; exact hm j h2 h4
  all_goals rw [oh_ap, if_neg (by omega)]
/-- the tape moves on by one: a ring in the class, a row in the reference -/
theorem rl_shift {M h : Nat} {c : Int32} {σ τ : oh_St} (R : rl_R M h c σ τ) {n s T : Nat} (hn : n < 4) (hs : s < 100) (hT : T < 100)
    (ring : ∀ t, t < T + 1 → σ (20 + n) ((s + t) % 100) = τ 20 (100 * (8 + n) + t)) {z : oh_St}
    (hz : ∀ k m, k ≠ 20 → ¬ (k = 16 ∧ m = 8 + n) → z k m = τ k m) (hz16 : z 16 (8 + n) = nI T)
    (hz20 : ∀ t, t < T → z 20 (100 * (8 + n) + t) = τ 20 (100 * (8 + n) + t + 1))
    (hzo : ∀ m, (m < 100 * (8 + n) ∨ 100 * (8 + n) + 100 ≤ m) → z 20 m = τ 20 m) (hzw : ∀ m, rl_w (z 20 m)) :
    rl_R M h c (oh_up (oh_up σ 18 (8 + n) (nI ((s + 1) % 100))) 16 (8 + n) (nI T)) z := by
  obtain ⟨hI, hS, h0, h6, hh, ha, hb, hm, hd⟩ := R
  refine ⟨fun k i => ?_, fun k i h' => ?_, ?_, ?_, hh, ?_, ?_, fun j h2 h4 => ?_, fun m hm4 => ?_⟩
  · by_cases q : k = 20
    · subst q; exact (hzw i).ok rfl
    · by_cases r : k = 16 ∧ i = 8 + n
      · rw [r.1, r.2, hz16]
        exact Or.inr ⟨T, by show T < 101; omega, rfl⟩
      · rw [hz k i q r]; exact hI k i
  · have h'' := h'
    unfold rl_S at h'
    by_cases r : k = 16 ∧ i = 8 + n
    · rw [r.1, r.2, hz16, oh_ups]
    · rw [oh_ap, if_neg r, oh_ap, if_neg (by omega), hz k i (by omega) r]
      exact hS k i h''
  · rw [oh_ap, if_neg (by omega), oh_ap, if_neg (by omega), hz 0 0 (by omega) (by omega)]; exact h0
  · rw [oh_ap, if_neg (by omega), oh_ap, if_neg (by omega), hz 0 h (by omega) (by omega)]; exact h6
  · rw [oh_ap, if_neg (by omega), oh_ap, if_neg (by omega), hz 0 14 (by omega) (by omega)]; exact ha
  · rw [oh_ap, if_neg (by omega), oh_ap, if_neg (by omega), hz 0 15 (by omega) (by omega)]; exact hb
  · rw [oh_ap, if_neg (by omega), oh_ap, if_neg (by omega), hz 1 j (by omega) (by omega)]; exact hm j h2 h4
  · obtain ⟨d1, ⟨s', T', a1, a2, a3, a4, a5⟩, C, c1, c2⟩ := hd m hm4
    refine ⟨?_, ?_, C, ?_, fun i hi hc => ?_⟩
    · rw [oh_ap, if_neg (by omega), oh_ap, if_neg (by omega), hz 12 _ (by omega) (by omega)]; exact d1
    · by_cases e : m = n
      · subst e
        refine ⟨(s + 1) % 100, T, Nat.mod_lt _ (by omega), by omega, ?_, hz16, fun t ht => ?_⟩
        · rw [oh_ap, if_neg (by omega), oh_ups]
        · rw [oh_ap, if_neg (by omega), oh_ap, if_neg (by omega), hz20 t ht, Nat.add_assoc, ← ring (t + 1) (by omega)]
          congr 1
          omega
      · refine ⟨s', T', a1, a2, ?_, ?_, fun t ht => ?_⟩
        · rw [oh_ap, if_neg (by omega), oh_ap, if_neg (by omega)]; exact a3
        · rw [hz 16 _ (by omega) (by omega)]; exact a4
        · rw [oh_ap, if_neg (by omega), oh_ap, if_neg (by omega), hzo _ (by omega)]
          exact a5 t ht
    · rw [hz 17 _ (by omega) (by omega)]; exact c1
    · rw [oh_ap, if_neg (by omega), oh_ap, if_neg (by omega), hz 24 _ (by omega) (by omega)]; exact c2 i hi hc
theorem rdy_loop (i : Nat) (hi : i ≤ 11) (T : Nat) (hT : T < 100) : ∀ (f j : Nat) (z : oh_St), z 16 i = nI T → j ≤ T → j + f = T + 1 →
    ∃ z', lpX8_ready (nI i) f z (nI j) = oh_up (oh_up z' 3 i 1) 4 i 1 ∧ (∀ k m, k ≠ 20 → z' k m = z k m) ∧ (∀ m, (m < 100 * i + j ∨ 100 * i + T ≤ m) → z' 20 m = z 20 m) ∧ (∀ t, j ≤ t → t < T → z' 20 (100 * i + t) = z 20 (100 * i + t + 1))
  | 0, j, z, _, h1, h2 => absurd h2 (by omega)
  | f + 1, j, z, h16, h1, h2 => by
    have ei : (nI i).toNatClampNeg = i := nI_clamp (by omega)
    have e1 : ((100 : Int32) * nI i + nI j) = nI (100 * i + j) := by
      rw [show (100 : Int32) = nI 100 from rfl, pk_mul, nI_add]
    unfold lpX8_ready
    rw [ei, h16, e1, nI_1, nI_clamp (by omega), nI_clamp (by omega), nI_1]
    by_cases q : T ≤ j
    · rw [if_pos ((nI_leI (by omega) (by omega)).mpr q)]
      exact ⟨z, rfl, fun _ _ _ => rfl, fun _ _ => rfl, fun t h3 h4 => absurd h4 (by omega)⟩
    · rw [if_neg (fun e => q ((nI_leI (by omega) (by omega)).mp e))]
      obtain ⟨z', b1, b2, b3, b4⟩ := rdy_loop i hi T hT f (j + 1) (oh_up z 20 (100 * i + j) (z 20 (100 * i + j + 1))) (by rw [oh_ap, if_neg (by omega)]; exact h16) (by omega) (by omega)
      refine ⟨z', b1, fun k m hk => ?_, fun m hm => ?_, fun t h3 h4 => ?_⟩
      · rw [b2 k m hk, oh_ap, if_neg (by omega)]
      · rw [b3 m (by omega), oh_ap, if_neg (by omega)]
      · by_cases r : t = j
        · subst r
          rw [b3 _ (by omega), oh_ups]
        · rw [b4 t (by omega) h4, oh_ap, if_neg (by omega)]
/-- one more word put out -/
theorem rl_kept {M h : Nat} {c : Int32} {σ τ : oh_St} (R : rl_R M h c σ τ) {n C : Nat} (hn : n < 4) (eC : τ 17 (8 + n) = nI C) (hC : C ≤ M) (hC' : C < 2 ^ 31) {v : Int32} (hv : rl_w v) :
    rl_R (M + 1) h c (oh_up (if 200 ≤ C then σ else oh_up σ (24 + n) C v) 17 (8 + n) (nI (C + 1))) (oh_up (if 200 ≤ C then τ else oh_up τ 24 (200 * (8 + n) + C) v) 17 (8 + n) (nI (C + 1))) := by
  obtain ⟨hI, hS, h0, h6, hh, ha, hb, hm, hd⟩ := R
  have σk : ∀ k i, k ≠ 24 + n → (if 200 ≤ C then σ else oh_up σ (24 + n) C v) k i = σ k i := fun k i hk => by
    split
    · rfl
    · rw [oh_ap, if_neg (by omega)]
  have τk : ∀ k i, ¬ (k = 24 ∧ 200 * (8 + n) ≤ i ∧ i < 200 * (8 + n) + 200) → (if 200 ≤ C then τ else oh_up τ 24 (200 * (8 + n) + C) v) k i = τ k i := fun k i hk => by
    split
    · rfl
    · rw [oh_ap, if_neg (by omega)]
  have hI' : rl_I M (if 200 ≤ C then τ else oh_up τ 24 (200 * (8 + n) + C) v) := by
    split
    · exact hI
    · exact hI.up (hv.ok rfl)
  have kept : ∀ i, i < 200 → i < C + 1 → (if 200 ≤ C then σ else oh_up σ (24 + n) C v) (24 + n) i = (if 200 ≤ C then τ else oh_up τ 24 (200 * (8 + n) + C) v) 24 (200 * (8 + n) + i) := fun i hi hc => by
    obtain ⟨_, _, C', c1, c2⟩ := hd n hn
    have hCC : C' = C ∨ 200 ≤ C' := by
      by_cases l : C' < 2 ^ 31 ∧ C < 2 ^ 31
      · exact Or.inl ((nI_eq l.1 l.2).mp (c1.symm.trans eC))
      · by_cases l1 : C' < 2 ^ 31
        · by_cases l2 : C < 200
          · omega
          · by_cases l3 : C < 2 ^ 31
            · omega
            · exact absurd hC' (by omega)
        · exact Or.inr (by omega)
    by_cases q : 200 ≤ C
    · rw [if_pos q, if_pos q]
      exact c2 i hi (by omega)
    · rw [if_neg q, if_neg q, oh_ap, oh_ap]
      by_cases r : i = C
      · rw [if_pos ⟨rfl, r⟩, if_pos ⟨rfl, by omega⟩]
      · rw [if_neg (by omega), if_neg (by omega)]
        exact c2 i hi (by omega)
  generalize (if 200 ≤ C then σ else oh_up σ (24 + n) C v) = σa at σk kept ⊢
  generalize (if 200 ≤ C then τ else oh_up τ 24 (200 * (8 + n) + C) v) = τa at τk kept hI' ⊢
  refine ⟨(hI'.mono (Nat.le_succ M)).up (Or.inr ⟨C + 1, by show C + 1 < M + 1 + 1; omega, rfl⟩), fun k i h' => ?_, ?_, ?_, hh, ?_, ?_, fun j h2 h4 => ?_, fun m hm4 => ?_⟩
  · have h'' := h'
    unfold rl_S at h'
    rw [oh_ap, oh_ap]
    split
    · rfl
    · rw [σk k i (by omega), τk k i (by omega)]; exact hS k i h''
  · rw [oh_ap, if_neg (by omega), oh_ap, if_neg (by omega), σk _ _ (by omega), τk _ _ (by omega)]; exact h0
  · rw [oh_ap, if_neg (by omega), oh_ap, if_neg (by omega), σk _ _ (by omega), τk _ _ (by omega)]; exact h6
  · rw [oh_ap, if_neg (by omega), oh_ap, if_neg (by omega), σk _ _ (by omega), τk _ _ (by omega)]; exact ha
  · rw [oh_ap, if_neg (by omega), oh_ap, if_neg (by omega), σk _ _ (by omega), τk _ _ (by omega)]; exact hb
  · rw [oh_ap, if_neg (by omega), oh_ap, if_neg (by omega), σk _ _ (by omega), τk _ _ (by omega)]; exact hm j h2 h4
  · obtain ⟨d1, ⟨s', T', a1, a2, a3, a4, a5⟩, C', c1, c2⟩ := hd m hm4
    refine ⟨?_, ⟨s', T', a1, a2, ?_, ?_, fun t ht => ?_⟩, ?_⟩
    · rw [oh_ap, if_neg (by omega), oh_ap, if_neg (by omega), σk _ _ (by omega), τk _ _ (by omega)]; exact d1
    · rw [oh_ap, if_neg (by omega), σk _ _ (by omega)]; exact a3
    · rw [oh_ap, if_neg (by omega), τk _ _ (by omega)]; exact a4
    · rw [oh_ap, if_neg (by omega), oh_ap, if_neg (by omega), σk _ _ (by omega), τk _ _ (by omega)]; exact a5 t ht
    · by_cases e : m = n
      · subst e
        refine ⟨C + 1, oh_ups, fun i hi hc => ?_⟩
        rw [oh_ap, if_neg (by omega), oh_ap, if_neg (by omega)]
        exact kept i hi hc
      · refine ⟨C', ?_, fun i hi hc => ?_⟩
        · rw [oh_ap, if_neg (by omega), τk _ _ (by omega)]; exact c1
        · rw [oh_ap, if_neg (by omega), oh_ap, if_neg (by omega), σk _ _ (by omega), τk _ _ (by omega)]; exact c2 i hi hc
/-- what a device does once it is ready -/
theorem rl_ready {M h : Nat} {c : Int32} {σ τ : oh_St} (R : rl_R M h c σ τ) {n : Nat} (hn : n < 4) (hM : M < 2000000000) {b : Int32} (hb : rl_w b) (eb : b = τ 14 (8 + n)) :
    rl_R (M + 1) h c (spX3_putFlag (if σ 12 (8 + n) = 0 then spX2_putOut σ n b else oh_up (spX2_takeFromTape σ n).2 14 (8 + n) (spX2_takeFromTape σ n).1) (2 + n) 1) (spX8_ready τ (nI (8 + n))) := by
  have hdn := R.2.2.2.2.2.2.2.2 n hn
  have ei : (nI (8 + n)).toNatClampNeg = 8 + n := nI_clamp (by omega)
  have e12 := rl_b01 (R.I 12 (8 + n) (b := 2) rfl (by decide))
  obtain ⟨d1, ⟨s, T, s1, s2, s3, s4, s5⟩, C, c1, c2⟩ := hdn
  have e16 : σ 16 (8 + n) = nI T := (R.S 16 (8 + n) (by unfold rl_S; omega)).trans s4
  unfold spX3_putFlag
  rw [show 6 + (2 + n) = 8 + n by omega]
  unfold spX8_ready
  rw [ei]
  rcases e12 with e12 | e12
  · have f12 : ¬ σ 12 (8 + n) = 0 := by rw [d1, e12]; decide
    rw [if_neg f12, if_pos e12, s4]
    unfold spX2_takeFromTape
    rw [e16, s3]
    by_cases q : T = 0
    · subst q
      rw [if_pos (show nI 0 = 0 from rfl), if_pos (show nI 0 ≤ 0 by decide)]
      exact rl_flag2 ((rl_buf R (i := 8 + n) (by omega) rl_w0).mono (Nat.le_succ M)) (by omega) (Or.inr rfl)
    · have qT : ¬ nI T = 0 := fun e => q ((nI_eq (a := T) (b := 0) (by omega) (by omega)).mp e)
      have qT' : ¬ nI T ≤ 0 := fun e => q (by have := (nI_leI (a := T) (b := 0) (by omega) (by omega)).mp e; omega)
      rw [if_neg qT, if_neg (nI_pos (by omega)), if_pos (show nI s < 100 from (nI_ltI (b := 100) (by omega) (by omega)).mpr s1), if_neg qT']
      dsimp only
      have es : (if (100 : Int32) ≤ nI s + 1 then (0 : Int32) else nI s + 1) = nI ((s + 1) % 100) := by
        rw [nI_1]
        by_cases r : s + 1 = 100
        · rw [r]; rfl
        · rw [if_neg (fun e => by
            have := (nI_leI (a := 100) (b := s + 1) (by omega) (by omega)).mp e
            omega), Nat.mod_eq_of_lt (by omega)]
      have eT : nI T - 1 = nI (T - 1) := pk_sub (a := T) (b := 1) (by omega)
      have e100 : ((100 : Int32) * nI (8 + n)).toNatClampNeg = 100 * (8 + n) := by
        rw [show (100 : Int32) = nI 100 from rfl, pk_mul, nI_clamp (by omega)]
      rw [es, eT, e100, nI_clamp (by omega), nI_clamp (by omega)]
      have ev : σ (20 + n) s = τ 20 (100 * (8 + n)) := by
        have := s5 0 (by omega)
        rwa [Nat.add_zero, Nat.mod_eq_of_lt s1, Nat.add_zero] at this
      have hv : rl_w (τ 20 (100 * (8 + n))) := R.I 20 _ (b := 65536) rfl (by decide)
      rw [ev]
      generalize τ 20 (100 * (8 + n)) = v at hv ⊢
      have R1 := rl_buf R (i := 8 + n) (by omega) hv
      obtain ⟨z', l1, l2, l3, l4⟩ := rdy_loop (8 + n) (by omega) (T - 1) (by omega) T 0 (oh_up (oh_up (oh_up τ 14 (8 + n) 0) 14 (8 + n) v) 16 (8 + n) (nI (T - 1))) oh_ups (by omega) (by omega)
      rw [show nI 0 = 0 from rfl] at l1
      rw [l1]
      have z20 : ∀ m, oh_up (oh_up (oh_up τ 14 (8 + n) 0) 14 (8 + n) v) 16 (8 + n) (nI (T - 1)) 20 m = τ 20 m := fun m => by
        rw [oh_ap, if_neg (by omega), oh_ap, if_neg (by omega), oh_ap, if_neg (by omega)]
      have R2 := rl_shift R1 (n := n) (s := s) (T := T - 1) hn s1 (by omega) (fun t ht => by
          rw [oh_ap, if_neg (by omega), oh_ap, if_neg (by omega)]
          exact s5 t (by omega)) (z := z') (fun k m hk hkm => by
          rw [l2 k m hk, oh_ap, if_neg hkm, oh_idem]) (by rw [l2 _ _ (by omega), oh_ups]) (fun t ht => by
          rw [l4 t (by omega) ht, z20, oh_ap, if_neg (by omega)]) (fun m hm => by
          rw [l3 m (by omega), z20, oh_ap, if_neg (by omega)]) (fun m => by
          have w20 : ∀ m, rl_w (τ 20 m) := fun m => R.I 20 m (b := 65536) rfl (by decide)
          by_cases g : m < 100 * (8 + n) + 0 ∨ 100 * (8 + n) + (T - 1) ≤ m
          · rw [l3 m g, z20]; exact w20 m
          · have := l4 (m - 100 * (8 + n)) (by omega) (by omega)
            rw [show 100 * (8 + n) + (m - 100 * (8 + n)) = m by omega] at this
            rw [this, z20]; exact w20 _)
      rw [oh_comm σ (k := 14) (k' := 18) (by omega), oh_comm _ (k := 14) (k' := 16) (by omega)] at R2
      exact rl_flag2 (R2.mono (Nat.le_succ M)) (by omega) (Or.inr rfl)
  · have f12 : σ 12 (8 + n) = 0 := by rw [d1, e12]; decide
    rw [if_pos f12, if_neg (by rw [e12]; decide)]
    obtain ⟨C0, hC0, eC⟩ := R.I 17 (8 + n) (b := M + 1) rfl (by omega)
    have e17 : σ 17 (8 + n) = nI C0 := (R.S 17 (8 + n) (by unfold rl_S; omega)).trans eC
    have K := rl_kept R hn eC (by omega) (by omega) hb
    unfold spX2_putOut spX8_ready_k6
    dsimp only
    have e200 : ((200 : Int32) * nI (8 + n) + nI C0).toNatClampNeg = 200 * (8 + n) + C0 := by
      rw [show (200 : Int32) = nI 200 from rfl, pk_mul, nI_add, nI_clamp (by omega)]
    have u1 : ∀ (s : oh_St), (if (200 : Int32) ≤ nI C0 then s else s) = s := fun s => by split <;> rfl
    have f17 : ∀ (p : Prop) [Decidable p] (x : Nat), (if p then σ else oh_up σ (24 + n) x b) 17 (8 + n) = nI C0 := fun p _ x => by
      split
      · exact e17
      · rw [oh_ap, if_neg (by omega)]; exact e17
    have g17 : ∀ (p : Prop) [Decidable p] (x : Nat), (if p then τ else oh_up τ 24 x (τ 14 (8 + n))) 17 (8 + n) = nI C0 := fun p _ x => by
      split
      · exact eC
      · rw [oh_ap, if_neg (by omega)]; exact eC
    have e200' : ((200 : Int32) ≤ nI C0) = (200 ≤ C0) := propext (nI_leI (a := 200) (b := C0) (by omega) (by omega))
    rw [ei, e17, eC, if_neg (nI_pos (by omega)), f17, g17, e200, nI_1, nI_clamp (by omega), ← eb]
    simp only [e200']
    exact rl_flag2 K (by omega) (Or.inr rfl)
/-- one device's turn -/
theorem rl_dev {M h : Nat} {c : Int32} {σ τ : oh_St} (R : rl_R M h c σ τ) {n : Nat} (hn : n < 4) (hM : M < 2000000000) :
    rl_R (M + 1) h c (spX2_advance σ n) (if τ 15 (8 + n) = 0 then τ else (if τ 15 (8 + n) - 1 = 0 then spX8_ready (oh_up τ 15 (8 + n) (τ 15 (8 + n) - 1)) (nI (8 + n)) else oh_up τ 15 (8 + n) (τ 15 (8 + n) - 1))) := by
  have e15 : σ 15 (8 + n) = τ 15 (8 + n) := R.S 15 (8 + n) (by unfold rl_S; omega)
  have e14 : σ 14 (8 + n) = τ 14 (8 + n) := R.S 14 (8 + n) (by unfold rl_S; omega)
  have w14 : rl_w (τ 14 (8 + n)) := R.I 14 (8 + n) (b := 65536) rfl (by decide)
  obtain ⟨B, hB, eB⟩ := R.I 15 (8 + n) (b := 101) rfl (by decide)
  unfold spX2_advance
  rw [e15]
  by_cases q : τ 15 (8 + n) = 0
  · rw [if_pos q, if_pos q]; exact R.mono (Nat.le_succ M)
  · rw [if_neg q, if_neg q, oh_ups, e14]
    have B0 : B ≠ 0 := fun e => q (by rw [eB, e]; rfl)
    have eB1 : τ 15 (8 + n) - 1 = nI (B - 1) := by rw [eB]; exact pk_sub (a := B) (b := 1) (by omega)
    rw [eB1]
    have R1 := rl_up R (k := 15) (i := 8 + n) (v := nI (B - 1)) (by unfold rl_S; omega) (by omega) (Or.inr ⟨B - 1, by show B - 1 < 101; omega, rfl⟩)
    by_cases r : B = 1
    · subst r
      rw [if_pos (show nI (1 - 1) ≤ 0 by decide), if_pos (show nI (1 - 1) = 0 by decide)]
      have := rl_ready R1 hn hM w14 (by rw [oh_ap, if_neg (by omega)])
      rw [show oh_up σ 15 (8 + n) (nI (1 - 1)) 12 (8 + n) = σ 12 (8 + n) from by rw [oh_ap, if_neg (by omega)]] at this
      exact this
    · have r1 : ¬ nI (B - 1) ≤ 0 := fun e => by
        have := (nI_leI (a := B - 1) (b := 0) (by omega) (by omega)).mp e
        omega
      have r2 : ¬ nI (B - 1) = 0 := fun e => by
        have := (nI_eq (a := B - 1) (b := 0) (by omega) (by omega)).mp e
        omega
      rw [if_neg r1, if_neg r2]
      exact R1.mono (Nat.le_succ M)
/-- the four devices, and the turn counted -/
theorem rl_devs {M h : Nat} {c : Int32} {σ τ : oh_St} (R : rl_R M h c σ τ) (hM : M < 1999999000) (FC : oh_St → Int32 → oh_St) (FD : oh_St → Int32 → Int32 → oh_St) :
    ∃ t : oh_St, rl_R (M + 4) h (c + 1) (spX0_advanceDevices σ) t ∧ spX8_turn spX8_ready FC FD τ = spX8_turn_k38 spX8_ready FC FD t := by
  have R0 := rl_cnt R
  have e8 : oh_up τ 0 0 (τ 0 0 + 1) 15 8 = τ 15 8 := by rw [oh_ap, if_neg (by omega)]
  have D0 := rl_dev R0 (n := 0) (by omega) (by omega)
  have D1 := rl_dev D0 (n := 1) (by omega) (by omega)
  have D2 := rl_dev D1 (n := 2) (by omega) (by omega)
  have D3 := rl_dev D2 (n := 3) (by omega) (by omega)
  refine ⟨_, D3, ?_⟩
  unfold spX8_turn spX8_turn_k41 spX8_turn_k40 spX8_turn_k39
  dsimp only
  show _ = spX8_turn_k38 spX8_ready FC FD _
  simp only [show (8 + 0 : Nat) = 8 from rfl, show (8 + 1 : Nat) = 9 from rfl, show (8 + 2 : Nat) = 10 from rfl, show (8 + 3 : Nat) = 11 from rfl, e8]
  rfl
