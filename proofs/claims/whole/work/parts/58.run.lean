/-! ===== a turn, a run ===== -/
theorem rl_to13 {M : Nat} {c : Int32} {σ τ : oh_St} (R : rl_R M 6 c σ τ) : rl_R M 13 c (oh_up σ 0 6 0) (oh_up τ 0 13 0) := by
  obtain ⟨hI, hs, h0, h6, hh, ha, hb, hm, hd⟩ := R
  refine ⟨hI.up (rl_ok2 (Or.inl rfl) rfl), fun k' i' h' => ?_, ?_, ?_, Or.inr rfl, ?_, ?_, fun j h2 h4 => ?_, fun n hn => (hd n hn).same ?_ ?_ ?_ ?_ (fun j => ?_) (fun j => ?_) ?_ (fun j => ?_) (fun j => ?_)⟩
  · have h'' := h'
    unfold rl_S at h'
    rw [oh_ap, oh_ap, if_neg (by omega), if_neg (by omega)]; exact hs k' i' h''
  · rw [oh_ap, oh_ap, if_neg (by omega), if_neg (by omega)]; exact h0
  · rw [oh_ups, oh_ups]
  · rw [oh_ap, oh_ap, if_neg (by omega), if_neg (by omega)]; exact ha
  · rw [oh_ap, oh_ap, if_neg (by omega), if_neg (by omega)]; exact hb
  · rw [oh_ap, oh_ap, if_neg (by omega), if_neg (by omega)]; exact hm j h2 h4
  all_goals rw [oh_ap, if_neg (by omega)]
theorem rl_to6 {M : Nat} {c : Int32} {σ τ : oh_St} (R : rl_R M 13 c σ τ) : rl_R M 6 c σ (oh_up τ 0 6 (τ 0 13)) := by
  obtain ⟨hI, hs, h0, h6, hh, ha, hb, hm, hd⟩ := R
  refine ⟨hI.up (hI 0 13), fun k' i' h' => ?_, ?_, ?_, Or.inl rfl, ?_, ?_, fun j h2 h4 => ?_, fun n hn => (hd n hn).same rfl ?_ rfl ?_ (fun j => rfl) (fun j => ?_) ?_ (fun j => rfl) (fun j => ?_)⟩
  · have h'' := h'
    unfold rl_S at h'
    rw [oh_ap, if_neg (by omega)]; exact hs k' i' h''
  · rw [oh_ap, if_neg (by omega)]; exact h0
  · rw [oh_ups]; exact h6
  · rw [oh_ap, if_neg (by omega)]; exact ha
  · rw [oh_ap, if_neg (by omega)]; exact hb
  · rw [oh_ap, if_neg (by omega)]; exact hm j h2 h4
  all_goals rw [oh_ap, if_neg (by omega)]
theorem rl_page (x : Int32) : ∃ n : Nat, n < 32768 ∧ x &&& 31744 = nI n := by
  obtain ⟨n, h1, h2⟩ := rl_m15 (x &&& 31744)
  refine ⟨n, h1, h2 ▸ ?_⟩
  apply b_ext
  intro i hi
  simp only [b_and]
  rw [b_31744 i hi, b_32767 i hi]
  by_cases q : 10 ≤ i ∧ i < 15
  · rw [decide_eq_true q, decide_eq_true q.2, Bool.and_true, Bool.and_true]
  · rw [decide_eq_false q, Bool.and_false]; rfl
/-- the turn's end, where nothing interrupts -/
theorem rl_own {M : Nat} {c : Int32} {s z : oh_St} (R : rl_R M 6 c s z) {i : Int32} (h : (if (z 0 9) = (0 : Int32) then (0 : Int32) else (if (z 0 6) = (0 : Int32) then (if (12 : Int32) ≤ i then (0 : Int32) else (if (z 4 i.toNatClampNeg) = (0 : Int32) then (0 : Int32) else (1 : Int32))) else (0 : Int32))) = 0) : rl_R M 6 c (spX7_doTurn_k15 (-1) s) (spX8_turn_k37 spX8_does z i) := by
  unfold spX7_doTurn_k15 spX8_turn_k37
  dsimp only
  rw [if_pos rfl, h, if_pos rfl, at_p]
  have R1 := rl_to13 R
  obtain ⟨n1, n2⟩ := rl_next R1
  have e3 : oh_up z 0 13 0 0 3 = z 0 3 := by rw [oh_ap, if_neg (by omega)]
  have es : s 0 3 = z 0 3 := R.S 0 3 (rl_S0 3 (by omega))
  rw [e3] at n1 n2
  rw [n1, es]
  exact rl_to6 (rl_perform n2 (by rw [oh_ap, if_neg (by omega), oh_ups]) (rl_atw R1.1 _) (rl_page _))
/-- the turn's end, where code 6 + j is served -/
theorem rl_served {M : Nat} {c : Int32} {s z : oh_St} (R : rl_R M 6 c s z) {j : Nat} (hj : j < 6) (h : (if (z 0 9) = (0 : Int32) then (0 : Int32) else (if (z 0 6) = (0 : Int32) then (if (12 : Int32) ≤ nI (6 + j) then (0 : Int32) else (if (z 4 (nI (6 + j)).toNatClampNeg) = (0 : Int32) then (0 : Int32) else (1 : Int32))) else (0 : Int32))) = 1) : rl_R M 6 c (spX7_doTurn_k15 (nI (6 + j)) (oh_up s 4 (6 + j) 0)) (spX8_turn_k37 spX8_does z (nI (6 + j))) := by
  have ei : (nI (6 + j)).toNatClampNeg = 6 + j := nI_clamp (by omega)
  have nn : ¬ nI (6 + j) < 0 := nI_pos (by omega)
  have n1 : ¬ nI (6 + j) = -1 := fun e => by rw [e] at nn; exact nn (by decide)
  unfold spX7_doTurn_k15 spX8_turn_k37
  dsimp only
  rw [if_neg n1, h, if_neg (by decide), ei]
  have R1 := rl_to13 (rl_line R (k := 4) (i := 6 + j) (v := 0) (by omega) (by omega) (Or.inl rfl))
  rw [oh_comm z (k := 4) (i := 6 + j) (k' := 0) (i' := 13) (by omega)] at R1
  have e1 : oh_up s 4 (6 + j) 0 0 1 = z 0 1 := by rw [oh_ap, if_neg (by omega)]; exact R.S 0 1 (rl_S0 1 (by omega))
  rw [e1]
  have R2 := rl_up (rl_up R1 (k := 0) (i := 1) (v := z 0 1 + 1) (rl_S0 1 (by omega)) (by omega) (Or.inl rfl)) (k := 0) (i := 2) (v := nI (6 + j)) (rl_S0 2 (by omega)) (by omega) (Or.inl rfl)
  rw [rl_at R2 nn]
  exact rl_to6 (rl_perform R2 (by rw [oh_ap, if_neg (by omega), oh_ap, if_neg (by omega), oh_ap, if_neg (by omega), oh_ups]) (rl_atw R2.1 _) ⟨0, by omega, rfl⟩)
/-- the chain of priority, as a loop -/
def tk (σ : oh_St) : Nat → Nat → Int32 × oh_St
  | 0, _ => (-1, σ)
  | f + 1, j => if σ 2 (6 + j) = 0 then tk σ f (j + 1) else (if σ 3 (6 + j) = 0 then tk σ f (j + 1) else (if σ 4 (6 + j) = 0 then (-1, oh_up σ 4 (6 + j) 0) else (nI (6 + j), oh_up σ 4 (6 + j) 0)))
theorem tk_is (σ : oh_St) : spX0_takeInterrupt σ = tk σ 6 0 := rfl
theorem rl_chain {M : Nat} {c : Int32} {s z : oh_St} (R : rl_R M 6 c s z) (h9 : ¬ z 0 9 = 0) (h6 : z 0 6 = 0) : ∀ f j : Nat, j + f = 6 → rl_R M 6 c (spX7_doTurn_k15 (tk s f j).1 (tk s f j).2) (lpX8_turn spX8_does (f + 1) z (nI (6 + j)))
  | 0, j, h => by
    obtain rfl : j = 6 := by omega
    unfold lpX8_turn
    rw [if_pos (by decide)]
    exact rl_own R (by rw [if_neg h9, if_pos h6]; rfl)
  | f + 1, j, h => by
    have ei : (nI (6 + j)).toNatClampNeg = 6 + j := nI_clamp (by omega)
    have h12 : ¬ (12 : Int32) ≤ nI (6 + j) := fun e => by
      have := (nI_leI (a := 12) (b := 6 + j) (by omega) (by omega)).mp e
      omega
    have e2 : s 2 (6 + j) = z 2 (6 + j) := R.S 2 _ (by unfold rl_S; omega)
    have e3 : s 3 (6 + j) = z 3 (6 + j) := R.S 3 _ (by unfold rl_S; omega)
    have e4 : s 4 (6 + j) = z 4 (6 + j) := R.S 4 _ (by unfold rl_S; omega)
    unfold lpX8_turn tk
    rw [if_neg h12, ei, e2, e3, nI_1]
    by_cases q2 : z 2 (6 + j) = 0
    · rw [if_pos q2, if_pos q2]; exact rl_chain R h9 h6 f (j + 1) (by omega)
    rw [if_neg q2, if_neg q2]
    by_cases q3 : z 3 (6 + j) = 0
    · rw [if_pos q3, if_pos q3]; exact rl_chain R h9 h6 f (j + 1) (by omega)
    rw [if_neg q3, if_neg q3]
    by_cases q4 : s 4 (6 + j) = 0
    · rw [if_pos q4, oh_self s 4 (6 + j) q4]
      exact rl_own R (by rw [if_neg h9, if_pos h6, if_neg h12, ei, if_pos (e4.symm.trans q4)])
    · rw [if_neg q4]
      exact rl_served R (by omega) (by rw [if_neg h9, if_pos h6, if_neg h12, ei, if_neg (fun e => q4 (e4.trans e))])
theorem rl_none {M : Nat} {c : Int32} {s z : oh_St} (R : rl_R M 6 c s z) (h : z 0 9 = 0 ∨ ¬ z 0 6 = 0) : ∀ (f : Nat) (i : Int32), (12 : Int32) ≤ i ∨ 0 < f → (∃ j : Nat, i = nI (6 + j) ∧ j + f = 7 ∧ j ≤ 6) → rl_R M 6 c (spX7_doTurn_k15 (-1) s) (lpX8_turn spX8_does f z i)
  | 0, i, h1, ⟨j, _, h2, h3⟩ => absurd h3 (by omega)
  | f + 1, i, h1, ⟨j, hi, h2, h3⟩ => by
    have fin : rl_R M 6 c (spX7_doTurn_k15 (-1) s) (spX8_turn_k37 spX8_does z i) := rl_own R (by
      by_cases q : z 0 9 = 0
      · rw [if_pos q]
      · rw [if_neg q, if_neg (h.resolve_left q)])
    unfold lpX8_turn
    split
    · exact fin
    · rename_i h12
      have hj : j ≤ 5 := by
        rcases Nat.lt_or_ge j 6 with q | q
        · omega
        · exact absurd (by rw [hi]; exact (nI_leI (a := 12) (b := 6 + j) (by omega) (by omega)).mpr (by omega)) h12
      have nx : rl_R M 6 c (spX7_doTurn_k15 (-1) s) (lpX8_turn spX8_does f z (i + 1)) := rl_none R h f (i + 1) (Or.inr (by omega)) ⟨j + 1, by rw [hi, nI_1]; rfl, by omega, by omega⟩
      split
      · exact nx
      · split
        · exact nx
        · exact fin
def fT : oh_St → oh_St := spX8_turn spX8_ready spX8_channel spX8_does
/-- one turn -/
theorem rl_turn {M : Nat} {c : Int32} {σ τ : oh_St} (R : rl_R M 6 c σ τ) (hM : M < 1999999000) : rl_R (M + 4) 6 (c + 1) (spX7_doTurn σ) (fT τ) := by
  obtain ⟨t, D, e⟩ := rl_devs R hM spX8_channel spX8_does
  rw [show fT τ = _ from e]
  have C := rl_chans D
  unfold spX7_doTurn spX8_turn_k38
  dsimp only
  generalize spX0_advanceChannels (spX0_advanceDevices σ) = s2 at C ⊢
  generalize spX8_channel (spX8_channel t 6) 7 = z at C ⊢
  have e9 : s2 0 9 = z 0 9 := C.S 0 9 (rl_S0 9 (by omega))
  have e6 : s2 0 6 = z 0 6 := C.2.2.2.1
  rw [e9, e6]
  by_cases q9 : z 0 9 = 0
  · rw [if_pos q9, if_pos q9]
    exact rl_none C (Or.inl q9) 7 6 (Or.inr (by omega)) ⟨0, rfl, by omega, by omega⟩
  rw [if_neg q9, if_neg q9]
  by_cases q6 : z 0 6 = 0
  · rw [if_pos q6, if_pos q6, tk_is]
    exact rl_chain C q9 q6 6 0 (by omega)
  · rw [if_neg q6, if_neg q6]
    exact rl_none C (Or.inr q6) 7 6 (Or.inr (by omega)) ⟨0, rfl, by omega, by omega⟩
theorem rl_it {M : Nat} {c : Int32} {σ τ : oh_St} (R : rl_R M 6 c σ τ) : ∀ j : Nat, M + 4 * j < 1999999000 → rl_R (M + 4 * j) 6 (c + nI j) (oh_it spX7_doTurn j σ) (oh_im fT j τ)
  | 0, _ => by
    rw [show nI 0 = 0 from rfl, Int32.add_zero]; exact R
  | j + 1, h => by
    have := rl_turn (rl_it R j (by omega)) (by omega)
    rw [Int32.add_assoc, nI_1] at this
    have e1 : oh_it spX7_doTurn (j + 1) σ = spX7_doTurn (oh_it spX7_doTurn j σ) := by rw [oh_it]
    have e2 : oh_im fT (j + 1) τ = fT (oh_im fT j τ) := by rw [oh_im]
    rw [e1, e2, show 4 * (j + 1) = 4 * j + 4 by omega, ← Nat.add_assoc]
    exact this
theorem rl_fin {M : Nat} {c : Int32} {σ τ : oh_St} (R : rl_R M 6 c σ τ) : rl_R M 6 0 (oh_up σ 0 0 (σ 0 0 + c)) τ := by
  obtain ⟨hI, hs, h0, h6, hh, ha, hb, hm, hd⟩ := R
  refine ⟨hI, fun k' i' h' => ?_, ?_, ?_, hh, ?_, ?_, fun j h2 h4 => ?_, fun n hn => (hd n hn).same ?_ rfl ?_ rfl (fun j => ?_) (fun j => rfl) rfl (fun j => ?_) (fun j => rfl)⟩
  · have h'' := h'
    unfold rl_S at h'
    rw [oh_ap, if_neg (by omega)]; exact hs k' i' h''
  · rw [oh_ups, Int32.add_zero]; exact h0
  · rw [oh_ap, if_neg (by omega)]; exact h6
  · rw [oh_ap, if_neg (by omega)]; exact ha
  · rw [oh_ap, if_neg (by omega)]; exact hb
  · rw [oh_ap, if_neg (by omega)]; exact hm j h2 h4
  all_goals rw [oh_ap, if_neg (by omega)]
theorem rl_12 {M h : Nat} {c : Int32} {σ τ : oh_St} (R : rl_R M h c σ τ) : τ 0 12 = 0 := by
  obtain ⟨n, hn, e⟩ := R.I 0 12 (b := 1) rfl (by decide)
  rw [e, show n = 0 by omega]; rfl
theorem rl_rlp {M n : Nat} (hM : M + 8000 < 1999999000) (hn : n ≤ 2000) : ∀ (f j : Nat) (z t : oh_St), j + f = n + 1 → j ≤ n → rl_R (M + 4 * j) 6 (nI j) z t →
    ∃ (i : Int32) (s u : oh_St), lpX7_run spX7_doTurn (nI n) f z (nI j) = (0, i, s) ∧ lpX8_run fT (nI n) f t (nI j) = (i, u) ∧ rl_R (M + 8000) 6 0 s u
  | 0, j, z, t, h1, h2, _ => absurd h1 (by omega)
  | f + 1, j, z, t, h1, h2, R => by
    have e7 : z 0 7 = t 0 7 := R.S 0 7 (rl_S0 7 (by omega))
    have fin : rl_R (M + 8000) 6 0 (oh_up z 0 0 (z 0 0 + nI j)) t := (rl_fin R).mono (by omega)
    unfold lpX7_run lpX8_run
    dsimp only
    rw [if_pos (rl_12 R), e7]
    by_cases q : nI n ≤ nI j
    · rw [if_pos q, if_pos q]
      exact ⟨_, _, _, rfl, rfl, fin⟩
    rw [if_neg q, if_neg q]
    have hj : j < n := by
      rcases Nat.lt_or_ge j n with r | r
      · exact r
      · exact absurd ((nI_leI (by omega) (by omega)).mpr r) q
    by_cases q7 : t 0 7 = 0
    · rw [if_pos q7, if_pos q7, nI_1]
      have R' := rl_turn R (by omega)
      rw [nI_1, Nat.add_assoc, show 4 * j + 4 = 4 * (j + 1) by omega] at R'
      exact rl_rlp hM hn f (j + 1) _ _ (by omega) (by omega) R'
    · rw [if_neg q7, if_neg q7]
      exact ⟨_, _, _, rfl, rfl, fin⟩
/-- a run of n turns, n from 0 to 2000 -/
theorem rl_run {M n : Nat} (hM : M + 8000 < 1999999000) (hn : n ≤ 2000) {σ τ : oh_St} (R : rl_R M 6 0 σ τ) :
    ∃ (i : Int32) (s u : oh_St), spX7_run spX7_doTurn σ (nI n) = (0, i, s) ∧ spX8_run fT τ (nI n) = (i, u) ∧ rl_R (M + 8000) 6 0 s u := by
  obtain ⟨i, s, u, a1, a2, a3⟩ := rl_rlp hM hn (n + 1) 0 σ τ (by omega) (by omega) R
  have c1 : ¬ nI n < 0 := nI_pos (by omega)
  have c2 : nI n ≤ 2000 := (nI_leI (a := n) (b := 2000) (by omega) (by omega)).mpr hn
  refine ⟨i, s, u, ?_, ?_, a3⟩
  · unfold spX7_run
    dsimp only
    rw [if_neg c1, if_pos c2, nI_clamp (by omega)]
    exact a1
  · unfold spX8_run
    dsimp only
    rw [if_neg c1, if_pos c2, nI_clamp (by omega), oh_self τ 0 12 (rl_12 R)]
    exact a2
/-- what the reference's walks ask of its state -/
theorem rl_wm' {M : Nat} {τ : oh_St} (hI : rl_I M τ) : oh_WM M τ := by
  have hr : ∀ k i b, rl_h M k i = b → b ≠ 0 → ∃ n : Nat, n < b ∧ τ k i = nI n := fun k i b hb h0 => by
    have := hI k i
    rw [hb] at this
    exact this.resolve_left h0
  have nn : ∀ k i, rl_h M k i = 65536 → ¬ τ k i < 0 := fun k i hb => by
    obtain ⟨n, h1, h2⟩ := hr k i 65536 hb (by decide)
    rw [h2]; exact nI_pos (by omega)
  refine ⟨fun y _ => (rl_atw hI y).nn, ?_, rl_b01 (hr 0 9 2 rfl (by decide)), fun i => ?_, fun i => nn 14 i rfl, fun i => nn 20 i rfl, fun i => ?_, fun i => ?_⟩
  · obtain ⟨n, h1, h2⟩ := hr 0 3 32768 rfl (by decide)
    rw [h2]; exact nI_pos (by omega)
  · obtain ⟨n, h1, h2⟩ := hr 6 i 32768 rfl (by decide)
    rw [h2]; exact nI_pos (by omega)
  · obtain ⟨n, h1, h2⟩ := hr 16 i 101 rfl (by decide)
    exact ⟨n, by omega, h2⟩
  · obtain ⟨n, h1, h2⟩ := hr 17 i (M + 1) rfl (by omega)
    exact ⟨n, by omega, h2⟩
