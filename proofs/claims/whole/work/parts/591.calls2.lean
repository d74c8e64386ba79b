/-- one more word on a tape -/
theorem rl_tapeput {M h : Nat} {c : Int32} {σ τ : oh_St} (R : rl_R M h c σ τ) {n s T : Nat} (hn : n < 4) (hs : s < 100) (hT : T < 100) (e18 : σ 18 (8 + n) = nI s)
    (ring : ∀ t, t < T → σ (20 + n) ((s + t) % 100) = τ 20 (100 * (8 + n) + t)) {v : Int32} (hv : rl_w v) :
    rl_R M h c (oh_up (oh_up σ (20 + n) ((s + T) % 100) v) 16 (8 + n) (nI (T + 1))) (oh_up (oh_up τ 20 (100 * (8 + n) + T) v) 16 (8 + n) (nI (T + 1))) := by
  obtain ⟨hI, hS, h0, h6, hh, ha, hb, hm, hd⟩ := R
  refine ⟨(hI.up (hv.ok rfl)).up (Or.inr ⟨T + 1, by show T + 1 < 101; omega, rfl⟩), fun k i h' => ?_, ?_, ?_, hh, ?_, ?_, fun j h2 h4 => ?_, fun m hm4 => ?_⟩
  · have h'' := h'
    unfold rl_S at h'
    by_cases g : k = 16 ∧ i = 8 + n
    · rw [g.1, g.2, oh_ups, oh_ups]
    · rw [oh_ap, if_neg g, oh_ap, if_neg (by omega), oh_ap, if_neg g, oh_ap, if_neg (by omega)]; exact hS k i h''
  · rw [oh_ap, if_neg (by omega), oh_ap, if_neg (by omega), oh_ap, if_neg (by omega), oh_ap, if_neg (by omega)]; exact h0
  · rw [oh_ap, if_neg (by omega), oh_ap, if_neg (by omega), oh_ap, if_neg (by omega), oh_ap, if_neg (by omega)]; exact h6
  · rw [oh_ap, if_neg (by omega), oh_ap, if_neg (by omega), oh_ap, if_neg (by omega), oh_ap, if_neg (by omega)]; exact ha
  · rw [oh_ap, if_neg (by omega), oh_ap, if_neg (by omega), oh_ap, if_neg (by omega), oh_ap, if_neg (by omega)]; exact hb
  · rw [oh_ap, if_neg (by omega), oh_ap, if_neg (by omega), oh_ap, if_neg (by omega), oh_ap, if_neg (by omega)]; exact hm j h2 h4
  · obtain ⟨d1, ⟨s', T', a1, a2, a3, a4, a5⟩, C, c1, c2⟩ := hd m hm4
    refine ⟨?_, ?_, C, ?_, fun i hi hc => ?_⟩
    · rw [oh_ap, if_neg (by omega), oh_ap, if_neg (by omega), oh_ap, if_neg (by omega), oh_ap, if_neg (by omega)]; exact d1
    · by_cases e : m = n
      · subst e
        refine ⟨s, T + 1, hs, by omega, ?_, oh_ups, fun t ht => ?_⟩
        · rw [oh_ap, if_neg (by omega), oh_ap, if_neg (by omega)]; exact e18
        · rw [oh_ap, if_neg (by omega), oh_ap (oh_up τ _ _ _), if_neg (by omega), oh_ap, oh_ap]
          by_cases r : t = T
          · subst r
            rw [if_pos ⟨rfl, rfl⟩, if_pos ⟨rfl, rfl⟩]
          · rw [if_neg (by omega), if_neg (by omega)]
            exact ring t (by omega)
      · refine ⟨s', T', a1, a2, ?_, ?_, fun t ht => ?_⟩
        · rw [oh_ap, if_neg (by omega), oh_ap, if_neg (by omega)]; exact a3
        · rw [oh_ap, if_neg (by omega), oh_ap, if_neg (by omega)]; exact a4
        · rw [oh_ap, if_neg (by omega), oh_ap, if_neg (by omega), oh_ap, if_neg (by omega), oh_ap, if_neg (by omega)]; exact a5 t ht
    · rw [oh_ap, if_neg (by omega), oh_ap, if_neg (by omega)]; exact c1
    · rw [oh_ap, if_neg (by omega), oh_ap, if_neg (by omega), oh_ap, if_neg (by omega), oh_ap, if_neg (by omega)]; exact c2 i hi hc
theorem cl_give {M : Nat} {σ τ : oh_St} (L : rl_L M σ τ) (p v : Int32) : cl_eq (spX7_give σ p v).1 (spX7_give σ p v).2.1 (spX8_give τ p v).1 (spX8_give τ p v).2 ∧ rl_L M (spX7_give σ p v).2.2 (spX8_give τ p v).2 := by
  unfold spX7_give spX8_give
  dsimp only
  by_cases q : oh_ix p 4
  · obtain ⟨q0, q1⟩ := (ix_d p).mp q
    obtain ⟨n, hn, rfl⟩ := ix_dn q
    obtain ⟨_, ⟨s, T, s1, s2, s3, s4, s5⟩, _⟩ := L.2.2.2.2.2.2.2.2 n hn
    have e16 : σ 16 (8 + n) = nI T := (rl_R.S L 16 (8 + n) (by unfold rl_S; omega)).trans s4
    rw [if_pos q, lk_ok q0 q1, if_pos rfl]
    unfold spX8_give_k11 spX2_putOnTape
    dsimp only
    rw [nI_clamp (show n < 2 ^ 31 by omega), n8, nI_clamp (show 8 + n < 2 ^ 31 by omega), e16, s3]
    simp only [s4, oh_idem, oh_ups]
    by_cases r : T = 100
    · subst r
      have e2 : (if nI 100 = 100 then (2 : Int32) else 0) = 2 := by decide
      rw [if_neg (show ¬ nI 100 < 100 by decide)]
      simp only [e2]
      rw [if_neg (show ¬ (2 : Int32) ≤ 0 by decide)]
      exact cl_bad L 2 (by decide) 0 0
    · have hT : T < 100 := by omega
      rw [if_pos (show nI T < 100 from (nI_ltI (a := T) (b := 100) (by omega) (by omega)).mpr hT), if_neg (show ¬ nI T = 100 from fun e => r ((nI_eq (a := T) (b := 100) (by omega) (by omega)).mp e)), if_pos (show (0 : Int32) ≤ 0 by decide), s4]
      have ex : (if (nI s + nI T) < (100 : Int32) then (nI s + nI T) else ((nI s + nI T) + (-100 : Int32))) = nI ((s + T) % 100) := by
        rw [nI_add]
        by_cases g : s + T < 100
        · rw [if_pos (show nI (s + T) < 100 from (nI_ltI (a := s + T) (b := 100) (by omega) (by omega)).mpr g), Nat.mod_eq_of_lt g]
        · rw [if_neg (show ¬ nI (s + T) < 100 from fun e => g ((nI_ltI (a := s + T) (b := 100) (by omega) (by omega)).mp e))]
          have e1 : nI (s + T) + (-100) = nI (s + T) - nI 100 := by rw [Int32.sub_eq_add_neg, show -nI 100 = -100 from by decide]
          rw [e1, pk_sub (by omega)]
          congr 1
          omega
      have hx : (s + T) % 100 < 100 := Nat.mod_lt _ (by omega)
      rw [ex, if_neg (show ¬ (100 : Int32) ≤ nI T from fun e => by
        have := (nI_leI (a := 100) (b := T) (by omega) (by omega)).mp e
        omega), if_neg (show ¬ nI ((s + T) % 100) < 0 from nI_pos (by omega)), if_neg (show ¬ (100 : Int32) ≤ nI ((s + T) % 100) from fun e => by
        have := (nI_leI (a := 100) (b := (s + T) % 100) (by omega) (by omega)).mp e
        omega), nI_clamp (show (s + T) % 100 < 2 ^ 31 by omega)]
      have g1 : oh_up σ (20 + n) ((s + T) % 100) (v &&& 65535) 16 (8 + n) = nI T := by rw [oh_ap, if_neg (by omega)]; exact e16
      have g2 : ((100 : Int32) * nI (8 + n) + nI T).toNatClampNeg = 100 * (8 + n) + T := by
        rw [show (100 : Int32) = nI 100 from rfl, pk_mul, nI_add, nI_clamp (by omega)]
      have g3 : ∀ x, oh_up (oh_up τ 0 12 0) 20 x (v &&& 65535) 16 (8 + n) = nI T := fun x => by rw [oh_ap, if_neg (by omega)]; exact s4
      rw [g1, g2, g3, nI_1, oh_ups]
      have R1 := rl_tapeput L hn s1 hT s3 s5 (rl_wm v)
      exact ⟨⟨rl_12 R1, fun _ => rfl⟩, R1.L⟩
  · rw [if_neg q]
    have h : p < 0 ∨ ¬ p < 4 := by
      by_cases q0 : p < 0
      · exact Or.inl q0
      · exact Or.inr (fun e => q ((ix_d p).mpr ⟨q0, e⟩))
    rw [lk_no h]
    exact cl_bad L 1 (by decide) 0 0
theorem cs_j : ∀ j, j < 6 → ((nI (6 + j) - 6).toNatClampNeg = j ∧ oh_ix (nI (6 + j) - 6) 6 ∧ ¬ nI (6 + j) < 6 ∧ nI (6 + j) < 12) := by decide +kernel
theorem cs_jc : ∀ j, j < 2 → (oh_ix (nI (6 + j) - 6) 2 ∧ ¬ (8 : Int32) ≤ nI (6 + j)) := by decide +kernel
theorem cs_jd : ∀ d, d < 4 → (¬ oh_ix (nI (8 + d) - 6) 2 ∧ (8 : Int32) ≤ nI (8 + d)) := by decide +kernel
theorem cl_code {M : Nat} {σ τ : oh_St} (L : rl_L M σ τ) (p w : Int32) : spX7_code σ p w = (spX8_code τ p w).1 ∧ rl_L M σ (spX8_code τ p w).2 := by
  have L0 := L.t 0
  by_cases q : oh_ix (p - 6) 6
  · obtain ⟨j, hj, rfl⟩ : ∃ j : Nat, j < 6 ∧ p = nI (6 + j) := by
      have h := (ix_sub p 6 (by omega) 6 (by omega)).mp q
      obtain ⟨n, hn, rfl⟩ := nI_of (x := p) (fun e => by
        rw [Int32.lt_iff_toInt_lt] at e
        have e1 : (0 : Int32).toInt = 0 := rfl
        omega)
      rw [nI_toInt hn] at h
      exact ⟨n - 6, by omega, by rw [show 6 + (n - 6) = n by omega]⟩
    obtain ⟨a1, a2, a3, a4⟩ := cs_j j hj
    have ei : (nI (6 + j)).toNatClampNeg = 6 + j := nI_clamp (by omega)
    unfold spX7_code spX8_code spX7_bit
    dsimp only
    rw [if_pos a2, if_neg a3, if_pos a4, a1, ei, L.S 2 (6 + j) (by unfold rl_S; omega), L.S 3 (6 + j) (by unfold rl_S; omega), L.S 4 (6 + j) (by unfold rl_S; omega)]
    by_cases q0 : w = 0
    · rw [if_pos q0, if_pos q0]
      split <;> exact ⟨rfl, L0⟩
    rw [if_neg q0, if_neg q0]
    by_cases q1 : w = 1
    · rw [if_pos q1, if_pos q1]
      split <;> exact ⟨rfl, L0⟩
    rw [if_neg q1, if_neg q1]
    by_cases q2 : w = 2
    · rw [if_pos q2, if_pos q2]
      split <;> exact ⟨rfl, L0⟩
    rw [if_neg q2, if_neg q2]
    by_cases hc : j < 2
    · obtain ⟨b1, b2⟩ := cs_jc j hc
      rw [if_pos b1]
      simp only [if_neg b2]
      unfold spX1_tellPart spX7_bit
      dsimp only
      rw [L.S 5 (6 + j) (by unfold rl_S; omega), L.S 6 (6 + j) (by unfold rl_S; omega), L.S 7 (6 + j) (by unfold rl_S; omega), L.S 8 (6 + j) (by unfold rl_S; omega), L.S 9 (6 + j) (by unfold rl_S; omega), L.S 10 (6 + j) (by unfold rl_S; omega)]
      by_cases q3 : w = 3
      · rw [if_pos q3, if_pos q3]
        split <;> exact ⟨rfl, L0⟩
      rw [if_neg q3, if_neg q3]
      by_cases q4 : w = 4
      · rw [if_pos q4, if_pos q4]; exact ⟨rfl, L0⟩
      rw [if_neg q4, if_neg q4]
      by_cases q5 : w = 5
      · rw [if_pos q5, if_pos q5]; exact ⟨rfl, L0⟩
      rw [if_neg q5, if_neg q5]
      by_cases q6 : w = 6
      · rw [if_pos q6, if_pos q6]
        split <;> exact ⟨rfl, L0⟩
      rw [if_neg q6, if_neg q6]
      by_cases q7 : w = 7
      · rw [if_pos q7, if_pos q7]; exact ⟨rfl, L0⟩
      rw [if_neg q7, if_neg q7]
      by_cases q8 : w = 8
      · rw [if_pos q8, if_pos q8]; exact ⟨rfl, L0⟩
      rw [if_neg q8, if_neg q8]
      exact ⟨rfl, L0⟩
    · obtain ⟨d, hd, rfl⟩ : ∃ d, d < 4 ∧ j = 2 + d := ⟨j - 2, by omega, by omega⟩
      rw [show 6 + (2 + d) = 8 + d by omega]
      obtain ⟨b1, b2⟩ := cs_jd d hd
      obtain ⟨c1, c2, c3, c4⟩ := cs_d d hd
      rw [if_neg b1, if_pos c2, c1]
      simp only [if_pos b2]
      unfold spX2_tellPart spX7_bit
      dsimp only
      have d12 := (L.2.2.2.2.2.2.2.2 d hd).1
      have e12 := rl_b01 (rl_R.I L 12 (8 + d) (b := 2) rfl (by decide))
      rw [oh_ap, if_neg (by omega)] at d12 e12
      rw [L.S 15 (8 + d) (by unfold rl_S; omega), L.S 14 (8 + d) (by unfold rl_S; omega), L.S 16 (8 + d) (by unfold rl_S; omega), L.S 13 (8 + d) (by unfold rl_S; omega), L.S 17 (8 + d) (by unfold rl_S; omega)]
      by_cases q3 : w = 3
      · rw [if_pos q3, if_pos q3]; exact ⟨rfl, L0⟩
      rw [if_neg q3, if_neg q3]
      by_cases q4 : w = 4
      · rw [if_pos q4, if_pos q4]; exact ⟨rfl, L0⟩
      rw [if_neg q4, if_neg q4]
      by_cases q5 : w = 5
      · rw [if_pos q5, if_pos q5]; exact ⟨rfl, L0⟩
      rw [if_neg q5, if_neg q5]
      by_cases q6 : w = 6
      · rw [if_pos q6, if_pos q6, d12]
        rcases e12 with e | e
        · rw [e, if_neg (by decide), if_pos rfl]; exact ⟨rfl, L0⟩
        · rw [e, if_pos (by decide), if_neg (by decide)]; exact ⟨rfl, L0⟩
      rw [if_neg q6, if_neg q6]
      by_cases q7 : w = 7
      · rw [if_pos q7, if_pos q7]; exact ⟨rfl, L0⟩
      rw [if_neg q7, if_neg q7]
      by_cases q8 : w = 8
      · rw [if_pos q8, if_pos q8]; exact ⟨rfl, L0⟩
      rw [if_neg q8, if_neg q8]
      exact ⟨rfl, L0⟩
  · have h : p < 6 ∨ ¬ p < 12 := by
      by_cases q0 : p < 6
      · exact Or.inl q0
      · refine Or.inr (fun e => q ((ix_sub p 6 (by omega) 6 (by omega)).mpr ?_))
        rw [Int32.lt_iff_toInt_lt] at q0 e
        have e1 : (6 : Int32).toInt = 6 := rfl
        have e2 : (12 : Int32).toInt = 12 := rfl
        omega
    have e : spX8_code τ p w = (-1, oh_up τ 0 12 0) := by
      unfold spX8_code
      by_cases q0 : p < 6
      · rw [if_pos q0]
      · rw [if_neg q0, if_neg (h.resolve_left q0)]
    rw [e]
    unfold spX7_code
    rw [if_neg q]
    exact ⟨rfl, L0⟩
/-! the states at the start -/
def oh_s0 : oh_St := fun k i => if k = 0 ∧ (i = 2 ∨ i = 8) then -1 else (if (k = 12 ∨ k = 13) ∧ 8 ≤ i ∧ i ≤ 11 then 1 else 0)
def oh_t0 : oh_St := fun k i => if k = 0 ∧ (i = 2 ∨ i = 8) then -1 else (if k = 13 ∧ 8 ≤ i ∧ i ≤ 11 then 1 else 0)
theorem oh_r0 : rl_R 0 6 0 oh_s0 oh_t0 := by
  refine ⟨fun k i => ?_, fun k i h => ?_, rfl, rfl, Or.inl rfl, rfl, rfl, fun i h1 h2 => ?_, fun n hn => ⟨?_, ⟨0, 0, by omega, by omega, ?_, ?_, fun t ht => absurd ht (by omega)⟩, 0, ?_, fun i _ hc => absurd hc (by omega)⟩⟩
  · unfold oh_t0
    by_cases q : k = 0 ∧ (i = 2 ∨ i = 8)
    · left
      rw [q.1]
      rcases q.2 with rfl | rfl <;> rfl
    · rw [if_neg q]
      by_cases r : k = 13 ∧ 8 ≤ i ∧ i ≤ 11
      · rw [if_pos r, r.1]
        exact Or.inr ⟨1, by show 1 < 101; omega, rfl⟩
      · rw [if_neg r]
        by_cases z : rl_h 0 k i = 0
        · exact Or.inl z
        · exact Or.inr ⟨0, by omega, rfl⟩
  · unfold oh_s0 oh_t0
    unfold rl_S at h
    by_cases q : k = 0 ∧ (i = 2 ∨ i = 8)
    · rw [if_pos q, if_pos q]
    · rw [if_neg q, if_neg q]
      by_cases r : k = 13 ∧ 8 ≤ i ∧ i ≤ 11
      · rw [if_pos ⟨Or.inr r.1, r.2⟩, if_pos r]
      · rw [if_neg (by omega), if_neg r]
  · unfold oh_s0 oh_t0
    rw [if_neg (by omega), if_neg (by omega), if_neg (by omega), if_neg (by omega)]
  · unfold oh_s0 oh_t0
    rw [if_neg (by omega), if_pos (by omega), if_neg (by omega), if_neg (by omega)]
    rfl
  · unfold oh_s0
    rw [if_neg (by omega), if_neg (by omega)]; rfl
  · unfold oh_t0
    rw [if_neg (by omega), if_neg (by omega)]; rfl
  · unfold oh_t0
    rw [if_neg (by omega), if_neg (by omega)]; rfl
