/-! ===== select codes ===== -/
theorem cs_hi1 : ∀ n, n < 64 → 12 ≤ n → (¬ nI n = 0 ∧ ¬ nI n = 1 ∧ ¬ nI n = 2 ∧ ¬ nI n = 3 ∧ ¬ nI n = 6 ∧ ¬ nI n = 7) := by decide +kernel
theorem cs_hi2 : ∀ n, n < 64 → 12 ≤ n → (¬ nI n < 6 ∧ ¬ nI n < 8 ∧ ¬ nI n < 12 ∧ (12 : Int32) ≤ nI n) := by decide +kernel
theorem cs_hi3 : ∀ n, n < 64 → 12 ≤ n → (¬ oh_ix (nI n - 2) 2 ∧ ¬ oh_ix (nI n - 6) 2 ∧ ¬ oh_ix (nI n - 6) 6 ∧ ¬ oh_ix (nI n - 8) 4) := by decide +kernel
theorem cs_hi (n : Nat) (h : n < 64) (h12 : 12 ≤ n) : (¬ nI n = 0 ∧ ¬ nI n = 1 ∧ ¬ nI n = 2 ∧ ¬ nI n = 3 ∧ ¬ nI n = 6 ∧ ¬ nI n = 7 ∧ ¬ nI n < 6 ∧ ¬ nI n < 8 ∧ ¬ nI n < 12 ∧ (12 : Int32) ≤ nI n ∧ ¬ oh_ix (nI n - 2) 2 ∧ ¬ oh_ix (nI n - 6) 2 ∧ ¬ oh_ix (nI n - 6) 6 ∧ ¬ oh_ix (nI n - 8) 4) := by
  obtain ⟨a, b, c, d, e, f⟩ := cs_hi1 n h h12
  obtain ⟨g, i, j, k⟩ := cs_hi2 n h h12
  obtain ⟨l, m, o, p⟩ := cs_hi3 n h h12
  exact ⟨a, b, c, d, e, f, g, i, j, k, l, m, o, p⟩
theorem cs_cases {n : Nat} (hn : n < 64) : n = 0 ∨ n = 1 ∨ n = 2 ∨ n = 3 ∨ n = 4 ∨ n = 5 ∨ n = 6 ∨ n = 7 ∨ n = 8 ∨ n = 9 ∨ n = 10 ∨ n = 11 ∨ 12 ≤ n := by omega
theorem rl_line {M h : Nat} {c : Int32} {σ τ : oh_St} {k i : Nat} {v : Int32} (R : rl_R M h c σ τ) (hk : k = 2 ∨ k = 3 ∨ k = 4) (hi : 6 ≤ i ∧ i ≤ 11) (hv : v = 0 ∨ v = 1) : rl_R M h c (oh_up σ k i v) (oh_up τ k i v) :=
  rl_up R (by unfold rl_S; omega) (by omega) (rl_ok2 hv (by rcases hk with rfl | rfl | rfl <;> rfl))
theorem rl_flag2 {M h : Nat} {c : Int32} {σ τ : oh_St} {i : Nat} {v : Int32} (R : rl_R M h c σ τ) (hi : 6 ≤ i ∧ i ≤ 11) (hv : v = 0 ∨ v = 1) : rl_R M h c (oh_up (oh_up σ 3 i v) 4 i v) (oh_up (oh_up τ 3 i v) 4 i v) :=
  rl_line (rl_line R (by omega) hi hv) (by omega) hi hv
theorem rl_chan2 {M h : Nat} {c : Int32} {σ τ : oh_St} {k i : Nat} {v : Int32} (R : rl_R M h c σ τ) (hk : k = 5 ∨ k = 8 ∨ k = 11) (hi : 6 ≤ i ∧ i ≤ 7) (hv : v = 0 ∨ v = 1) : rl_R M h c (oh_up σ k i v) (oh_up τ k i v) :=
  rl_up R (by unfold rl_S; omega) (by omega) (rl_ok2 hv (by rcases hk with rfl | rfl | rfl <;> rfl))
theorem rl_chanw {M h : Nat} {c : Int32} {σ τ : oh_St} {k i : Nat} {v : Int32} (R : rl_R M h c σ τ) (hk : k = 7 ∨ k = 9) (hi : 6 ≤ i ∧ i ≤ 7) (hv : rl_w v) : rl_R M h c (oh_up σ k i v) (oh_up τ k i v) :=
  rl_up R (by unfold rl_S; omega) (by omega) (hv.ok (by rcases hk with rfl | rfl <;> rfl))
theorem rl_chana {M h : Nat} {c : Int32} {σ τ : oh_St} {i : Nat} {v : Int32} (R : rl_R M h c σ τ) (hi : 6 ≤ i ∧ i ≤ 7) (hv : ∃ n : Nat, n < 32768 ∧ v = nI n) : rl_R M h c (oh_up σ 6 i v) (oh_up τ 6 i v) :=
  rl_up R (by unfold rl_S; omega) (by omega) (Or.inr hv)
theorem rl_buf {M h : Nat} {c : Int32} {σ τ : oh_St} {i : Nat} {v : Int32} (R : rl_R M h c σ τ) (hi : 8 ≤ i ∧ i ≤ 11) (hv : rl_w v) : rl_R M h c (oh_up σ 14 i v) (oh_up τ 14 i v) :=
  rl_up R (by unfold rl_S; omega) (by omega) (hv.ok rfl)
theorem rl_start {M h : Nat} {c : Int32} {σ τ : oh_St} {i : Nat} (R : rl_R M h c σ τ) (hi : 8 ≤ i ∧ i ≤ 11) : rl_R M h c (oh_up σ 15 i (σ 13 i)) (oh_up τ 15 i (τ 13 i)) := by
  rw [R.S 13 i (by unfold rl_S; omega)]
  exact rl_up R (by unfold rl_S; omega) (by omega) (R.1 13 i)
theorem cs_flagOf {M h : Nat} {c : Int32} {σ τ : oh_St} (R : rl_R M h c σ τ) {n : Nat} (hn : n < 64) : spX0_flagOf σ (nI n) = spX8_flagOf τ (nI n) := by
  have fl : ∀ i, 6 ≤ i ∧ i ≤ 11 → (if σ 3 i = 0 then (0 : Int32) else 1) = (if τ 3 i = 0 then 0 else 1) := fun i hi => by rw [R.S 3 i (by unfold rl_S; omega)]
  rcases cs_cases hn with rfl | rfl | rfl | rfl | rfl | rfl | rfl | rfl | rfl | rfl | rfl | rfl | h12
  · exact R.S 0 9 (rl_S0 9 (by omega))
  · show (if σ 0 5 = 0 then (0 : Int32) else 1) = (if τ 0 5 = 1 then 1 else 0)
    rw [R.S 0 5 (rl_S0 5 (by omega))]
    rcases rl_b01 (R.I 0 5 (b := 2) rfl (by decide)) with e | e <;> rw [e] <;> rfl
  · rfl
  · rfl
  · rfl
  · rfl
  · exact fl 6 (by omega)
  · exact fl 7 (by omega)
  · exact fl 8 (by omega)
  · exact fl 9 (by omega)
  · exact fl 10 (by omega)
  · exact fl 11 (by omega)
  · obtain ⟨a0, a1, a2, a3, a6, a7, b6, b8, b12, c12, d2, d6, d66, d8⟩ := cs_hi n hn h12
    unfold spX0_flagOf spX8_flagOf
    rw [if_neg a0, if_neg a1, if_neg d66, if_neg a0, if_neg a1, if_neg b6, if_pos c12]
theorem cs_putFlag {M h : Nat} {c : Int32} {σ τ : oh_St} (R : rl_R M h c σ τ) {n : Nat} (hn : n < 64) {v : Int32} (hv : v = 0 ∨ v = 1) : rl_R M h c (spX0_putFlag σ (nI n) v) (spX8_setFlag τ (nI n) v) := by
  have fl : ∀ i, 6 ≤ i ∧ i ≤ 11 → rl_R M h c (oh_up (oh_up σ 3 i v) 4 i v) (oh_up (oh_up τ 3 i v) 4 i v) := fun i hi => rl_flag2 R hi hv
  rcases cs_cases hn with rfl | rfl | rfl | rfl | rfl | rfl | rfl | rfl | rfl | rfl | rfl | rfl | h12
  · exact rl_up R (rl_S0 9 (by omega)) (by omega) (rl_ok2 hv rfl)
  · show rl_R M h c (oh_up σ 0 5 (if v = 0 then 0 else 1)) (oh_up τ 0 5 (if v = 0 then 0 else 1))
    refine rl_o R ?_
    rcases hv with rfl | rfl
    · exact Or.inl rfl
    · exact Or.inr rfl
  · exact R
  · exact R
  · exact R
  · exact R
  · exact fl 6 (by omega)
  · exact fl 7 (by omega)
  · exact fl 8 (by omega)
  · exact fl 9 (by omega)
  · exact fl 10 (by omega)
  · exact fl 11 (by omega)
  · obtain ⟨a0, a1, a2, a3, a6, a7, b6, b8, b12, c12, d2, d6, d66, d8⟩ := cs_hi n hn h12
    unfold spX0_putFlag spX8_setFlag spX8_setFlag_k11 spX8_setFlag_k10
    dsimp only
    rw [if_neg a0, if_neg a1, if_neg d66, if_neg a0, if_neg a1, if_neg b6, if_neg b12]
    exact R
theorem cs_tell {M h : Nat} {c : Int32} {σ τ : oh_St} (R : rl_R M h c σ τ) {n : Nat} (hn : n < 64) : spX0_tell σ (nI n) = spX8_told τ (nI n) ∧ rl_w (spX8_told τ (nI n)) := by
  have sw : ∀ k i, rl_S k i → rl_h M k i = 65536 → σ k i = τ k i ∧ rl_w (τ k i) := fun k i h1 h2 => ⟨R.S k i h1, R.I k i h2 (by decide)⟩
  have bu : ∀ i, 8 ≤ i ∧ i ≤ 11 → σ 14 i = τ 14 i ∧ rl_w (τ 14 i) := fun i hi => sw 14 i (by unfold rl_S; omega) rfl
  rcases cs_cases hn with rfl | rfl | rfl | rfl | rfl | rfl | rfl | rfl | rfl | rfl | rfl | rfl | h12
  · exact ⟨rfl, rl_w0⟩
  · exact sw 0 10 (rl_S0 10 (by omega)) rfl
  · exact sw 7 6 (by unfold rl_S; omega) rfl
  · exact sw 7 7 (by unfold rl_S; omega) rfl
  · exact ⟨rfl, rl_w0⟩
  · exact ⟨rfl, rl_w0⟩
  · exact ⟨rfl, rl_w0⟩
  · exact ⟨rfl, rl_w0⟩
  · exact bu 8 (by omega)
  · exact bu 9 (by omega)
  · exact bu 10 (by omega)
  · exact bu 11 (by omega)
  · obtain ⟨a0, a1, a2, a3, a6, a7, b6, b8, b12, c12, d2, d6, d66, d8⟩ := cs_hi n hn h12
    unfold spX0_tell spX8_told
    rw [if_neg a1, if_neg d2, if_neg d8, if_neg a1, if_neg a2, if_neg a3, if_neg b8, if_pos c12]
    exact ⟨rfl, rl_w0⟩
theorem cs_reg {M h : Nat} {c : Int32} {σ τ : oh_St} (R : rl_R M h c σ τ) {v : Int32} (hv : rl_w v) {i : Nat} (hi : 6 ≤ i ∧ i ≤ 7) :
    rl_R M h c (if σ 11 i = 0 then oh_up (oh_up σ 6 i (v &&& 32767)) 8 i (if v &&& 32768 = 0 then 0 else 1) else oh_up σ 7 i v) (if τ 11 i = 0 then oh_up (oh_up τ 6 i (v &&& 32767)) 8 i (if v >>> ((15 : Int32) &&& 31) = 1 then 1 else 0) else oh_up τ 7 i v) := by
  rw [R.S 11 i (by unfold rl_S; omega)]
  have e : (if v >>> ((15 : Int32) &&& 31) = 1 then (1 : Int32) else 0) = (if v &&& 32768 = 0 then 0 else 1) := by
    by_cases q : v &&& 32768 = 0
    · rw [if_pos q, if_neg (fun f => (sg1 hv).mp f q)]
    · rw [if_neg q, if_pos ((sg1 hv).mpr q)]
  rw [e]
  split
  · refine rl_chan2 (rl_chana R hi (rl_m15 _)) (by omega) hi ?_
    split
    · exact Or.inl rfl
    · exact Or.inr rfl
  · exact rl_chanw R (by omega) hi hv
theorem cs_take {M h : Nat} {c : Int32} {σ τ : oh_St} (R : rl_R M h c σ τ) {n : Nat} (hn : n < 64) {v : Int32} (hv : rl_w v) : rl_R M h c (spX0_take σ (nI n) v) (spX8_goes τ (nI n) v) := by
  rcases cs_cases hn with rfl | rfl | rfl | rfl | rfl | rfl | rfl | rfl | rfl | rfl | rfl | rfl | h12
  · exact R
  · exact rl_up R (rl_S0 11 (by omega)) (by omega) (hv.ok rfl)
  · exact cs_reg R hv (i := 6) (by omega)
  · exact cs_reg R hv (i := 7) (by omega)
  · exact R
  · exact R
  · exact rl_chanw R (i := 6) (by omega) (by omega) hv
  · exact rl_chanw R (i := 7) (by omega) (by omega) hv
  · exact rl_buf R (i := 8) (by omega) hv
  · exact rl_buf R (i := 9) (by omega) hv
  · exact rl_buf R (i := 10) (by omega) hv
  · exact rl_buf R (i := 11) (by omega) hv
  · obtain ⟨a0, a1, a2, a3, a6, a7, b6, b8, b12, c12, d2, d6, d66, d8⟩ := cs_hi n hn h12
    unfold spX0_take spX8_goes spX8_goes_k21 spX8_goes_k20 spX8_goes_k19
    dsimp only
    rw [if_neg a1, if_neg d2, if_neg d6, if_neg d8, if_neg a1, if_neg a2, if_neg a3, if_neg a6, if_neg a7, if_neg b8, if_pos c12]
    exact R
/-- a cell that nothing speaks of -/
theorem rl_off {M h : Nat} {c : Int32} {σ τ : oh_St} {i : Nat} {v : Int32} (R : rl_R M h c σ τ) (hi : 8 ≤ i) (hv : v = 0 ∨ v = 1) : rl_R M h c σ (oh_up τ 5 i v) := by
  obtain ⟨hI, hs, h0, h6, hh, ha, hb, hm, hd⟩ := R
  refine ⟨hI.up (rl_ok2 hv rfl), fun k' i' h' => ?_, ?_, ?_, hh, ?_, ?_, fun j h2 h4 => ?_, fun n hn => (hd n hn).same rfl ?_ rfl ?_ (fun j => rfl) (fun j => ?_) ?_ (fun j => rfl) (fun j => ?_)⟩
  · unfold rl_S at h'
    rw [oh_ap, if_neg (by omega)]; exact hs k' i' (by unfold rl_S; exact h')
  · rw [oh_ap, if_neg (by omega)]; exact h0
  · rw [oh_ap, if_neg (by omega)]; exact h6
  · rw [oh_ap, if_neg (by omega)]; exact ha
  · rw [oh_ap, if_neg (by omega)]; exact hb
  · rw [oh_ap, if_neg (by omega)]; exact hm j h2 h4
  all_goals rw [oh_ap, if_neg (by omega)]
theorem cs_reset (σ : oh_St) : spX0_resetAllControls σ = oh_up (oh_up (oh_up (oh_up (oh_up (oh_up (oh_up (oh_up σ 2 6 0) 5 6 0) 2 7 0) 5 7 0) 2 8 0) 2 9 0) 2 10 0) 2 11 0 := by
  show oh_up (oh_up (oh_up (oh_up (oh_up (oh_up (oh_up (oh_up σ 2 6 0) 2 7 0) 2 8 0) 2 9 0) 2 10 0) 2 11 0) 5 6 0) 5 7 0 = _
  rw [oh_comm _ (k := 2) (i := 11) (k' := 5) (i' := 6) (by omega), oh_comm _ (k := 2) (i := 10) (k' := 5) (i' := 6) (by omega), oh_comm _ (k := 2) (i := 9) (k' := 5) (i' := 6) (by omega), oh_comm _ (k := 2) (i := 8) (k' := 5) (i' := 6) (by omega), oh_comm _ (k := 2) (i := 7) (k' := 5) (i' := 6) (by omega),
    oh_comm _ (k := 2) (i := 11) (k' := 5) (i' := 7) (by omega), oh_comm _ (k := 2) (i := 10) (k' := 5) (i' := 7) (by omega), oh_comm _ (k := 2) (i := 9) (k' := 5) (i' := 7) (by omega), oh_comm _ (k := 2) (i := 8) (k' := 5) (i' := 7) (by omega)]
theorem cs_putControl {M h : Nat} {c : Int32} {σ τ : oh_St} (R : rl_R M h c σ τ) {n : Nat} (hn : n < 64) {v : Int32} (hv : v = 0 ∨ v = 1) : rl_R M h c (spX0_putControl σ (nI n) v) (spX8_setControl τ (nI n) v) := by
  have dv : ∀ i, 8 ≤ i ∧ i ≤ 11 → rl_R M h c (if v = 0 then oh_up σ 2 i v else oh_up (oh_up σ 2 i v) 15 i (oh_up σ 2 i v 13 i)) (if v = 0 then oh_up τ 2 i v else oh_up (oh_up τ 2 i v) 15 i (oh_up τ 2 i v 13 i)) := fun i hi => by
    have R1 := rl_line R (k := 2) (i := i) (by omega) (by omega) hv
    split
    · exact R1
    · exact rl_start R1 hi
  rcases cs_cases hn with rfl | rfl | rfl | rfl | rfl | rfl | rfl | rfl | rfl | rfl | rfl | rfl | h12
  · rcases hv with rfl | rfl
    · show rl_R M h c (spX0_resetAllControls σ) (oh_up (oh_up (oh_up (oh_up (oh_up (oh_up (oh_up (oh_up (oh_up (oh_up (oh_up (oh_up τ 2 6 (0 : Int32)) 5 6 (0 : Int32)) 2 7 (0 : Int32)) 5 7 (0 : Int32)) 2 8 (0 : Int32)) 5 8 (0 : Int32)) 2 9 (0 : Int32)) 5 9 (0 : Int32)) 2 10 (0 : Int32)) 5 10 (0 : Int32)) 2 11 (0 : Int32)) 5 11 (0 : Int32))
      rw [cs_reset]
      have z : (0 : Int32) = 0 ∨ (0 : Int32) = 1 := Or.inl rfl
      have R1 := rl_chan2 (rl_line (rl_chan2 (rl_line R (k := 2) (i := 6) (by omega) (by omega) z) (k := 5) (i := 6) (by omega) (by omega) z) (k := 2) (i := 7) (by omega) (by omega) z) (k := 5) (i := 7) (by omega) (by omega) z
      have R2 := rl_off (rl_line R1 (k := 2) (i := 8) (by omega) (by omega) z) (i := 8) (by omega) z
      have R3 := rl_off (rl_line R2 (k := 2) (i := 9) (by omega) (by omega) z) (i := 9) (by omega) z
      have R4 := rl_off (rl_line R3 (k := 2) (i := 10) (by omega) (by omega) z) (i := 10) (by omega) z
      exact rl_off (rl_line R4 (k := 2) (i := 11) (by omega) (by omega) z) (i := 11) (by omega) z
    · exact R
  · exact R
  · exact rl_chan2 R (k := 11) (i := 6) (by omega) (by omega) hv
  · exact rl_chan2 R (k := 11) (i := 7) (by omega) (by omega) hv
  · exact R
  · exact R
  · exact rl_chan2 (rl_line R (k := 2) (i := 6) (by omega) (by omega) hv) (k := 5) (i := 6) (by omega) (by omega) hv
  · exact rl_chan2 (rl_line R (k := 2) (i := 7) (by omega) (by omega) hv) (k := 5) (i := 7) (by omega) (by omega) hv
  · exact dv 8 (by omega)
  · exact dv 9 (by omega)
  · exact dv 10 (by omega)
  · exact dv 11 (by omega)
  · obtain ⟨a0, a1, a2, a3, a6, a7, b6, b8, b12, c12, d2, d6, d66, d8⟩ := cs_hi n hn h12
    unfold spX0_putControl spX0_putLineControl spX8_setControl spX8_setControl_k13 spX8_setControl_k12
    dsimp only
    rw [if_neg a0, if_neg d2, if_neg d66, if_neg a2, if_neg a3, if_neg a0, if_neg b6, if_neg b12]
    exact R
theorem cs_pf6 (σ : oh_St) (p v x : Int32) : spX0_putFlag (oh_up σ 0 6 x) p v = oh_up (spX0_putFlag σ p v) 0 6 x := by
  unfold spX0_putFlag spX3_putFlag
  dsimp only
  split
  · exact oh_comm σ (by omega)
  · split
    · exact oh_comm σ (by omega)
    · split
      · rw [oh_comm σ (by omega), oh_comm _ (by omega)]
      · rfl
theorem goes13 (τ : oh_St) (p v : Int32) : spX8_goes τ p v 0 13 = τ 0 13 := by
  unfold spX8_goes spX8_goes_k21 spX8_goes_k20 spX8_goes_k19
  dsimp only
  repeat' split
  all_goals simp [oh_ap]
theorem skip13 (τ : oh_St) (x : Int32) : spX8_skip τ x 0 13 = τ 0 13 := by
  unfold spX8_skip
  dsimp only
  split
  · rfl
  · simp [oh_ap]
theorem rl_keep {M : Nat} {c : Int32} {σ τ : oh_St} (R : rl_R M 13 c σ τ) (h : τ 0 13 = 0) : rl_R M 13 c σ (oh_up τ 0 13 0) := by
  rw [oh_self τ 0 13 h]; exact R
theorem rl_set1 {M : Nat} {c : Int32} {σ τ : oh_St} (R : rl_R M 13 c σ τ) : rl_R M 13 c (oh_up σ 0 6 1) (oh_up τ 0 13 1) := rl_held R (Or.inr rfl)
theorem cs_io {M : Nat} {c : Int32} {σ τ : oh_St} (R : rl_R M 13 c σ τ) (h13 : τ 0 13 = 0) (w : Int32) : rl_R M 13 c (spX5_inputOrOutput σ w) (spX8_codes τ w) := by
  obtain ⟨n, hn, en⟩ : ∃ n : Nat, n < 64 ∧ w &&& 63 = nI n := pk_andE w 6 (by decide)
  obtain ⟨j, hj, ej⟩ : ∃ j : Nat, j < 8 ∧ (w >>> ((6 : Int32) &&& 31)) &&& 7 = nI j := pk_andE _ 3 (by decide)
  have er : spX8_is w 11 = spX5_registerOf w := is11 w
  have P0 := rg_P.start R (rl_reg w)
  have hr := rl_reg w
  unfold spX5_inputOrOutput spX8_codes
  dsimp only
  rw [er, is9]
  generalize spX5_registerOf w = r at P0 hr ⊢
  generalize (if r = 0 then τ 0 14 else τ 0 15) = x at P0 ⊢
  have hx := P0.2.1
  have hb : (if w &&& 512 = 0 then (0 : Int32) else 1) = 0 ∨ (if w &&& 512 = 0 then (0 : Int32) else 1) = 1 := by
    split
    · exact Or.inl rfl
    · exact Or.inr rfl
  generalize (if w &&& 512 = 0 then (0 : Int32) else 1) = b at hb ⊢
  have k32v : ∀ (y : Int32) (t : oh_St), (if r = 0 then oh_up t 0 14 y else oh_up t 0 15 y) = spX8_registers_k32 r y t := fun y t => rfl
  unfold spX8_codes_k54 spX8_codes_k53 spX8_codes_k52 spX8_codes_k51 spX8_codes_k50
  dsimp only
  rw [ej, en, P0.read]
  have fin : ∀ {s t : oh_St}, rl_R M 13 c s t → t 0 13 = 0 → rl_R M 13 c (if b = 0 then s else oh_up (spX0_putFlag s (nI n) 0) 0 6 1) (oh_up (if b = 0 then t else spX8_setFlag t (nI n) 0) 0 13 (if b = 0 then 0 else 1)) := fun {s t} Q q => by
    rcases hb with rfl | rfl
    · exact rl_keep Q q
    · exact rl_set1 (cs_putFlag Q hn (Or.inl rfl))
  rcases (by omega : j = 0 ∨ j = 1 ∨ j = 2 ∨ j = 3 ∨ j = 4 ∨ j = 5 ∨ j = 6 ∨ j = 7) with rfl | rfl | rfl | rfl | rfl | rfl | rfl | rfl
  · have F := fin (rl_halt R (nI n)) (by simp [oh_ap, h13])
    exact F
  · have hb' : (if b = 0 then (1 : Int32) else 0) = 0 ∨ (if b = 0 then (1 : Int32) else 0) = 1 := by
      split
      · exact Or.inr rfl
      · exact Or.inl rfl
    have Q := rl_set1 (cs_putFlag R hn hb')
    rcases hb with rfl | rfl
    · exact Q
    · exact Q
  · have e := cs_flagOf R hn
    have Q := rl_keep (rl_skip R (if spX8_flagOf τ (nI n) = 0 then 1 else 0)) (by rw [skip13, h13])
    rw [e]
    rcases hb with rfl | rfl
    · exact Q
    · exact Q
  · have e := cs_flagOf R hn
    have Q := rl_keep (rl_skip R (spX8_flagOf τ (nI n))) (by rw [skip13, h13])
    rw [e]
    rcases hb with rfl | rfl
    · exact Q
    · exact Q
  · obtain ⟨t1, t2⟩ := cs_tell R hn
    rw [t1]
    have F := fin ((P0.write (hx.or t2)).2.2) (by rw [k32_at r _ τ (by omega), h13])
    exact F
  · obtain ⟨t1, t2⟩ := cs_tell R hn
    rw [t1]
    have F := fin ((P0.write t2).2.2) (by rw [k32_at r _ τ (by omega), h13])
    exact F
  · have F := fin (cs_take R hn hx) (by rw [goes13, h13])
    exact F
  · have hb' : (if r = 0 then (1 : Int32) else 0) = 0 ∨ (if r = 0 then (1 : Int32) else 0) = 1 := by
      split
      · exact Or.inr rfl
      · exact Or.inl rfl
    have Q := cs_putControl R hn hb'
    rcases hb with rfl | rfl
    · exact rl_set1 Q
    · show rl_R M 13 c (oh_up (spX0_putFlag (oh_up (spX0_putControl σ (nI n) (if r = 0 then 1 else 0)) 0 6 1) (nI n) 0) 0 6 1) (oh_up (spX8_setFlag (spX8_setControl τ (nI n) (if r = 0 then 1 else 0)) (nI n) 0) 0 13 1)
      rw [cs_pf6, oh_idem]
      exact rl_set1 (cs_putFlag Q hn (Or.inl rfl))
/-- one instruction -/
theorem rl_perform {M : Nat} {c : Int32} {σ τ : oh_St} (R : rl_R M 13 c σ τ) (h13 : τ 0 13 = 0) {w g : Int32} (hw : rl_w w) (hg : ∃ n : Nat, n < 32768 ∧ g = nI n) : rl_R M 13 c (spX5_perform σ w g) (spX8_does τ w g) := by
  unfold spX5_perform spX8_does
  dsimp only
  by_cases q : w &&& 28672 = 0
  · rw [if_pos q, if_pos ((op7 w).mpr q)]
    by_cases q2 : w &&& 32768 = 0
    · rw [if_pos q2, if_pos ((sg0 hw).mpr q2)]
      by_cases q3 : w &&& 1024 = 0
      · rw [if_pos q3, if_pos rfl]; exact rg_shs R q3
      · rw [if_neg q3, if_neg (by decide)]; exact rg_alt R q3
    · rw [if_neg q2, if_neg (fun e => q2 ((sg0 hw).mp e))]
      by_cases q3 : w &&& 1024 = 0
      · rw [if_pos q3, if_pos rfl, if_neg (fun e => (bm10 w).mp e q3)]
        exact rl_ext R hw
      · rw [if_neg q3, if_neg (by decide), if_pos ((bm10 w).mpr q3)]
        exact cs_io R h13 w
  · rw [if_neg q, if_neg (fun e => q ((op7 w).mp e))]
    exact rl_memw R hw q hg
/-! where the word 'nowHeld' is written -/
theorem put13 (τ : oh_St) (p v : Int32) : spX8_put τ p v 0 13 = τ 0 13 := by
  unfold spX8_put
  repeat' split
  all_goals simp [oh_ap]
theorem dir13 (τ : oh_St) : ∀ (f : Nat) (x i : Int32), (lpX8_direct τ f x i).2 0 13 = τ 0 13
  | 0, _, _ => rfl
  | f + 1, x, i => by
    unfold lpX8_direct
    split
    · split
      · simp [oh_ap]
      · exact dir13 τ f _ _
    · rfl
theorem sum13 (τ : oh_St) (x y : Int32) : (spX8_sum τ x y).2 0 13 = τ 0 13 := by
  unfold spX8_sum
  dsimp only
  repeat' split
  all_goals simp [oh_ap]
theorem shf13 (τ : oh_St) (x y : Int32) : (spX8_shifted τ x y).2 0 13 = τ 0 13 := by
  unfold spX8_shifted
  dsimp only
  repeat' split
  all_goals simp [oh_ap]
theorem alt13 (τ : oh_St) (x y : Int32) : (spX8_altered τ x y).2 0 13 = τ 0 13 := by
  unfold spX8_altered spX8_altered_k119 spX8_altered_k118 spX8_altered_k117 spX8_altered_k116 spX8_altered_k115 spX8_altered_k114 spX8_altered_k113 spX8_altered_k112 spX8_altered_k111 spX8_altered_k110 spX8_altered_k109 spX8_altered_k108 spX8_altered_k107 spX8_altered_k106 spX8_altered_k105 spX8_altered_k104
  dsimp only
  rw [skip13]
  have u4 : ∀ (z : oh_St) (p : Prop) [Decidable p] (v : Int32), (if p then oh_up z 0 4 v else z) 0 13 = z 0 13 := fun z p _ v => by
    split
    · simp [oh_ap]
    · rfl
  have u5 : ∀ (z : oh_St) (p : Prop) [Decidable p] (v : Int32), (if p then oh_up z 0 5 v else z) 0 13 = z 0 13 := fun z p _ v => by
    split
    · simp [oh_ap]
    · rfl
  split
  · rw [u4, u4, u4]
  · rw [u5, u4, u4, u4, u4]
theorem reg13 (τ : oh_St) (x : Int32) : spX8_registers τ x 0 13 = τ 0 13 := by
  unfold spX8_registers spX8_registers_k33
  dsimp only
  rw [k32_at _ _ _ (by omega)]
  split
  · split
    · rw [skip13]
      split
      · split
        · rfl
        · exact shf13 _ _ _
      · rw [oh_ap, if_neg (by omega)]
        split
        · rfl
        · exact shf13 _ _ _
    · rw [shf13, skip13]
      split
      · split
        · rfl
        · exact shf13 _ _ _
      · rw [oh_ap, if_neg (by omega)]
        split
        · rfl
        · exact shf13 _ _ _
  · exact alt13 _ _ _
theorem both13 (τ : oh_St) (V : Int64) : spX8_both_ τ V 0 13 = τ 0 13 := by
  unfold spX8_both_
  simp [oh_ap]
theorem left13 (p : Int32) : ∀ (f : Nat) (z : oh_St) (v w : Int64) (i : Int32), lpX8_leftSigned p f z v w i 0 13 = z 0 13
  | 0, _, _, _, _ => rfl
  | f + 1, z, v, w, i => by
    unfold lpX8_leftSigned
    split
    · exact both13 _ _
    · dsimp only
      rw [left13 p f]
      split
      · rfl
      · simp [oh_ap]
theorem lsg13 (τ : oh_St) (p : Int32) : spX8_leftSigned τ p 0 13 = τ 0 13 := by
  unfold spX8_leftSigned
  rw [left13]
  simp [oh_ap]
theorem two13 (τ : oh_St) (x y : Int32) : spX8_twoWords τ x y 0 13 = τ 0 13 := by
  unfold spX8_twoWords
  dsimp only
  split
  · rw [oh_ap, if_neg (by omega)]; exact both13 _ _
  · split
    · repeat' split
      all_goals simp [oh_ap]
    · split
      · simp [oh_ap]
      · rw [put13, put13]
theorem ext13 (τ : oh_St) (x : Int32) : spX8_extended τ x 0 13 = τ 0 13 := by
  have key : (if (spX8_direct (oh_up τ 0 3 (spX8_more (τ 0 3))) (spX8_at (oh_up τ 0 3 (spX8_more (τ 0 3))) (τ 0 3))).1 = -1 then (spX8_direct (oh_up τ 0 3 (spX8_more (τ 0 3))) (spX8_at (oh_up τ 0 3 (spX8_more (τ 0 3))) (τ 0 3))).2 else spX8_twoWords (spX8_direct (oh_up τ 0 3 (spX8_more (τ 0 3))) (spX8_at (oh_up τ 0 3 (spX8_more (τ 0 3))) (τ 0 3))).2 x (spX8_direct (oh_up τ 0 3 (spX8_more (τ 0 3))) (spX8_at (oh_up τ 0 3 (spX8_more (τ 0 3))) (τ 0 3))).1) 0 13 = τ 0 13 := by
    have d : (spX8_direct (oh_up τ 0 3 (spX8_more (τ 0 3))) (spX8_at (oh_up τ 0 3 (spX8_more (τ 0 3))) (τ 0 3))).2 0 13 = τ 0 13 := by
      unfold spX8_direct
      rw [dir13, oh_ap, if_neg (by omega)]
    split
    · exact d
    · rw [two13, d]
  unfold spX8_extended
  dsimp only
  split
  · exact key
  split
  · exact key
  split
  · exact key
  split
  · exact key
  repeat' split
  all_goals first
    | exact both13 _ _
    | rfl
    | exact lsg13 _ _
    | (rw [oh_ap, if_neg (by omega)]; exact both13 _ _)
theorem codes13 (τ : oh_St) (x : Int32) : spX8_codes τ x 0 13 = 0 ∨ spX8_codes τ x 0 13 = 1 := by
  unfold spX8_codes spX8_codes_k54 spX8_codes_k53 spX8_codes_k52 spX8_codes_k51 spX8_codes_k50
  dsimp only
  rw [oh_ups]
  repeat' split
  all_goals first
    | exact Or.inl rfl
    | exact Or.inr rfl
def q13 (t : oh_St) : Prop := t 0 13 = 0 ∨ t 0 13 = 1
theorem q13_ite {p : Prop} [Decidable p] {A B : oh_St} (hA : q13 A) (hB : q13 B) : q13 (if p then A else B) := by
  split
  · exact hA
  · exact hB
theorem mem13 (τ : oh_St) (x g : Int32) (h : τ 0 13 = 0) : spX8_memoryWord τ x g 0 13 = 0 ∨ spX8_memoryWord τ x g 0 13 = 1 := by
  have key : ∀ (w b m : Int32) (t : oh_St), (b = 0 ∨ b = 1) → t 0 13 = 0 → q13 (spX8_memoryWord_k56 w b m t) := fun w b m t hb ht => by
    unfold spX8_memoryWord_k56 spX8_memoryWord_k48 spX8_memoryWord_k42 spX8_memoryWord_k28
    dsimp only
    repeat' apply q13_ite
    all_goals unfold q13
    all_goals first
      | (rw [oh_ups]; exact hb)
      | exact Or.inl ht
      | (rw [oh_ap, if_neg (by omega)]; exact Or.inl ht)
      | (rw [oh_ap, if_neg (by omega), sum13]; exact Or.inl ht)
      | (rw [skip13]; exact Or.inl ht)
      | (rw [skip13, put13]; exact Or.inl ht)
      | (rw [put13]; exact Or.inl ht)
  have d : ∀ y, (spX8_direct τ y).2 0 13 = 0 := fun y => by
    unfold spX8_direct
    rw [dir13, h]
  unfold spX8_memoryWord spX8_memoryWord_k58 spX8_memoryWord_k57
  dsimp only
  refine key _ _ _ _ ?_ ?_
  · split
    · exact Or.inr rfl
    · exact Or.inl rfl
  · repeat' split
    all_goals first
      | exact h
      | exact d _
theorem does13 : oh_B13 spX8_does := by
  intro z w g h
  unfold spX8_does
  dsimp only
  split
  · split
    · exact Or.inl (by rw [reg13, h])
    · split
      · exact codes13 _ _
      · exact Or.inl (by rw [ext13, h])
  · exact mem13 _ _ _ h
