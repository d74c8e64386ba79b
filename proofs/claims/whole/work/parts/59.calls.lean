/-! ===== the calls, over related states; the reference's word 'thrown' apart ===== -/
def rl_L (M : Nat) (σ τ : oh_St) : Prop := rl_R M 6 0 σ (oh_up τ 0 12 0)
theorem rl_R.L {M : Nat} {σ τ : oh_St} (R : rl_R M 6 0 σ τ) : rl_L M σ τ := by
  unfold rl_L
  rw [oh_self τ 0 12 (rl_12 R)]; exact R
theorem rl_L.t {M : Nat} {σ τ : oh_St} (L : rl_L M σ τ) (x : Int32) : rl_L M σ (oh_up τ 0 12 x) := by
  unfold rl_L
  rw [oh_idem]; exact L
theorem rl_L.mono {M N : Nat} {σ τ : oh_St} (L : rl_L M σ τ) (h : M ≤ N) : rl_L N σ τ := rl_R.mono L h
theorem lk_ok {τ : oh_St} {p N : Int32} (h0 : ¬ p < 0) (h1 : p < N) : spX8_lacks τ p N = (0, oh_up τ 0 12 0) := by
  unfold spX8_lacks
  dsimp only
  rw [if_neg h0, if_pos h1, if_pos (by decide)]
theorem lk_no {τ : oh_St} {p N : Int32} (h : p < 0 ∨ ¬ p < N) : spX8_lacks τ p N = (1, oh_up τ 0 12 1) := by
  unfold spX8_lacks
  dsimp only
  have e : (if p < 0 then (1 : Int32) else (if p < N then 0 else 1)) = 1 := by
    by_cases q : p < 0
    · rw [if_pos q]
    · rw [if_neg q, if_neg (h.resolve_left q)]
  rw [e, if_neg (by decide)]
theorem cl_go {M : Nat} {σ τ : oh_St} (L : rl_L M σ τ) (p : Int32) : rl_L M (spX7_go σ p) (spX8_go τ p) := by
  unfold spX7_go spX8_go
  have R1 := rl_up L (k := 0) (i := 7) (v := 0) (rl_S0 7 (by omega)) (by omega) (rl_ok2 (Or.inl rfl) rfl)
  split
  · exact R1.L
  · exact (rl_p R1 (rl_m15 p)).L
theorem cl_switches {M : Nat} {σ τ : oh_St} (L : rl_L M σ τ) (p : Int32) : rl_L M (spX7_switches σ p) (spX8_switches τ p) := by
  unfold spX7_switches spX8_switches
  exact (rl_up L (k := 0) (i := 10) (rl_S0 10 (by omega)) (by omega) ((rl_wm p).ok rfl)).L
theorem rl_L.S {M : Nat} {σ τ : oh_St} (L : rl_L M σ τ) (k i : Nat) (hS : rl_S k i) : σ k i = τ k i := by
  have e := rl_R.S L k i hS
  unfold rl_S at hS
  rw [oh_ap] at e
  by_cases q : k = 0 ∧ i = 12
  · omega
  · rwa [if_neg q] at e
theorem cl_state {M : Nat} {σ τ : oh_St} (L : rl_L M σ τ) (p : Int32) : spX7_state σ p = (spX8_state τ p).1 ∧ rl_L M σ (spX8_state τ p).2 := by
  have eA : spX4_read σ 0 = τ 0 14 := (rl_A L).trans (by rw [oh_ap, if_neg (by omega)])
  have eB : spX4_read σ 1 = τ 0 15 := (rl_B L).trans (by rw [oh_ap, if_neg (by omega)])
  have e0 : σ 0 0 = τ 0 0 := by
    have := L.2.2.1
    rw [oh_ap, if_neg (by omega), Int32.add_zero] at this
    exact this.symm
  have e6 : σ 0 6 = τ 0 6 := by
    have := L.2.2.2.1
    rwa [oh_ap, if_neg (by omega)] at this
  have L0 := L.t 0
  unfold spX7_state spX8_state spX7_bit
  dsimp only
  rw [eA, eB, e0, e6, L.S 0 3 (rl_S0 3 (by omega)), L.S 0 4 (rl_S0 4 (by omega)), L.S 0 5 (rl_S0 5 (by omega)), L.S 0 9 (rl_S0 9 (by omega)), L.S 0 7 (rl_S0 7 (by omega)), L.S 0 8 (rl_S0 8 (by omega)), L.S 0 11 (rl_S0 11 (by omega)), L.S 0 1 (rl_S0 1 (by omega)), L.S 0 2 (rl_S0 2 (by omega))]
  by_cases q0 : p = 0
  · rw [if_pos q0, if_pos q0]; exact ⟨rfl, L0⟩
  rw [if_neg q0, if_neg q0]
  by_cases q1 : p = 1
  · rw [if_pos q1, if_pos q1]; exact ⟨rfl, L0⟩
  rw [if_neg q1, if_neg q1]
  by_cases q2 : p = 2
  · rw [if_pos q2, if_pos q2]; exact ⟨rfl, L0⟩
  rw [if_neg q2, if_neg q2]
  by_cases q3 : p = 3
  · rw [if_pos q3, if_pos q3]; exact ⟨rfl, L0⟩
  rw [if_neg q3, if_neg q3]
  by_cases q4 : p = 4
  · rw [if_pos q4, if_pos q4]; exact ⟨rfl, L0⟩
  rw [if_neg q4, if_neg q4]
  by_cases q5 : p = 5
  · rw [if_pos q5, if_pos q5]
    split <;> exact ⟨rfl, L0⟩
  rw [if_neg q5, if_neg q5]
  by_cases q6 : p = 6
  · rw [if_pos q6, if_pos q6]
    split <;> exact ⟨rfl, L0⟩
  rw [if_neg q6, if_neg q6]
  by_cases q7 : p = 7
  · rw [if_pos q7, if_pos q7]
    split <;> exact ⟨rfl, L0⟩
  rw [if_neg q7, if_neg q7]
  by_cases q8 : p = 8
  · rw [if_pos q8, if_pos q8]; exact ⟨rfl, L0⟩
  rw [if_neg q8, if_neg q8]
  by_cases q9 : p = 9
  · rw [if_pos q9, if_pos q9]; exact ⟨rfl, L0⟩
  rw [if_neg q9, if_neg q9]
  by_cases q10 : p = 10
  · rw [if_pos q10, if_pos q10]; exact ⟨rfl, L0⟩
  rw [if_neg q10, if_neg q10]
  by_cases q11 : p = 11
  · rw [if_pos q11, if_pos q11]; exact ⟨rfl, L0⟩
  rw [if_neg q11, if_neg q11]
  by_cases q12 : p = 12
  · rw [if_pos q12, if_pos q12]; exact ⟨rfl, L0⟩
  rw [if_neg q12, if_neg q12]
  exact ⟨rfl, L0⟩
/-- a call that may throw: the kind of what is thrown, the value where nothing is -/
def cl_eq (k v : Int32) (r : Int32) (u : oh_St) : Prop := u 0 12 = k ∧ (k = 0 → v = r)
theorem cl_bad {M : Nat} {σ τ : oh_St} (L : rl_L M σ τ) (k : Int32) (hk : ¬ k = 0) (v r : Int32) : cl_eq k v r (oh_up τ 0 12 k) ∧ rl_L M σ (oh_up τ 0 12 k) := ⟨⟨oh_ups, fun e => absurd e hk⟩, L.t k⟩
theorem cl_good {M : Nat} {σ τ : oh_St} (L : rl_L M σ τ) {v r : Int32} (h : v = r) : cl_eq 0 v r (oh_up τ 0 12 0) ∧ rl_L M σ (oh_up τ 0 12 0) := ⟨⟨oh_ups, fun _ => h⟩, L.t 0⟩
theorem cl_badv {M : Nat} {σ τ : oh_St} (L : rl_L M σ τ) (k : Int32) : oh_up τ 0 12 k 0 12 = k ∧ rl_L M σ (oh_up τ 0 12 k) := ⟨oh_ups, L.t k⟩
theorem cl_word {M : Nat} {σ τ : oh_St} (L : rl_L M σ τ) (p : Int32) : cl_eq (spX7_word σ p).1 (spX7_word σ p).2.1 (spX8_word τ p).1 (spX8_word τ p).2 ∧ rl_L M (spX7_word σ p).2.2 (spX8_word τ p).2 := by
  unfold spX7_word spX8_word
  dsimp only
  by_cases q0 : p < 0
  · rw [if_pos q0, lk_no (Or.inl q0)]
    exact cl_bad L 1 (by decide) 0 0
  by_cases q1 : p < 4096
  · rw [if_neg q0, if_pos q1, lk_ok q0 q1, if_pos rfl]
    exact cl_good L (rl_at L q0)
  · rw [if_neg q0, if_neg q1, lk_no (Or.inr q1)]
    exact cl_bad L 1 (by decide) 0 0
theorem cl_set {M : Nat} {σ τ : oh_St} (L : rl_L M σ τ) (p v : Int32) : (spX8_set τ p v) 0 12 = (spX7_set σ p v).1 ∧ rl_L M (spX7_set σ p v).2 (spX8_set τ p v) := by
  unfold spX7_set spX8_set
  dsimp only
  by_cases q0 : p < 0
  · rw [if_pos q0, lk_no (Or.inl q0)]
    exact cl_badv L 1
  by_cases q1 : p < 4096
  · rw [if_neg q0, if_pos q1, lk_ok q0 q1, if_pos rfl]
    have R1 := rl_put (v := v) L q0
    exact ⟨rl_12 R1, R1.L⟩
  · rw [if_neg q0, if_neg q1, lk_no (Or.inr q1)]
    exact cl_badv L 1
theorem cl_slp {M h : Nat} {c : Int32} {σ τ : oh_St} (R : rl_R M h c σ τ) : ∀ (f j : Nat) (x : Int32), j + f = 4097 → lpX7_sum σ f x (nI j) = (lpX8_sum_ f τ x (nI j)).1 ∧ (lpX8_sum_ f τ x (nI j)).2 = τ
  | 0, _, _, _ => ⟨rfl, rfl⟩
  | f + 1, j, x, h => by
    unfold lpX7_sum lpX8_sum_
    dsimp only
    split
    · exact ⟨rfl, rfl⟩
    · rw [rl_at R (nI_pos (by omega)), nI_1]
      exact cl_slp R f (j + 1) _ (by omega)
theorem cl_sum {M : Nat} {σ τ : oh_St} (L : rl_L M σ τ) : spX7_sum σ = (spX8_sum_ τ).1 ∧ rl_L M σ (spX8_sum_ τ).2 := by
  unfold spX7_sum spX8_sum_
  obtain ⟨a, b⟩ := cl_slp L 4097 0 0 (by omega)
  rw [show nI 0 = 0 from rfl] at a b
  rw [b]
  exact ⟨a, L.t 0⟩
theorem cl_run {M : Nat} (hM : M + 8000 < 1999999000) {σ τ : oh_St} (L : rl_L M σ τ) (p : Int32) : cl_eq (spX7_run spX7_doTurn σ p).1 (spX7_run spX7_doTurn σ p).2.1 (spX8_run fT τ p).1 (spX8_run fT τ p).2 ∧ rl_L (M + 8000) (spX7_run spX7_doTurn σ p).2.2 (spX8_run fT τ p).2 := by
  by_cases q : ¬ p < 0 ∧ p ≤ 2000
  · obtain ⟨n, hn, rfl⟩ := nI_of q.1
    have hn2 : n ≤ 2000 := (nI_leI (a := n) (b := 2000) (by omega) (by omega)).mp q.2
    obtain ⟨i, s, u, a1, a2, a3⟩ := rl_run hM hn2 L
    have e : spX8_run fT τ (nI n) = spX8_run fT (oh_up τ 0 12 0) (nI n) := by
      unfold spX8_run
      dsimp only
      rw [oh_idem]
    rw [e, a1, a2]
    exact ⟨⟨rl_12 a3, fun _ => rfl⟩, a3.L⟩
  · have e1 : spX7_run spX7_doTurn σ p = (1, 0, σ) := by
      unfold spX7_run
      dsimp only
      by_cases q0 : p < 0
      · rw [if_pos q0]
      · rw [if_neg q0, if_neg (fun e => q ⟨q0, e⟩)]
    have e2 : spX8_run fT τ p = (0, oh_up τ 0 12 1) := by
      unfold spX8_run
      dsimp only
      have ex : (if p < 0 then (1 : Int32) else (if p ≤ 2000 then 0 else 1)) = 1 := by
        by_cases q0 : p < 0
        · rw [if_pos q0]
        · rw [if_neg q0, if_neg (fun e => q ⟨q0, e⟩)]
      rw [ex]
      unfold lpX8_run
      dsimp only
      rw [oh_ups, if_neg (by decide)]
    rw [e1, e2]
    exact cl_bad (L.mono (by omega)) 1 (by decide) 0 0
theorem ix_sub (p : Int32) (m : Nat) (hm : m < 100) (N : Nat) (hN : N < 100) : oh_ix (p - nI m) N ↔ (m : Int) ≤ p.toInt ∧ p.toInt < m + N := by
  unfold oh_ix
  have h1 := Int32.toInt_lt p
  have h2 := Int32.le_toInt p
  rw [Int32.toInt_sub, nI_toInt (by omega)]
  have e : ((2 : Nat) ^ 32) = 4294967296 := rfl
  rw [e]
  unfold Int.bmod
  have e1 : ((4294967296 : Nat) : Int) = 4294967296 := rfl
  rw [e1]
  dsimp only
  constructor
  · rintro ⟨a, b⟩
    split at a <;> split at b <;> omega
  · rintro ⟨a, b⟩
    constructor <;> split <;> omega
theorem ix_d (p : Int32) : oh_ix p 4 ↔ ¬ p < 0 ∧ p < 4 := by
  unfold oh_ix
  rw [Int32.lt_iff_toInt_lt, Int32.lt_iff_toInt_lt]
  show 0 ≤ p.toInt ∧ p.toInt < 4 ↔ ¬ p.toInt < 0 ∧ p.toInt < 4
  omega
theorem ix_dn {p : Int32} (h : oh_ix p 4) : ∃ n : Nat, n < 4 ∧ p = nI n := by
  obtain ⟨n, hn, rfl⟩ := nI_of ((ix_d p).mp h).1
  exact ⟨n, (nI_ltI (a := n) (b := 4) (by omega) (by omega)).mp ((ix_d _).mp h).2, rfl⟩
theorem n8 {n : Nat} : (8 : Int32) + nI n = nI (8 + n) := nI_add 8 n
/-- a device's direction -/
theorem rl_dir12 {M h : Nat} {c : Int32} {σ τ : oh_St} (R : rl_R M h c σ τ) {n : Nat} (hn : n < 4) {b : Int32} (hb : b = 0 ∨ b = 1) : rl_R M h c (oh_up σ 12 (8 + n) b) (oh_up τ 12 (8 + n) (if b = 0 then 1 else 0)) := by
  obtain ⟨hI, hs, h0, h6, hh, ha, hb', hm, hd⟩ := R
  refine ⟨hI.up (rl_ok2 (by rcases hb with rfl | rfl; exact Or.inr rfl; exact Or.inl rfl) rfl), fun k' i' h' => ?_, ?_, ?_, hh, ?_, ?_, fun j h2 h4 => ?_, fun m hm4 => ?_⟩
  · have h'' := h'
    unfold rl_S at h'
    rw [oh_ap, oh_ap, if_neg (by omega), if_neg (by omega)]; exact hs k' i' h''
  · rw [oh_ap, oh_ap, if_neg (by omega), if_neg (by omega)]; exact h0
  · rw [oh_ap, oh_ap, if_neg (by omega), if_neg (by omega)]; exact h6
  · rw [oh_ap, oh_ap, if_neg (by omega), if_neg (by omega)]; exact ha
  · rw [oh_ap, oh_ap, if_neg (by omega), if_neg (by omega)]; exact hb'
  · rw [oh_ap, oh_ap, if_neg (by omega), if_neg (by omega)]; exact hm j h2 h4
  · obtain ⟨d1, ⟨s', T', a1, a2, a3, a4, a5⟩, C, c1, c2⟩ := hd m hm4
    refine ⟨?_, ⟨s', T', a1, a2, ?_, ?_, fun t ht => ?_⟩, C, ?_, fun i hi hc => ?_⟩
    · by_cases e : m = n
      · subst e
        rw [oh_ups, oh_ups]
        rcases hb with rfl | rfl <;> rfl
      · rw [oh_ap, oh_ap, if_neg (by omega), if_neg (by omega)]; exact d1
    · rw [oh_ap, if_neg (by omega)]; exact a3
    · rw [oh_ap, if_neg (by omega)]; exact a4
    · rw [oh_ap, oh_ap, if_neg (by omega), if_neg (by omega)]; exact a5 t ht
    · rw [oh_ap, if_neg (by omega)]; exact c1
    · rw [oh_ap, oh_ap, if_neg (by omega), if_neg (by omega)]; exact c2 i hi hc
theorem cl_device {M : Nat} {σ τ : oh_St} (L : rl_L M σ τ) (p b d : Int32) (hb : b = 0 ∨ b = 1) : (spX8_device τ p b d) 0 12 = (spX7_device σ p b d).1 ∧ rl_L M (spX7_device σ p b d).2 (spX8_device τ p b d) := by
  unfold spX7_device spX8_device
  dsimp only
  by_cases q : oh_ix p 4
  · obtain ⟨q0, q1⟩ := (ix_d p).mp q
    obtain ⟨n, hn, rfl⟩ := ix_dn q
    rw [if_pos q, lk_ok q0 q1, if_pos rfl]
    unfold spX8_device_k11 spX8_device_k10 spX2_equip
    rw [nI_clamp (by omega), n8, nI_clamp (by omega), oh_idem]
    by_cases r : d < 1
    · rw [if_pos r, if_pos r, if_neg (by decide)]
      exact cl_badv L 2
    rw [if_neg r, if_neg r]
    by_cases r2 : d ≤ 100
    · rw [if_pos r2, if_pos r2, if_pos (by decide)]
      have R1 := rl_dir12 L hn hb
      obtain ⟨D, hD, rfl⟩ := nI_of (x := d) (fun e => r (by
        rw [Int32.lt_iff_toInt_lt] at e ⊢
        have e1 : (0 : Int32).toInt = 0 := rfl
        have e2 : (1 : Int32).toInt = 1 := rfl
        omega))
      have hD2 : D ≤ 100 := (nI_leI (a := D) (b := 100) (by omega) (by omega)).mp r2
      have R2 := rl_up R1 (k := 13) (i := 8 + n) (v := nI D) (by unfold rl_S; omega) (by omega) (Or.inr ⟨D, by show D < 101; omega, rfl⟩)
      have R3 := rl_up R2 (k := 15) (i := 8 + n) (v := 0) (by unfold rl_S; omega) (by omega) (Or.inr ⟨0, by show 0 < 101; omega, rfl⟩)
      have R4 := rl_buf R3 (i := 8 + n) (by omega) rl_w0
      exact ⟨rl_12 R4, R4.L⟩
    · rw [if_neg r2, if_neg r2, if_neg (by decide)]
      exact cl_badv L 2
  · rw [if_neg q]
    have h : p < 0 ∨ ¬ p < 4 := by
      by_cases q0 : p < 0
      · exact Or.inl q0
      · exact Or.inr (fun e => q ((ix_d p).mpr ⟨q0, e⟩))
    rw [lk_no h]
    exact cl_badv L 1
theorem cl_out {M : Nat} {σ τ : oh_St} (L : rl_L M σ τ) (hM : M < 1999999000) (p i : Int32) : cl_eq (spX7_out σ p i).1 (spX7_out σ p i).2.1 (spX8_out τ p i).1 (spX8_out τ p i).2 ∧ rl_L M (spX7_out σ p i).2.2 (spX8_out τ p i).2 := by
  unfold spX7_out spX8_out
  dsimp only
  by_cases q : oh_ix p 4
  · obtain ⟨q0, q1⟩ := (ix_d p).mp q
    obtain ⟨n, hn, rfl⟩ := ix_dn q
    rw [if_pos q, lk_ok q0 q1, if_pos rfl]
    unfold spX2_keptOut
    rw [nI_clamp (by omega), n8, nI_clamp (by omega)]
    dsimp only
    have e17 := rl_R.S L 17 (8 + n) (by unfold rl_S; omega)
    obtain ⟨_, _, C', c1, c2⟩ := L.2.2.2.2.2.2.2.2 n hn
    obtain ⟨C, hC, eC⟩ := rl_R.I L 17 (8 + n) (b := M + 1) rfl (by omega)
    rw [e17]
    by_cases r : i < 0
    · rw [if_pos r, if_pos r]; exact cl_good L rfl
    rw [if_neg r, if_neg r]
    by_cases r2 : oh_up τ 0 12 0 17 (8 + n) ≤ i
    · rw [if_pos r2, if_pos r2]; exact cl_good L rfl
    rw [if_neg r2, if_neg r2]
    obtain ⟨I, hI, rfl⟩ := nI_of r
    by_cases r3 : nI I < 200
    · have hI2 : I < 200 := (nI_ltI (a := I) (b := 200) (by omega) (by omega)).mp r3
      rw [if_pos r3, if_neg (fun e => by
        have := (nI_leI (a := 200) (b := I) (by omega) (by omega)).mp e
        omega)]
      refine cl_good L ?_
      rw [show (200 : Int32) = nI 200 from rfl, pk_mul, nI_add, nI_clamp (by omega), nI_clamp (by omega)]
      refine c2 I hI2 ?_
      rw [eC] at r2
      have h1 : ¬ C ≤ I := fun e => r2 ((nI_leI (by omega) (by omega)).mpr e)
      rcases Nat.lt_or_ge C' (2 ^ 31) with l | l
      · have := (nI_eq l (by omega)).mp (c1.symm.trans eC)
        omega
      · omega
    · have hI2 : 200 ≤ I := by
        rcases Nat.lt_or_ge I 200 with l | l
        · exact absurd ((nI_ltI (a := I) (b := 200) (by omega) (by omega)).mpr l) r3
        · exact l
      rw [if_neg r3, if_pos (show (200 : Int32) ≤ nI I from (nI_leI (a := 200) (b := I) (by omega) (by omega)).mpr hI2)]
      exact cl_good L rfl
  · rw [if_neg q]
    have h : p < 0 ∨ ¬ p < 4 := by
      by_cases q0 : p < 0
      · exact Or.inl q0
      · exact Or.inr (fun e => q ((ix_d p).mpr ⟨q0, e⟩))
    rw [lk_no h]
    exact cl_bad L 1 (by decide) 0 0
