/-! ===== bits (out of the kit's rows to paste) ===== -/
def bt (x : Int32) (i : Nat) : Bool := x.toBitVec.getLsbD i
theorem b_ext {x y : Int32} (h : ∀ i, i < 32 → bt x i = bt y i) : x = y := Int32.toBitVec_inj.mp (BitVec.eq_of_getLsbD_eq (fun i hi => h i hi))
theorem b_or (x y : Int32) (i : Nat) : bt (x ||| y) i = (bt x i || bt y i) := by unfold bt; rw [Int32.toBitVec_or, BitVec.getLsbD_or]
theorem b_and (x y : Int32) (i : Nat) : bt (x &&& y) i = (bt x i && bt y i) := by unfold bt; rw [Int32.toBitVec_and, BitVec.getLsbD_and]
theorem b_xor (x y : Int32) (i : Nat) : bt (x ^^^ y) i = (bt x i ^^ bt y i) := by unfold bt; rw [Int32.toBitVec_xor, BitVec.getLsbD_xor]
theorem b_big {x : Int32} {i : Nat} (h : 32 ≤ i) : bt x i = false := BitVec.getLsbD_of_ge _ _ h
theorem b_65535 (i : Nat) : bt 65535 i = decide (i < 16) := by
  rcases Nat.lt_or_ge i 32 with h | h
  · exact (by decide +kernel : ∀ i, i < 32 → bt 65535 i = decide (i < 16)) i h
  · rw [b_big h, decide_eq_false (by omega)]
theorem b_m1 : ∀ i, i < 32 → bt (-1) i = true := by decide +kernel
theorem b_0 (i : Nat) : bt 0 i = false := BitVec.getLsbD_zero
theorem s_l : ∀ n, n < 32 → ((nI n &&& 31).toBitVec.smod 32).toNat = n := by decide +kernel
theorem s_u : ∀ n, n < 32 → (((nI n).toUInt32 &&& Int32.toUInt32 31).toBitVec % 32).toNat = n := by decide +kernel
theorem b_shl (n : Nat) (hn : n < 32) (x : Int32) {i : Nat} (hi : i < 32) : bt (x <<< (nI n &&& 31)) i = (decide (n ≤ i) && bt x (i - n)) := by
  unfold bt
  rw [Int32.toBitVec_shiftLeft]
  show (x.toBitVec <<< ((nI n &&& 31).toBitVec.smod 32).toNat).getLsbD i = _
  rw [s_l n hn, BitVec.getLsbD_shiftLeft]
  rcases Nat.lt_or_ge i n with h | h
  · simp [h, Nat.not_le.mpr h]
  · simp [hi, h, Nat.not_lt.mpr h]
theorem b_ushr (n : Nat) (hn : n < 32) (x : Int32) (i : Nat) : bt ((x.toUInt32 >>> ((nI n).toUInt32 &&& Int32.toUInt32 31)).toInt32) i = bt x (n + i) := by
  show (x.toUInt32 >>> ((nI n).toUInt32 &&& Int32.toUInt32 31)).toBitVec.getLsbD i = x.toUInt32.toBitVec.getLsbD (n + i)
  rw [UInt32.toBitVec_shiftRight]
  show (x.toUInt32.toBitVec >>> (((nI n).toUInt32 &&& Int32.toUInt32 31).toBitVec % 32).toNat).getLsbD i = _
  rw [s_u n hn, BitVec.getLsbD_ushiftRight]
theorem b_sshr (n : Nat) (hn : n < 32) (x : Int32) {i : Nat} (hi : i < 32) : bt (x >>> (nI n &&& 31)) i = if n + i < 32 then bt x (n + i) else bt x 31 := by
  unfold bt
  rw [Int32.toBitVec_shiftRight]
  show (x.toBitVec.sshiftRight ((nI n &&& 31).toBitVec.smod 32).toNat).getLsbD i = _
  rw [s_l n hn, BitVec.getLsbD_sshiftRight, BitVec.msb_eq_getLsbD_last]
  simp [hi]
theorem nx_and (a b : Nat) : nI a &&& nI b = nI (a &&& b) := by
  apply Int32.toBitVec_inj.1
  show BitVec.ofNat 32 a &&& BitVec.ofNat 32 b = BitVec.ofNat 32 (a &&& b)
  apply BitVec.eq_of_getLsbD_eq
  intro i hi
  simp [hi]
theorem nx_mod (k : Nat) : nI k &&& 65535 = nI (k % 65536) := by
  show nI k &&& nI 65535 = _
  rw [nx_and, show (65535 : Nat) = 2 ^ 16 - 1 from rfl, Nat.and_two_pow_sub_one_eq_mod]
theorem nx_m16 {k : Nat} (h : k < 65536) : nI k &&& 65535 = nI k := by rw [nx_mod, Nat.mod_eq_of_lt h]
theorem nx_mask (x : Int32) : ∃ k, k < 65536 ∧ x &&& 65535 = nI k := by
  have e : x = nI x.toBitVec.toNat := by
    apply Int32.toBitVec_inj.1
    show x.toBitVec = BitVec.ofNat 32 x.toBitVec.toNat
    simp
  refine ⟨x.toBitVec.toNat % 65536, Nat.mod_lt _ (by omega), ?_⟩
  rw [← nx_mod, ← e]
/-! ===== the relation of the class's state and the reference's ===== -/
theorem oh_ap (σ : oh_St) (k i : Nat) (v : Int32) (k' i' : Nat) : oh_up σ k i v k' i' = if k' = k ∧ i' = i then v else σ k' i' := by
  by_cases hk : k' = k
  · subst hk
    by_cases hi : i' = i
    · subst hi; rw [oh_ups, if_pos ⟨rfl, rfl⟩]
    · rw [oh_upi hi, if_neg (fun h => hi h.2)]
  · rw [oh_upk hk, if_neg (fun h => hk h.1)]
theorem oh_comm (σ : oh_St) {k i k' i' : Nat} {v v' : Int32} (h : k ≠ k' ∨ i ≠ i') : oh_up (oh_up σ k i v) k' i' v' = oh_up (oh_up σ k' i' v') k i v := by
  funext a b
  simp only [oh_ap]
  split
  · rw [if_neg (by omega)]
  · rfl
theorem oh_idem (σ : oh_St) (k i : Nat) (v v' : Int32) : oh_up (oh_up σ k i v) k i v' = oh_up σ k i v' := by
  funext a b
  simp only [oh_ap]
  split <;> rfl
theorem oh_self (σ : oh_St) (k i : Nat) {v : Int32} (h : σ k i = v) : oh_up σ k i v = σ := by
  funext a b
  rw [oh_ap]
  split
  · rename_i e; rw [e.1, e.2, h]
  · rfl
def rl_ok (h : Nat) (v : Int32) : Prop := h = 0 ∨ ∃ n : Nat, n < h ∧ v = nI n
/-- what a cell may hold (0: anything) -/
def rl_h (M k i : Nat) : Nat :=
  if k = 0 then (if i = 12 then 1 else if i = 3 then 32768 else if i = 4 ∨ i = 5 ∨ i = 6 ∨ i = 7 ∨ i = 9 ∨ i = 13 then 2 else if i = 10 ∨ i = 11 ∨ i = 14 ∨ i = 15 then 65536 else 0)
  else if k = 1 ∨ k = 7 ∨ k = 9 ∨ k = 14 ∨ k = 20 ∨ k = 24 then 65536
  else if k = 6 then 32768
  else if k = 13 ∨ k = 15 ∨ k = 16 then 101
  else if k = 17 then M + 1
  else if k = 2 ∨ k = 3 ∨ k = 4 ∨ k = 5 ∨ k = 8 ∨ k = 11 ∨ k = 12 then 2
  else 0
def rl_I (M : Nat) (τ : oh_St) : Prop := ∀ k i : Nat, rl_ok (rl_h M k i) (τ k i)
theorem rl_I.up {M : Nat} {τ : oh_St} {k i : Nat} {v : Int32} (h : rl_I M τ) (hv : rl_ok (rl_h M k i) v) : rl_I M (oh_up τ k i v) := by
  intro k' i'
  rw [oh_ap]
  split
  · rename_i e; rw [e.1, e.2]; exact hv
  · exact h k' i'
theorem rl_ok.mono {a b : Nat} {v : Int32} (h : rl_ok a v) (h0 : a ≠ 0) (hab : a ≤ b) : rl_ok b v := by
  rcases h with h | ⟨n, h1, h2⟩
  · exact absurd h h0
  · exact Or.inr ⟨n, by omega, h2⟩
theorem rl_I.mono {M N : Nat} {τ : oh_St} (h : rl_I M τ) (hN : M ≤ N) : rl_I N τ := by
  intro k i
  by_cases e : k = 17
  · subst e
    have h1 := h 17 i
    exact rl_ok.mono (a := M + 1) (b := N + 1) h1 (by omega) (by omega)
  · have h1 := h k i
    unfold rl_h at h1 ⊢
    simp only [if_neg e] at h1 ⊢
    exact h1
/-- cells of one name in both -/
def rl_S (k i : Nat) : Prop := (k = 0 ∧ 1 ≤ i ∧ i ≤ 11 ∧ i ≠ 6) ∨ ((k = 2 ∨ k = 3 ∨ k = 4) ∧ 6 ≤ i ∧ i ≤ 11) ∨ (5 ≤ k ∧ k ≤ 11 ∧ 6 ≤ i ∧ i ≤ 7) ∨ (13 ≤ k ∧ k ≤ 17 ∧ 8 ≤ i ∧ i ≤ 11)
/-- a device: its direction, its tape (a ring in the class, a row in the reference), what it put out -/
def rl_D (n : Nat) (σ τ : oh_St) : Prop :=
  σ 12 (8 + n) = 1 - τ 12 (8 + n) ∧
  (∃ s T : Nat, s < 100 ∧ T ≤ 100 ∧ σ 18 (8 + n) = nI s ∧ τ 16 (8 + n) = nI T ∧ ∀ t, t < T → σ (20 + n) ((s + t) % 100) = τ 20 (100 * (8 + n) + t)) ∧
  ∃ C : Nat, τ 17 (8 + n) = nI C ∧ ∀ i, i < 200 → i < C → σ (24 + n) i = τ 24 (200 * (8 + n) + i)
def rl_R (M h : Nat) (c : Int32) (σ τ : oh_St) : Prop :=
  rl_I M τ ∧ (∀ k i, rl_S k i → σ k i = τ k i) ∧ τ 0 0 = σ 0 0 + c ∧ σ 0 6 = τ 0 h ∧ (h = 6 ∨ h = 13) ∧ σ 1 0 = τ 0 14 ∧ σ 1 1 = τ 0 15 ∧ (∀ i, 2 ≤ i → i < 4096 → σ 1 i = τ 1 i) ∧ ∀ n, n < 4 → rl_D n σ τ
theorem rl_R.mono {M N h : Nat} {c : Int32} {σ τ : oh_St} (R : rl_R M h c σ τ) (hN : M ≤ N) : rl_R N h c σ τ := ⟨R.1.mono hN, R.2⟩
theorem rl_R.S {M h : Nat} {c : Int32} {σ τ : oh_St} (R : rl_R M h c σ τ) (k i : Nat) (hS : rl_S k i) : σ k i = τ k i := R.2.1 k i hS
theorem rl_R.I {M h : Nat} {c : Int32} {σ τ : oh_St} (R : rl_R M h c σ τ) (k i : Nat) {b : Nat} (hb : rl_h M k i = b) (h0 : b ≠ 0) : ∃ n : Nat, n < b ∧ τ k i = nI n := by
  have := R.1 k i
  rw [hb] at this
  rcases this with e | e
  · exact absurd e h0
  · exact e
theorem rl_D.same {n : Nat} {σ τ σ' τ' : oh_St} (d : rl_D n σ τ) (h1 : σ' 12 (8 + n) = σ 12 (8 + n)) (h2 : τ' 12 (8 + n) = τ 12 (8 + n)) (h3 : σ' 18 (8 + n) = σ 18 (8 + n)) (h4 : τ' 16 (8 + n) = τ 16 (8 + n)) (h5 : ∀ i, σ' (20 + n) i = σ (20 + n) i) (h6 : ∀ i, τ' 20 i = τ 20 i) (h7 : τ' 17 (8 + n) = τ 17 (8 + n)) (h8 : ∀ i, σ' (24 + n) i = σ (24 + n) i) (h9 : ∀ i, τ' 24 i = τ 24 i) : rl_D n σ' τ' := by
  obtain ⟨d1, ⟨s, T, a1, a2, a3, a4, a5⟩, C, c1, c2⟩ := d
  refine ⟨by rw [h1, h2]; exact d1, ⟨s, T, a1, a2, by rw [h3]; exact a3, by rw [h4]; exact a4, fun t ht => by rw [h5, h6]; exact a5 t ht⟩, C, by rw [h7]; exact c1, fun i hi hc => by rw [h8, h9]; exact c2 i hi hc⟩
theorem rl_up {M h : Nat} {c : Int32} {σ τ : oh_St} {k i : Nat} {v : Int32} (R : rl_R M h c σ τ) (hS : rl_S k i) (h16 : k ≠ 16 ∧ k ≠ 17) (hv : rl_ok (rl_h M k i) v) : rl_R M h c (oh_up σ k i v) (oh_up τ k i v) := by
  obtain ⟨hI, hs, h0, h6, hh, ha, hb, hm, hd⟩ := R
  unfold rl_S at hS
  refine ⟨hI.up hv, fun k' i' h' => ?_, ?_, ?_, hh, ?_, ?_, fun j h2 h4 => ?_, fun n hn => (hd n hn).same ?_ ?_ ?_ ?_ (fun j => ?_) (fun j => ?_) ?_ (fun j => ?_) (fun j => ?_)⟩
  · rw [oh_ap, oh_ap]
    split
    · rfl
    · exact hs k' i' h'
  · rw [oh_ap, oh_ap, if_neg (by omega), if_neg (by omega)]; exact h0
  · rw [oh_ap, oh_ap, if_neg (by omega), if_neg (by omega)]; exact h6
  · rw [oh_ap, oh_ap, if_neg (by omega), if_neg (by omega)]; exact ha
  · rw [oh_ap, oh_ap, if_neg (by omega), if_neg (by omega)]; exact hb
  · rw [oh_ap, oh_ap, if_neg (by omega), if_neg (by omega)]; exact hm j h2 h4
  all_goals rw [oh_ap, if_neg (by omega)]
/-- the word 'held' -/
theorem rl_held {M h : Nat} {c : Int32} {σ τ : oh_St} {v : Int32} (R : rl_R M h c σ τ) (hv : v = 0 ∨ v = 1) : rl_R M h c (oh_up σ 0 6 v) (oh_up τ 0 h v) := by
  obtain ⟨hI, hs, h0, h6, hh, ha, hb, hm, hd⟩ := R
  have hok : rl_ok (rl_h M 0 h) v := by
    have e : rl_h M 0 h = 2 := by
      rcases hh with rfl | rfl <;> rfl
    rw [e]
    rcases hv with rfl | rfl
    · exact Or.inr ⟨0, by decide, rfl⟩
    · exact Or.inr ⟨1, by decide, rfl⟩
  refine ⟨hI.up hok, fun k' i' h' => ?_, ?_, ?_, hh, ?_, ?_, fun j h2 h4 => ?_, fun n hn => (hd n hn).same ?_ ?_ ?_ ?_ (fun j => ?_) (fun j => ?_) ?_ (fun j => ?_) (fun j => ?_)⟩
  · unfold rl_S at h'
    rw [oh_ap, oh_ap, if_neg (by omega), if_neg (by omega)]; exact hs k' i' h'
  · rw [oh_ap, oh_ap, if_neg (by omega), if_neg (by omega)]; exact h0
  · rw [oh_ap, oh_ap, if_pos ⟨rfl, rfl⟩, if_pos ⟨rfl, rfl⟩]
  · rw [oh_ap, oh_ap, if_neg (by omega), if_neg (by omega)]; exact ha
  · rw [oh_ap, oh_ap, if_neg (by omega), if_neg (by omega)]; exact hb
  · rw [oh_ap, oh_ap, if_neg (by omega), if_neg (by omega)]; exact hm j h2 h4
  all_goals rw [oh_ap, if_neg (by omega)]
/-- a word of 16 bits -/
def rl_w (x : Int32) : Prop := ∃ n : Nat, n < 65536 ∧ x = nI n
theorem rl_w.m {x : Int32} (h : rl_w x) : x &&& 65535 = x := by
  obtain ⟨n, h1, rfl⟩ := h
  exact nx_m16 h1
theorem rl_wm (x : Int32) : rl_w (x &&& 65535) := nx_mask x
theorem rl_w.ok {x : Int32} (h : rl_w x) {b : Nat} (hb : b = 65536) : rl_ok b x := Or.inr (by subst hb; exact h)
theorem rl_memup {M h : Nat} {c : Int32} {σ τ : oh_St} {n : Nat} {v : Int32} (R : rl_R M h c σ τ) (hn : 2 ≤ n) (hv : rl_w v) : rl_R M h c (oh_up σ 1 n v) (oh_up τ 1 n v) := by
  obtain ⟨hI, hs, h0, h6, hh, ha, hb, hm, hd⟩ := R
  refine ⟨hI.up (hv.ok rfl), fun k' i' h' => ?_, ?_, ?_, hh, ?_, ?_, fun j h2 h4 => ?_, fun n hn => (hd n hn).same ?_ ?_ ?_ ?_ (fun j => ?_) (fun j => ?_) ?_ (fun j => ?_) (fun j => ?_)⟩
  · unfold rl_S at h'
    rw [oh_ap, oh_ap, if_neg (by omega), if_neg (by omega)]; exact hs k' i' h'
  · rw [oh_ap, oh_ap, if_neg (by omega), if_neg (by omega)]; exact h0
  · rw [oh_ap, oh_ap, if_neg (by omega), if_neg (by omega)]; exact h6
  · rw [oh_ap, oh_ap, if_neg (by omega), if_neg (by omega)]; exact ha
  · rw [oh_ap, oh_ap, if_neg (by omega), if_neg (by omega)]; exact hb
  · rw [oh_ap, oh_ap]
    split
    · rfl
    · exact hm j h2 h4
  all_goals rw [oh_ap, if_neg (by omega)]
theorem rl_aup {M h : Nat} {c : Int32} {σ τ : oh_St} {v : Int32} (R : rl_R M h c σ τ) (hv : rl_w v) : rl_R M h c (oh_up σ 1 0 v) (oh_up τ 0 14 v) := by
  obtain ⟨hI, hs, h0, h6, hh, ha, hb, hm, hd⟩ := R
  refine ⟨hI.up (hv.ok rfl), fun k' i' h' => ?_, ?_, ?_, hh, ?_, ?_, fun j h2 h4 => ?_, fun n hn => (hd n hn).same ?_ ?_ ?_ ?_ (fun j => ?_) (fun j => ?_) ?_ (fun j => ?_) (fun j => ?_)⟩
  · unfold rl_S at h'
    rw [oh_ap, oh_ap, if_neg (by omega), if_neg (by omega)]; exact hs k' i' h'
  · rw [oh_ap, oh_ap, if_neg (by omega), if_neg (by omega)]; exact h0
  · rw [oh_ap, oh_ap, if_neg (by omega), if_neg (by omega)]; exact h6
  · rw [oh_ap, oh_ap, if_pos ⟨rfl, rfl⟩, if_pos ⟨rfl, rfl⟩]
  · rw [oh_ap, oh_ap, if_neg (by omega), if_neg (by omega)]; exact hb
  · rw [oh_ap, oh_ap, if_neg (by omega), if_neg (by omega)]; exact hm j h2 h4
  all_goals rw [oh_ap, if_neg (by omega)]
theorem rl_bup {M h : Nat} {c : Int32} {σ τ : oh_St} {v : Int32} (R : rl_R M h c σ τ) (hv : rl_w v) : rl_R M h c (oh_up σ 1 1 v) (oh_up τ 0 15 v) := by
  obtain ⟨hI, hs, h0, h6, hh, ha, hb, hm, hd⟩ := R
  refine ⟨hI.up (hv.ok rfl), fun k' i' h' => ?_, ?_, ?_, hh, ?_, ?_, fun j h2 h4 => ?_, fun n hn => (hd n hn).same ?_ ?_ ?_ ?_ (fun j => ?_) (fun j => ?_) ?_ (fun j => ?_) (fun j => ?_)⟩
  · unfold rl_S at h'
    rw [oh_ap, oh_ap, if_neg (by omega), if_neg (by omega)]; exact hs k' i' h'
  · rw [oh_ap, oh_ap, if_neg (by omega), if_neg (by omega)]; exact h0
  · rw [oh_ap, oh_ap, if_neg (by omega), if_neg (by omega)]; exact h6
  · rw [oh_ap, oh_ap, if_neg (by omega), if_neg (by omega)]; exact ha
  · rw [oh_ap, oh_ap, if_pos ⟨rfl, rfl⟩, if_pos ⟨rfl, rfl⟩]
  · rw [oh_ap, oh_ap, if_neg (by omega), if_neg (by omega)]; exact hm j h2 h4
  all_goals rw [oh_ap, if_neg (by omega)]
/-- reading and writing of memory, at any address that isn't negative -/
theorem rl_put {M h : Nat} {c : Int32} {σ τ : oh_St} {x v : Int32} (R : rl_R M h c σ τ) (hx : ¬ x < 0) : rl_R M h c (spX4_write σ x v) (spX8_put τ x (v &&& 65535)) := by
  obtain ⟨n, hn, rfl⟩ := nI_of hx
  unfold spX4_write spX8_put
  rw [if_neg hx, nI_clamp hn]
  by_cases h4 : (4096 : Int32) ≤ nI n
  · have h4' : 4096 ≤ n := (nI_leI (by omega) hn).mp h4
    have e0 : ¬ nI n = 0 := fun e => by
      have := (nI_eq hn (by omega)).mp (e.trans nI_0.symm); omega
    have e1 : ¬ nI n = 1 := fun e => by
      have := (nI_eq hn (by omega)).mp (show nI n = nI 1 from e); omega
    rw [if_pos h4, if_neg e0, if_neg e1, if_pos h4]
    exact R
  · have h4' : n < 4096 := by
      rcases Nat.lt_or_ge n 4096 with q | q
      · exact q
      · exact absurd ((nI_leI (by omega) hn).mpr q) h4
    rw [if_neg h4]
    by_cases e0 : n = 0
    · subst e0
      rw [if_pos nI_0]
      exact rl_aup R (rl_wm v)
    · by_cases e1 : n = 1
      · subst e1
        rw [if_neg (by decide), if_pos (show nI 1 = 1 from rfl)]
        exact rl_bup R (rl_wm v)
      · have e0' : ¬ nI n = 0 := fun e => by
          have := (nI_eq hn (by omega)).mp (e.trans nI_0.symm); omega
        have e1' : ¬ nI n = 1 := fun e => by
          have := (nI_eq hn (by omega)).mp (show nI n = nI 1 from e); omega
        rw [if_neg e0', if_neg e1', if_neg h4]
        exact rl_memup R (by omega) (rl_wm v)
theorem rl_putw {M h : Nat} {c : Int32} {σ τ : oh_St} {x v : Int32} (R : rl_R M h c σ τ) (hx : ¬ x < 0) (hv : rl_w v) : rl_R M h c (spX4_write σ x v) (spX8_put τ x v) := by
  have := rl_put (v := v) R hx
  rwa [hv.m] at this
theorem rl_at {M h : Nat} {c : Int32} {σ τ : oh_St} {x : Int32} (R : rl_R M h c σ τ) (hx : ¬ x < 0) : spX4_read σ x = spX8_at τ x := by
  obtain ⟨n, hn, rfl⟩ := nI_of hx
  obtain ⟨hI, hs, h0, h6, hh, ha, hb, hm, hd⟩ := R
  unfold spX4_read spX8_at
  rw [if_neg hx, nI_clamp hn]
  by_cases h4 : (4096 : Int32) ≤ nI n
  · have h4' : 4096 ≤ n := (nI_leI (by omega) hn).mp h4
    have e0 : ¬ nI n = 0 := fun e => by
      have := (nI_eq hn (by omega)).mp (e.trans nI_0.symm); omega
    have e1 : ¬ nI n = 1 := fun e => by
      have := (nI_eq hn (by omega)).mp (show nI n = nI 1 from e); omega
    rw [if_pos h4, if_neg e0, if_neg e1, if_pos h4]
  · have h4' : n < 4096 := by
      rcases Nat.lt_or_ge n 4096 with q | q
      · exact q
      · exact absurd ((nI_leI (by omega) hn).mpr q) h4
    rw [if_neg h4]
    by_cases e0 : n = 0
    · subst e0
      rw [if_pos nI_0]
      exact ha
    · by_cases e1 : n = 1
      · subst e1
        rw [if_neg (by decide), if_pos (show nI 1 = 1 from rfl)]
        exact hb
      · have e0' : ¬ nI n = 0 := fun e => by
          have := (nI_eq hn (by omega)).mp (e.trans nI_0.symm); omega
        have e1' : ¬ nI n = 1 := fun e => by
          have := (nI_eq hn (by omega)).mp (show nI n = nI 1 from e); omega
        rw [if_neg e0', if_neg e1', if_neg h4]
        exact hm n (by omega) h4'
theorem rl_atw {M : Nat} {τ : oh_St} (hI : rl_I M τ) (x : Int32) : rl_w (spX8_at τ x) := by
  have hw : ∀ k i, rl_h M k i = 65536 → rl_w (τ k i) := fun k i e => by
    have := hI k i
    rw [e] at this
    rcases this with q | q
    · exact absurd q (by decide)
    · exact q
  unfold spX8_at
  split
  · exact hw 0 14 rfl
  · split
    · exact hw 0 15 rfl
    · split
      · exact ⟨0, by decide, rfl⟩
      · exact hw 1 _ rfl
