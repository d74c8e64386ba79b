/-! ===== indirection, words that reach memory ===== -/
theorem rl_skip {M h : Nat} {c : Int32} {σ τ : oh_St} (R : rl_R M h c σ τ) (x : Int32) : rl_R M h c (spX5_skipIf σ x) (spX8_skip τ x) := by
  unfold spX5_skipIf spX8_skip
  split
  · exact R
  · have e : σ 0 3 = τ 0 3 := R.S 0 3 (by unfold rl_S; omega)
    show rl_R M h c (oh_up σ 0 3 ((σ 0 3 + 1) &&& 32767)) (oh_up τ 0 3 ((τ 0 3 + 1) &&& 32767))
    rw [e]
    exact rl_up R (by unfold rl_S; omega) (by omega) (Or.inr (rl_m15 _))
theorem rl_S0 (i : Nat) (h : 1 ≤ i ∧ i ≤ 11 ∧ i ≠ 6) : rl_S 0 i := by unfold rl_S; omega
theorem rl_p {M h : Nat} {c : Int32} {σ τ : oh_St} {x : Int32} (R : rl_R M h c σ τ) (hx : ∃ n : Nat, n < 32768 ∧ x = nI n) : rl_R M h c (oh_up σ 0 3 x) (oh_up τ 0 3 x) := rl_up R (rl_S0 3 (by omega)) (by omega) (Or.inr hx)
theorem rl_e {M h : Nat} {c : Int32} {σ τ : oh_St} {x : Int32} (R : rl_R M h c σ τ) (hx : x = 0 ∨ x = 1) : rl_R M h c (oh_up σ 0 4 x) (oh_up τ 0 4 x) := rl_up R (rl_S0 4 (by omega)) (by omega) (rl_ok2 hx rfl)
theorem rl_o {M h : Nat} {c : Int32} {σ τ : oh_St} {x : Int32} (R : rl_R M h c σ τ) (hx : x = 0 ∨ x = 1) : rl_R M h c (oh_up σ 0 5 x) (oh_up τ 0 5 x) := rl_up R (rl_S0 5 (by omega)) (by omega) (rl_ok2 hx rfl)
theorem rl_halt {M h : Nat} {c : Int32} {σ τ : oh_St} (R : rl_R M h c σ τ) (x : Int32) : rl_R M h c (spX6_halt σ x) (oh_up (oh_up τ 0 7 1) 0 8 x) :=
  rl_up (rl_up R (rl_S0 7 (by omega)) (by omega) (rl_ok2 (Or.inr rfl) rfl)) (rl_S0 8 (by omega)) (by omega) (Or.inl rfl)
/-- the class's chain of indirections and the reference's: one address, related states -/
theorem rl_dir {M h : Nat} {c : Int32} {σ τ : oh_St} (R : rl_R M h c σ τ) : ∀ (f j : Nat) (x : Int32), j + f = 33 → 1 ≤ f → rl_w x →
    (lpX5_resolve σ f x (nI j)).1 = (lpX8_direct τ f x (nI j)).1 ∧ rl_R M h c (lpX5_resolve σ f x (nI j)).2 (lpX8_direct τ f x (nI j)).2 ∧
    ((lpX8_direct τ f x (nI j)).1 = -1 ∨ ∃ n : Nat, n < 32768 ∧ (lpX8_direct τ f x (nI j)).1 = nI n)
  | 0, _, _, _, h1, _ => absurd h1 (by omega)
  | f + 1, j, x, hj, _, hx => by
    unfold lpX5_resolve lpX8_direct
    by_cases hs : x &&& 32768 = 0
    · have hs1 : ¬ x >>> ((15 : Int32) &&& 31) = 1 := fun e => (sg1 hx).mp e hs
      have hn : ∃ n : Nat, n < 32768 ∧ x = nI n := by
        obtain ⟨n, h1, h2⟩ := rl_m15 x
        refine ⟨n, h1, h2 ▸ ?_⟩
        apply b_ext
        intro i hi
        rw [b_and, b_32767 i hi]
        by_cases q : i < 15
        · simp [q]
        · rw [decide_eq_false q, Bool.and_false]
          by_cases r : i = 15
          · subst r; exact (bk15 x).mp hs
          · exact hx.b (by omega)
      simp only [if_pos hs, if_neg hs1, ite_self]
      exact ⟨trivial, R, Or.inr hn⟩
    · have hs1 : x >>> ((15 : Int32) &&& 31) = 1 := (sg1 hx).mpr hs
      simp only [if_neg hs, if_pos hs1]
      by_cases hf : f = 0
      · subst hf
        obtain rfl : j = 32 := by omega
        rw [if_pos (by decide), if_pos (by decide)]
        exact ⟨rfl, rl_halt R 64, Or.inl rfl⟩
      · have h32 : ¬ (32 : Int32) ≤ nI j := fun e => by
          have := (nI_leI (a := 32) (b := j) (by omega) (by omega)).mp e
          omega
        have h33 : ¬ nI j + 1 = 33 := fun e => by
          rw [nI_1] at e
          have := (nI_eq (a := j + 1) (b := 33) (by omega) (by omega)).mp e
          omega
        rw [if_neg h32, if_neg h33, nI_1, rl_at R (oh_nnand x (by decide))]
        exact rl_dir R f (j + 1) _ (by omega) (by omega) (rl_atw R.1 _)
theorem rl_res {M h : Nat} {c : Int32} {σ τ : oh_St} (R : rl_R M h c σ τ) {x : Int32} (hx : rl_w x) :
    (spX5_resolve σ x).1 = (spX8_direct τ x).1 ∧ rl_R M h c (spX5_resolve σ x).2 (spX8_direct τ x).2 ∧ ((spX8_direct τ x).1 = -1 ∨ ∃ n : Nat, n < 32768 ∧ (spX8_direct τ x).1 = nI n) :=
  rl_dir R 33 0 x rfl (by omega) hx
/-- an address without the sign's bit is its own end -/
theorem rl_res0 {σ : oh_St} {x : Int32} (hx : x &&& 32768 = 0) : spX5_resolve σ x = (x, σ) := by
  show lpX5_resolve σ (32 + 1) x 0 = _
  unfold lpX5_resolve
  simp only [if_pos hx, ite_self]
theorem rl_A {M h : Nat} {c : Int32} {σ τ : oh_St} (R : rl_R M h c σ τ) : spX4_read σ 0 = τ 0 14 := rl_at R (by decide)
theorem rl_B {M h : Nat} {c : Int32} {σ τ : oh_St} (R : rl_R M h c σ τ) : spX4_read σ 1 = τ 0 15 := rl_at R (by decide)
theorem rl_Aw {M : Nat} {τ : oh_St} (hI : rl_I M τ) : rl_w (τ 0 14) := rl_atw hI 0
theorem rl_Bw {M : Nat} {τ : oh_St} (hI : rl_I M τ) : rl_w (τ 0 15) := rl_atw hI 1
theorem rl_wA {M h : Nat} {c : Int32} {σ τ : oh_St} (R : rl_R M h c σ τ) {v : Int32} (hv : rl_w v) : rl_R M h c (spX4_write σ 0 v) (oh_up τ 0 14 v) := rl_putw (x := 0) R (by decide) hv
theorem rl_wB {M h : Nat} {c : Int32} {σ τ : oh_St} (R : rl_R M h c σ τ) {v : Int32} (hv : rl_w v) : rl_R M h c (spX4_write σ 1 v) (oh_up τ 0 15 v) := rl_putw (x := 1) R (by decide) hv
theorem rl_mA {M h : Nat} {c : Int32} {σ τ : oh_St} (R : rl_R M h c σ τ) (v : Int32) : rl_R M h c (spX4_write σ 0 v) (oh_up τ 0 14 (v &&& 65535)) := rl_put (x := 0) R (by decide)
theorem rl_mB {M h : Nat} {c : Int32} {σ τ : oh_St} (R : rl_R M h c σ τ) (v : Int32) : rl_R M h c (spX4_write σ 1 v) (oh_up τ 0 15 (v &&& 65535)) := rl_put (x := 1) R (by decide)
/-- the sign of a sum -/
theorem rl_ovf {x y : Int32} (hx : rl_w x) (hy : rl_w y) : (((x ^^^ (x + y)) &&& (y ^^^ (x + y))) &&& 32768 = 0) ↔ ¬ (spX8_signed x + spX8_signed y < -32768) ∧ spX8_signed x + spX8_signed y ≤ 32767 := by
  obtain ⟨a, ha, rfl⟩ := hx
  obtain ⟨b, hb, rfl⟩ := hy
  have tb : ∀ n : Nat, n < 131072 → bt (nI n) 15 = decide (n / 32768 % 2 = 1) := fun n hn => by
    show (BitVec.ofNat 32 n).getLsbD 15 = _
    rw [BitVec.getLsbD_ofNat]
    simp [Nat.testBit_eq_decide_div_mod_eq]
  rw [nI_add, bk15, b_and, b_xor, b_xor, tb a (by omega), tb b (by omega), tb (a + b) (by omega)]
  have sv : ∀ n : Nat, n < 65536 → (spX8_signed (nI n)).toInt = if n ≤ 32767 then (n : Int) else (n : Int) - 65536 := fun n hn => by
    unfold spX8_signed
    by_cases q : n ≤ 32767
    · rw [if_pos (show nI n ≤ 32767 from (nI_leI (b := 32767) (by omega) (by omega)).mpr q), if_pos q, nI_toInt (by omega)]
    · rw [if_neg (show ¬ nI n ≤ 32767 from fun e => q ((nI_leI (b := 32767) (by omega) (by omega)).mp e)), if_neg q]
      show (nI n - nI 65536).toInt = _
      rw [pk_sub_toInt (by omega) (by omega)]
      rfl
  have e1 := sv a ha
  have e2 := sv b hb
  have es : (spX8_signed (nI a) + spX8_signed (nI b)).toInt = (spX8_signed (nI a)).toInt + (spX8_signed (nI b)).toInt := by
    rw [Int32.toInt_add]
    apply Int.bmod_eq_of_le <;> (rw [e1, e2]; split <;> split <;> omega)
  rw [Int32.lt_iff_toInt_lt, Int32.le_iff_toInt_le, es, e1, e2]
  have c1 : (-32768 : Int32).toInt = -32768 := rfl
  have c2 : (32767 : Int32).toInt = 32767 := rfl
  rw [c1, c2]
  by_cases p1 : a / 32768 % 2 = 1 <;> by_cases p2 : b / 32768 % 2 = 1 <;> by_cases p3 : (a + b) / 32768 % 2 = 1 <;> simp only [p1, p2, p3, decide_true, decide_false, Bool.xor_true, Bool.xor_false, Bool.not_true, Bool.not_false, Bool.and_true, Bool.and_false, Bool.false_and, Bool.true_and, Bool.true_eq_false, Bool.false_eq_true, false_iff, true_iff] <;> split <;> split <;> omega
theorem rl_carry {x y : Int32} : (x + y ≤ 65535) = (x + y ≤ 65535) := rfl
theorem rl_sum {M h : Nat} {c : Int32} {σ τ : oh_St} (R : rl_R M h c σ τ) {y : Int32} (hy : rl_w y) :
    rl_R M h c (spX5_add σ 0 y) (oh_up (spX8_sum τ (τ 0 14) y).2 0 14 (spX8_sum τ (τ 0 14) y).1) ∧ rl_R M h c (spX5_add σ 1 y) (oh_up (spX8_sum τ (τ 0 15) y).2 0 15 (spX8_sum τ (τ 0 15) y).1) := by
  have key : ∀ (x : Int32) (σ' : oh_St) (i : Nat), i = 14 ∨ i = 15 → rl_w x → rl_R M h c σ' (oh_up τ 0 i ((x + y) &&& 65535)) →
      rl_R M h c (if (((x ^^^ (x + y)) &&& (y ^^^ (x + y))) &&& 32768) = 0 then (if x + y ≤ 65535 then σ' else oh_up σ' 0 4 1) else oh_up (if x + y ≤ 65535 then σ' else oh_up σ' 0 4 1) 0 5 1) (oh_up (spX8_sum τ x y).2 0 i (spX8_sum τ x y).1) := by
    intro x σ' i hi hx R'
    have ho := rl_ovf hx hy
    unfold spX8_sum
    dsimp only
    by_cases q : x + y ≤ 65535
    · simp only [if_pos q]
      by_cases r : (((x ^^^ (x + y)) &&& (y ^^^ (x + y))) &&& 32768) = 0
      · obtain ⟨r1, r2⟩ := ho.mp r
        rw [if_pos r, if_neg r1, if_pos r2]
        exact R'
      · rw [if_neg r]
        have : (if spX8_signed x + spX8_signed y < -32768 then oh_up τ 0 5 1 else if spX8_signed x + spX8_signed y ≤ 32767 then τ else oh_up τ 0 5 1) = oh_up τ 0 5 1 := by
          split
          · rfl
          · rename_i r1
            rw [if_neg (fun r2 => r (ho.mpr ⟨r1, r2⟩))]
        rw [this, oh_comm τ (by omega)]
        exact rl_o R' (Or.inr rfl)
    · simp only [if_neg q]
      by_cases r : (((x ^^^ (x + y)) &&& (y ^^^ (x + y))) &&& 32768) = 0
      · obtain ⟨r1, r2⟩ := ho.mp r
        rw [if_pos r, if_neg r1, if_pos r2, oh_comm τ (by omega)]
        exact rl_e R' (Or.inr rfl)
      · rw [if_neg r]
        have : (if spX8_signed x + spX8_signed y < -32768 then oh_up τ 0 5 1 else if spX8_signed x + spX8_signed y ≤ 32767 then τ else oh_up τ 0 5 1) = oh_up τ 0 5 1 := by
          split
          · rfl
          · rename_i r1
            rw [if_neg (fun r2 => r (ho.mpr ⟨r1, r2⟩))]
        rw [this, oh_comm (oh_up τ 0 5 1) (by omega), oh_comm τ (k := 0) (i := 5) (by omega), oh_comm _ (k := 0) (i := 5) (k' := 0) (i' := 4) (by omega)]
        exact rl_o (rl_e R' (Or.inr rfl)) (Or.inr rfl)
  constructor
  · unfold spX5_add
    rw [rl_A R]
    exact key _ _ 14 (Or.inl rfl) (rl_Aw R.1) (rl_mA R _)
  · unfold spX5_add
    rw [rl_B R]
    exact key _ _ 15 (Or.inr rfl) (rl_Bw R.1) (rl_mB R _)
theorem rl_reg (w : Int32) : spX5_registerOf w = 0 ∨ spX5_registerOf w = 1 := by
  unfold spX5_registerOf
  split
  · exact Or.inl rfl
  · exact Or.inr rfl
/-- the four bits of a memory word's kind, by the bit that names the register -/
theorem rl_op (w : Int32) {n : Nat} (hn : n < 16) (h : (w >>> ((11 : Int32) &&& 31)) &&& 15 = nI n) : spX5_registerOf w = nI (n % 2) := by
  have b1 : bt w 11 = decide (n % 2 = 1) := by
    have := congrArg (fun y => bt y 0) h
    simp only [b_and] at this
    rw [show bt (w >>> ((11 : Int32) &&& 31)) 0 = if 11 + 0 < 32 then bt w (11 + 0) else bt w 31 from b_sshr 11 (by omega) w (by omega), if_pos (by omega), show bt 15 0 = true from by decide, Bool.and_true] at this
    rw [show (11 : Nat) = 11 + 0 from rfl, this]
    exact (by decide +kernel : ∀ n, n < 16 → bt (nI n) 0 = decide (n % 2 = 1)) n hn
  unfold spX5_registerOf
  have bm : w &&& 2048 = 0 ↔ bt w 11 = false := b_mask 11 (by omega) w
  rcases (by omega : n % 2 = 0 ∨ n % 2 = 1) with e | e
  · rw [if_pos (bm.mpr (by rw [b1, decide_eq_false (by omega)])), e]; rfl
  · rw [if_neg (fun q => by rw [bm.mp q] at b1; rw [decide_eq_true e] at b1; exact absurd b1 (by decide)), e]; rfl
theorem rl_ref {M : Nat} {c : Int32} {σ τ : oh_St} (R : rl_R M 13 c σ τ) (w : Int32) {m : Int32} (hw : rl_w w) (hop : ¬ w &&& 28672 = 0) (hm : m = -1 ∨ ∃ n : Nat, n < 32768 ∧ m = nI n) : rl_R M 13 c (spX5_referToMemory σ w m) (spX8_memoryWord_k56 w (if (w &&& 32768) = 0 then 0 else 1) m τ) := by
  unfold spX5_referToMemory spX8_memoryWord_k56
  by_cases h1 : m = -1
  · rw [if_pos h1, if_pos h1]
    exact R
  rw [if_neg h1, if_neg h1]
  obtain ⟨k, hk, rfl⟩ : ∃ n : Nat, n < 32768 ∧ m = nI n := hm.resolve_left h1
  have hmn : ¬ nI k < 0 := nI_pos (by omega)
  have hind : (if (w &&& 32768) = 0 then (0 : Int32) else 1) = 0 ∨ (if (w &&& 32768) = 0 then (0 : Int32) else 1) = 1 := by
    split
    · exact Or.inl rfl
    · exact Or.inr rfl
  dsimp only
  rw [rl_at R hmn]
  have hv := rl_atw R.1 (nI k)
  generalize spX8_at τ (nI k) = v at hv ⊢
  obtain ⟨n, hn, e⟩ : ∃ n : Nat, n < 16 ∧ (w >>> ((11 : Int32) &&& 31)) &&& 15 = nI n := pk_andE _ 4 (by decide)
  have hr := rl_op w hn e
  have h2 : 2 ≤ n := by
    rcases Nat.lt_or_ge n 2 with q | q
    · exfalso
      apply hop
      apply b_ext
      intro i hi
      rw [b_and, b_28672 i hi, b_0]
      by_cases r : 12 ≤ i ∧ i < 15
      · have := congrArg (fun y => bt y (i - 11)) e
        simp only [b_and] at this
        rw [show bt (w >>> ((11 : Int32) &&& 31)) (i - 11) = if 11 + (i - 11) < 32 then bt w (11 + (i - 11)) else bt w 31 from b_sshr 11 (by omega) w (by omega), if_pos (by omega), show 11 + (i - 11) = i by omega, (by decide +kernel : ∀ i, i < 15 → 12 ≤ i → bt 15 (i - 11) = true) i (by omega) (by omega), Bool.and_true, (by decide +kernel : ∀ n, n < 2 → ∀ i, i < 15 → 12 ≤ i → bt (nI n) (i - 11) = false) n q i (by omega) (by omega)] at this
        rw [this]; rfl
      · rw [decide_eq_false r, Bool.and_false]
    · exact q
  rw [e, hr]
  have hp : σ 0 3 = τ 0 3 := R.S 0 3 (rl_S0 3 (by omega))
  have hpw : rl_w (τ 0 3) := rl_w15 (R.I 0 3 rfl (by decide))
  rcases (by omega : n = 2 ∨ n = 3 ∨ n = 4 ∨ n = 5 ∨ n = 6 ∨ n = 7 ∨ n = 8 ∨ n = 9 ∨ n = 10 ∨ n = 11 ∨ n = 12 ∨ n = 13 ∨ n = 14 ∨ n = 15) with rfl | rfl | rfl | rfl | rfl | rfl | rfl | rfl | rfl | rfl | rfl | rfl | rfl | rfl
  · show rl_R M 13 c (spX4_write σ 0 (spX4_read σ 0 &&& v)) (oh_up τ 0 14 (τ 0 14 &&& v))
    rw [rl_A R]
    exact rl_wA R (rl_Aw R.1).and
  · show rl_R M 13 c (spX5_jump (spX4_write σ (nI k) (σ 0 3)) (nI k + 1) _) (oh_up (oh_up (spX8_put τ (nI k) (τ 0 3)) 0 3 (spX8_more (nI k))) 0 13 _)
    rw [hp]
    exact rl_held (rl_p (rl_putw R hmn hpw) (rl_m15 _)) hind
  · show rl_R M 13 c (spX4_write σ 0 (spX4_read σ 0 ^^^ v)) (oh_up τ 0 14 (τ 0 14 ^^^ v))
    rw [rl_A R]
    exact rl_wA R ((rl_Aw R.1).xor hv)
  · show rl_R M 13 c (oh_up (oh_up σ 0 3 (nI k &&& 32767)) 0 6 _) (oh_up (oh_up τ 0 3 (nI k)) 0 13 _)
    rw [rl_m15w ⟨k, hk, rfl⟩]
    exact rl_held (rl_p R ⟨k, hk, rfl⟩) hind
  · show rl_R M 13 c (spX4_write σ 0 (spX4_read σ 0 ||| v)) (oh_up τ 0 14 (τ 0 14 ||| v))
    rw [rl_A R]
    exact rl_wA R ((rl_Aw R.1).or hv)
  · exact rl_skip (rl_putw R hmn (rl_wm _)) _
  · exact (rl_sum R hv).1
  · exact (rl_sum R hv).2
  · show rl_R M 13 c (spX5_skipIf σ (if spX4_read σ 0 = v then 0 else 1)) (spX8_skip τ (if τ 0 14 = v then 0 else 1))
    rw [rl_A R]
    exact rl_skip R _
  · show rl_R M 13 c (spX5_skipIf σ (if spX4_read σ 1 = v then 0 else 1)) (spX8_skip τ (if τ 0 15 = v then 0 else 1))
    rw [rl_B R]
    exact rl_skip R _
  · exact rl_wA R hv
  · exact rl_wB R hv
  · show rl_R M 13 c (spX4_write σ (nI k) (spX4_read σ 0)) (spX8_put τ (nI k) (τ 0 14))
    rw [rl_A R]
    exact rl_putw R hmn (rl_Aw R.1)
  · show rl_R M 13 c (spX4_write σ (nI k) (spX4_read σ 1)) (spX8_put τ (nI k) (τ 0 15))
    rw [rl_B R]
    exact rl_putw R hmn (rl_Bw R.1)
/-- a memory word, from its address on -/
theorem rl_memw {M : Nat} {c : Int32} {σ τ : oh_St} (R : rl_R M 13 c σ τ) {w g : Int32} (hw : rl_w w) (hop : ¬ w &&& 28672 = 0) (hg : ∃ n : Nat, n < 32768 ∧ g = nI n) :
    rl_R M 13 c (spX5_referToMemory (spX5_resolve σ ((w &&& 32768) ||| ((if (if (w &&& 1024) = 0 then (0 : Int32) else 1) = 0 then 0 else g) ||| (w &&& 1023)))).2 w (spX5_resolve σ ((w &&& 32768) ||| ((if (if (w &&& 1024) = 0 then (0 : Int32) else 1) = 0 then 0 else g) ||| (w &&& 1023)))).1) (spX8_memoryWord τ w g) := by
  have hgw := rl_w15 hg
  have hg15 : bt g 15 = false := by
    rw [← rl_m15w hg, b_and, b_32767 15 (by omega)]; simp
  have or0 : ∀ x : Int32, (0 : Int32) ||| x = x := fun x => by
    apply b_ext
    intro i _
    rw [b_or, b_0, Bool.false_or]
  have orc : ∀ x y : Int32, x ||| y = y ||| x := fun x y => by
    apply b_ext
    intro i _
    rw [b_or, b_or, Bool.or_comm]
  unfold spX8_memoryWord spX8_memoryWord_k58 spX8_memoryWord_k57
  dsimp only
  have em : (if ((w >>> ((10 : Int32) &&& 31)) &&& (1 : Int32)) = (1 : Int32) then ((w &&& (1023 : Int32)) ||| g) else (w &&& (1023 : Int32))) = ((if (if (w &&& 1024) = 0 then (0 : Int32) else 1) = 0 then 0 else g) ||| (w &&& 1023)) := by
    by_cases q : w &&& 1024 = 0
    · rw [if_neg (fun e => (bm10 w).mp e q), if_pos q, if_pos rfl, or0]
    · rw [if_pos ((bm10 w).mpr q), if_neg q, if_neg (by decide), orc]
  rw [em]
  have hpl : rl_w ((if (if (w &&& 1024) = 0 then (0 : Int32) else 1) = 0 then 0 else g) ||| (w &&& 1023)) := by
    apply rl_w.or
    · split
      · exact rl_w0
      · exact hgw
    · exact hw.and
  have hp15 : bt ((if (if (w &&& 1024) = 0 then (0 : Int32) else 1) = 0 then 0 else g) ||| (w &&& 1023)) 15 = false := by
    rw [b_or, b_and, b_1023 15 (by omega)]
    have : bt (if (if (w &&& 1024) = 0 then (0 : Int32) else 1) = 0 then 0 else g) 15 = false := by
      split
      · exact b_0 15
      · exact hg15
    rw [this]; simp
  generalize ((if (if (w &&& 1024) = 0 then (0 : Int32) else 1) = 0 then 0 else g) ||| (w &&& 1023)) = pl at hpl hp15 ⊢
  have hpn : ∃ n : Nat, n < 32768 ∧ pl = nI n := by
    obtain ⟨n, h1, h2⟩ := rl_m15 pl
    refine ⟨n, h1, h2 ▸ ?_⟩
    apply b_ext
    intro i hi
    rw [b_and, b_32767 i hi]
    by_cases q : i < 15
    · simp [q]
    · rw [decide_eq_false q, Bool.and_false]
      by_cases r : i = 15
      · subst r; exact hp15
      · exact hpl.b (by omega)
  by_cases hs : w &&& 32768 = 0
  · have h1 : ¬ w >>> ((15 : Int32) &&& 31) = 1 := fun e => (sg1 hw).mp e hs
    rw [if_neg h1, if_pos rfl, if_pos rfl, hs, or0, rl_res0 ((bk15 pl).mpr hp15)]
    have := rl_ref R w hw hop (m := pl) (Or.inr hpn)
    rw [if_pos hs] at this
    exact this
  · have h1 : w >>> ((15 : Int32) &&& 31) = 1 := (sg1 hw).mpr hs
    have es : w &&& 32768 = 32768 := by
      apply b_ext
      intro i hi
      rw [b_and, b_32768 i hi]
      by_cases q : i = 15
      · subst q
        have : bt w 15 = true := by
          cases e : bt w 15
          · exact absurd ((bk15 w).mpr e) hs
          · rfl
        rw [this]; simp
      · simp [q]
    rw [if_pos h1, if_neg (by decide), if_neg (by decide), es, orc]
    obtain ⟨e1, R1, e2⟩ := rl_res R (x := pl ||| 32768) (hpl.or ⟨32768, by decide, rfl⟩)
    rw [e1]
    have := rl_ref R1 w hw hop e2
    rw [if_neg hs] at this
    exact this
