/-! ===== words of two registers ===== -/
def bl (x : Int64) (i : Nat) : Bool := x.toBitVec.getLsbD i
theorem l_ext {x y : Int64} (h : ∀ i, i < 64 → bl x i = bl y i) : x = y := Int64.toBitVec_inj.mp (BitVec.eq_of_getLsbD_eq (fun i hi => h i hi))
theorem l_or (x y : Int64) (i : Nat) : bl (x ||| y) i = (bl x i || bl y i) := by unfold bl; rw [Int64.toBitVec_or, BitVec.getLsbD_or]
theorem l_and (x y : Int64) (i : Nat) : bl (x &&& y) i = (bl x i && bl y i) := by unfold bl; rw [Int64.toBitVec_and, BitVec.getLsbD_and]
theorem l_0 (i : Nat) : bl 0 i = false := BitVec.getLsbD_zero
theorem l_1 : ∀ i, i < 64 → bl 1 i = decide (i = 0) := by decide +kernel
theorem l_max : ∀ i, i < 64 → bl 2147483647 i = decide (i < 31) := by decide +kernel
theorem ls_l : ∀ n, n < 64 → (((nI n).toInt64 &&& 63).toBitVec.smod 64).toNat = n := by decide +kernel
theorem l_shl (n : Nat) (hn : n < 64) (x : Int64) {i : Nat} (hi : i < 64) : bl (x <<< ((nI n).toInt64 &&& 63)) i = (decide (n ≤ i) && bl x (i - n)) := by
  unfold bl
  rw [Int64.toBitVec_shiftLeft]
  show (x.toBitVec <<< (((nI n).toInt64 &&& 63).toBitVec.smod 64).toNat).getLsbD i = _
  rw [ls_l n hn, BitVec.getLsbD_shiftLeft]
  rcases Nat.lt_or_ge i n with h | h
  · simp [h, Nat.not_le.mpr h]
  · simp [hi, h, Nat.not_lt.mpr h]
theorem l_sshr (n : Nat) (hn : n < 64) (x : Int64) {i : Nat} (hi : i < 64) : bl (x >>> ((nI n).toInt64 &&& 63)) i = if n + i < 64 then bl x (n + i) else bl x 63 := by
  unfold bl
  rw [Int64.toBitVec_shiftRight]
  show (x.toBitVec.sshiftRight (((nI n).toInt64 &&& 63).toBitVec.smod 64).toNat).getLsbD i = _
  rw [ls_l n hn, BitVec.getLsbD_sshiftRight, BitVec.msb_eq_getLsbD_last]
  simp [hi]
theorem l_to64 (x : Int32) {i : Nat} (hi : i < 64) : bl x.toInt64 i = if i < 32 then bt x i else bt x 31 := by
  unfold bl bt
  rw [Int32.toBitVec_toInt64, BitVec.getLsbD_signExtend, BitVec.msb_eq_getLsbD_last]
  simp [hi]
theorem l_to32 (x : Int64) {i : Nat} (hi : i < 32) : bt x.toInt32 i = bl x i := by
  unfold bl bt
  rw [Int64.toBitVec_toInt32, BitVec.getLsbD_signExtend]
  simp [hi, show i < 64 by omega]
theorem l_back (x : Int32) : x.toInt64.toInt32 = x := b_ext (fun i hi => by rw [l_to32 _ hi, l_to64 _ (by omega), if_pos hi])
/-- the pair of the class and of the reference -/
theorem l_pair {M h : Nat} {c : Int32} {σ τ : oh_St} (R : rl_R M h c σ τ) : (∀ i, i < 32 → bl (spX8_both τ) i = bt (spX5_readPair σ) i) ∧ (∀ i, 32 ≤ i → i < 64 → bl (spX8_both τ) i = false) := by
  have ha := rl_Aw R.1
  have hb := rl_Bw R.1
  have e : spX5_readPair σ = ((τ 0 15) <<< ((16 : Int32) &&& 31)) ||| τ 0 14 := by
    unfold spX5_readPair
    dsimp only
    rw [rl_A R, rl_B R]
  have wd : ∀ x : Int32, rl_w x → ∀ i, i < 64 → bl x.toInt64 i = bt x i := fun x hx i hi => by
    rw [l_to64 x hi]
    split
    · rfl
    · rw [hx.b (by omega), hx.b (by omega)]
  have e2 : ∀ i, i < 64 → bl (spX8_both τ) i = ((decide (16 ≤ i) && bt (τ 0 15) (i - 16)) || bt (τ 0 14) i) := fun i hi => by
    unfold spX8_both
    rw [l_or, show (16 : Int32) = nI 16 from rfl, l_shl 16 (by omega) _ hi, wd _ hb _ (by omega), wd _ ha _ hi]
  constructor
  · intro i hi
    rw [e2 i (by omega), e, b_or, b_sh16 _ hi]
  · intro i h1 h2
    rw [e2 i h2, hb.b (by omega), ha.b (by omega)]
    simp
theorem l_write {M h : Nat} {c : Int32} {σ τ : oh_St} (R : rl_R M h c σ τ) {v : Int32} {V : Int64} (hV : ∀ i, i < 32 → bl V i = bt v i) : rl_R M h c (spX5_writePair σ v) (spX8_both_ τ V) := by
  have e1 : V.toInt32 = v := b_ext (fun i hi => by rw [l_to32 _ hi, hV i hi])
  have e2 : ((V >>> ((16 : Int32).toInt64 &&& 63)).toInt32) &&& 65535 = ((v.toUInt32 >>> ((16 : Int32).toUInt32 &&& Int32.toUInt32 31)).toInt32) &&& 65535 := by
    apply b_ext
    intro i hi
    rw [b_and, b_and, b_65535]
    by_cases q : i < 16
    · rw [l_to32 _ hi, show (16 : Int32) = nI 16 from rfl, l_sshr 16 (by omega) _ (by omega), b_ushr 16 (by omega), if_pos (by omega), hV _ (by omega)]
    · simp [q]
  unfold spX5_writePair spX8_both_
  dsimp only
  rw [e1, e2]
  exact rl_mB (rl_mA R v) _
theorem l_both_o (τ : oh_St) (V : Int64) (x : Int32) : spX8_both_ (oh_up τ 0 5 x) V = oh_up (spX8_both_ τ V) 0 5 x := by
  unfold spX8_both_
  dsimp only
  rw [oh_comm τ (by omega), oh_comm _ (by omega)]
theorem l_and1 (x : Int64) : x &&& 1 = if bl x 0 then 1 else 0 := by
  apply l_ext
  intro i hi
  rw [l_and, l_1 i hi]
  cases e : bl x 0
  · rw [if_neg (by decide), l_0]
    by_cases q : i = 0
    · subst q; rw [e]; rfl
    · simp [q]
  · rw [if_pos rfl, l_1 i hi]
    by_cases q : i = 0
    · subst q; rw [e]; rfl
    · simp [q]
/-- whether a bit unlike the sign was lost -/
def ol (V : Int64) (s : Bool) : Nat → Int32
  | 0 => 0
  | j + 1 => if bl V (30 - j) = s then ol V s j else 1
theorem ol_01 (V : Int64) (s : Bool) : ∀ j, (ol V s j = 0 ∨ ol V s j = 1) ∧ (ol V s j = 0 ↔ ∀ t, t < j → bl V (30 - t) = s)
  | 0 => ⟨Or.inl rfl, ⟨fun _ t ht => absurd ht (by omega), fun _ => rfl⟩⟩
  | j + 1 => by
    obtain ⟨i1, i2⟩ := ol_01 V s j
    unfold ol
    by_cases q : bl V (30 - j) = s
    · rw [if_pos q]
      refine ⟨i1, ⟨fun e t ht => ?_, fun e => i2.mpr (fun t ht => e t (by omega))⟩⟩
      by_cases r : t = j
      · subst r; exact q
      · exact i2.mp e t (by omega)
    · rw [if_neg q]
      exact ⟨Or.inr rfl, ⟨fun e => absurd e (by decide), fun e => absurd (e j (by omega)) q⟩⟩
theorem l_loop (V : Int64) (s : Bool) (τ : oh_St) (n : Nat) (hn : n ≤ 16) : ∀ (f j : Nat) (v : Int64), j + f = n + 1 → j ≤ n → 
    (∀ i, i < 31 → bl v i = (decide (j ≤ i) && bl V (i - j))) → bl v 31 = s →
    ∃ v' : Int64, (∀ i, i < 31 → bl v' i = (decide (n ≤ i) && bl V (i - n))) ∧ bl v' 31 = s ∧
      lpX8_leftSigned (nI n) f (oh_up τ 0 5 (ol V s j)) v (if s then 1 else 0) (nI j) = spX8_both_ (oh_up τ 0 5 (ol V s n)) v'
  | 0, _, _, h1, h2, _, _ => absurd h1 (by omega)
  | f + 1, j, v, h1, h2, hv, hs => by
    unfold lpX8_leftSigned
    by_cases q : j = n
    · subst q
      rw [if_pos ((nI_leI (by omega) (by omega)).mpr (Nat.le_refl j))]
      exact ⟨v, hv, hs, rfl⟩
    · rw [if_neg (fun e => by
        have := (nI_leI (by omega) (by omega)).mp e
        omega)]
      have eb : (v >>> ((30 : Int32).toInt64 &&& 63)) &&& 1 = if bl V (30 - j) then 1 else 0 := by
        rw [l_and1, show (30 : Int32) = nI 30 from rfl, l_sshr 30 (by omega) _ (by omega), if_pos (show 30 + 0 < 64 by omega), show 30 + 0 = 30 from rfl, hv 30 (by omega), decide_eq_true (show j ≤ 30 by omega), Bool.true_and]
      dsimp only
      rw [eb]
      have ez : (if lg_cmp (if bl V (30 - j) then (1 : Int64) else 0) (if s then 1 else 0) = 0 then oh_up τ 0 5 (ol V s j) else oh_up (oh_up τ 0 5 (ol V s j)) 0 5 1) = oh_up τ 0 5 (ol V s (j + 1)) := by
        show _ = oh_up τ 0 5 (if bl V (30 - j) = s then ol V s j else 1)
        rw [oh_idem]
        generalize bl V (30 - j) = b
        cases b <;> cases s <;> rfl
      rw [ez, nI_1]
      refine l_loop V s τ n hn f (j + 1) _ (by omega) (by omega) (fun i hi => ?_) ?_
      · rw [l_or, l_and, l_max i (by omega), decide_eq_true hi, Bool.and_true, show (1 : Int32) = nI 1 from rfl, show (31 : Int32) = nI 31 from rfl, l_shl 1 (by omega) _ (by omega), l_shl 31 (by omega) _ (by omega), decide_eq_false (show ¬ 31 ≤ i by omega), Bool.false_and, Bool.or_false]
        by_cases r : 1 ≤ i
        · rw [decide_eq_true r, Bool.true_and, hv (i - 1) (by omega)]
          by_cases r2 : j + 1 ≤ i
          · rw [decide_eq_true r2, decide_eq_true (show j ≤ i - 1 by omega), show i - 1 - j = i - (j + 1) by omega]
          · rw [decide_eq_false r2, decide_eq_false (show ¬ j ≤ i - 1 by omega)]; rfl
        · rw [decide_eq_false r, decide_eq_false (show ¬ j + 1 ≤ i by omega)]; rfl
      · rw [l_or, l_and, l_max 31 (by omega), show (31 : Int32) = nI 31 from rfl, l_shl 31 (by omega) _ (by omega)]
        cases s <;> simp [l_0, l_1]
theorem b_neg (x : Int32) : (0 : Int32) ≤ x ↔ bt x 31 = false := by
  unfold bt
  rw [← BitVec.msb_eq_getLsbD_last (x := x.toBitVec), BitVec.msb_eq_toInt, Int32.le_iff_toInt_le]
  show (0 : Int) ≤ x.toInt ↔ _
  rw [Int32.toInt]
  simp
theorem b_ones : ∀ n, n < 17 → ∀ i, i < 32 → bt (((1 : Int32) <<< (nI n &&& 31)) - 1) i = decide (i < n) := by decide +kernel
theorem l_lost (v : Int32) (n : Nat) (h0 : 1 ≤ n) (hn : n ≤ 16) : spX5_losesUnlikeSign v (nI n) = 0 ↔ ∀ t, t < n → bt v (30 - t) = bt v 31 := by
  have e31 : (31 : Int32) - nI n = nI (31 - n) := pk_sub (a := 31) (by omega)
  have bL : ∀ i, i < 32 → bt (((v &&& 2147483647).toUInt32 >>> (((31 : Int32) - nI n).toUInt32 &&& Int32.toUInt32 31)).toInt32) i = (decide (i < n) && bt v (31 - n + i)) := fun i hi => by
    rw [e31, b_ushr (31 - n) (by omega), b_and]
    by_cases q : i < n
    · rw [b_max _ (by omega), decide_eq_true (show 31 - n + i < 31 by omega), decide_eq_true q]; simp
    · rw [decide_eq_false q]
      by_cases r : 31 - n + i < 32
      · rw [b_max _ r, decide_eq_false (show ¬ 31 - n + i < 31 by omega)]; simp
      · rw [b_big (by omega)]; rfl
  have bR : ∀ i, i < 32 → bt (if (0 : Int32) ≤ v then 0 else (((1 : Int32) <<< (nI n &&& 31)) - 1)) i = (decide (i < n) && bt v 31) := fun i hi => by
    by_cases q : (0 : Int32) ≤ v
    · rw [if_pos q, b_0, (b_neg v).mp q, Bool.and_false]
    · rw [if_neg q, b_ones n (by omega) i hi]
      cases e : bt v 31
      · exact absurd ((b_neg v).mpr e) q
      · simp
  unfold spX5_losesUnlikeSign
  dsimp only
  constructor
  · intro e t ht
    have e' : (((v &&& 2147483647).toUInt32 >>> (((31 : Int32) - nI n).toUInt32 &&& Int32.toUInt32 31)).toInt32) = (if (0 : Int32) ≤ v then 0 else (((1 : Int32) <<< (nI n &&& 31)) - 1)) := by
      by_cases q : (((v &&& 2147483647).toUInt32 >>> (((31 : Int32) - nI n).toUInt32 &&& Int32.toUInt32 31)).toInt32) = (if (0 : Int32) ≤ v then 0 else (((1 : Int32) <<< (nI n &&& 31)) - 1))
      · exact q
      · rw [if_neg q] at e; exact absurd e (by decide)
    have := congrArg (fun y => bt y (n - 1 - t)) e'
    rw [bL _ (by omega), bR _ (by omega), decide_eq_true (show n - 1 - t < n by omega), Bool.true_and, Bool.true_and, show 31 - n + (n - 1 - t) = 30 - t by omega] at this
    exact this
  · intro e
    apply if_pos
    apply b_ext
    intro i hi
    rw [bL i hi, bR i hi]
    by_cases q : i < n
    · rw [← e (n - 1 - i) (by omega), show 30 - (n - 1 - i) = 31 - n + i by omega]
    · rw [decide_eq_false q]; rfl
theorem rl_asl {M h : Nat} {c : Int32} {σ τ : oh_St} (R : rl_R M h c σ τ) (n : Nat) (h0 : 1 ≤ n) (hn : n ≤ 16) :
    rl_R M h c (oh_up (spX5_writePair σ ((spX5_readPair σ &&& (-2147483648)) ||| ((spX5_readPair σ <<< (nI n &&& 31)) &&& 2147483647))) 0 5 (spX7_bit (spX5_losesUnlikeSign (spX5_readPair σ) (nI n)))) (spX8_leftSigned τ (nI n)) := by
  obtain ⟨p1, p2⟩ := l_pair R
  unfold spX8_leftSigned
  dsimp only
  generalize spX5_readPair σ = v at p1 ⊢
  generalize spX8_both τ = V at p1 p2 ⊢
  have ew : (V >>> ((31 : Int32).toInt64 &&& 63)) &&& 1 = if bl V 31 then 1 else 0 := by
    rw [l_and1, show (31 : Int32) = nI 31 from rfl, l_sshr 31 (by omega) _ (by omega), if_pos (show 31 + 0 < 64 by omega)]
  rw [ew, nI_clamp (by omega)]
  obtain ⟨v', a1, a2, a3⟩ := l_loop V (bl V 31) τ n hn (n + 1) 0 V (by omega) (by omega) (fun i hi => by simp) rfl
  rw [show ol V (bl V 31) 0 = 0 from rfl, show nI 0 = 0 from rfl] at a3
  rw [a3, l_both_o]
  have eo : spX7_bit (spX5_losesUnlikeSign v (nI n)) = ol V (bl V 31) n := by
    obtain ⟨o1, o2⟩ := ol_01 V (bl V 31) n
    have l1 := l_lost v n h0 hn
    have key : spX5_losesUnlikeSign v (nI n) = 0 ↔ ol V (bl V 31) n = 0 := by
      rw [l1, o2]
      constructor
      · intro e t ht
        rw [p1 _ (by omega), p1 _ (by omega)]
        exact e t ht
      · intro e t ht
        have := e t ht
        rw [p1 _ (by omega), p1 _ (by omega)] at this
        exact this
    unfold spX7_bit
    by_cases q : spX5_losesUnlikeSign v (nI n) = 0
    · rw [if_pos q, key.mp q]
    · rw [if_neg q]
      rcases o1 with o | o
      · exact absurd (key.mpr o) q
      · exact o.symm
  rw [eo]
  refine rl_o (l_write R (fun i hi => ?_)) (ol_01 V _ n).1
  rw [b_or, b_and, b_and, b_min i hi, b_max i hi, b_shl n (by omega) v hi]
  by_cases q : i = 31
  · subst q
    rw [a2, p1 31 (by omega)]
    simp
  · rw [decide_eq_false q, Bool.and_false, Bool.false_or, decide_eq_true (show i < 31 by omega), Bool.and_true, a1 i (by omega), p1 _ (by omega)]
theorem rl_long {M h : Nat} {c : Int32} {σ τ : oh_St} (R : rl_R M h c σ τ) {w : Int32} (hw : rl_w w) (k1 : ¬ w = 32896) (k2 : ¬ w = 33024) (k3 : ¬ w = 34944) (k4 : ¬ w = 35072) : rl_R M h c (spX5_longShift σ w) (spX8_extended τ w) := by
  obtain ⟨n, h0, hn, en⟩ : ∃ n : Nat, 1 ≤ n ∧ n ≤ 16 ∧ (if w &&& 15 = 0 then (16 : Int32) else w &&& 15) = nI n := by
    obtain ⟨k, hk, e⟩ : ∃ k : Nat, k < 16 ∧ w &&& 15 = nI k := pk_andE w 4 (by decide)
    rw [e]
    by_cases q : k = 0
    · subst q; exact ⟨16, by omega, by omega, if_pos rfl⟩
    · refine ⟨k, by omega, by omega, if_neg (fun f => q ?_)⟩
      exact (nI_eq (a := k) (b := 0) (by omega) (by omega)).mp f
  have e32 : (32 : Int32) - nI n = nI (32 - n) := pk_sub (a := 32) (by omega)
  obtain ⟨p1, p2⟩ := l_pair R
  unfold spX5_longShift spX8_extended
  dsimp only
  rw [if_neg k1, if_neg k2, if_neg k3, if_neg k4, rl_hi hw, en, e32]
  have hasl := rl_asl R n h0 hn
  have p3 : (spX8_both τ).toInt32 = spX5_readPair σ := b_ext (fun i hi => by rw [l_to32 _ hi, p1 i hi])
  generalize w &&& 65520 = y
  by_cases q1 : y = 32784
  · rw [if_pos q1, if_pos q1]; exact hasl
  rw [if_neg q1, if_neg q1]
  generalize spX5_readPair σ = v at p1 p3 ⊢
  generalize spX8_both τ = V at p1 p2 p3 ⊢
  have sl : ∀ i, i < 32 → bl (V <<< ((nI n).toInt64 &&& 63)) i = bt (v <<< (nI n &&& 31)) i := fun i hi => by
    rw [l_shl n (by omega) _ (by omega), b_shl n (by omega) _ hi, p1 _ (by omega)]
  have sr : ∀ k, k < 32 → ∀ i, i < 32 → bl (V >>> ((nI k).toInt64 &&& 63)) i = bt ((v.toUInt32 >>> ((nI k).toUInt32 &&& Int32.toUInt32 31)).toInt32) i := fun k hk i hi => by
    rw [l_sshr k (by omega) _ (by omega), b_ushr k hk, if_pos (by omega)]
    by_cases r : k + i < 32
    · exact p1 _ r
    · rw [p2 _ (by omega) (by omega), b_big (by omega)]
  by_cases q2 : y = 32800
  · rw [if_pos q2, if_pos q2]; exact l_write R sl
  rw [if_neg q2, if_neg q2]
  by_cases q3 : y = 32832
  · rw [if_pos q3, if_pos q3]
    exact l_write R (fun i hi => by rw [l_or, b_or, sl i hi, sr (32 - n) (by omega) i hi])
  rw [if_neg q3, if_neg q3]
  by_cases q4 : y = 33296
  · rw [if_pos q4, if_pos q4]
    refine rl_o (l_write R (fun i hi => ?_)) (Or.inl rfl)
    rw [p3, l_sshr n (by omega) _ (by omega), if_pos (by omega), l_to64 _ (by omega), b_sshr n (by omega) _ hi]
  rw [if_neg q4, if_neg q4]
  by_cases q5 : y = 33312
  · rw [if_pos q5, if_pos q5]; exact l_write R (sr n (by omega))
  rw [if_neg q5, if_neg q5]
  by_cases q6 : y = 33344
  · rw [if_pos q6, if_pos q6]
    refine l_write R (fun i hi => ?_)
    rw [l_or, b_or, sr n (by omega) i hi, l_shl (32 - n) (by omega) _ (by omega), b_shl (32 - n) (by omega) _ hi, p1 _ (by omega)]
  rw [if_neg q6, if_neg q6]
  exact R
theorem l_signed {x : Int32} (hx : rl_w x) : spX8_signed x = x.toInt16.toInt32 := by
  obtain ⟨n, hn, rfl⟩ := hx
  apply Int32.toInt_inj.mp
  rw [Int16.toInt_toInt32, Int32.toInt_toInt16, nI_toInt (by omega)]
  unfold spX8_signed
  by_cases q : n ≤ 32767
  · rw [if_pos (show nI n ≤ 32767 from (nI_leI (b := 32767) (by omega) (by omega)).mpr q), nI_toInt (by omega)]
    rw [Int.bmod_eq_of_le] <;> omega
  · rw [if_neg (show ¬ nI n ≤ 32767 from fun e => q ((nI_leI (b := 32767) (by omega) (by omega)).mp e))]
    show (nI n - nI 65536).toInt = _
    rw [pk_sub_toInt (by omega) (by omega)]
    have : ((n : Int)).bmod (2 ^ 16) = ((n : Int) - 65536).bmod (2 ^ 16) := by
      rw [← Int.sub_bmod_right (n : Int) (2 ^ 16)]
      rfl
    rw [this, Int.bmod_eq_of_le] <;> omega
theorem rl_two {M h : Nat} {c : Int32} {σ τ : oh_St} (R : rl_R M h c σ τ) {w m : Int32} (hm : ∃ n : Nat, n < 32768 ∧ m = nI n) : rl_R M h c (spX5_doubleWord σ w m) (spX8_twoWords τ w m) := by
  obtain ⟨k, hk, rfl⟩ := hm
  have hmn : ¬ nI k < 0 := nI_pos (by omega)
  have hm1 : ¬ nI k = -1 := fun e => by rw [e] at hmn; exact hmn (by decide)
  have h2 : ¬ ((nI k + 1) &&& 32767) < 0 := oh_nnand _ (by decide)
  unfold spX5_doubleWord spX8_twoWords
  dsimp only
  rw [if_neg hm1, rl_at R hmn, rl_at R h2, rl_A R, rl_B R]
  have hv := rl_atw R.1 (nI k)
  have hv2 := rl_atw R.1 ((nI k + 1) &&& 32767)
  by_cases q1 : w = 32896
  · rw [if_pos q1, if_pos q1]
    unfold spX5_multiply
    dsimp only
    rw [rl_A R]
    refine rl_o (l_write R (fun i hi => ?_)) (Or.inl rfl)
    rw [← l_to32 _ hi, Int64.toInt32_mul, l_back, l_back, l_signed (rl_Aw R.1), l_signed hv]
  rw [if_neg q1, if_neg q1]
  by_cases q2 : w = 33024
  · rw [if_pos q2, if_pos q2, l_signed hv]
    unfold spX5_divide
    have R1 := rl_o R (x := 1) (Or.inr rfl)
    obtain ⟨p1, _⟩ := l_pair R1
    have p3 : (spX8_both τ).toInt32 = spX5_readPair (oh_up σ 0 5 1) := b_ext (fun i hi => by
      rw [l_to32 _ hi]
      exact p1 i hi)
    dsimp only
    rw [p3]
    generalize (((spX8_at τ (nI k)).toInt16.toInt32).toInt64) = d
    generalize (spX5_readPair (oh_up σ 0 5 1)).toInt64 = u
    by_cases r1 : lg_cmp d 0 = 0
    · rw [if_pos r1, if_pos r1]; exact R1
    rw [if_neg r1, if_neg r1]
    by_cases r2 : lg_cmp (u / d) (-32768) < 0
    · rw [if_pos r2, if_pos r2]; exact R1
    rw [if_neg r2, if_neg r2]
    by_cases r3 : lg_cmp (u / d) 32767 ≤ 0
    · rw [if_pos r3, if_pos r3]
      have := rl_o (rl_mB (rl_mA R1 ((u / d).toInt32)) ((u - u / d * d).toInt32)) (x := 0) (Or.inl rfl)
      rw [oh_comm _ (k := 0) (i := 15) (by omega), oh_comm _ (k := 0) (i := 14) (by omega)] at this
      exact this
    rw [if_neg r3, if_neg r3]
    exact R1
  rw [if_neg q2, if_neg q2]
  by_cases q3 : w = 34944
  · rw [if_pos q3, if_pos q3]
    exact rl_wB (rl_wA R hv) hv2
  rw [if_neg q3, if_neg q3]
  exact rl_putw (rl_putw R hmn (rl_Aw R.1)) h2 (rl_Bw R.1)
theorem rd_p (σ : oh_St) (v x : Int32) : spX4_read (oh_up σ 0 3 v) x = spX4_read σ x := by
  unfold spX4_read
  have e : ∀ i, oh_up σ 0 3 v 1 i = σ 1 i := fun i => by rw [oh_ap, if_neg (by omega)]
  rw [e]
theorem at_p (τ : oh_St) (v x : Int32) : spX8_at (oh_up τ 0 3 v) x = spX8_at τ x := by
  unfold spX8_at
  have e : ∀ i, oh_up τ 0 3 v 1 i = τ 1 i := fun i => by rw [oh_ap, if_neg (by omega)]
  have e1 : oh_up τ 0 3 v 0 14 = τ 0 14 := by rw [oh_ap, if_neg (by omega)]
  have e2 : oh_up τ 0 3 v 0 15 = τ 0 15 := by rw [oh_ap, if_neg (by omega)]
  rw [e, e1, e2]
/-- the next word, and one step on -/
theorem rl_next {M h : Nat} {c : Int32} {σ τ : oh_St} (R : rl_R M h c σ τ) : (spX5_nextWord σ).1 = spX8_at τ (τ 0 3) ∧ rl_R M h c (spX5_nextWord σ).2 (oh_up τ 0 3 (spX8_more (τ 0 3))) := by
  have e : σ 0 3 = τ 0 3 := R.S 0 3 (rl_S0 3 (by omega))
  have hp := rl_w15 (R.I 0 3 (b := 32768) rfl (by decide))
  refine ⟨?_, ?_⟩
  · show spX4_read σ (σ 0 3) = _
    rw [e]
    exact rl_at R hp.nn
  · show rl_R M h c (oh_up σ 0 3 ((σ 0 3 + 1) &&& 32767)) _
    rw [e]
    exact rl_p R (rl_m15 _)
theorem rl_ext {M h : Nat} {c : Int32} {σ τ : oh_St} (R : rl_R M h c σ τ) {w : Int32} (hw : rl_w w) :
    rl_R M h c (if spX5_hasAddressBehind w = 0 then spX5_longShift σ w else spX5_doubleWord (spX5_resolve (spX5_nextWord σ).2 (spX5_nextWord σ).1).2 w (spX5_resolve (spX5_nextWord σ).2 (spX5_nextWord σ).1).1) (spX8_extended τ w) := by
  obtain ⟨n1, n2⟩ := rl_next R
  have hv := rl_atw R.1 (τ 0 3)
  have key : rl_R M h c (spX5_doubleWord (spX5_resolve (spX5_nextWord σ).2 (spX5_nextWord σ).1).2 w (spX5_resolve (spX5_nextWord σ).2 (spX5_nextWord σ).1).1) (if (spX8_direct (oh_up τ 0 3 (spX8_more (τ 0 3))) (spX8_at (oh_up τ 0 3 (spX8_more (τ 0 3))) (τ 0 3))).1 = -1 then (spX8_direct (oh_up τ 0 3 (spX8_more (τ 0 3))) (spX8_at (oh_up τ 0 3 (spX8_more (τ 0 3))) (τ 0 3))).2 else spX8_twoWords (spX8_direct (oh_up τ 0 3 (spX8_more (τ 0 3))) (spX8_at (oh_up τ 0 3 (spX8_more (τ 0 3))) (τ 0 3))).2 w (spX8_direct (oh_up τ 0 3 (spX8_more (τ 0 3))) (spX8_at (oh_up τ 0 3 (spX8_more (τ 0 3))) (τ 0 3))).1) := by
    rw [n1, at_p]
    generalize oh_up τ 0 3 (spX8_more (τ 0 3)) = t at n2 ⊢
    generalize (spX5_nextWord σ).2 = s at n2 ⊢
    obtain ⟨a1, a2, a3⟩ := rl_res n2 hv
    rw [a1]
    by_cases q : (spX8_direct t (spX8_at τ (τ 0 3))).1 = -1
    · rw [if_pos q, q]
      unfold spX5_doubleWord
      rw [if_pos rfl]
      exact a2
    · rw [if_neg q]
      exact rl_two a2 (a3.resolve_left q)
  unfold spX5_hasAddressBehind
  by_cases k1 : w = 32896
  · rw [if_pos k1, if_neg (by decide)]
    unfold spX8_extended
    dsimp only
    rw [if_pos k1]; exact key
  by_cases k2 : w = 33024
  · rw [if_neg k1, if_pos k2, if_neg (by decide)]
    unfold spX8_extended
    dsimp only
    rw [if_neg k1, if_pos k2]; exact key
  by_cases k3 : w = 34944
  · rw [if_neg k1, if_neg k2, if_pos k3, if_neg (by decide)]
    unfold spX8_extended
    dsimp only
    rw [if_neg k1, if_neg k2, if_pos k3]; exact key
  by_cases k4 : w = 35072
  · rw [if_neg k1, if_neg k2, if_neg k3, if_pos k4, if_neg (by decide)]
    unfold spX8_extended
    dsimp only
    rw [if_neg k1, if_neg k2, if_neg k3, if_pos k4]; exact key
  rw [if_neg k1, if_neg k2, if_neg k3, if_neg k4, if_pos rfl]
  exact rl_long R hw k1 k2 k3 k4
