/-! ===== facts on bits ===== -/
theorem b_p2 : ∀ k, k < 31 → ∀ i, i < 32 → bt (nI (2 ^ k)) i = decide (i = k) := by decide +kernel
theorem b_1 : ∀ i, i < 32 → bt 1 i = decide (i = 0) := by decide +kernel
theorem b_7 : ∀ i, i < 32 → bt 7 i = decide (i < 3) := by decide +kernel
theorem b_32767 : ∀ i, i < 32 → bt 32767 i = decide (i < 15) := by decide +kernel
theorem b_32768 : ∀ i, i < 32 → bt 32768 i = decide (i = 15) := by decide +kernel
theorem b_28672 : ∀ i, i < 32 → bt 28672 i = decide (12 ≤ i ∧ i < 15) := by decide +kernel
theorem b_1023 : ∀ i, i < 32 → bt 1023 i = decide (i < 10) := by decide +kernel
theorem b_31744 : ∀ i, i < 32 → bt 31744 i = decide (10 ≤ i ∧ i < 15) := by decide +kernel
theorem b_65520 : ∀ i, i < 32 → bt 65520 i = decide (4 ≤ i ∧ i < 16) := by decide +kernel
theorem b_m16 : ∀ i, i < 32 → bt (-16) i = decide (4 ≤ i) := by decide +kernel
theorem b_min : ∀ i, i < 32 → bt (-2147483648) i = decide (i = 31) := by decide +kernel
theorem b_max : ∀ i, i < 32 → bt 2147483647 i = decide (i < 31) := by decide +kernel
/-- one bit, by a mask -/
theorem b_mask (k : Nat) (hk : k < 31) (x : Int32) : x &&& nI (2 ^ k) = 0 ↔ bt x k = false := by
  constructor
  · intro h
    have := congrArg (fun y => bt y k) h
    simp only [b_and, b_p2 k hk k (by omega), b_0] at this
    simpa using this
  · intro h
    apply b_ext
    intro i hi
    rw [b_and, b_p2 k hk i hi, b_0]
    by_cases e : i = k
    · subst e; rw [h]; rfl
    · simp [e]
/-- one bit, by a shift -/
theorem b_bit (k : Nat) (hk : k < 31) (x : Int32) : (x >>> (nI k &&& 31)) &&& 1 = 1 ↔ bt x k = true := by
  constructor
  · intro h
    have := congrArg (fun y => bt y 0) h
    simp only [b_and, b_sshr k (by omega) x (by omega : 0 < 32), b_1 0 (by omega)] at this
    simpa [show k < 32 by omega] using this
  · intro h
    apply b_ext
    intro i hi
    rw [b_and, b_sshr k (by omega) x hi, b_1 i hi]
    by_cases e : i = 0
    · subst e; simp [show k < 32 by omega, h]
    · simp [e]
theorem b_bm (k : Nat) (hk : k < 31) (x : Int32) : (x >>> (nI k &&& 31)) &&& 1 = 1 ↔ ¬ x &&& nI (2 ^ k) = 0 := by
  rw [b_bit k hk, b_mask k hk]
  simp
theorem rl_is (k : Nat) (hk : k < 31) (x : Int32) : spX8_is x (nI k) = if x &&& nI (2 ^ k) = 0 then 0 else 1 := by
  unfold spX8_is
  by_cases h : x &&& nI (2 ^ k) = 0
  · rw [if_pos h, if_neg (fun e => (b_bm k hk x).mp e h)]
  · rw [if_neg h, if_pos ((b_bm k hk x).mpr h)]
theorem is0 (x : Int32) : spX8_is x 0 = if x &&& 1 = 0 then 0 else 1 := rl_is 0 (by omega) x
theorem is1 (x : Int32) : spX8_is x 1 = if x &&& 2 = 0 then 0 else 1 := rl_is 1 (by omega) x
theorem is2 (x : Int32) : spX8_is x 2 = if x &&& 4 = 0 then 0 else 1 := rl_is 2 (by omega) x
theorem is3 (x : Int32) : spX8_is x 3 = if x &&& 8 = 0 then 0 else 1 := rl_is 3 (by omega) x
theorem is4 (x : Int32) : spX8_is x 4 = if x &&& 16 = 0 then 0 else 1 := rl_is 4 (by omega) x
theorem is5 (x : Int32) : spX8_is x 5 = if x &&& 32 = 0 then 0 else 1 := rl_is 5 (by omega) x
theorem is9 (x : Int32) : spX8_is x 9 = if x &&& 512 = 0 then 0 else 1 := rl_is 9 (by omega) x
theorem is10 (x : Int32) : spX8_is x 10 = if x &&& 1024 = 0 then 0 else 1 := rl_is 10 (by omega) x
theorem is11 (x : Int32) : spX8_is x 11 = if x &&& 2048 = 0 then 0 else 1 := rl_is 11 (by omega) x
theorem bm10 (x : Int32) : (x >>> ((10 : Int32) &&& 31)) &&& 1 = 1 ↔ ¬ x &&& 1024 = 0 := b_bm 10 (by omega) x
theorem bm13 (x : Int32) : (x >>> ((13 : Int32) &&& 31)) &&& 1 = 1 ↔ ¬ x &&& 8192 = 0 := b_bm 13 (by omega) x
theorem bk15 (x : Int32) : x &&& 32768 = 0 ↔ bt x 15 = false := b_mask 15 (by omega) x
theorem bk0 (x : Int32) : x &&& 1 = 0 ↔ bt x 0 = false := b_mask 0 (by omega) x
/-- the bits of a word -/
theorem rl_w.b {x : Int32} (h : rl_w x) {i : Nat} (hi : 16 ≤ i) : bt x i = false := by
  rw [← h.m, b_and, b_65535, decide_eq_false (by omega), Bool.and_false]
theorem rl_wb {x : Int32} (h : ∀ i, 16 ≤ i → i < 32 → bt x i = false) : rl_w x := by
  have e : x = x &&& 65535 := by
    apply b_ext
    intro i hi
    rw [b_and, b_65535]
    by_cases q : i < 16
    · simp [q]
    · rw [h i (by omega) hi]; rfl
  rw [e]
  exact rl_wm x
theorem b_15 (x : Int32) {i : Nat} (hi : i < 32) : bt (x >>> ((15 : Int32) &&& 31)) i = if 15 + i < 32 then bt x (15 + i) else bt x 31 := b_sshr 15 (by omega) x hi
theorem sg1 {x : Int32} (h : rl_w x) : x >>> ((15 : Int32) &&& 31) = 1 ↔ ¬ x &&& 32768 = 0 := by
  rw [bk15]
  constructor
  · intro e
    have := congrArg (fun y => bt y 0) e
    simp only [b_15 x (by omega : 0 < 32), b_1 0 (by omega)] at this
    simpa using this
  · intro e
    apply b_ext
    intro i hi
    rw [b_15 x hi, b_1 i hi]
    by_cases q : i = 0
    · subst q; simpa using e
    · rw [decide_eq_false q]
      split
      · exact h.b (by omega)
      · exact h.b (by omega)
theorem sg0 {x : Int32} (h : rl_w x) : x >>> ((15 : Int32) &&& 31) = 0 ↔ x &&& 32768 = 0 := by
  rw [bk15]
  constructor
  · intro e
    have := congrArg (fun y => bt y 0) e
    simp only [b_15 x (by omega : 0 < 32), b_0] at this
    simpa using this
  · intro e
    apply b_ext
    intro i hi
    rw [b_15 x hi, b_0]
    by_cases q : i = 0
    · subst q; simpa using e
    · split
      · exact h.b (by omega)
      · exact h.b (by omega)
theorem op7 (x : Int32) : (x >>> ((12 : Int32) &&& 31)) &&& 7 = 0 ↔ x &&& 28672 = 0 := by
  have s : ∀ i, i < 32 → bt (x >>> ((12 : Int32) &&& 31)) i = if 12 + i < 32 then bt x (12 + i) else bt x 31 := fun i hi => b_sshr 12 (by omega) x hi
  constructor
  · intro e
    apply b_ext
    intro i hi
    rw [b_and, b_28672 i hi, b_0]
    by_cases q : 12 ≤ i ∧ i < 15
    · have := congrArg (fun y => bt y (i - 12)) e
      simp only [b_and, s (i - 12) (by omega), b_7 (i - 12) (by omega), b_0] at this
      rw [if_pos (by omega), show 12 + (i - 12) = i by omega, decide_eq_true (show i - 12 < 3 by omega)] at this
      rw [decide_eq_true q]
      exact this
    · rw [decide_eq_false q, Bool.and_false]
  · intro e
    apply b_ext
    intro i hi
    rw [b_and, b_7 i hi, b_0, s i hi]
    by_cases q : i < 3
    · have := congrArg (fun y => bt y (12 + i)) e
      simp only [b_and, b_28672 (12 + i) (by omega), b_0] at this
      rw [decide_eq_true (show 12 ≤ 12 + i ∧ 12 + i < 15 by omega)] at this
      rw [if_pos (by omega), decide_eq_true q]
      exact this
    · rw [decide_eq_false q, Bool.and_false]
/-! words made of words -/
theorem rl_w0 : rl_w 0 := ⟨0, by decide, rfl⟩
theorem rl_w1 : rl_w 1 := ⟨1, by decide, rfl⟩
theorem rl_wF : rl_w 65535 := ⟨65535, by decide, rfl⟩
theorem rl_w.nn {x : Int32} (h : rl_w x) : ¬ x < 0 := by
  obtain ⟨n, hn, rfl⟩ := h
  exact nI_pos (by omega)
theorem rl_w.and {x y : Int32} (h : rl_w x) : rl_w (x &&& y) := rl_wb (fun i hi _ => by rw [b_and, h.b hi, Bool.false_and])
theorem rl_w.and' {x y : Int32} (h : rl_w y) : rl_w (x &&& y) := rl_wb (fun i hi _ => by rw [b_and, h.b hi, Bool.and_false])
theorem rl_w.or {x y : Int32} (h : rl_w x) (h' : rl_w y) : rl_w (x ||| y) := rl_wb (fun i hi _ => by rw [b_or, h.b hi, h'.b hi]; rfl)
theorem rl_w.xor {x y : Int32} (h : rl_w x) (h' : rl_w y) : rl_w (x ^^^ y) := rl_wb (fun i hi _ => by rw [b_xor, h.b hi, h'.b hi]; rfl)
theorem rl_w15 {x : Int32} (h : ∃ n : Nat, n < 32768 ∧ x = nI n) : rl_w x := by
  obtain ⟨n, hn, e⟩ := h
  exact ⟨n, by omega, e⟩
theorem rl_b01 {x : Int32} (h : ∃ n : Nat, n < 2 ∧ x = nI n) : x = 0 ∨ x = 1 := by
  obtain ⟨n, hn, rfl⟩ := h
  rcases (by omega : n = 0 ∨ n = 1) with rfl | rfl
  · exact Or.inl rfl
  · exact Or.inr rfl
theorem rl_wb01 {x : Int32} (h : x = 0 ∨ x = 1) : rl_w x := by
  rcases h with rfl | rfl
  · exact rl_w0
  · exact rl_w1
theorem rl_ok2 {x : Int32} (h : x = 0 ∨ x = 1) {b : Nat} (hb : b = 2) : rl_ok b x := by
  subst hb
  rcases h with rfl | rfl
  · exact Or.inr ⟨0, by decide, rfl⟩
  · exact Or.inr ⟨1, by decide, rfl⟩
theorem rl_m15 (x : Int32) : ∃ n : Nat, n < 32768 ∧ x &&& 32767 = nI n := pk_andE x 15 (by decide)
theorem rl_m15w {x : Int32} (h : ∃ n : Nat, n < 32768 ∧ x = nI n) : x &&& 32767 = x := by
  obtain ⟨n, hn, rfl⟩ := h
  have := pk_andN (n := n) (by omega) (m := 32767) 15 (by decide)
  rw [this, Nat.mod_eq_of_lt (by omega)]
/-! the shifts of one word -/
theorem b_sh1 (x : Int32) {i : Nat} (hi : i < 32) : bt (x <<< ((1 : Int32) &&& 31)) i = (decide (1 ≤ i) && bt x (i - 1)) := b_shl 1 (by omega) x hi
theorem b_sh4 (x : Int32) {i : Nat} (hi : i < 32) : bt (x <<< ((4 : Int32) &&& 31)) i = (decide (4 ≤ i) && bt x (i - 4)) := b_shl 4 (by omega) x hi
theorem b_sh15 (x : Int32) {i : Nat} (hi : i < 32) : bt (x <<< ((15 : Int32) &&& 31)) i = (decide (15 ≤ i) && bt x (i - 15)) := b_shl 15 (by omega) x hi
theorem b_sh16 (x : Int32) {i : Nat} (hi : i < 32) : bt (x <<< ((16 : Int32) &&& 31)) i = (decide (16 ≤ i) && bt x (i - 16)) := b_shl 16 (by omega) x hi
theorem b_sr1 (x : Int32) {i : Nat} (hi : i < 32) : bt (x >>> ((1 : Int32) &&& 31)) i = if 1 + i < 32 then bt x (1 + i) else bt x 31 := b_sshr 1 (by omega) x hi
theorem b_sr12 (x : Int32) {i : Nat} (hi : i < 32) : bt (x >>> ((12 : Int32) &&& 31)) i = if 12 + i < 32 then bt x (12 + i) else bt x 31 := b_sshr 12 (by omega) x hi
theorem rl_w.sr1 {x : Int32} (h : rl_w x) : rl_w (x >>> ((1 : Int32) &&& 31)) := rl_wb (fun i hi h3 => by
  rw [b_sr1 x h3]
  split
  · exact h.b (by omega)
  · exact h.b (by omega))
theorem rl_w.sr15 {x : Int32} (h : rl_w x) : x >>> ((15 : Int32) &&& 31) = 0 ∨ x >>> ((15 : Int32) &&& 31) = 1 := by
  by_cases e : x &&& 32768 = 0
  · exact Or.inl ((sg0 h).mpr e)
  · exact Or.inr ((sg1 h).mpr e)
theorem rl_e15 {e : Int32} (h : e = 0 ∨ e = 1) : rl_w (e <<< ((15 : Int32) &&& 31)) := by
  rcases h with rfl | rfl
  · exact ⟨0, by decide, rfl⟩
  · exact ⟨32768, by decide, rfl⟩
theorem rl_and1 (x : Int32) : x &&& 1 = 0 ∨ x &&& 1 = 1 := rl_b01 (pk_andE x 1 (by decide))
theorem sh2 {x : Int32} (h : rl_w x) : ((x <<< ((1 : Int32) &&& 31)) ||| (x >>> ((15 : Int32) &&& 31))) &&& 65535 = ((x <<< ((1 : Int32) &&& 31)) &&& 65535) ||| (x >>> ((15 : Int32) &&& 31)) := by
  apply b_ext
  intro i hi
  simp only [b_and, b_or, b_65535]
  rw [b_15 x hi]
  by_cases q : i < 16
  · simp [q]
  · rw [decide_eq_false q]
    have : (if 15 + i < 32 then bt x (15 + i) else bt x 31) = false := by
      split
      · exact h.b (by omega)
      · exact h.b (by omega)
    rw [this]
    simp
theorem sh7 {x : Int32} (h : rl_w x) : ((x <<< ((4 : Int32) &&& 31)) ||| (x >>> ((12 : Int32) &&& 31))) &&& 65535 = ((x <<< ((4 : Int32) &&& 31)) &&& 65535) ||| (x >>> ((12 : Int32) &&& 31)) := by
  apply b_ext
  intro i hi
  simp only [b_and, b_or, b_65535]
  rw [b_sr12 x hi]
  by_cases q : i < 16
  · simp [q]
  · rw [decide_eq_false q]
    have : (if 12 + i < 32 then bt x (12 + i) else bt x 31) = false := by
      split
      · exact h.b (by omega)
      · exact h.b (by omega)
    rw [this]
    simp
theorem sh3 {x : Int32} (h : rl_w x) : ((x >>> ((1 : Int32) &&& 31)) ||| (x <<< ((15 : Int32) &&& 31))) &&& 65535 = (x >>> ((1 : Int32) &&& 31)) ||| ((x &&& 1) <<< ((15 : Int32) &&& 31)) := by
  apply b_ext
  intro i hi
  simp only [b_and, b_or, b_65535]
  rw [b_sr1 x hi, b_sh15 x hi, b_sh15 _ hi, b_and]
  have hs : 15 ≤ i → (if 1 + i < 32 then bt x (1 + i) else bt x 31) = false := fun q => by
    split
    · exact h.b (by omega)
    · exact h.b (by omega)
  by_cases q : i < 15
  · rw [decide_eq_false (show ¬ 15 ≤ i by omega), decide_eq_true (show i < 16 by omega)]; simp
  · rw [hs (by omega), b_1 (i - 15) (by omega)]
    by_cases r : i = 15
    · subst r; simp
    · rw [decide_eq_false (show ¬ i < 16 by omega), decide_eq_false (show ¬ i - 15 = 0 by omega)]; simp
theorem rl_not {x : Int32} (h : rl_w x) : (x ^^^ (-1)) &&& 65535 = x ^^^ 65535 := by
  apply b_ext
  intro i hi
  rw [b_and, b_xor, b_xor, b_m1 i hi, b_65535]
  by_cases q : i < 16
  · simp [q]
  · rw [h.b (by omega), decide_eq_false q]; rfl
theorem rl_hi {x : Int32} (h : rl_w x) : x &&& (-16) = x &&& 65520 := by
  apply b_ext
  intro i hi
  rw [b_and, b_and, b_m16 i hi, b_65520 i hi]
  by_cases q : i < 16
  · simp [q]
  · rw [h.b (by omega)]; rfl
