/-! ===== words on registers ===== -/
/-- the reference's state with the local word x in register r -/
def rg_P (M h : Nat) (c : Int32) (r : Int32) (σ : oh_St) (x : Int32) (τ : oh_St) : Prop := (r = 0 ∨ r = 1) ∧ rl_w x ∧ rl_R M h c σ (spX8_registers_k32 r x τ)
theorem k32_up (r x : Int32) (τ : oh_St) {k i : Nat} {v : Int32} (hh : ¬ (k = 0 ∧ (i = 14 ∨ i = 15))) : spX8_registers_k32 r x (oh_up τ k i v) = oh_up (spX8_registers_k32 r x τ) k i v := by
  unfold spX8_registers_k32
  split
  · exact oh_comm τ (by omega)
  · exact oh_comm τ (by omega)
theorem k32_at (r x : Int32) (τ : oh_St) {k i : Nat} (hh : ¬ (k = 0 ∧ (i = 14 ∨ i = 15))) : spX8_registers_k32 r x τ k i = τ k i := by
  unfold spX8_registers_k32
  split
  · rw [oh_ap, if_neg (by omega)]
  · rw [oh_ap, if_neg (by omega)]
theorem k32_skip (r x : Int32) (τ : oh_St) (b : Int32) : spX8_registers_k32 r x (spX8_skip τ b) = spX8_skip (spX8_registers_k32 r x τ) b := by
  unfold spX8_skip
  split
  · rfl
  · dsimp only
    rw [k32_up r x τ (by omega), k32_at r x τ (by omega)]
theorem rg_P.start {M h : Nat} {c : Int32} {σ τ : oh_St} (R : rl_R M h c σ τ) {r : Int32} (hr : r = 0 ∨ r = 1) : rg_P M h c r σ (if r = 0 then τ 0 14 else τ 0 15) τ := by
  refine ⟨hr, ?_, ?_⟩
  · split
    · exact rl_Aw R.1
    · exact rl_Bw R.1
  · unfold spX8_registers_k32
    by_cases e : r = 0
    · rw [if_pos e, if_pos e, oh_self τ 0 14 rfl]; exact R
    · rw [if_neg e, if_neg e, oh_self τ 0 15 rfl]; exact R
theorem rg_P.read {M h : Nat} {c r x : Int32} {σ τ : oh_St} (P : rg_P M h c r σ x τ) : spX4_read σ r = x := by
  obtain ⟨hr, _, R⟩ := P
  rcases hr with rfl | rfl
  · rw [rl_A R]; unfold spX8_registers_k32; rw [if_pos rfl, oh_ups]
  · rw [rl_B R]; unfold spX8_registers_k32; rw [if_neg (by decide), oh_ups]
theorem rg_P.write {M h : Nat} {c r x : Int32} {σ τ : oh_St} (P : rg_P M h c r σ x τ) {v : Int32} (hv : rl_w v) : rg_P M h c r (spX4_write σ r v) v τ := by
  obtain ⟨hr, _, R⟩ := P
  refine ⟨hr, hv, ?_⟩
  rcases hr with rfl | rfl
  · have := rl_wA R hv
    unfold spX8_registers_k32 at this ⊢
    rw [if_pos rfl] at this ⊢
    rwa [oh_idem] at this
  · have := rl_wB R hv
    unfold spX8_registers_k32 at this ⊢
    rw [if_neg (by decide)] at this ⊢
    rwa [oh_idem] at this
theorem rg_P.e {M h : Nat} {c r x : Int32} {σ τ : oh_St} (P : rg_P M h c r σ x τ) {v : Int32} (hv : v = 0 ∨ v = 1) : rg_P M h c r (oh_up σ 0 4 v) x (oh_up τ 0 4 v) := by
  refine ⟨P.1, P.2.1, ?_⟩
  rw [k32_up r x τ (by omega)]
  exact rl_e P.2.2 hv
theorem rg_P.o {M h : Nat} {c r x : Int32} {σ τ : oh_St} (P : rg_P M h c r σ x τ) {v : Int32} (hv : v = 0 ∨ v = 1) : rg_P M h c r (oh_up σ 0 5 v) x (oh_up τ 0 5 v) := by
  refine ⟨P.1, P.2.1, ?_⟩
  rw [k32_up r x τ (by omega)]
  exact rl_o P.2.2 hv
theorem rg_P.skip {M h : Nat} {c r x : Int32} {σ τ : oh_St} (P : rg_P M h c r σ x τ) {b b' : Int32} (hb : b = b') : rg_P M h c r (spX5_skipIf σ b) x (spX8_skip τ b') := by
  subst hb
  refine ⟨P.1, P.2.1, ?_⟩
  rw [k32_skip]
  exact rl_skip P.2.2 b
theorem rg_P.e01 {M h : Nat} {c r x : Int32} {σ τ : oh_St} (P : rg_P M h c r σ x τ) : σ 0 4 = τ 0 4 ∧ (τ 0 4 = 0 ∨ τ 0 4 = 1) := by
  have e1 := P.2.2.S 0 4 (rl_S0 4 (by omega))
  have e2 := rl_b01 (P.2.2.I 0 4 (b := 2) rfl (by decide))
  rw [k32_at r x τ (by omega)] at e1 e2
  exact ⟨e1, e2⟩
theorem rl_w32768 : rl_w 32768 := ⟨32768, by decide, rfl⟩
theorem rl_w32767 : rl_w 32767 := ⟨32767, by decide, rfl⟩
theorem rg_P.shift {M h : Nat} {c r x : Int32} {σ τ : oh_St} (P : rg_P M h c r σ x τ) {k : Int32} (hk : ∃ n : Nat, n < 8 ∧ k = nI n) :
    rg_P M h c r (spX4_write (spX5_shifted σ x k).2 r (spX5_shifted σ x k).1) (spX8_shifted τ x k).1 (spX8_shifted τ x k).2 := by
  have hx := P.2.1
  obtain ⟨e1, e2⟩ := P.e01
  obtain ⟨n, hn, rfl⟩ := hk
  rcases (by omega : n = 0 ∨ n = 1 ∨ n = 2 ∨ n = 3 ∨ n = 4 ∨ n = 5 ∨ n = 6 ∨ n = 7) with rfl | rfl | rfl | rfl | rfl | rfl | rfl | rfl
  · exact P.write (hx.and.or (rl_w32767.and'))
  · exact P.write (hx.and.or hx.sr1)
  · show rg_P M h c r (spX4_write σ r (((x <<< ((1 : Int32) &&& 31)) ||| (x >>> ((15 : Int32) &&& 31))) &&& 65535)) (((x <<< ((1 : Int32) &&& 31)) &&& 65535) ||| (x >>> ((15 : Int32) &&& 31))) τ
    rw [← sh2 hx]
    exact P.write (rl_wm _)
  · show rg_P M h c r (spX4_write σ r (((x >>> ((1 : Int32) &&& 31)) ||| (x <<< ((15 : Int32) &&& 31))) &&& 65535)) ((x >>> ((1 : Int32) &&& 31)) ||| ((x &&& 1) <<< ((15 : Int32) &&& 31))) τ
    rw [← sh3 hx]
    exact P.write (rl_wm _)
  · exact P.write (rl_w32767.and')
  · show rg_P M h c r (spX4_write (oh_up σ 0 4 (x &&& 1)) r ((x >>> ((1 : Int32) &&& 31)) ||| ((σ 0 4) <<< ((15 : Int32) &&& 31)))) ((x >>> ((1 : Int32) &&& 31)) ||| ((τ 0 4) <<< ((15 : Int32) &&& 31))) (oh_up τ 0 4 (x &&& 1))
    rw [e1]
    exact (P.e (rl_and1 x)).write (hx.sr1.or (rl_e15 e2))
  · show rg_P M h c r (spX4_write (oh_up σ 0 4 (x >>> ((15 : Int32) &&& 31))) r (((x <<< ((1 : Int32) &&& 31)) &&& 65535) ||| (σ 0 4))) (((x <<< ((1 : Int32) &&& 31)) &&& 65535) ||| (τ 0 4)) (oh_up τ 0 4 (x >>> ((15 : Int32) &&& 31)))
    rw [e1]
    exact (P.e hx.sr15).write ((rl_wm _).or (rl_wb01 e2))
  · show rg_P M h c r (spX4_write σ r (((x <<< ((4 : Int32) &&& 31)) ||| (x >>> ((12 : Int32) &&& 31))) &&& 65535)) (((x <<< ((4 : Int32) &&& 31)) &&& 65535) ||| (x >>> ((12 : Int32) &&& 31))) τ
    rw [← sh7 hx]
    exact P.write (rl_wm _)
theorem rg_shs {M h : Nat} {c : Int32} {σ τ : oh_St} (R : rl_R M h c σ τ) {w : Int32} (hb : w &&& 1024 = 0) : rl_R M h c (spX5_shiftAndSkip σ w) (spX8_registers τ w) := by
  have k7 : ∀ x : Int32, ∃ n : Nat, n < 8 ∧ x &&& 7 = nI n := fun x => pk_andE x 3 (by decide)
  have er : spX8_is w 11 = spX5_registerOf w := is11 w
  have P0 := rg_P.start R (rl_reg w)
  unfold spX5_shiftAndSkip spX8_registers
  dsimp only
  rw [er]
  generalize spX5_registerOf w = r at P0 ⊢
  generalize (if r = 0 then τ 0 14 else τ 0 15) = x at P0 ⊢
  unfold spX8_registers_k33
  dsimp only
  rw [is10, if_pos hb, if_pos rfl, if_pos rfl, is9, is5, is3, is4]
  have step1 : ∃ (s : oh_St) (y : Int32) (t : oh_St), rg_P M h c r s y t ∧ (if w &&& 512 = 0 then σ else spX4_write (spX5_shifted σ (spX4_read σ r) ((w >>> ((6 : Int32) &&& 31)) &&& 7)).2 r (spX5_shifted σ (spX4_read σ r) ((w >>> ((6 : Int32) &&& 31)) &&& 7)).1) = s ∧ (if (if w &&& 512 = 0 then (0 : Int32) else 1) = 0 then x else (spX8_shifted τ x ((w >>> ((6 : Int32) &&& 31)) &&& 7)).1) = y ∧ (if (if w &&& 512 = 0 then (0 : Int32) else 1) = 0 then τ else (spX8_shifted τ x ((w >>> ((6 : Int32) &&& 31)) &&& 7)).2) = t := by
    by_cases q : w &&& 512 = 0
    · exact ⟨σ, x, τ, P0, if_pos q, by rw [if_pos q, if_pos rfl], by rw [if_pos q, if_pos rfl]⟩
    · refine ⟨_, _, _, P0.shift (k7 (w >>> ((6 : Int32) &&& 31))), by rw [if_neg q, P0.read], by rw [if_neg q, if_neg (by decide)], by rw [if_neg q, if_neg (by decide)]⟩
  obtain ⟨s, y, t, P1, f1, f2, f3⟩ := step1
  rw [f1, f2, f3]
  have step2 : ∃ (s' t' : oh_St), rg_P M h c r s' y t' ∧ (if w &&& 32 = 0 then s else oh_up s 0 4 0) = s' ∧ (if (if w &&& 32 = 0 then (0 : Int32) else 1) = 0 then t else oh_up t 0 4 0) = t' := by
    by_cases q : w &&& 32 = 0
    · exact ⟨s, t, P1, if_pos q, by rw [if_pos q, if_pos rfl]⟩
    · exact ⟨_, _, P1.e (Or.inl rfl), if_neg q, by rw [if_neg q, if_neg (by decide)]⟩
  obtain ⟨s', t', P2, g1, g2⟩ := step2
  rw [g1, g2, P2.read]
  have eb : (if w &&& 8 = 0 then (0 : Int32) else (if y &&& 1 = 0 then 1 else 0)) = (if (if w &&& 8 = 0 then (0 : Int32) else 1) = 0 then (0 : Int32) else (if y &&& 1 = 0 then 1 else 0)) := by
    by_cases q : w &&& 8 = 0
    · rw [if_pos q, if_pos q, if_pos rfl]
    · rw [if_neg q, if_neg q, if_neg (show ¬ (1 : Int32) = 0 by decide)]
  have P3 := P2.skip eb
  generalize spX5_skipIf s' _ = s2 at P3 ⊢
  generalize spX8_skip t' _ = t2 at P3 ⊢
  by_cases q : w &&& 16 = 0
  · rw [if_pos q, if_pos q, if_pos rfl, if_pos rfl]
    exact P3.2.2
  · rw [if_neg q, if_neg q, if_neg (by decide), if_neg (by decide), P3.read]
    exact (P3.shift (k7 w)).2.2
theorem rg_val {x : Int32} (hx : rl_w x) {k : Int32} (hk : ∃ n : Nat, n < 4 ∧ k = nI n) : (if k ≤ 1 then (if k = 1 then (0 : Int32) else if k = 3 then 0 else x) else (((if k = 1 then (0 : Int32) else if k = 3 then 0 else x) ^^^ (-1)) &&& 65535)) = spX5_altered x k ∧ rl_w (spX5_altered x k) := by
  obtain ⟨n, hn, rfl⟩ := hk
  rcases (by omega : n = 0 ∨ n = 1 ∨ n = 2 ∨ n = 3) with rfl | rfl | rfl | rfl
  · exact ⟨rfl, hx⟩
  · exact ⟨rfl, rl_w0⟩
  · exact ⟨rl_not hx, hx.xor rl_wF⟩
  · exact ⟨(by show ((0 : Int32) ^^^ (-1)) &&& 65535 = 65535; decide), rl_wF⟩
theorem rg_ev {τ : oh_St} (h0 : τ 0 4 = 0 ∨ τ 0 4 = 1) {k : Int32} (hk : ∃ n : Nat, n < 4 ∧ k = nI n) :
    (let s15 := (if k = 1 then oh_up τ 0 4 0 else τ); let s17 := (if k = 2 then oh_up s15 0 4 (1 - s15 0 4) else s15); if k = 3 then oh_up s17 0 4 1 else s17) = oh_up τ 0 4 (spX5_alteredE (τ 0 4) k) ∧ (spX5_alteredE (τ 0 4) k = 0 ∨ spX5_alteredE (τ 0 4) k = 1) := by
  obtain ⟨n, hn, rfl⟩ := hk
  rcases (by omega : n = 0 ∨ n = 1 ∨ n = 2 ∨ n = 3) with rfl | rfl | rfl | rfl
  · exact ⟨(oh_self τ 0 4 rfl).symm, h0⟩
  · exact ⟨rfl, Or.inl rfl⟩
  · refine ⟨rfl, ?_⟩
    show 1 - τ 0 4 = 0 ∨ 1 - τ 0 4 = 1
    rcases h0 with e | e
    · rw [e]; exact Or.inr rfl
    · rw [e]; exact Or.inl rfl
  · exact ⟨rfl, Or.inr rfl⟩
theorem rg_bool (p : Prop) [Decidable p] : ∃ b : Bool, p = (b = true) := ⟨decide p, by simp⟩
theorem rg_one (x : Int32) : x &&& 1 = 1 ↔ ¬ x &&& 1 = 0 := by
  rcases rl_and1 x with e | e <;> rw [e] <;> decide
theorem rg_alt {M h : Nat} {c : Int32} {σ τ : oh_St} (R : rl_R M h c σ τ) {w : Int32} (hb : ¬ w &&& 1024 = 0) : rl_R M h c (spX5_alterAndSkip σ w) (spX8_registers τ w) := by
  have k3 : ∀ x : Int32, ∃ n : Nat, n < 4 ∧ x &&& 3 = nI n := fun x => pk_andE x 2 (by decide)
  have er : spX8_is w 11 = spX5_registerOf w := is11 w
  have P0 := rg_P.start R (rl_reg w)
  unfold spX5_alterAndSkip spX8_registers
  dsimp only
  rw [er]
  generalize spX5_registerOf w = r at P0 ⊢
  generalize (if r = 0 then τ 0 14 else τ 0 15) = x at P0 ⊢
  unfold spX8_registers_k33
  dsimp only
  rw [is10, if_neg hb, if_neg (show ¬ (1 : Int32) = 0 by decide), if_neg (show ¬ (1 : Int32) = 0 by decide), P0.read, P0.e01.1]
  have hx := P0.2.1
  have he := P0.e01.2
  obtain ⟨v1, v2⟩ := rg_val hx (k3 (w >>> ((8 : Int32) &&& 31)))
  unfold spX8_altered spX8_altered_k119
  dsimp only
  rw [v1]
  generalize spX5_altered x ((w >>> ((8 : Int32) &&& 31)) &&& 3) = v at v2 ⊢
  obtain ⟨e1, e2⟩ := rg_ev he (k3 (w >>> ((6 : Int32) &&& 31)))
  dsimp only at e1
  unfold spX8_altered_k118 spX8_altered_k117 spX8_altered_k116 spX8_altered_k115 spX8_altered_k114
  dsimp only
  rw [e1]
  have P1 := P0.e e2
  have hee : τ 0 4 = 1 ↔ ¬ τ 0 4 = 0 := by
    rcases he with e | e <;> rw [e] <;> decide
  generalize spX5_alteredE (τ 0 4) ((w >>> ((6 : Int32) &&& 31)) &&& 3) = ev at P1 ⊢
  generalize oh_up τ 0 4 ev = t1 at P1 ⊢
  generalize oh_up σ 0 4 ev = s1 at P1 ⊢
  have step : ∃ (s2 t2 : oh_St) (y : Int32), rg_P M h c r s2 x t2 ∧ rl_w y ∧ (if w &&& 4 = 0 then v else (spX5_incremented s1 v).1) = y ∧ (if w &&& 4 = 0 then s1 else (spX5_incremented s1 v).2) = s2 ∧
      (∀ a b : Int32, spX8_altered_k109 w v t1 a b = spX8_altered_k108 w a b y t2) := by
    unfold spX8_altered_k109
    dsimp only
    rw [is2]
    by_cases q : w &&& 4 = 0
    · refine ⟨s1, t1, v, P1, v2, if_pos q, if_pos q, fun a b => ?_⟩
      rw [if_pos q, if_pos rfl, if_pos rfl]
    · refine ⟨_, _, _, ?_, rl_wm (v + 1), if_neg q, if_neg q, fun a b => by rw [if_neg q, if_neg (show ¬ (1 : Int32) = 0 by decide), if_neg (show ¬ (1 : Int32) = 0 by decide)]⟩
      unfold spX5_incremented
      dsimp only
      by_cases q1 : v = 65535
      · simp only [if_pos q1]
        by_cases q2 : v = 32767
        · simp only [if_pos q2]
          exact (P1.e (Or.inr rfl)).o (Or.inr rfl)
        · simp only [if_neg q2]
          exact P1.e (Or.inr rfl)
      · simp only [if_neg q1]
        by_cases q2 : v = 32767
        · simp only [if_pos q2]
          exact P1.o (Or.inr rfl)
        · simp only [if_neg q2]
          exact P1
  obtain ⟨s2, t2, y, P2, hy, f1, f2, f3⟩ := step
  rw [f1, f2]
  unfold spX8_altered_k113 spX8_altered_k112 spX8_altered_k111 spX8_altered_k110
  dsimp only
  rw [f3]
  have P3 := P2.write hy
  unfold spX8_altered_k108 spX8_altered_k107 spX8_altered_k106 spX8_altered_k105 spX8_altered_k104
  dsimp only
  rw [is0, is1, is3, is4, is5]
  simp only [sg1 v2, rg_one v, hee]
  obtain ⟨b0, h0⟩ := rg_bool (w &&& 1 = 0)
  obtain ⟨b1, h1⟩ := rg_bool (w &&& 2 = 0)
  obtain ⟨b3, h3⟩ := rg_bool (w &&& 8 = 0)
  obtain ⟨b4, h4⟩ := rg_bool (w &&& 16 = 0)
  obtain ⟨b5, h5⟩ := rg_bool (w &&& 32 = 0)
  obtain ⟨be, h6⟩ := rg_bool (τ 0 4 = 0)
  obtain ⟨bs, h7⟩ := rg_bool (v &&& 32768 = 0)
  obtain ⟨bl, h8⟩ := rg_bool (v &&& 1 = 0)
  obtain ⟨by', h9⟩ := rg_bool (y = 0)
  simp only [h0, h1, h3, h4, h5, h6, h7, h8, h9]
  cases b0
  · rw [if_neg (show ¬ false = true by decide)]
    exact (P3.skip (by clear h0 h1 h3 h4 h5 h6 h7 h8 h9; revert b1 b3 b4 b5 be bs bl by'; decide +kernel)).2.2
  · rw [if_pos rfl]
    exact (P3.skip (by clear h0 h1 h3 h4 h5 h6 h7 h8 h9; revert b1 b3 b4 b5 be bs bl by'; decide +kernel)).2.2
