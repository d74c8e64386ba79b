/-! ===== channels and turns ===== -/
theorem rl_moved {M h : Nat} {c : Int32} {σ τ : oh_St} {i : Nat} {v : Int32} (R : rl_R M h c σ τ) (hi : 6 ≤ i ∧ i ≤ 7) : rl_R M h c (oh_up σ 10 i v) (oh_up τ 10 i v) :=
  rl_up R (by unfold rl_S; omega) (by omega) (Or.inl rfl)
/-- a channel's word, from where it lies -/
theorem rl_tail {M h : Nat} {c : Int32} {s t : oh_St} (R : rl_R M h c s t) {ch d : Nat} (hc : ch < 2) (hd : d < 4) :
    rl_R M h c (let s5 : oh_St := (spX3_putFlag s ((2 + d)) (0 : Int32)); (if ((oh_up (oh_up s5 6 (6 + ch) (((s5 6 (6 + ch)) + (1 : Int32)) &&& (32767 : Int32))) 7 (6 + ch) (((s5 7 (6 + ch)) + (1 : Int32)) &&& (65535 : Int32))) 7 (6 + ch)) = (0 : Int32) then (spX1_finish (oh_up (oh_up (oh_up s5 6 (6 + ch) (((s5 6 (6 + ch)) + (1 : Int32)) &&& (32767 : Int32))) 7 (6 + ch) (((s5 7 (6 + ch)) + (1 : Int32)) &&& (65535 : Int32))) 10 (6 + ch) ((s5 10 (6 + ch)) + (1 : Int32))) ch (d)) else (if ((s5 9 (6 + ch)) &&& (32768 : Int32)) = (0 : Int32) then (oh_up (oh_up (oh_up s5 6 (6 + ch) (((s5 6 (6 + ch)) + (1 : Int32)) &&& (32767 : Int32))) 7 (6 + ch) (((s5 7 (6 + ch)) + (1 : Int32)) &&& (65535 : Int32))) 10 (6 + ch) ((s5 10 (6 + ch)) + (1 : Int32))) else (spX2_start (oh_up (oh_up (oh_up (oh_up s5 6 (6 + ch) (((s5 6 (6 + ch)) + (1 : Int32)) &&& (32767 : Int32))) 7 (6 + ch) (((s5 7 (6 + ch)) + (1 : Int32)) &&& (65535 : Int32))) 10 (6 + ch) ((s5 10 (6 + ch)) + (1 : Int32))) 2 (6 + (2 + d)) (1 : Int32)) d)))) (spX8_channel_k26 (nI (6 + ch)) (nI (8 + d)) t) := by
  have ec : (nI (6 + ch)).toNatClampNeg = 6 + ch := nI_clamp (by omega)
  have ed : (nI (8 + d)).toNatClampNeg = 8 + d := nI_clamp (by omega)
  unfold spX8_channel_k26 spX3_putFlag spX2_start spX1_finish spX8_started spX3_putFlag spX8_more
  dsimp only
  rw [ec, ed, show 6 + (2 + d) = 8 + d by omega]
  have R1 := rl_flag2 R (i := 8 + d) (v := 0) (by omega) (Or.inl rfl)
  generalize oh_up (oh_up s 3 (8 + d) 0) 4 (8 + d) 0 = s5 at R1 ⊢
  generalize oh_up (oh_up t 3 (8 + d) 0) 4 (8 + d) 0 = t5 at R1 ⊢
  have e6 : s5 6 (6 + ch) = t5 6 (6 + ch) := R1.S 6 _ (by unfold rl_S; omega)
  have e7 : s5 7 (6 + ch) = t5 7 (6 + ch) := R1.S 7 _ (by unfold rl_S; omega)
  have e10 : s5 10 (6 + ch) = t5 10 (6 + ch) := R1.S 10 _ (by unfold rl_S; omega)
  have e9 : s5 9 (6 + ch) = t5 9 (6 + ch) := R1.S 9 _ (by unfold rl_S; omega)
  have w9 : rl_w (t5 9 (6 + ch)) := R1.I 9 _ (b := 65536) rfl (by decide)
  have p7 : ∀ (x v : Int32), oh_up (oh_up t5 6 (6 + ch) x) 7 (6 + ch) v 7 (6 + ch) = v := fun x v => oh_ups
  have q7 : ∀ (x : Int32), oh_up t5 6 (6 + ch) x 7 (6 + ch) = t5 7 (6 + ch) := fun x => by rw [oh_ap, if_neg (by omega)]
  have q10 : ∀ (x v : Int32), oh_up (oh_up t5 6 (6 + ch) x) 7 (6 + ch) v 10 (6 + ch) = t5 10 (6 + ch) := fun x v => by rw [oh_ap, if_neg (by omega), oh_ap, if_neg (by omega)]
  have q9 : ∀ (x v y : Int32), oh_up (oh_up (oh_up t5 6 (6 + ch) x) 7 (6 + ch) v) 10 (6 + ch) y 9 (6 + ch) = t5 9 (6 + ch) := fun x v y => by rw [oh_ap, if_neg (by omega), oh_ap, if_neg (by omega), oh_ap, if_neg (by omega)]
  have r7 : ∀ (x v y : Int32), oh_up (oh_up (oh_up t5 6 (6 + ch) x) 7 (6 + ch) v) 10 (6 + ch) y 7 (6 + ch) = v := fun x v y => by rw [oh_ap, if_neg (by omega), oh_ups]
  rw [e6, e7, e10, e9, oh_ups, q7, q10, r7, q9]
  have R2 := rl_moved (rl_chanw (rl_chana R1 (i := 6 + ch) (v := (t5 6 (6 + ch) + 1) &&& 32767) (by omega) (rl_m15 _)) (k := 7) (i := 6 + ch) (v := (t5 7 (6 + ch) + 1) &&& 65535) (by omega) (by omega) (rl_wm _)) (i := 6 + ch) (v := t5 10 (6 + ch) + 1) (by omega)
  have s9 : oh_up (oh_up (oh_up s5 6 (6 + ch) ((t5 6 (6 + ch) + 1) &&& 32767)) 7 (6 + ch) ((t5 7 (6 + ch) + 1) &&& 65535)) 10 (6 + ch) (t5 10 (6 + ch) + 1) 9 (6 + ch) = t5 9 (6 + ch) := by
    rw [oh_ap, if_neg (by omega), oh_ap, if_neg (by omega), oh_ap, if_neg (by omega)]; exact e9
  have t9 := q9 ((t5 6 (6 + ch) + 1) &&& 32767) ((t5 7 (6 + ch) + 1) &&& 65535) (t5 10 (6 + ch) + 1)
  generalize oh_up (oh_up (oh_up s5 6 (6 + ch) ((t5 6 (6 + ch) + 1) &&& 32767)) 7 (6 + ch) ((t5 7 (6 + ch) + 1) &&& 65535)) 10 (6 + ch) (t5 10 (6 + ch) + 1) = s6 at R2 s9 ⊢
  generalize oh_up (oh_up (oh_up t5 6 (6 + ch) ((t5 6 (6 + ch) + 1) &&& 32767)) 7 (6 + ch) ((t5 7 (6 + ch) + 1) &&& 65535)) 10 (6 + ch) (t5 10 (6 + ch) + 1) = t6 at R2 t9 ⊢
  by_cases q : (t5 7 (6 + ch) + 1) &&& 65535 = 0
  · rw [if_pos q, if_pos q]
    have f9 : oh_up (oh_up s6 3 (6 + ch) 1) 4 (6 + ch) 1 9 (6 + ch) = t5 9 (6 + ch) := by
      rw [oh_ap, if_neg (by omega), oh_ap, if_neg (by omega)]; exact s9
    have g9 : oh_up (oh_up (oh_up t6 3 (6 + ch) 1) 4 (6 + ch) 1) 5 (6 + ch) 0 9 (6 + ch) = t5 9 (6 + ch) := by
      rw [oh_ap, if_neg (by omega), oh_ap, if_neg (by omega), oh_ap, if_neg (by omega)]; exact t9
    rw [f9, g9]
    have R3 := rl_chan2 (rl_flag2 R2 (i := 6 + ch) (v := 1) (by omega) (Or.inr rfl)) (k := 5) (i := 6 + ch) (v := 0) (by omega) (by omega) (Or.inl rfl)
    by_cases r : t5 9 (6 + ch) &&& 8192 = 0
    · rw [if_pos r, if_neg (fun e => (bm13 _).mp e r)]; exact R3
    · rw [if_neg r, if_pos ((bm13 _).mpr r)]
      exact rl_line R3 (k := 2) (i := 8 + d) (by omega) (by omega) (Or.inl rfl)
  · rw [if_neg q, if_neg q]
    by_cases r : t5 9 (6 + ch) &&& 32768 = 0
    · rw [if_pos r, if_neg (fun e => (sg1 w9).mp e r)]; exact R2
    · rw [if_neg r, if_pos ((sg1 w9).mpr r)]
      exact rl_start (rl_line R2 (k := 2) (i := 8 + d) (v := 1) (by omega) (by omega) (Or.inr rfl)) (by omega)
theorem rl_move {M h : Nat} {c : Int32} {σ τ : oh_St} (R : rl_R M h c σ τ) {ch d : Nat} (hc : ch < 2) (hd : d < 4) :
    rl_R M h c (spX1_move σ ch d) (spX8_channel_k26 (nI (6 + ch)) (nI (8 + d)) (if τ 8 (6 + ch) = 0 then oh_up τ 14 (8 + d) (spX8_at τ (τ 6 (6 + ch))) else spX8_put τ (τ 6 (6 + ch)) (τ 14 (8 + d)))) := by
  have e8 : σ 8 (6 + ch) = τ 8 (6 + ch) := R.S 8 _ (by unfold rl_S; omega)
  have e6 : σ 6 (6 + ch) = τ 6 (6 + ch) := R.S 6 _ (by unfold rl_S; omega)
  have e14 : σ 14 (8 + d) = τ 14 (8 + d) := R.S 14 _ (by unfold rl_S; omega)
  have w14 : rl_w (τ 14 (8 + d)) := R.I 14 _ (b := 65536) rfl (by decide)
  have w6 := rl_w15 (R.I 6 (6 + ch) (b := 32768) rfl (by decide))
  have key : rl_R M h c (if σ 8 (6 + ch) = 0 then oh_up σ 14 (8 + d) (spX4_read σ (σ 6 (6 + ch))) else spX4_write σ (σ 6 (6 + ch)) (σ 14 (8 + d))) (if τ 8 (6 + ch) = 0 then oh_up τ 14 (8 + d) (spX8_at τ (τ 6 (6 + ch))) else spX8_put τ (τ 6 (6 + ch)) (τ 14 (8 + d))) := by
    rw [e8, e6, e14, rl_at R w6.nn]
    split
    · exact rl_buf R (by omega) (rl_atw R.1 _)
    · exact rl_putw R w6.nn w14
  exact rl_tail key hc hd
theorem cs_d : ∀ d, d < 4 → ((nI (8 + d) - 8).toNatClampNeg = d ∧ oh_ix (nI (8 + d) - 8) 4 ∧ ¬ nI (8 + d) < 8 ∧ ¬ (12 : Int32) ≤ nI (8 + d)) := by decide +kernel
theorem cs_lo : ∀ m, m < 8 → (¬ oh_ix (nI m - 8) 4 ∧ nI m < 8) := by decide +kernel
/-- one channel's turn -/
theorem rl_chan {M h : Nat} {c : Int32} {σ τ : oh_St} (R : rl_R M h c σ τ) {ch : Nat} (hc : ch < 2) :
    rl_R M h c (if (σ 5 (6 + ch)) = (0 : Int32) then σ else (if oh_ix (((σ 9 (6 + ch)) &&& (63 : Int32)) - (8 : Int32)) 4 then (if (σ 3 (6 + (2 + (((σ 9 (6 + ch)) &&& (63 : Int32)) - (8 : Int32)).toNatClampNeg))) = (0 : Int32) then σ else (spX1_move σ ch ((((σ 9 (6 + ch)) &&& (63 : Int32)) - (8 : Int32)).toNatClampNeg))) else σ)) (spX8_channel τ (nI (6 + ch))) := by
  have ec : (nI (6 + ch)).toNatClampNeg = 6 + ch := nI_clamp (by omega)
  have e5 : σ 5 (6 + ch) = τ 5 (6 + ch) := R.S 5 _ (by unfold rl_S; omega)
  have e9 : σ 9 (6 + ch) = τ 9 (6 + ch) := R.S 9 _ (by unfold rl_S; omega)
  unfold spX8_channel
  dsimp only
  rw [ec, e5, e9]
  obtain ⟨m, hm, em⟩ : ∃ m : Nat, m < 64 ∧ (τ 9 (6 + ch)) &&& 63 = nI m := pk_andE _ 6 (by decide)
  rw [em]
  by_cases q5 : τ 5 (6 + ch) = 0
  · rw [if_pos q5, if_pos q5]; exact R
  rw [if_neg q5, if_neg q5]
  rcases (by omega : m < 8 ∨ (8 ≤ m ∧ m < 12) ∨ 12 ≤ m) with h8 | h8 | h8
  · obtain ⟨a, b⟩ := cs_lo m h8
    rw [if_neg a, if_pos b]; exact R
  · obtain ⟨d, hd, rfl⟩ : ∃ d, d < 4 ∧ m = 8 + d := ⟨m - 8, by omega, by omega⟩
    obtain ⟨a1, a2, a3, a4⟩ := cs_d d hd
    have ed : (nI (8 + d)).toNatClampNeg = 8 + d := nI_clamp (by omega)
    have e3 : σ 3 (8 + d) = τ 3 (8 + d) := R.S 3 _ (by unfold rl_S; omega)
    rw [if_pos a2, if_neg a3, if_neg a4, a1, ed, show 6 + (2 + d) = 8 + d by omega, e3]
    by_cases q3 : τ 3 (8 + d) = 0
    · rw [if_pos q3, if_pos q3]; exact R
    rw [if_neg q3, if_neg q3]
    exact rl_move R hc hd
  · obtain ⟨a0, a1, a2, a3, a6, a7, b6, b8, b12, c12, d2, d6, d66, d8⟩ := cs_hi m hm h8
    rw [if_neg d8, if_neg b8, if_pos c12]; exact R
theorem rl_chans {M h : Nat} {c : Int32} {σ τ : oh_St} (R : rl_R M h c σ τ) : rl_R M h c (spX0_advanceChannels σ) (spX8_channel (spX8_channel τ 6) 7) :=
  rl_chan (rl_chan R (ch := 0) (by omega)) (ch := 1) (by omega)
