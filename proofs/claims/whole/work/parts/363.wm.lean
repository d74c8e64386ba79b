/-! ===== what holds of the reference's state, and stays ===== -/
def oh_WM (M : Nat) (τ : oh_St) : Prop := oh_Dn τ ∧ ¬ τ 0 3 < 0 ∧ (τ 0 9 = 0 ∨ τ 0 9 = 1) ∧ (∀ i : Nat, ¬ τ 6 i < 0) ∧ (∀ i : Nat, ¬ τ 14 i < 0) ∧ (∀ i : Nat, ¬ τ 20 i < 0) ∧ (∀ i : Nat, ∃ t : Nat, t ≤ 100 ∧ τ 16 i = nI t) ∧ ∀ i : Nat, ∃ c : Nat, c ≤ M ∧ τ 17 i = nI c
theorem wm_mono {M N : Nat} {τ : oh_St} (h : oh_WM M τ) (hN : M ≤ N) : oh_WM N τ := by
  obtain ⟨a1, a2, a3, a4, a5, a6, a7, a8⟩ := h
  exact ⟨a1, a2, a3, a4, a5, a6, a7, fun i => by obtain ⟨c, h1, h2⟩ := a8 i; exact ⟨c, by omega, h2⟩⟩
theorem wm_6 {M : Nat} {τ : oh_St} {i : Nat} {v : Int32} (h : oh_WM M τ) (hv : ¬ v < 0) : oh_WM M (oh_up τ 6 i v) := by
  obtain ⟨a1, a2, a3, a4, a5, a6, a7, a8⟩ := h
  refine ⟨a1, a2, a3, fun q => ?_, a5, a6, a7, a8⟩
  by_cases e : q = i
  · rw [e, oh_ups]; exact hv
  · rw [oh_upi e]; exact a4 q
theorem wm_14 {M : Nat} {τ : oh_St} {i : Nat} {v : Int32} (h : oh_WM M τ) (hv : ¬ v < 0) : oh_WM M (oh_up τ 14 i v) := by
  obtain ⟨a1, a2, a3, a4, a5, a6, a7, a8⟩ := h
  refine ⟨a1, a2, a3, a4, fun q => ?_, a6, a7, a8⟩
  by_cases e : q = i
  · rw [e, oh_ups]; exact hv
  · rw [oh_upi e]; exact a5 q
theorem wm_20 {M : Nat} {τ : oh_St} {i : Nat} {v : Int32} (h : oh_WM M τ) (hv : ¬ v < 0) : oh_WM M (oh_up τ 20 i v) := by
  obtain ⟨a1, a2, a3, a4, a5, a6, a7, a8⟩ := h
  refine ⟨a1, a2, a3, a4, a5, fun q => ?_, a7, a8⟩
  by_cases e : q = i
  · rw [e, oh_ups]; exact hv
  · rw [oh_upi e]; exact a6 q
theorem wm_16 {M : Nat} {τ : oh_St} {i : Nat} {v : Int32} (h : oh_WM M τ) (hv : ∃ t : Nat, t ≤ 100 ∧ v = nI t) : oh_WM M (oh_up τ 16 i v) := by
  obtain ⟨a1, a2, a3, a4, a5, a6, a7, a8⟩ := h
  refine ⟨a1, a2, a3, a4, a5, a6, fun q => ?_, a8⟩
  by_cases e : q = i
  · rw [e, oh_ups]; exact hv
  · rw [oh_upi e]; exact a7 q
theorem wm_17 {M : Nat} {τ : oh_St} {i : Nat} {v : Int32} (h : oh_WM M τ) (hv : ∃ c : Nat, c ≤ M + 1 ∧ v = nI c) : oh_WM (M + 1) (oh_up τ 17 i v) := by
  obtain ⟨a1, a2, a3, a4, a5, a6, a7, a8⟩ := wm_mono h (Nat.le_succ M)
  refine ⟨a1, a2, a3, a4, a5, a6, a7, fun q => ?_⟩
  by_cases e : q = i
  · rw [e, oh_ups]; exact hv
  · rw [oh_upi e]; exact a8 q
theorem wm_2 {M : Nat} {τ : oh_St} {i : Nat} {v : Int32} (h : oh_WM M τ) : oh_WM M (oh_up τ 2 i v) := h
theorem wm_3 {M : Nat} {τ : oh_St} {i : Nat} {v : Int32} (h : oh_WM M τ) : oh_WM M (oh_up τ 3 i v) := h
theorem wm_4 {M : Nat} {τ : oh_St} {i : Nat} {v : Int32} (h : oh_WM M τ) : oh_WM M (oh_up τ 4 i v) := h
theorem wm_5 {M : Nat} {τ : oh_St} {i : Nat} {v : Int32} (h : oh_WM M τ) : oh_WM M (oh_up τ 5 i v) := h
theorem wm_7 {M : Nat} {τ : oh_St} {i : Nat} {v : Int32} (h : oh_WM M τ) : oh_WM M (oh_up τ 7 i v) := h
theorem wm_10 {M : Nat} {τ : oh_St} {i : Nat} {v : Int32} (h : oh_WM M τ) : oh_WM M (oh_up τ 10 i v) := h
theorem wm_15 {M : Nat} {τ : oh_St} {i : Nat} {v : Int32} (h : oh_WM M τ) : oh_WM M (oh_up τ 15 i v) := h
theorem wm_24 {M : Nat} {τ : oh_St} {i : Nat} {v : Int32} (h : oh_WM M τ) : oh_WM M (oh_up τ 24 i v) := h
theorem wm_a {M : Nat} {τ : oh_St} {v : Int32} (h : oh_WM M τ) (hv : ¬ v < 0) : oh_WM M (oh_up τ 0 14 v) := by
  obtain ⟨a1, a2, a3, a4, a5, a6, a7, a8⟩ := h
  refine ⟨fun y hy => ?_, a2, a3, a4, a5, a6, a7, a8⟩
  have h9 := a1 y hy
  unfold spX8_at at h9 ⊢
  by_cases e : y = 0
  · rw [if_pos e, oh_ups]; exact hv
  · rw [if_neg e] at h9 ⊢; exact h9
theorem wm_b {M : Nat} {τ : oh_St} {v : Int32} (h : oh_WM M τ) (hv : ¬ v < 0) : oh_WM M (oh_up τ 0 15 v) := by
  obtain ⟨a1, a2, a3, a4, a5, a6, a7, a8⟩ := h
  refine ⟨fun y hy => ?_, a2, a3, a4, a5, a6, a7, a8⟩
  have h9 := a1 y hy
  unfold spX8_at at h9 ⊢
  by_cases e : y = 0
  · rw [if_pos e] at h9 ⊢; exact h9
  · rw [if_neg e] at h9 ⊢
    by_cases e2 : y = 1
    · rw [if_pos e2, oh_ups]; exact hv
    · rw [if_neg e2] at h9 ⊢; exact h9
theorem wm_1 {M : Nat} {τ : oh_St} {i : Nat} {v : Int32} (h : oh_WM M τ) (hv : ¬ v < 0) : oh_WM M (oh_up τ 1 i v) := by
  obtain ⟨a1, a2, a3, a4, a5, a6, a7, a8⟩ := h
  refine ⟨fun y hy => ?_, a2, a3, a4, a5, a6, a7, a8⟩
  have h9 := a1 y hy
  unfold spX8_at at h9 ⊢
  by_cases e : y = 0
  · rw [if_pos e] at h9 ⊢; exact h9
  · rw [if_neg e] at h9 ⊢
    by_cases e2 : y = 1
    · rw [if_pos e2] at h9 ⊢; exact h9
    · rw [if_neg e2] at h9 ⊢
      by_cases e3 : (4096 : Int32) ≤ y
      · rw [if_pos e3] at h9 ⊢; exact h9
      · rw [if_neg e3] at h9 ⊢
        by_cases e4 : y.toNatClampNeg = i
        · rw [e4, oh_ups]; exact hv
        · rw [oh_upi e4]; exact h9
theorem wm_put {M : Nat} {τ : oh_St} {x v : Int32} (h : oh_WM M τ) (hv : ¬ v < 0) : oh_WM M (spX8_put τ x v) := by
  unfold spX8_put
  split
  · exact wm_a h hv
  · split
    · exact wm_b h hv
    · split
      · exact h
      · exact wm_1 h hv
theorem wm_rlp {M : Nat} {p1 : Int32} : ∀ (f : Nat) (z : oh_St) (i : Int32), oh_WM M z → oh_WM M (lpX8_ready p1 f z i)
  | 0, z, i, h => h
  | f + 1, z, i, h => by
    unfold lpX8_ready
    split
    · exact wm_4 (wm_3 h)
    · exact wm_rlp f _ _ (wm_20 h (h.2.2.2.2.2.1 _))
theorem wm_ready {M : Nat} {τ : oh_St} {p1 : Int32} (hM : M < 2000000000) (h : oh_WM M τ) : oh_WM (M + 1) (spX8_ready τ p1) := by
  unfold spX8_ready
  split
  · split
    · exact wm_mono (wm_4 (wm_3 (wm_14 h (by decide)))) (Nat.le_succ M)
    · rename_i c1 c2
      refine wm_mono (wm_rlp _ _ _ (wm_16 (wm_14 (wm_14 h (by decide)) (h.2.2.2.2.2.1 _)) ?_)) (Nat.le_succ M)
      obtain ⟨t, ht, e⟩ := h.2.2.2.2.2.2.1 p1.toNatClampNeg
      rw [e] at c2 ⊢
      have : t ≠ 0 := fun e0 => c2 (by rw [e0]; decide)
      obtain ⟨u, rfl⟩ : ∃ u, t = u + 1 := ⟨t - 1, by omega⟩
      exact ⟨u, by omega, nI_pred u⟩
  · refine wm_4 (wm_3 (wm_17 ?_ ?_))
    · split
      · exact h
      · exact wm_24 h
    · obtain ⟨c, hc, e⟩ := h.2.2.2.2.2.2.2 p1.toNatClampNeg
      refine ⟨c + 1, by omega, ?_⟩
      rw [← nI_1, ← e]
      split <;> rfl
theorem wm_chk {M : Nat} {s : oh_St} {p1 y : Int32} (h : oh_WM M s) : oh_WM M (spX8_channel_k26 p1 y s) := by
  have hm : ∀ x : Int32, ¬ spX8_more x < 0 := fun x => oh_nnand _ (by decide)
  unfold spX8_channel_k26
  (try dsimp only)
  split
  · split
    · exact wm_2 (wm_5 (wm_4 (wm_3 (wm_10 (wm_7 (wm_6 (wm_4 (wm_3 h)) (hm _)))))))
    · exact wm_5 (wm_4 (wm_3 (wm_10 (wm_7 (wm_6 (wm_4 (wm_3 h)) (hm _))))))
  · split
    · exact wm_15 (wm_2 (wm_10 (wm_7 (wm_6 (wm_4 (wm_3 h)) (hm _)))))
    · exact wm_10 (wm_7 (wm_6 (wm_4 (wm_3 h)) (hm _)))
theorem wm_channel {M : Nat} {τ : oh_St} {p1 : Int32} (h : oh_WM M τ) : oh_WM M (spX8_channel τ p1) := by
  unfold spX8_channel
  (try dsimp only)
  split
  · exact h
  · split
    · exact h
    · split
      · exact h
      · split
        · exact h
        · refine wm_chk ?_
          split
          · exact wm_14 h (h.1 _ (h.2.2.2.1 _))
          · exact wm_put h (h.2.2.2.2.1 _)
theorem wm_rdy {M : Nat} {τ : oh_St} (hM : M < 2000000000) (h : oh_WM M τ) (j : Nat) (hj : j < 4) : oh_rdy τ (nI (8 + j)) := by
  refine ⟨⟨j, hj, rfl⟩, h.2.2.2.2.2.2.1 _, ?_⟩
  obtain ⟨c, hc, e⟩ := h.2.2.2.2.2.2.2 (nI (8 + j)).toNatClampNeg
  rw [e]
  exact nI_pos (by omega)
