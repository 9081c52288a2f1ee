theorem cp_dr10 (σ : xM) (p q : Int32) : ∃ τ, L_X11_drainsOne_10 p q 0 σ = some τ ∧ (∀ c, c ≠ 148 → τ c = σ c) ∧ ∀ k, τ 148 k = if k < 169 then σ 142 k else σ 148 k := by
  unfold L_X11_drainsOne_10
  refine xloop_for (f := fun x : Int32 × xM => B_X11_drainsOne_10 p q x.1 x.2) (fun j x => x.1 = nI j ∧ (∀ c, c ≠ 148 → x.2 c = σ c) ∧ ∀ k, x.2 148 k = if k < j then σ 142 k else σ 148 k) (fun τ => (∀ c, c ≠ 148 → τ c = σ c) ∧ ∀ k, τ 148 k = if k < 169 then σ 142 k else σ 148 k) 169 ?_ ?_ 6000 0 (0, σ) (by omega) (by omega) ⟨rfl, fun _ _ => rfl, fun k => by rw [if_neg (by omega)]⟩
  · intro j ⟨v, τ⟩ hj ⟨h1, h2, h3⟩
    dsimp only at h1 h2 h3 ⊢
    subst h1
    left
    have ts := h2 142 (by omega)
    unfold B_X11_drainsOne_10
    simp (disch := omega) only [Nat.add_zero, Nat.zero_add, Nat.zero_mul, Nat.mul_zero, mc8, mc3, nU_f, nU_k, nU_e, xbd_some, xgd_true, xlet_eq, g_in, nI_clamp, nI_leI, nI_ltI, nI_eq, nI_add, pk_mul, pk_sub, rd_e, rd_k, rd_c, i10, i01, xsm_l, xsm_r, if_pos, if_neg, l_neg1, oI_e0, nI_e0, oI_nI, ne_eq, not_true_eq_false, not_false_eq_true, and_true, true_and, and_false, false_and, or_true, true_or, or_false, false_or, if_true, if_false, lit_0, lit_1, lit_2, lit_3, lit_4, lit_5, lit_6, lit_8, lit_9, lit_10, lit_12, lit_13, lit_21, lit_29, lit_30, lit_31, lit_37, lit_101, lit_120, lit_121, lit_127, lit_169, lit_64, lit_99, lit_999, lit_676, lit_845, lit_48, lit_57, lit_32, lit_59, ts]
    refine ⟨_, rfl, rfl, fun c hc => by simp (disch := omega) only [Nat.add_zero, Nat.zero_add, Nat.zero_mul, Nat.mul_zero, mc8, mc3, nU_f, nU_k, nU_e, xbd_some, xgd_true, xlet_eq, g_in, nI_clamp, nI_leI, nI_ltI, nI_eq, nI_add, pk_mul, pk_sub, rd_e, rd_k, rd_c, i10, i01, xsm_l, xsm_r, if_pos, if_neg, l_neg1, oI_e0, nI_e0, oI_nI, ne_eq, not_true_eq_false, not_false_eq_true, and_true, true_and, and_false, false_and, or_true, true_or, or_false, false_or, if_true, if_false, lit_0, lit_1, lit_2, lit_3, lit_4, lit_5, lit_6, lit_8, lit_9, lit_10, lit_12, lit_13, lit_21, lit_29, lit_30, lit_31, lit_37, lit_101, lit_120, lit_121, lit_127, lit_169, lit_64, lit_99, lit_999, lit_676, lit_845, lit_48, lit_57, lit_32, lit_59]; exact h2 c hc, fun k => ?_⟩
    by_cases e : k = j
    · subst e
      simp (disch := omega) only [Nat.add_zero, Nat.zero_add, Nat.zero_mul, Nat.mul_zero, mc8, mc3, nU_f, nU_k, nU_e, xbd_some, xgd_true, xlet_eq, g_in, nI_clamp, nI_leI, nI_ltI, nI_eq, nI_add, pk_mul, pk_sub, rd_e, rd_k, rd_c, i10, i01, xsm_l, xsm_r, if_pos, if_neg, l_neg1, oI_e0, nI_e0, oI_nI, ne_eq, not_true_eq_false, not_false_eq_true, and_true, true_and, and_false, false_and, or_true, true_or, or_false, false_or, if_true, if_false, lit_0, lit_1, lit_2, lit_3, lit_4, lit_5, lit_6, lit_8, lit_9, lit_10, lit_12, lit_13, lit_21, lit_29, lit_30, lit_31, lit_37, lit_101, lit_120, lit_121, lit_127, lit_169, lit_64, lit_99, lit_999, lit_676, lit_845, lit_48, lit_57, lit_32, lit_59]
    · simp (disch := omega) only [Nat.add_zero, Nat.zero_add, Nat.zero_mul, Nat.mul_zero, mc8, mc3, nU_f, nU_k, nU_e, xbd_some, xgd_true, xlet_eq, g_in, nI_clamp, nI_leI, nI_ltI, nI_eq, nI_add, pk_mul, pk_sub, rd_e, rd_k, rd_c, i10, i01, xsm_l, xsm_r, if_pos, if_neg, l_neg1, oI_e0, nI_e0, oI_nI, ne_eq, not_true_eq_false, not_false_eq_true, and_true, true_and, and_false, false_and, or_true, true_or, or_false, false_or, if_true, if_false, lit_0, lit_1, lit_2, lit_3, lit_4, lit_5, lit_6, lit_8, lit_9, lit_10, lit_12, lit_13, lit_21, lit_29, lit_30, lit_31, lit_37, lit_101, lit_120, lit_121, lit_127, lit_169, lit_64, lit_99, lit_999, lit_676, lit_845, lit_48, lit_57, lit_32, lit_59]
      rw [h3]
      by_cases e2 : k < j
      · rw [if_pos e2, if_pos (by omega)]
      · rw [if_neg e2, if_neg (by omega)]
  · intro ⟨v, τ⟩ ⟨h1, h2, h3⟩
    dsimp only at h1 h2 h3 ⊢
    subst h1
    unfold B_X11_drainsOne_10
    simp (disch := omega) only [Nat.add_zero, Nat.zero_add, Nat.zero_mul, Nat.mul_zero, mc8, mc3, nU_f, nU_k, nU_e, xbd_some, xgd_true, xlet_eq, g_in, nI_clamp, nI_leI, nI_ltI, nI_eq, nI_add, pk_mul, pk_sub, rd_e, rd_k, rd_c, i10, i01, xsm_l, xsm_r, if_pos, if_neg, l_neg1, oI_e0, nI_e0, oI_nI, ne_eq, not_true_eq_false, not_false_eq_true, and_true, true_and, and_false, false_and, or_true, true_or, or_false, false_or, if_true, if_false, lit_0, lit_1, lit_2, lit_3, lit_4, lit_5, lit_6, lit_8, lit_9, lit_10, lit_12, lit_13, lit_21, lit_29, lit_30, lit_31, lit_37, lit_101, lit_120, lit_121, lit_127, lit_169, lit_64, lit_99, lit_999, lit_676, lit_845, lit_48, lit_57, lit_32, lit_59]
    exact ⟨_, rfl, h2, h3⟩
theorem cp_dr59 (σ : xM) : ∃ τ, L_X11_drainsOne_59 0 σ = some τ ∧ (∀ c, c ≠ 142 → τ c = σ c) ∧ ∀ k, τ 142 k = if k < 169 then σ 148 k else σ 142 k := by
  unfold L_X11_drainsOne_59
  refine xloop_for (f := fun x : Int32 × xM => B_X11_drainsOne_59 x.1 x.2) (fun j x => x.1 = nI j ∧ (∀ c, c ≠ 142 → x.2 c = σ c) ∧ ∀ k, x.2 142 k = if k < j then σ 148 k else σ 142 k) (fun τ => (∀ c, c ≠ 142 → τ c = σ c) ∧ ∀ k, τ 142 k = if k < 169 then σ 148 k else σ 142 k) 169 ?_ ?_ 6000 0 (0, σ) (by omega) (by omega) ⟨rfl, fun _ _ => rfl, fun k => by rw [if_neg (by omega)]⟩
  · intro j ⟨v, τ⟩ hj ⟨h1, h2, h3⟩
    dsimp only at h1 h2 h3 ⊢
    subst h1
    left
    have ts := h2 148 (by omega)
    unfold B_X11_drainsOne_59
    simp (disch := omega) only [Nat.add_zero, Nat.zero_add, Nat.zero_mul, Nat.mul_zero, mc8, mc3, nU_f, nU_k, nU_e, xbd_some, xgd_true, xlet_eq, g_in, nI_clamp, nI_leI, nI_ltI, nI_eq, nI_add, pk_mul, pk_sub, rd_e, rd_k, rd_c, i10, i01, xsm_l, xsm_r, if_pos, if_neg, l_neg1, oI_e0, nI_e0, oI_nI, ne_eq, not_true_eq_false, not_false_eq_true, and_true, true_and, and_false, false_and, or_true, true_or, or_false, false_or, if_true, if_false, lit_0, lit_1, lit_2, lit_3, lit_4, lit_5, lit_6, lit_8, lit_9, lit_10, lit_12, lit_13, lit_21, lit_29, lit_30, lit_31, lit_37, lit_101, lit_120, lit_121, lit_127, lit_169, lit_64, lit_99, lit_999, lit_676, lit_845, lit_48, lit_57, lit_32, lit_59, ts]
    refine ⟨_, rfl, rfl, fun c hc => by simp (disch := omega) only [Nat.add_zero, Nat.zero_add, Nat.zero_mul, Nat.mul_zero, mc8, mc3, nU_f, nU_k, nU_e, xbd_some, xgd_true, xlet_eq, g_in, nI_clamp, nI_leI, nI_ltI, nI_eq, nI_add, pk_mul, pk_sub, rd_e, rd_k, rd_c, i10, i01, xsm_l, xsm_r, if_pos, if_neg, l_neg1, oI_e0, nI_e0, oI_nI, ne_eq, not_true_eq_false, not_false_eq_true, and_true, true_and, and_false, false_and, or_true, true_or, or_false, false_or, if_true, if_false, lit_0, lit_1, lit_2, lit_3, lit_4, lit_5, lit_6, lit_8, lit_9, lit_10, lit_12, lit_13, lit_21, lit_29, lit_30, lit_31, lit_37, lit_101, lit_120, lit_121, lit_127, lit_169, lit_64, lit_99, lit_999, lit_676, lit_845, lit_48, lit_57, lit_32, lit_59]; exact h2 c hc, fun k => ?_⟩
    by_cases e : k = j
    · subst e
      simp (disch := omega) only [Nat.add_zero, Nat.zero_add, Nat.zero_mul, Nat.mul_zero, mc8, mc3, nU_f, nU_k, nU_e, xbd_some, xgd_true, xlet_eq, g_in, nI_clamp, nI_leI, nI_ltI, nI_eq, nI_add, pk_mul, pk_sub, rd_e, rd_k, rd_c, i10, i01, xsm_l, xsm_r, if_pos, if_neg, l_neg1, oI_e0, nI_e0, oI_nI, ne_eq, not_true_eq_false, not_false_eq_true, and_true, true_and, and_false, false_and, or_true, true_or, or_false, false_or, if_true, if_false, lit_0, lit_1, lit_2, lit_3, lit_4, lit_5, lit_6, lit_8, lit_9, lit_10, lit_12, lit_13, lit_21, lit_29, lit_30, lit_31, lit_37, lit_101, lit_120, lit_121, lit_127, lit_169, lit_64, lit_99, lit_999, lit_676, lit_845, lit_48, lit_57, lit_32, lit_59]
    · simp (disch := omega) only [Nat.add_zero, Nat.zero_add, Nat.zero_mul, Nat.mul_zero, mc8, mc3, nU_f, nU_k, nU_e, xbd_some, xgd_true, xlet_eq, g_in, nI_clamp, nI_leI, nI_ltI, nI_eq, nI_add, pk_mul, pk_sub, rd_e, rd_k, rd_c, i10, i01, xsm_l, xsm_r, if_pos, if_neg, l_neg1, oI_e0, nI_e0, oI_nI, ne_eq, not_true_eq_false, not_false_eq_true, and_true, true_and, and_false, false_and, or_true, true_or, or_false, false_or, if_true, if_false, lit_0, lit_1, lit_2, lit_3, lit_4, lit_5, lit_6, lit_8, lit_9, lit_10, lit_12, lit_13, lit_21, lit_29, lit_30, lit_31, lit_37, lit_101, lit_120, lit_121, lit_127, lit_169, lit_64, lit_99, lit_999, lit_676, lit_845, lit_48, lit_57, lit_32, lit_59]
      rw [h3]
      by_cases e2 : k < j
      · rw [if_pos e2, if_pos (by omega)]
      · rw [if_neg e2, if_neg (by omega)]
  · intro ⟨v, τ⟩ ⟨h1, h2, h3⟩
    dsimp only at h1 h2 h3 ⊢
    subst h1
    unfold B_X11_drainsOne_59
    simp (disch := omega) only [Nat.add_zero, Nat.zero_add, Nat.zero_mul, Nat.mul_zero, mc8, mc3, nU_f, nU_k, nU_e, xbd_some, xgd_true, xlet_eq, g_in, nI_clamp, nI_leI, nI_ltI, nI_eq, nI_add, pk_mul, pk_sub, rd_e, rd_k, rd_c, i10, i01, xsm_l, xsm_r, if_pos, if_neg, l_neg1, oI_e0, nI_e0, oI_nI, ne_eq, not_true_eq_false, not_false_eq_true, and_true, true_and, and_false, false_and, or_true, true_or, or_false, false_or, if_true, if_false, lit_0, lit_1, lit_2, lit_3, lit_4, lit_5, lit_6, lit_8, lit_9, lit_10, lit_12, lit_13, lit_21, lit_29, lit_30, lit_31, lit_37, lit_101, lit_120, lit_121, lit_127, lit_169, lit_64, lit_99, lit_999, lit_676, lit_845, lit_48, lit_57, lit_32, lit_59]
    exact ⟨_, rfl, h2, h3⟩
theorem cp_rd27 (σ : xM) : ∃ τ, L_X11_reads_27 0 σ = some τ ∧ (∀ c, c ≠ 144 → τ c = σ c) ∧ ∀ k, τ 144 k = if k < 169 then σ 142 k else σ 144 k := by
  unfold L_X11_reads_27
  refine xloop_for (f := fun x : Int32 × xM => B_X11_reads_27 x.1 x.2) (fun j x => x.1 = nI j ∧ (∀ c, c ≠ 144 → x.2 c = σ c) ∧ ∀ k, x.2 144 k = if k < j then σ 142 k else σ 144 k) (fun τ => (∀ c, c ≠ 144 → τ c = σ c) ∧ ∀ k, τ 144 k = if k < 169 then σ 142 k else σ 144 k) 169 ?_ ?_ 6000 0 (0, σ) (by omega) (by omega) ⟨rfl, fun _ _ => rfl, fun k => by rw [if_neg (by omega)]⟩
  · intro j ⟨v, τ⟩ hj ⟨h1, h2, h3⟩
    dsimp only at h1 h2 h3 ⊢
    subst h1
    left
    have ts := h2 142 (by omega)
    unfold B_X11_reads_27
    simp (disch := omega) only [Nat.add_zero, Nat.zero_add, Nat.zero_mul, Nat.mul_zero, mc8, mc3, nU_f, nU_k, nU_e, xbd_some, xgd_true, xlet_eq, g_in, nI_clamp, nI_leI, nI_ltI, nI_eq, nI_add, pk_mul, pk_sub, rd_e, rd_k, rd_c, i10, i01, xsm_l, xsm_r, if_pos, if_neg, l_neg1, oI_e0, nI_e0, oI_nI, ne_eq, not_true_eq_false, not_false_eq_true, and_true, true_and, and_false, false_and, or_true, true_or, or_false, false_or, if_true, if_false, lit_0, lit_1, lit_2, lit_3, lit_4, lit_5, lit_6, lit_8, lit_9, lit_10, lit_12, lit_13, lit_21, lit_29, lit_30, lit_31, lit_37, lit_101, lit_120, lit_121, lit_127, lit_169, lit_64, lit_99, lit_999, lit_676, lit_845, lit_48, lit_57, lit_32, lit_59, ts]
    refine ⟨_, rfl, rfl, fun c hc => by simp (disch := omega) only [Nat.add_zero, Nat.zero_add, Nat.zero_mul, Nat.mul_zero, mc8, mc3, nU_f, nU_k, nU_e, xbd_some, xgd_true, xlet_eq, g_in, nI_clamp, nI_leI, nI_ltI, nI_eq, nI_add, pk_mul, pk_sub, rd_e, rd_k, rd_c, i10, i01, xsm_l, xsm_r, if_pos, if_neg, l_neg1, oI_e0, nI_e0, oI_nI, ne_eq, not_true_eq_false, not_false_eq_true, and_true, true_and, and_false, false_and, or_true, true_or, or_false, false_or, if_true, if_false, lit_0, lit_1, lit_2, lit_3, lit_4, lit_5, lit_6, lit_8, lit_9, lit_10, lit_12, lit_13, lit_21, lit_29, lit_30, lit_31, lit_37, lit_101, lit_120, lit_121, lit_127, lit_169, lit_64, lit_99, lit_999, lit_676, lit_845, lit_48, lit_57, lit_32, lit_59]; exact h2 c hc, fun k => ?_⟩
    by_cases e : k = j
    · subst e
      simp (disch := omega) only [Nat.add_zero, Nat.zero_add, Nat.zero_mul, Nat.mul_zero, mc8, mc3, nU_f, nU_k, nU_e, xbd_some, xgd_true, xlet_eq, g_in, nI_clamp, nI_leI, nI_ltI, nI_eq, nI_add, pk_mul, pk_sub, rd_e, rd_k, rd_c, i10, i01, xsm_l, xsm_r, if_pos, if_neg, l_neg1, oI_e0, nI_e0, oI_nI, ne_eq, not_true_eq_false, not_false_eq_true, and_true, true_and, and_false, false_and, or_true, true_or, or_false, false_or, if_true, if_false, lit_0, lit_1, lit_2, lit_3, lit_4, lit_5, lit_6, lit_8, lit_9, lit_10, lit_12, lit_13, lit_21, lit_29, lit_30, lit_31, lit_37, lit_101, lit_120, lit_121, lit_127, lit_169, lit_64, lit_99, lit_999, lit_676, lit_845, lit_48, lit_57, lit_32, lit_59]
    · simp (disch := omega) only [Nat.add_zero, Nat.zero_add, Nat.zero_mul, Nat.mul_zero, mc8, mc3, nU_f, nU_k, nU_e, xbd_some, xgd_true, xlet_eq, g_in, nI_clamp, nI_leI, nI_ltI, nI_eq, nI_add, pk_mul, pk_sub, rd_e, rd_k, rd_c, i10, i01, xsm_l, xsm_r, if_pos, if_neg, l_neg1, oI_e0, nI_e0, oI_nI, ne_eq, not_true_eq_false, not_false_eq_true, and_true, true_and, and_false, false_and, or_true, true_or, or_false, false_or, if_true, if_false, lit_0, lit_1, lit_2, lit_3, lit_4, lit_5, lit_6, lit_8, lit_9, lit_10, lit_12, lit_13, lit_21, lit_29, lit_30, lit_31, lit_37, lit_101, lit_120, lit_121, lit_127, lit_169, lit_64, lit_99, lit_999, lit_676, lit_845, lit_48, lit_57, lit_32, lit_59]
      rw [h3]
      by_cases e2 : k < j
      · rw [if_pos e2, if_pos (by omega)]
      · rw [if_neg e2, if_neg (by omega)]
  · intro ⟨v, τ⟩ ⟨h1, h2, h3⟩
    dsimp only at h1 h2 h3 ⊢
    subst h1
    unfold B_X11_reads_27
    simp (disch := omega) only [Nat.add_zero, Nat.zero_add, Nat.zero_mul, Nat.mul_zero, mc8, mc3, nU_f, nU_k, nU_e, xbd_some, xgd_true, xlet_eq, g_in, nI_clamp, nI_leI, nI_ltI, nI_eq, nI_add, pk_mul, pk_sub, rd_e, rd_k, rd_c, i10, i01, xsm_l, xsm_r, if_pos, if_neg, l_neg1, oI_e0, nI_e0, oI_nI, ne_eq, not_true_eq_false, not_false_eq_true, and_true, true_and, and_false, false_and, or_true, true_or, or_false, false_or, if_true, if_false, lit_0, lit_1, lit_2, lit_3, lit_4, lit_5, lit_6, lit_8, lit_9, lit_10, lit_12, lit_13, lit_21, lit_29, lit_30, lit_31, lit_37, lit_101, lit_120, lit_121, lit_127, lit_169, lit_64, lit_99, lit_999, lit_676, lit_845, lit_48, lit_57, lit_32, lit_59]
    exact ⟨_, rfl, h2, h3⟩
theorem cp_rd61 (σ : xM) (p : Int32) : ∃ τ, L_X11_reads_61 p 0 σ = some τ ∧ (∀ c, c ≠ 142 → τ c = σ c) ∧ ∀ k, τ 142 k = if k < 169 then σ 144 k else σ 142 k := by
  unfold L_X11_reads_61
  refine xloop_for (f := fun x : Int32 × xM => B_X11_reads_61 p x.1 x.2) (fun j x => x.1 = nI j ∧ (∀ c, c ≠ 142 → x.2 c = σ c) ∧ ∀ k, x.2 142 k = if k < j then σ 144 k else σ 142 k) (fun τ => (∀ c, c ≠ 142 → τ c = σ c) ∧ ∀ k, τ 142 k = if k < 169 then σ 144 k else σ 142 k) 169 ?_ ?_ 6000 0 (0, σ) (by omega) (by omega) ⟨rfl, fun _ _ => rfl, fun k => by rw [if_neg (by omega)]⟩
  · intro j ⟨v, τ⟩ hj ⟨h1, h2, h3⟩
    dsimp only at h1 h2 h3 ⊢
    subst h1
    left
    have ts := h2 144 (by omega)
    unfold B_X11_reads_61
    simp (disch := omega) only [Nat.add_zero, Nat.zero_add, Nat.zero_mul, Nat.mul_zero, mc8, mc3, nU_f, nU_k, nU_e, xbd_some, xgd_true, xlet_eq, g_in, nI_clamp, nI_leI, nI_ltI, nI_eq, nI_add, pk_mul, pk_sub, rd_e, rd_k, rd_c, i10, i01, xsm_l, xsm_r, if_pos, if_neg, l_neg1, oI_e0, nI_e0, oI_nI, ne_eq, not_true_eq_false, not_false_eq_true, and_true, true_and, and_false, false_and, or_true, true_or, or_false, false_or, if_true, if_false, lit_0, lit_1, lit_2, lit_3, lit_4, lit_5, lit_6, lit_8, lit_9, lit_10, lit_12, lit_13, lit_21, lit_29, lit_30, lit_31, lit_37, lit_101, lit_120, lit_121, lit_127, lit_169, lit_64, lit_99, lit_999, lit_676, lit_845, lit_48, lit_57, lit_32, lit_59, ts]
    refine ⟨_, rfl, rfl, fun c hc => by simp (disch := omega) only [Nat.add_zero, Nat.zero_add, Nat.zero_mul, Nat.mul_zero, mc8, mc3, nU_f, nU_k, nU_e, xbd_some, xgd_true, xlet_eq, g_in, nI_clamp, nI_leI, nI_ltI, nI_eq, nI_add, pk_mul, pk_sub, rd_e, rd_k, rd_c, i10, i01, xsm_l, xsm_r, if_pos, if_neg, l_neg1, oI_e0, nI_e0, oI_nI, ne_eq, not_true_eq_false, not_false_eq_true, and_true, true_and, and_false, false_and, or_true, true_or, or_false, false_or, if_true, if_false, lit_0, lit_1, lit_2, lit_3, lit_4, lit_5, lit_6, lit_8, lit_9, lit_10, lit_12, lit_13, lit_21, lit_29, lit_30, lit_31, lit_37, lit_101, lit_120, lit_121, lit_127, lit_169, lit_64, lit_99, lit_999, lit_676, lit_845, lit_48, lit_57, lit_32, lit_59]; exact h2 c hc, fun k => ?_⟩
    by_cases e : k = j
    · subst e
      simp (disch := omega) only [Nat.add_zero, Nat.zero_add, Nat.zero_mul, Nat.mul_zero, mc8, mc3, nU_f, nU_k, nU_e, xbd_some, xgd_true, xlet_eq, g_in, nI_clamp, nI_leI, nI_ltI, nI_eq, nI_add, pk_mul, pk_sub, rd_e, rd_k, rd_c, i10, i01, xsm_l, xsm_r, if_pos, if_neg, l_neg1, oI_e0, nI_e0, oI_nI, ne_eq, not_true_eq_false, not_false_eq_true, and_true, true_and, and_false, false_and, or_true, true_or, or_false, false_or, if_true, if_false, lit_0, lit_1, lit_2, lit_3, lit_4, lit_5, lit_6, lit_8, lit_9, lit_10, lit_12, lit_13, lit_21, lit_29, lit_30, lit_31, lit_37, lit_101, lit_120, lit_121, lit_127, lit_169, lit_64, lit_99, lit_999, lit_676, lit_845, lit_48, lit_57, lit_32, lit_59]
    · simp (disch := omega) only [Nat.add_zero, Nat.zero_add, Nat.zero_mul, Nat.mul_zero, mc8, mc3, nU_f, nU_k, nU_e, xbd_some, xgd_true, xlet_eq, g_in, nI_clamp, nI_leI, nI_ltI, nI_eq, nI_add, pk_mul, pk_sub, rd_e, rd_k, rd_c, i10, i01, xsm_l, xsm_r, if_pos, if_neg, l_neg1, oI_e0, nI_e0, oI_nI, ne_eq, not_true_eq_false, not_false_eq_true, and_true, true_and, and_false, false_and, or_true, true_or, or_false, false_or, if_true, if_false, lit_0, lit_1, lit_2, lit_3, lit_4, lit_5, lit_6, lit_8, lit_9, lit_10, lit_12, lit_13, lit_21, lit_29, lit_30, lit_31, lit_37, lit_101, lit_120, lit_121, lit_127, lit_169, lit_64, lit_99, lit_999, lit_676, lit_845, lit_48, lit_57, lit_32, lit_59]
      rw [h3]
      by_cases e2 : k < j
      · rw [if_pos e2, if_pos (by omega)]
      · rw [if_neg e2, if_neg (by omega)]
  · intro ⟨v, τ⟩ ⟨h1, h2, h3⟩
    dsimp only at h1 h2 h3 ⊢
    subst h1
    unfold B_X11_reads_61
    simp (disch := omega) only [Nat.add_zero, Nat.zero_add, Nat.zero_mul, Nat.mul_zero, mc8, mc3, nU_f, nU_k, nU_e, xbd_some, xgd_true, xlet_eq, g_in, nI_clamp, nI_leI, nI_ltI, nI_eq, nI_add, pk_mul, pk_sub, rd_e, rd_k, rd_c, i10, i01, xsm_l, xsm_r, if_pos, if_neg, l_neg1, oI_e0, nI_e0, oI_nI, ne_eq, not_true_eq_false, not_false_eq_true, and_true, true_and, and_false, false_and, or_true, true_or, or_false, false_or, if_true, if_false, lit_0, lit_1, lit_2, lit_3, lit_4, lit_5, lit_6, lit_8, lit_9, lit_10, lit_12, lit_13, lit_21, lit_29, lit_30, lit_31, lit_37, lit_101, lit_120, lit_121, lit_127, lit_169, lit_64, lit_99, lit_999, lit_676, lit_845, lit_48, lit_57, lit_32, lit_59]
    exact ⟨_, rfl, h2, h3⟩
theorem cp_ka29 (σ : xM) : ∃ τ, L_X11_keepsAside_29 0 σ = some τ ∧ (∀ c, c ≠ 142 → τ c = σ c) ∧ ∀ k, τ 142 k = if k < 169 then σ 144 k else σ 142 k := by
  unfold L_X11_keepsAside_29
  refine xloop_for (f := fun x : Int32 × xM => B_X11_keepsAside_29 x.1 x.2) (fun j x => x.1 = nI j ∧ (∀ c, c ≠ 142 → x.2 c = σ c) ∧ ∀ k, x.2 142 k = if k < j then σ 144 k else σ 142 k) (fun τ => (∀ c, c ≠ 142 → τ c = σ c) ∧ ∀ k, τ 142 k = if k < 169 then σ 144 k else σ 142 k) 169 ?_ ?_ 6000 0 (0, σ) (by omega) (by omega) ⟨rfl, fun _ _ => rfl, fun k => by rw [if_neg (by omega)]⟩
  · intro j ⟨v, τ⟩ hj ⟨h1, h2, h3⟩
    dsimp only at h1 h2 h3 ⊢
    subst h1
    left
    have ts := h2 144 (by omega)
    unfold B_X11_keepsAside_29
    simp (disch := omega) only [Nat.add_zero, Nat.zero_add, Nat.zero_mul, Nat.mul_zero, mc8, mc3, nU_f, nU_k, nU_e, xbd_some, xgd_true, xlet_eq, g_in, nI_clamp, nI_leI, nI_ltI, nI_eq, nI_add, pk_mul, pk_sub, rd_e, rd_k, rd_c, i10, i01, xsm_l, xsm_r, if_pos, if_neg, l_neg1, oI_e0, nI_e0, oI_nI, ne_eq, not_true_eq_false, not_false_eq_true, and_true, true_and, and_false, false_and, or_true, true_or, or_false, false_or, if_true, if_false, lit_0, lit_1, lit_2, lit_3, lit_4, lit_5, lit_6, lit_8, lit_9, lit_10, lit_12, lit_13, lit_21, lit_29, lit_30, lit_31, lit_37, lit_101, lit_120, lit_121, lit_127, lit_169, lit_64, lit_99, lit_999, lit_676, lit_845, lit_48, lit_57, lit_32, lit_59, ts]
    refine ⟨_, rfl, rfl, fun c hc => by simp (disch := omega) only [Nat.add_zero, Nat.zero_add, Nat.zero_mul, Nat.mul_zero, mc8, mc3, nU_f, nU_k, nU_e, xbd_some, xgd_true, xlet_eq, g_in, nI_clamp, nI_leI, nI_ltI, nI_eq, nI_add, pk_mul, pk_sub, rd_e, rd_k, rd_c, i10, i01, xsm_l, xsm_r, if_pos, if_neg, l_neg1, oI_e0, nI_e0, oI_nI, ne_eq, not_true_eq_false, not_false_eq_true, and_true, true_and, and_false, false_and, or_true, true_or, or_false, false_or, if_true, if_false, lit_0, lit_1, lit_2, lit_3, lit_4, lit_5, lit_6, lit_8, lit_9, lit_10, lit_12, lit_13, lit_21, lit_29, lit_30, lit_31, lit_37, lit_101, lit_120, lit_121, lit_127, lit_169, lit_64, lit_99, lit_999, lit_676, lit_845, lit_48, lit_57, lit_32, lit_59]; exact h2 c hc, fun k => ?_⟩
    by_cases e : k = j
    · subst e
      simp (disch := omega) only [Nat.add_zero, Nat.zero_add, Nat.zero_mul, Nat.mul_zero, mc8, mc3, nU_f, nU_k, nU_e, xbd_some, xgd_true, xlet_eq, g_in, nI_clamp, nI_leI, nI_ltI, nI_eq, nI_add, pk_mul, pk_sub, rd_e, rd_k, rd_c, i10, i01, xsm_l, xsm_r, if_pos, if_neg, l_neg1, oI_e0, nI_e0, oI_nI, ne_eq, not_true_eq_false, not_false_eq_true, and_true, true_and, and_false, false_and, or_true, true_or, or_false, false_or, if_true, if_false, lit_0, lit_1, lit_2, lit_3, lit_4, lit_5, lit_6, lit_8, lit_9, lit_10, lit_12, lit_13, lit_21, lit_29, lit_30, lit_31, lit_37, lit_101, lit_120, lit_121, lit_127, lit_169, lit_64, lit_99, lit_999, lit_676, lit_845, lit_48, lit_57, lit_32, lit_59]
    · simp (disch := omega) only [Nat.add_zero, Nat.zero_add, Nat.zero_mul, Nat.mul_zero, mc8, mc3, nU_f, nU_k, nU_e, xbd_some, xgd_true, xlet_eq, g_in, nI_clamp, nI_leI, nI_ltI, nI_eq, nI_add, pk_mul, pk_sub, rd_e, rd_k, rd_c, i10, i01, xsm_l, xsm_r, if_pos, if_neg, l_neg1, oI_e0, nI_e0, oI_nI, ne_eq, not_true_eq_false, not_false_eq_true, and_true, true_and, and_false, false_and, or_true, true_or, or_false, false_or, if_true, if_false, lit_0, lit_1, lit_2, lit_3, lit_4, lit_5, lit_6, lit_8, lit_9, lit_10, lit_12, lit_13, lit_21, lit_29, lit_30, lit_31, lit_37, lit_101, lit_120, lit_121, lit_127, lit_169, lit_64, lit_99, lit_999, lit_676, lit_845, lit_48, lit_57, lit_32, lit_59]
      rw [h3]
      by_cases e2 : k < j
      · rw [if_pos e2, if_pos (by omega)]
      · rw [if_neg e2, if_neg (by omega)]
  · intro ⟨v, τ⟩ ⟨h1, h2, h3⟩
    dsimp only at h1 h2 h3 ⊢
    subst h1
    unfold B_X11_keepsAside_29
    simp (disch := omega) only [Nat.add_zero, Nat.zero_add, Nat.zero_mul, Nat.mul_zero, mc8, mc3, nU_f, nU_k, nU_e, xbd_some, xgd_true, xlet_eq, g_in, nI_clamp, nI_leI, nI_ltI, nI_eq, nI_add, pk_mul, pk_sub, rd_e, rd_k, rd_c, i10, i01, xsm_l, xsm_r, if_pos, if_neg, l_neg1, oI_e0, nI_e0, oI_nI, ne_eq, not_true_eq_false, not_false_eq_true, and_true, true_and, and_false, false_and, or_true, true_or, or_false, false_or, if_true, if_false, lit_0, lit_1, lit_2, lit_3, lit_4, lit_5, lit_6, lit_8, lit_9, lit_10, lit_12, lit_13, lit_21, lit_29, lit_30, lit_31, lit_37, lit_101, lit_120, lit_121, lit_127, lit_169, lit_64, lit_99, lit_999, lit_676, lit_845, lit_48, lit_57, lit_32, lit_59]
    exact ⟨_, rfl, h2, h3⟩
theorem M_169 {R R' : Nat → Int32} {N : xN} (b : s_bd N) (e : ∀ k, k < 169 → R' k = R k) (h : s_M R N) : s_M R' N := by
  obtain ⟨hA, hS, hT, hQ⟩ := b
  obtain ⟨r0, rQ, rA, rL, rS, rT⟩ := h
  refine ⟨fun k hk => ?_, fun k hk => ?_, fun a ha => ?_, fun j hj => ?_, fun s hs => ?_, fun j hj => ?_⟩
  · rw [e _ (by omega)]; exact r0 k hk
  · rw [e _ (by omega)]; exact rQ k hk
  · rw [e _ (by omega), e _ (by omega), e _ (by omega)]; exact rA a ha
  · rw [e _ (by omega)]; exact rL j hj
  · rw [e _ (by omega), e _ (by omega), e _ (by omega), e _ (by omega)]; exact rS s hs
  · rw [e _ (by omega), e _ (by omega), e _ (by omega), e _ (by omega)]; exact rT j hj
theorem w_caught {σ : xM} {N : xN} {s : Nat} (hw : s_wf N) (r0 : σ 142 0 = nI (N 0 0)) (hc : m_Ct σ N) (hs : s < N 0 1) : F_X11_caught (nI s) σ = some (nI (v_cau N (s_up N) (N 8) s)) := by
  have hA := hw.1.1
  have hS := hw.1.2.1
  have hL : L_X11_caught_4 (nI s) 0 0 σ = some (nI (v_cau N (s_up N) (N 8) s)) := by
    unfold L_X11_caught_4 v_cau
    refine xfor (f := fun x : Int32 × Int32 => B_X11_caught_4 (nI s) x.1 x.2 σ) (fun k => (nI (xmk (fun b => decide (s_ct N (s_up N) (N 8) b = s + 1)) k), nI k)) (N 0 0) _ (fun k hk => ?_) ?_ 6000 0 (by omega) (by omega)
    · have x1 := hc k hk
      have b1 := s_ct_lt hw (u := s_up N) (st := N 8) hk
      have hx := xmk_lt (fun b => decide (s_ct N (s_up N) (N 8) b = s + 1)) k
      have h0 : ∀ x : Nat, nI x ||| nI 0 = nI x := fun x => Int32.or_zero
      dsimp only
      unfold B_X11_caught_4
      by_cases h : s_ct N (s_up N) (N 8) k = s + 1
      · rw [xmk_t (by simp [h])]
        simp (disch := omega) only [Nat.add_zero, Nat.zero_add, Nat.zero_mul, Nat.mul_zero, mc8, mc3, nU_f, nU_k, nU_e, xbd_some, xgd_true, xlet_eq, g_in, nI_clamp, nI_leI, nI_ltI, nI_eq, nI_add, pk_mul, pk_sub, rd_e, rd_k, rd_c, i10, i01, xsm_l, xsm_r, if_pos, if_neg, l_neg1, oI_e0, nI_e0, oI_nI, ne_eq, not_true_eq_false, not_false_eq_true, and_true, true_and, and_false, false_and, or_true, true_or, or_false, false_or, if_true, if_false, lit_0, lit_1, lit_2, lit_3, lit_4, lit_5, lit_6, lit_8, lit_9, lit_10, lit_12, lit_13, lit_21, lit_29, lit_30, lit_31, lit_37, lit_101, lit_120, lit_121, lit_127, lit_169, lit_64, lit_99, lit_999, lit_676, lit_845, lit_48, lit_57, lit_32, lit_59, r0, x1, shl1, orp]
      · rw [xmk_f (by simp [h])]
        simp (disch := omega) only [Nat.add_zero, Nat.zero_add, Nat.zero_mul, Nat.mul_zero, mc8, mc3, nU_f, nU_k, nU_e, xbd_some, xgd_true, xlet_eq, g_in, nI_clamp, nI_leI, nI_ltI, nI_eq, nI_add, pk_mul, pk_sub, rd_e, rd_k, rd_c, i10, i01, xsm_l, xsm_r, if_pos, if_neg, l_neg1, oI_e0, nI_e0, oI_nI, ne_eq, not_true_eq_false, not_false_eq_true, and_true, true_and, and_false, false_and, or_true, true_or, or_false, false_or, if_true, if_false, lit_0, lit_1, lit_2, lit_3, lit_4, lit_5, lit_6, lit_8, lit_9, lit_10, lit_12, lit_13, lit_21, lit_29, lit_30, lit_31, lit_37, lit_101, lit_120, lit_121, lit_127, lit_169, lit_64, lit_99, lit_999, lit_676, lit_845, lit_48, lit_57, lit_32, lit_59, r0, x1, h0]
    · dsimp only
      unfold B_X11_caught_4
      simp (disch := omega) only [Nat.add_zero, Nat.zero_add, Nat.zero_mul, Nat.mul_zero, mc8, mc3, nU_f, nU_k, nU_e, xbd_some, xgd_true, xlet_eq, g_in, nI_clamp, nI_leI, nI_ltI, nI_eq, nI_add, pk_mul, pk_sub, rd_e, rd_k, rd_c, i10, i01, xsm_l, xsm_r, if_pos, if_neg, l_neg1, oI_e0, nI_e0, oI_nI, ne_eq, not_true_eq_false, not_false_eq_true, and_true, true_and, and_false, false_and, or_true, true_or, or_false, false_or, if_true, if_false, lit_0, lit_1, lit_2, lit_3, lit_4, lit_5, lit_6, lit_8, lit_9, lit_10, lit_12, lit_13, lit_21, lit_29, lit_30, lit_31, lit_37, lit_101, lit_120, lit_121, lit_127, lit_169, lit_64, lit_99, lit_999, lit_676, lit_845, lit_48, lit_57, lit_32, lit_59, r0]
  unfold F_X11_caught
  rw [xbd_s hL]
theorem Mw_cg {σ τ : xM} {N N' : xN} (h5 : N' 5 = N 5) (h0 : N' 0 0 = N 0 0) (e : τ 146 = σ 146) (h : s_Mw σ N) : s_Mw τ N' := by
  intro a c ha hc
  rw [e, s_di_cg h5 h0]
  exact h a c (by omega) (by omega)
theorem v_cau_lt {N : xN} {s : Nat} (hA : N 0 0 ≤ 8) : v_cau N (s_up N) (N 8) s < 256 := by
  have h1 := xmk_lt (fun a => decide (s_ct N (s_up N) (N 8) a = s + 1)) (N 0 0)
  have h2 : 2 ^ (N 0 0) ≤ 2 ^ 8 := Nat.pow_le_pow_right (by omega) hA
  unfold v_cau
  omega
/-- the end of a drain's step in the model, once the next state is laid -/
theorem m_dr2 {σ τ : xM} {N M : xN} {s : Nat} (hw : s_wf N) (hwM : s_wf M) (hM5 : M 5 = N 5) (hM0 : M 0 0 = N 0 0) (hs : s < N 0 1) (hMw : s_Mw σ N) (hd : d_nx N s = M) (e : ∀ c, c ≠ 142 → c ≠ 147 → c ≠ 148 → τ c = σ c) (hM : s_M (τ 142) M) (hb : ∀ k, k < 169 → τ 148 k = σ 142 k) (h : s_M (σ 142) N) : ∃ υ, (xbd (F_X11_over τ) fun r10 => if ((r10.1 &&& (nI (s_om N (s_up N) (N 8)) ^^^ (-1))) &&& (((1 : Int32) <<< (nI s &&& 31)) ^^^ (-1))) = 0 then some r10.2 else xbd (L_X11_drainsOne_59 0 r10.2) fun e16 => xlet (xup e16 142 6 ((e16 142 6) + 1)) fun σ17 => some σ17) = some υ ∧ s_M (υ 142) (if d_bad N s = 0 then d_nx N s else nU N 0 6 (N 0 6 + 1)) ∧ ∀ c, c ≠ 142 → c ≠ 147 → c ≠ 148 → υ c = σ c := by
  have hS := hw.1.2.1
  have hWM : m_W τ M := M_W hM (Mw_cg hM5 hM0 (e 146 (by omega) (by omega) (by omega)) hMw)
  obtain ⟨υ, g1, g2, g3⟩ := w_over hwM hWM (M_S hM)
  have p2 := p2_lt (show s < 5 by omega)
  have om0 := s_om_lt5 hS (s_up N) (N 8)
  have om1 := s_om_lt5 hwM.1.2.1 (s_up M) (M 8)
  have d1 := dif_lt (g := s_om N (s_up N) (N 8)) om1
  have d2 := dif_lt (g := 2 ^ s) d1
  have hbad : d_bad N s = dif (dif (s_om M (s_up M) (M 8)) (s_om N (s_up N) (N 8))) (2 ^ s) := by
    unfold d_bad
    rw [hd]
  rw [xbd_s g1, hbad]
  by_cases hz : dif (dif (s_om M (s_up M) (M 8)) (s_om N (s_up N) (N 8))) (2 ^ s) = 0
  · rw [if_pos hz, hd]
    simp (disch := omega) only [Nat.add_zero, Nat.zero_add, Nat.zero_mul, Nat.mul_zero, mc8, mc3, nU_f, nU_k, nU_e, xbd_some, xgd_true, xlet_eq, g_in, nI_clamp, nI_leI, nI_ltI, nI_eq, nI_add, pk_mul, pk_sub, rd_e, rd_k, rd_c, i10, i01, xsm_l, xsm_r, if_pos, if_neg, l_neg1, oI_e0, nI_e0, oI_nI, ne_eq, not_true_eq_false, not_false_eq_true, and_true, true_and, and_false, false_and, or_true, true_or, or_false, false_or, if_true, if_false, lit_0, lit_1, lit_2, lit_3, lit_4, lit_5, lit_6, lit_8, lit_9, lit_10, lit_12, lit_13, lit_21, lit_29, lit_30, lit_31, lit_37, lit_101, lit_120, lit_121, lit_127, lit_169, lit_64, lit_99, lit_999, lit_676, lit_845, lit_48, lit_57, lit_32, lit_59, shl1, andn]
    exact ⟨υ, rfl, by rw [g2 142 (by omega)]; exact hM, fun c a b d => (g2 c b).trans (e c a b d)⟩
  · rw [if_neg hz]
    obtain ⟨ω, k1, k2, k3⟩ := cp_dr59 υ
    rw [show (0 : Int32) = nI 0 from rfl] at k1
    have hN : s_M (ω 142) N := M_169 hw.1 (fun k hk => by
      rw [k3, if_pos hk, g2 148 (by omega), hb k hk]) h
    have r6 := hN.1 6 (by omega)
    simp (disch := omega) only [Nat.add_zero, Nat.zero_add, Nat.zero_mul, Nat.mul_zero, mc8, mc3, nU_f, nU_k, nU_e, xbd_some, xgd_true, xlet_eq, g_in, nI_clamp, nI_leI, nI_ltI, nI_eq, nI_add, pk_mul, pk_sub, rd_e, rd_k, rd_c, i10, i01, xsm_l, xsm_r, if_pos, if_neg, l_neg1, oI_e0, nI_e0, oI_nI, ne_eq, not_true_eq_false, not_false_eq_true, and_true, true_and, and_false, false_and, or_true, true_or, or_false, false_or, if_true, if_false, lit_0, lit_1, lit_2, lit_3, lit_4, lit_5, lit_6, lit_8, lit_9, lit_10, lit_12, lit_13, lit_21, lit_29, lit_30, lit_31, lit_37, lit_101, lit_120, lit_121, lit_127, lit_169, lit_64, lit_99, lit_999, lit_676, lit_845, lit_48, lit_57, lit_32, lit_59, shl1, andn, k1, r6]
    refine ⟨_, rfl, m_s6 hw.1 hN, fun c a b d => ?_⟩
    simp (disch := omega) only [Nat.add_zero, Nat.zero_add, Nat.zero_mul, Nat.mul_zero, mc8, mc3, nU_f, nU_k, nU_e, xbd_some, xgd_true, xlet_eq, g_in, nI_clamp, nI_leI, nI_ltI, nI_eq, nI_add, pk_mul, pk_sub, rd_e, rd_k, rd_c, i10, i01, xsm_l, xsm_r, if_pos, if_neg, l_neg1, oI_e0, nI_e0, oI_nI, ne_eq, not_true_eq_false, not_false_eq_true, and_true, true_and, and_false, false_and, or_true, true_or, or_false, false_or, if_true, if_false, lit_0, lit_1, lit_2, lit_3, lit_4, lit_5, lit_6, lit_8, lit_9, lit_10, lit_12, lit_13, lit_21, lit_29, lit_30, lit_31, lit_37, lit_101, lit_120, lit_121, lit_127, lit_169, lit_64, lit_99, lit_999, lit_676, lit_845, lit_48, lit_57, lit_32, lit_59]
    rw [k2 c a, g2 c b, e c a b d]
theorem m_drain {σ : xM} {N : xN} (hw : s_wf N) (h : s_M (σ 142) N) (hMw : s_Mw σ N) (hq : N 0 7 ≠ 0) : ∃ υ, F_X11_drainsOne σ = some υ ∧ s_M (υ 142) (a_dr N) ∧ ∀ c, c ≠ 142 → c ≠ 147 → c ≠ 148 → υ c = σ c := by
  have hA := hw.1.1
  have hS := hw.1.2.1
  have r8 : σ 142 8 = nI (N 1 0) := h.2.1 0 (by omega)
  obtain ⟨hs, h91⟩ := hw.2.2.2.2.2.2.1 0 (by omega)
  unfold a_dr
  rw [if_neg hq]
  generalize N 1 0 = s at *
  have b8 := (hw.2.2.2.2.1 s hs).2.2.1
  obtain ⟨τ1, g1, g2, g3⟩ := w_over hw (M_W h hMw) (M_S h)
  obtain ⟨τ2, k1, k2, k3⟩ := cp_dr10 τ1 (nI s) (nI (s_om N (s_up N) (N 8)))
  have e2 : ∀ c, c ≠ 147 → c ≠ 148 → τ2 c = σ c := fun c a b => (k2 c b).trans (g2 c a)
  have hM2 : s_M (τ2 142) N := M_cg (e2 142 (by omega) (by omega)) h
  have hC2 : m_Ct τ2 N := fun a ha => by rw [k2 147 (by omega)]; exact g3 a ha
  have ca := w_caught hw (hM2.1 0 (by omega)) hC2 hs
  have hb2 : ∀ k, k < 169 → τ2 148 k = σ 142 k := fun k hk => by rw [k3, if_pos hk, g2 142 (by omega)]
  have cl := v_cau_lt (s := s) hA
  have hW2 : m_W τ2 N := M_W hM2 (Mw_cg rfl rfl (e2 146 (by omega) (by omega)) hMw)
  have stp := w_step hw hW2 hs
  unfold F_X11_drainsOne
  rw [xbd_s g1, r8]
  dsimp only
  rw [xbd_s k1, xbd_s ca]
  have goes : d_goes N s → ∃ υ, (xbd (F_X11_goesOff (nI s) τ2) fun r9 => xbd (F_X11_over r9) fun r10 => if ((r10.1 &&& (nI (s_om N (s_up N) (N 8)) ^^^ (-1))) &&& (((1 : Int32) <<< (nI s &&& 31)) ^^^ (-1))) = 0 then some r10.2 else xbd (L_X11_drainsOne_59 0 r10.2) fun e16 => xlet (xup e16 142 6 ((e16 142 6) + 1)) fun σ17 => some σ17) = some υ ∧ s_M (υ 142) (if d_bad N s = 0 then d_nx N s else nU N 0 6 (N 0 6 + 1)) ∧ ∀ c, c ≠ 142 → c ≠ 147 → c ≠ 148 → υ c = σ c := by
    intro hg
    obtain ⟨τ3, m1, m2, m3⟩ := m_goesOff hw hM2 hs
    rw [xbd_s m1]
    exact m_dr2 hw (wf_off hw hs) (off_f (by omega) (by omega) (by omega) (by omega)) (off_0 (by omega)) hs hMw (by unfold d_nx; rw [if_pos hg]) (fun c a b d => (m3 c a).trans (e2 c b d)) m2 (fun k hk => by rw [m3 148 (by omega)]; exact hb2 k hk) h
  by_cases h0 : v_cau N (s_up N) (N 8) s = 0
  · rw [if_pos (by rw [h0]; rfl)]
    exact goes (Or.inl h0)
  · rw [if_neg (nI_ne0 (by omega) (by omega)), xbd_s stp]
    by_cases h4 : N 8 s = 4
    · rw [if_pos (by rw [h4]; rfl)]
      exact goes (Or.inr h4)
    · rw [if_neg (show ¬ nI (N 8 s) = 4 from fun e => h4 ((nI_eq (b := 4) (by omega) (by omega)).mp e)), xbd_s stp]
      have hp : F_X11_putsStep (nI s) (nI (N 8 s) + 1) τ2 = some (xup τ2 142 (101 + 4 * s + 2) (nI (N 8 s + 1))) := by
        unfold F_X11_putsStep
        simp (disch := omega) only [Nat.add_zero, Nat.zero_add, Nat.zero_mul, Nat.mul_zero, mc8, mc3, nU_f, nU_k, nU_e, xbd_some, xgd_true, xlet_eq, g_in, nI_clamp, nI_leI, nI_ltI, nI_eq, nI_add, pk_mul, pk_sub, rd_e, rd_k, rd_c, i10, i01, xsm_l, xsm_r, if_pos, if_neg, l_neg1, oI_e0, nI_e0, oI_nI, ne_eq, not_true_eq_false, not_false_eq_true, and_true, true_and, and_false, false_and, or_true, true_or, or_false, false_or, if_true, if_false, lit_0, lit_1, lit_2, lit_3, lit_4, lit_5, lit_6, lit_8, lit_9, lit_10, lit_12, lit_13, lit_21, lit_29, lit_30, lit_31, lit_37, lit_101, lit_120, lit_121, lit_127, lit_169, lit_64, lit_99, lit_999, lit_676, lit_845, lit_48, lit_57, lit_32, lit_59]
      rw [xbd_s hp]
      exact m_dr2 (M := nU N 8 s (N 8 s + 1)) hw (wf_f8 hw (by omega)) (by simp (disch := omega) only [Nat.add_zero, Nat.zero_add, Nat.zero_mul, Nat.mul_zero, mc8, mc3, nU_f, nU_k, nU_e, xbd_some, xgd_true, xlet_eq, g_in, nI_clamp, nI_leI, nI_ltI, nI_eq, nI_add, pk_mul, pk_sub, rd_e, rd_k, rd_c, i10, i01, xsm_l, xsm_r, if_pos, if_neg, l_neg1, oI_e0, nI_e0, oI_nI, ne_eq, not_true_eq_false, not_false_eq_true, and_true, true_and, and_false, false_and, or_true, true_or, or_false, false_or, if_true, if_false, lit_0, lit_1, lit_2, lit_3, lit_4, lit_5, lit_6, lit_8, lit_9, lit_10, lit_12, lit_13, lit_21, lit_29, lit_30, lit_31, lit_37, lit_101, lit_120, lit_121, lit_127, lit_169, lit_64, lit_99, lit_999, lit_676, lit_845, lit_48, lit_57, lit_32, lit_59]) (by simp (disch := omega) only [Nat.add_zero, Nat.zero_add, Nat.zero_mul, Nat.mul_zero, mc8, mc3, nU_f, nU_k, nU_e, xbd_some, xgd_true, xlet_eq, g_in, nI_clamp, nI_leI, nI_ltI, nI_eq, nI_add, pk_mul, pk_sub, rd_e, rd_k, rd_c, i10, i01, xsm_l, xsm_r, if_pos, if_neg, l_neg1, oI_e0, nI_e0, oI_nI, ne_eq, not_true_eq_false, not_false_eq_true, and_true, true_and, and_false, false_and, or_true, true_or, or_false, false_or, if_true, if_false, lit_0, lit_1, lit_2, lit_3, lit_4, lit_5, lit_6, lit_8, lit_9, lit_10, lit_12, lit_13, lit_21, lit_29, lit_30, lit_31, lit_37, lit_101, lit_120, lit_121, lit_127, lit_169, lit_64, lit_99, lit_999, lit_676, lit_845, lit_48, lit_57, lit_32, lit_59]) hs hMw (by unfold d_nx; rw [if_neg (by intro z; rcases z with z | z; exact h0 z; exact h4 z)]) (fun c a b d => by simp (disch := omega) only [Nat.add_zero, Nat.zero_add, Nat.zero_mul, Nat.mul_zero, mc8, mc3, nU_f, nU_k, nU_e, xbd_some, xgd_true, xlet_eq, g_in, nI_clamp, nI_leI, nI_ltI, nI_eq, nI_add, pk_mul, pk_sub, rd_e, rd_k, rd_c, i10, i01, xsm_l, xsm_r, if_pos, if_neg, l_neg1, oI_e0, nI_e0, oI_nI, ne_eq, not_true_eq_false, not_false_eq_true, and_true, true_and, and_false, false_and, or_true, true_or, or_false, false_or, if_true, if_false, lit_0, lit_1, lit_2, lit_3, lit_4, lit_5, lit_6, lit_8, lit_9, lit_10, lit_12, lit_13, lit_21, lit_29, lit_30, lit_31, lit_37, lit_101, lit_120, lit_121, lit_127, lit_169, lit_64, lit_99, lit_999, lit_676, lit_845, lit_48, lit_57, lit_32, lit_59]; exact e2 c b d) (m_f8 hw.1 hM2 (by omega)) (fun k hk => by simp (disch := omega) only [Nat.add_zero, Nat.zero_add, Nat.zero_mul, Nat.mul_zero, mc8, mc3, nU_f, nU_k, nU_e, xbd_some, xgd_true, xlet_eq, g_in, nI_clamp, nI_leI, nI_ltI, nI_eq, nI_add, pk_mul, pk_sub, rd_e, rd_k, rd_c, i10, i01, xsm_l, xsm_r, if_pos, if_neg, l_neg1, oI_e0, nI_e0, oI_nI, ne_eq, not_true_eq_false, not_false_eq_true, and_true, true_and, and_false, false_and, or_true, true_or, or_false, false_or, if_true, if_false, lit_0, lit_1, lit_2, lit_3, lit_4, lit_5, lit_6, lit_8, lit_9, lit_10, lit_12, lit_13, lit_21, lit_29, lit_30, lit_31, lit_37, lit_101, lit_120, lit_121, lit_127, lit_169, lit_64, lit_99, lit_999, lit_676, lit_845, lit_48, lit_57, lit_32, lit_59]; exact hb2 k hk) h
theorem m_last {σ : xM} {N : xN} (hw : s_wf N) (h : s_M (σ 142) N) (hc : m_Ct σ N) : ∃ τ, L_X11_ticksOne_15 0 σ = some τ ∧ s_M (τ 142) (a_lst N) ∧ ∀ c, c ≠ 142 → τ c = σ c := by
  have hA := hw.1.1
  unfold L_X11_ticksOne_15 a_lst
  refine xloop_for (f := fun x : Int32 × xM => B_X11_ticksOne_15 x.1 x.2) (fun k x => x.1 = nI k ∧ s_M (x.2 142) (l_k N k) ∧ ∀ c, c ≠ 142 → x.2 c = σ c) (fun τ => s_M (τ 142) (l_k N (N 0 0)) ∧ ∀ c, c ≠ 142 → τ c = σ c) (N 0 0) ?_ ?_ 6000 0 (0, σ) (by omega) (by omega) ⟨rfl, by rw [lk_0]; exact h, fun _ _ => rfl⟩
  · intro k ⟨v, τ⟩ hk ⟨h1, h2, h3⟩
    dsimp only at h1 h2 h3 ⊢
    subst h1
    left
    have t0 : τ 142 0 = nI (N 0 0) := by
      have := h2.1 0 (by omega)
      rw [this, lk_f (by omega)]
    have t7 : τ 147 k = oI (s_ct N (s_up N) (N 8) k) := by rw [h3 147 (by omega)]; exact hc k hk
    have hb := m_f4 (by unfold s_bd; rw [lk_f (by omega)]; exact hw.1) h2 (k := k) (v := s_ct N (s_up N) (N 8) k) (by omega)
    rw [lk_s] at hb
    unfold B_X11_ticksOne_15
    simp (disch := omega) only [Nat.add_zero, Nat.zero_add, Nat.zero_mul, Nat.mul_zero, mc8, mc3, nU_f, nU_k, nU_e, xbd_some, xgd_true, xlet_eq, g_in, nI_clamp, nI_leI, nI_ltI, nI_eq, nI_add, pk_mul, pk_sub, rd_e, rd_k, rd_c, i10, i01, xsm_l, xsm_r, if_pos, if_neg, l_neg1, oI_e0, nI_e0, oI_nI, ne_eq, not_true_eq_false, not_false_eq_true, and_true, true_and, and_false, false_and, or_true, true_or, or_false, false_or, if_true, if_false, lit_0, lit_1, lit_2, lit_3, lit_4, lit_5, lit_6, lit_8, lit_9, lit_10, lit_12, lit_13, lit_21, lit_29, lit_30, lit_31, lit_37, lit_101, lit_120, lit_121, lit_127, lit_169, lit_64, lit_99, lit_999, lit_676, lit_845, lit_48, lit_57, lit_32, lit_59, t0, t7]
    exact ⟨_, rfl, rfl, hb, fun c hc => by simp (disch := omega) only [Nat.add_zero, Nat.zero_add, Nat.zero_mul, Nat.mul_zero, mc8, mc3, nU_f, nU_k, nU_e, xbd_some, xgd_true, xlet_eq, g_in, nI_clamp, nI_leI, nI_ltI, nI_eq, nI_add, pk_mul, pk_sub, rd_e, rd_k, rd_c, i10, i01, xsm_l, xsm_r, if_pos, if_neg, l_neg1, oI_e0, nI_e0, oI_nI, ne_eq, not_true_eq_false, not_false_eq_true, and_true, true_and, and_false, false_and, or_true, true_or, or_false, false_or, if_true, if_false, lit_0, lit_1, lit_2, lit_3, lit_4, lit_5, lit_6, lit_8, lit_9, lit_10, lit_12, lit_13, lit_21, lit_29, lit_30, lit_31, lit_37, lit_101, lit_120, lit_121, lit_127, lit_169, lit_64, lit_99, lit_999, lit_676, lit_845, lit_48, lit_57, lit_32, lit_59]; exact h3 c hc⟩
  · intro ⟨v, τ⟩ ⟨h1, h2, h3⟩
    dsimp only at h1 h2 h3 ⊢
    subst h1
    have t0 : τ 142 0 = nI (N 0 0) := by
      have := h2.1 0 (by omega)
      rw [this, lk_f (by omega)]
    unfold B_X11_ticksOne_15
    simp (disch := omega) only [Nat.add_zero, Nat.zero_add, Nat.zero_mul, Nat.mul_zero, mc8, mc3, nU_f, nU_k, nU_e, xbd_some, xgd_true, xlet_eq, g_in, nI_clamp, nI_leI, nI_ltI, nI_eq, nI_add, pk_mul, pk_sub, rd_e, rd_k, rd_c, i10, i01, xsm_l, xsm_r, if_pos, if_neg, l_neg1, oI_e0, nI_e0, oI_nI, ne_eq, not_true_eq_false, not_false_eq_true, and_true, true_and, and_false, false_and, or_true, true_or, or_false, false_or, if_true, if_false, lit_0, lit_1, lit_2, lit_3, lit_4, lit_5, lit_6, lit_8, lit_9, lit_10, lit_12, lit_13, lit_21, lit_29, lit_30, lit_31, lit_37, lit_101, lit_120, lit_121, lit_127, lit_169, lit_64, lit_99, lit_999, lit_676, lit_845, lit_48, lit_57, lit_32, lit_59, t0]
    exact ⟨_, rfl, h2, h3⟩
theorem dr_f5 {N : xN} : a_dr N 5 = N 5 := by
  unfold a_dr
  split
  · rfl
  · split
    · unfold d_nx
      split
      · exact off_f (by omega) (by omega) (by omega) (by omega)
      · simp (disch := omega) only [Nat.add_zero, Nat.zero_add, Nat.zero_mul, Nat.mul_zero, mc8, mc3, nU_f, nU_k, nU_e, xbd_some, xgd_true, xlet_eq, g_in, nI_clamp, nI_leI, nI_ltI, nI_eq, nI_add, pk_mul, pk_sub, rd_e, rd_k, rd_c, i10, i01, xsm_l, xsm_r, if_pos, if_neg, l_neg1, oI_e0, nI_e0, oI_nI, ne_eq, not_true_eq_false, not_false_eq_true, and_true, true_and, and_false, false_and, or_true, true_or, or_false, false_or, if_true, if_false, lit_0, lit_1, lit_2, lit_3, lit_4, lit_5, lit_6, lit_8, lit_9, lit_10, lit_12, lit_13, lit_21, lit_29, lit_30, lit_31, lit_37, lit_101, lit_120, lit_121, lit_127, lit_169, lit_64, lit_99, lit_999, lit_676, lit_845, lit_48, lit_57, lit_32, lit_59]
    · simp (disch := omega) only [Nat.add_zero, Nat.zero_add, Nat.zero_mul, Nat.mul_zero, mc8, mc3, nU_f, nU_k, nU_e, xbd_some, xgd_true, xlet_eq, g_in, nI_clamp, nI_leI, nI_ltI, nI_eq, nI_add, pk_mul, pk_sub, rd_e, rd_k, rd_c, i10, i01, xsm_l, xsm_r, if_pos, if_neg, l_neg1, oI_e0, nI_e0, oI_nI, ne_eq, not_true_eq_false, not_false_eq_true, and_true, true_and, and_false, false_and, or_true, true_or, or_false, false_or, if_true, if_false, lit_0, lit_1, lit_2, lit_3, lit_4, lit_5, lit_6, lit_8, lit_9, lit_10, lit_12, lit_13, lit_21, lit_29, lit_30, lit_31, lit_37, lit_101, lit_120, lit_121, lit_127, lit_169, lit_64, lit_99, lit_999, lit_676, lit_845, lit_48, lit_57, lit_32, lit_59]
theorem age_5 {N : xN} : a_age N 5 = N 5 := by
  unfold a_age
  simp (disch := omega) only [Nat.add_zero, Nat.zero_add, Nat.zero_mul, Nat.mul_zero, mc8, mc3, nU_f, nU_k, nU_e, xbd_some, xgd_true, xlet_eq, g_in, nI_clamp, nI_leI, nI_ltI, nI_eq, nI_add, pk_mul, pk_sub, rd_e, rd_k, rd_c, i10, i01, xsm_l, xsm_r, if_pos, if_neg, l_neg1, oI_e0, nI_e0, oI_nI, ne_eq, not_true_eq_false, not_false_eq_true, and_true, true_and, and_false, false_and, or_true, true_or, or_false, false_or, if_true, if_false, lit_0, lit_1, lit_2, lit_3, lit_4, lit_5, lit_6, lit_8, lit_9, lit_10, lit_12, lit_13, lit_21, lit_29, lit_30, lit_31, lit_37, lit_101, lit_120, lit_121, lit_127, lit_169, lit_64, lit_99, lit_999, lit_676, lit_845, lit_48, lit_57, lit_32, lit_59, g_N_f]
theorem m_tick {σ : xM} {N : xN} (hw : s_wf N) (h : s_M (σ 142) N) : ∃ υ, F_X11_ticksOne σ = some υ ∧ s_M (υ 142) (a_tick N) ∧ m_fr σ υ := by
  obtain ⟨τ1, a1, a2, a3, a4⟩ := m_lays hw h
  obtain ⟨τ2, b1, b2, b3⟩ := m_age hw a4 a3.2.2.2
  have hw2 := wf_age hw
  have hMw2 : s_Mw τ2 (a_age N) := Mw_cg age_5 (age_0 (by omega) (by omega) (by omega)) (b3 146 (by omega)) a3.2.2.2
  have r7 := b2.1 7 (by omega)
  have hQ2 := hw2.1.2.2.2
  have tail : ∀ τ3 : xM, s_M (τ3 142) (a_dr (a_age N)) → (∀ c, c ≠ 142 → c ≠ 147 → c ≠ 148 → τ3 c = τ2 c) → ∃ υ, (xbd (F_X11_laysCatches τ3) fun r4 => xbd (L_X11_ticksOne_15 0 r4) fun e9 => xlet (xup e9 142 3 ((e9 142 3) + 1)) fun σ10 => some σ10) = some υ ∧ s_M (υ 142) (a_tick N) ∧ m_fr σ υ := by
    intro τ3 c1 c2
    have hw3 := wf_dr hw2
    have hMw3 : s_Mw τ3 (a_dr (a_age N)) := Mw_cg dr_f5 (dr_0 (by omega) (by omega)) (c2 146 (by omega) (by omega) (by omega)) hMw2
    obtain ⟨τ4, d1, d2, d3⟩ := w_catches hw3 (M_W c1 hMw3)
    obtain ⟨τ5, e1, e2, e3⟩ := m_last hw3 (M_cg (d2 142 (by omega)) c1) d3
    have r3 : τ5 142 3 = nI (N 0 3) := by
      have := e2.1 3 (by omega)
      rw [this]
      simp (disch := omega) only [Nat.add_zero, Nat.zero_add, Nat.zero_mul, Nat.mul_zero, mc8, mc3, nU_f, nU_k, nU_e, xbd_some, xgd_true, xlet_eq, g_in, nI_clamp, nI_leI, nI_ltI, nI_eq, nI_add, pk_mul, pk_sub, rd_e, rd_k, rd_c, i10, i01, xsm_l, xsm_r, if_pos, if_neg, l_neg1, oI_e0, nI_e0, oI_nI, ne_eq, not_true_eq_false, not_false_eq_true, and_true, true_and, and_false, false_and, or_true, true_or, or_false, false_or, if_true, if_false, lit_0, lit_1, lit_2, lit_3, lit_4, lit_5, lit_6, lit_8, lit_9, lit_10, lit_12, lit_13, lit_21, lit_29, lit_30, lit_31, lit_37, lit_101, lit_120, lit_121, lit_127, lit_169, lit_64, lit_99, lit_999, lit_676, lit_845, lit_48, lit_57, lit_32, lit_59, lst_0, dr_0, age_0]
    refine ⟨xup τ5 142 3 (nI (N 0 3 + 1)), ?_, ?_, ?_⟩
    · rw [xbd_s d1, xbd_s e1]
      simp (disch := omega) only [Nat.add_zero, Nat.zero_add, Nat.zero_mul, Nat.mul_zero, mc8, mc3, nU_f, nU_k, nU_e, xbd_some, xgd_true, xlet_eq, g_in, nI_clamp, nI_leI, nI_ltI, nI_eq, nI_add, pk_mul, pk_sub, rd_e, rd_k, rd_c, i10, i01, xsm_l, xsm_r, if_pos, if_neg, l_neg1, oI_e0, nI_e0, oI_nI, ne_eq, not_true_eq_false, not_false_eq_true, and_true, true_and, and_false, false_and, or_true, true_or, or_false, false_or, if_true, if_false, lit_0, lit_1, lit_2, lit_3, lit_4, lit_5, lit_6, lit_8, lit_9, lit_10, lit_12, lit_13, lit_21, lit_29, lit_30, lit_31, lit_37, lit_101, lit_120, lit_121, lit_127, lit_169, lit_64, lit_99, lit_999, lit_676, lit_845, lit_48, lit_57, lit_32, lit_59, r3]
    · exact m_s3 (wf_lst hw3).1 e2
    · refine mf_up (fun c hc => ?_) (by omega) _ _
      rw [e3 c (by omega), d2 c (by omega), c2 c (by omega) (by omega) (by omega), b3 c (by omega), a2 c (by omega)]
  unfold F_X11_ticksOne
  rw [xbd_s a1, xbd_s b1, r7]
  by_cases hq : a_age N 0 7 = 0
  · rw [if_pos (show nI (a_age N 0 7) ≤ 0 by rw [hq]; decide)]
    exact tail τ2 (by unfold a_dr; rw [if_pos hq]; exact b2) (fun _ _ _ _ => rfl)
  · rw [if_neg (nI_nle (by omega) (by omega))]
    obtain ⟨τ3, c1, c2, c3⟩ := m_drain hw2 b2 hMw2 hq
    rw [xbd_s c1]
    exact tail τ3 c2 c3
theorem m_tickNow (n : Int32) {σ : xM} {N : xN} (hw : s_wf N) (h : s_M (σ 142) N) (ok : 0 ≤ (sp_ticks n N).1) : ∃ σ', F_X11_tickNow n σ = some ((sp_ticks n N).1, σ') ∧ s_M (σ' 142) (sp_ticks n N).2 ∧ m_fr σ σ' := by
  unfold sp_ticks at ok ⊢
  by_cases h1 : 1 ≤ n ∧ n ≤ 30
  case neg => rw [if_neg h1] at ok; exact absurd ok no2
  rw [if_pos h1]
  obtain ⟨m, hm1, hm, rfl⟩ := (rg1_of (n := 30) rfl (by omega)).mp h1
  have hL : ∃ σ', L_X11_tickNow_7 (nI m) (σ 142 4) 0 σ = some σ' ∧ s_M (σ' 142) (a_ticks N m) ∧ m_fr σ σ' := by
    unfold L_X11_tickNow_7
    refine xloop_for (f := fun x : Int32 × xM => B_X11_tickNow_7 (nI m) (σ 142 4) x.1 x.2) (fun k x => x.1 = nI k ∧ s_M (x.2 142) (a_ticks N k) ∧ m_fr σ x.2) (fun τ => s_M (τ 142) (a_ticks N m) ∧ m_fr σ τ) m ?_ ?_ 6000 0 (0, σ) (by omega) (by omega) ⟨rfl, h, mf_rf σ⟩
    · intro k ⟨v, τ⟩ hk ⟨h1, h2, h3⟩
      dsimp only at h1 h2 h3 ⊢
      subst h1
      left
      obtain ⟨υ, a1, a2, a3⟩ := m_tick (wf_ticks hw k) h2
      unfold B_X11_tickNow_7
      simp (disch := omega) only [Nat.add_zero, Nat.zero_add, Nat.zero_mul, Nat.mul_zero, mc8, mc3, nU_f, nU_k, nU_e, xbd_some, xgd_true, xlet_eq, g_in, nI_clamp, nI_leI, nI_ltI, nI_eq, nI_add, pk_mul, pk_sub, rd_e, rd_k, rd_c, i10, i01, xsm_l, xsm_r, if_pos, if_neg, l_neg1, oI_e0, nI_e0, oI_nI, ne_eq, not_true_eq_false, not_false_eq_true, and_true, true_and, and_false, false_and, or_true, true_or, or_false, false_or, if_true, if_false, lit_0, lit_1, lit_2, lit_3, lit_4, lit_5, lit_6, lit_8, lit_9, lit_10, lit_12, lit_13, lit_21, lit_29, lit_30, lit_31, lit_37, lit_101, lit_120, lit_121, lit_127, lit_169, lit_64, lit_99, lit_999, lit_676, lit_845, lit_48, lit_57, lit_32, lit_59, a1]
      exact ⟨_, rfl, rfl, a2, mf_tr h3 a3⟩
    · intro ⟨v, τ⟩ ⟨h1, h2, h3⟩
      dsimp only at h1 h2 h3 ⊢
      subst h1
      unfold B_X11_tickNow_7
      simp (disch := omega) only [Nat.add_zero, Nat.zero_add, Nat.zero_mul, Nat.mul_zero, mc8, mc3, nU_f, nU_k, nU_e, xbd_some, xgd_true, xlet_eq, g_in, nI_clamp, nI_leI, nI_ltI, nI_eq, nI_add, pk_mul, pk_sub, rd_e, rd_k, rd_c, i10, i01, xsm_l, xsm_r, if_pos, if_neg, l_neg1, oI_e0, nI_e0, oI_nI, ne_eq, not_true_eq_false, not_false_eq_true, and_true, true_and, and_false, false_and, or_true, true_or, or_false, false_or, if_true, if_false, lit_0, lit_1, lit_2, lit_3, lit_4, lit_5, lit_6, lit_8, lit_9, lit_10, lit_12, lit_13, lit_21, lit_29, lit_30, lit_31, lit_37, lit_101, lit_120, lit_121, lit_127, lit_169, lit_64, lit_99, lit_999, lit_676, lit_845, lit_48, lit_57, lit_32, lit_59]
      exact ⟨_, rfl, h2, h3⟩
  obtain ⟨τ, g1, g2, g3⟩ := hL
  have e1 := g2.1 4 (by omega)
  have e2 := h.1 4 (by omega)
  have he := ticks_e (N := N) m
  refine ⟨τ, ?_, ?_, g3⟩
  · unfold F_X11_tickNow
    rw [xbd_s g1]
    simp (disch := omega) only [Nat.add_zero, Nat.zero_add, Nat.zero_mul, Nat.mul_zero, mc8, mc3, nU_f, nU_k, nU_e, xbd_some, xgd_true, xlet_eq, g_in, nI_clamp, nI_leI, nI_ltI, nI_eq, nI_add, pk_mul, pk_sub, rd_e, rd_k, rd_c, i10, i01, xsm_l, xsm_r, if_pos, if_neg, l_neg1, oI_e0, nI_e0, oI_nI, ne_eq, not_true_eq_false, not_false_eq_true, and_true, true_and, and_false, false_and, or_true, true_or, or_false, false_or, if_true, if_false, lit_0, lit_1, lit_2, lit_3, lit_4, lit_5, lit_6, lit_8, lit_9, lit_10, lit_12, lit_13, lit_21, lit_29, lit_30, lit_31, lit_37, lit_101, lit_120, lit_121, lit_127, lit_169, lit_64, lit_99, lit_999, lit_676, lit_845, lit_48, lit_57, lit_32, lit_59, e1, e2]
  · simp (disch := omega) only [Nat.add_zero, Nat.zero_add, Nat.zero_mul, Nat.mul_zero, mc8, mc3, nU_f, nU_k, nU_e, xbd_some, xgd_true, xlet_eq, g_in, nI_clamp, nI_leI, nI_ltI, nI_eq, nI_add, pk_mul, pk_sub, rd_e, rd_k, rd_c, i10, i01, xsm_l, xsm_r, if_pos, if_neg, l_neg1, oI_e0, nI_e0, oI_nI, ne_eq, not_true_eq_false, not_false_eq_true, and_true, true_and, and_false, false_and, or_true, true_or, or_false, false_or, if_true, if_false, lit_0, lit_1, lit_2, lit_3, lit_4, lit_5, lit_6, lit_8, lit_9, lit_10, lit_12, lit_13, lit_21, lit_29, lit_30, lit_31, lit_37, lit_101, lit_120, lit_121, lit_127, lit_169, lit_64, lit_99, lit_999, lit_676, lit_845, lit_48, lit_57, lit_32, lit_59]
    exact g2
