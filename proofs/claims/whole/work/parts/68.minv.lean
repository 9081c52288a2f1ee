def J_h (σ : xM) (k : Nat) (H : Nat → xN) : Prop := k ≤ 5 ∧ σ 141 3 = nI k ∧ ∀ j, j < k → s_M (fun i => σ 143 (169 * (k - 1 - j) + i)) (H j)
def J_b (σ : xM) (b : Nat → Int32) : Prop := σ 145 0 = b 0 ∧ σ 145 1 = b 1 ∧ σ 145 2 = b 2
def J_t (σ : xM) (L : Nat) (T : Nat → Nat) : Prop := L ≤ 120 ∧ σ 141 13 = nI L ∧ ∀ i, i < L → σ 153 i = nI (T i)
def IM (σ : xM) (N : xN) (k : Nat) (H : Nat → xN) (L : Nat) (T : Nat → Nat) (b : Nat → Int32) : Prop := s_M (σ 142) N ∧ J_h σ k H ∧ J_b σ b ∧ J_t σ L T
theorem Jh_cg {σ τ : xM} {k : Nat} {H : Nat → xN} (h : J_h σ k H) (e : τ 141 3 = σ 141 3) (e2 : τ 143 = σ 143) : J_h τ k H := by
  unfold J_h at h ⊢
  rw [e, e2]
  exact h
theorem Jb_cg {σ τ : xM} {b : Nat → Int32} (h : J_b σ b) (e : τ 145 = σ 145) : J_b τ b := by
  unfold J_b at h ⊢
  rw [e]
  exact h
theorem Jt_cg {σ τ : xM} {L : Nat} {T : Nat → Nat} (h : J_t σ L T) (e : τ 141 13 = σ 141 13) (e2 : τ 153 = σ 153) : J_t τ L T := by
  unfold J_t at h ⊢
  rw [e, e2]
  exact h
theorem IM_fr {σ τ : xM} {N M : xN} {k : Nat} {H : Nat → xN} {L : Nat} {T : Nat → Nat} {b : Nat → Int32} (h : IM σ N k H L T b) (e : m_fr σ τ) (hM : s_M (τ 142) M) : IM τ M k H L T b := by
  obtain ⟨h1, h2, h3, h4⟩ := h
  exact ⟨hM, Jh_cg h2 (by rw [e 141 (by omega)]) (e 143 (by omega)), Jb_cg h3 (e 145 (by omega)), Jt_cg h4 (by rw [e 141 (by omega)]) (e 153 (by omega))⟩
theorem m_ref {σ : xM} {b : Nat → Int32} {r : Int32} (h : J_b σ b) (hr : r = -2 ∨ r = -3 ∨ r = -4) : ∃ τ, F_X11_refuses r σ = some (r, τ) ∧ J_b τ (bump b r) ∧ ∀ c, c ≠ 145 → τ c = σ c := by
  obtain ⟨h0, h1, h2⟩ := h
  rcases hr with rfl | rfl | rfl
  · refine ⟨xup σ 145 0 (σ 145 0 + 1), rfl, ?_, fun c hc => rd_c hc⟩
    obtain ⟨q0, q1, q2⟩ := bump_2 (b := b)
    refine ⟨?_, ?_, ?_⟩
    · rw [rd_e rfl, h0, q0]
    · rw [rd_k (by omega), h1, q1]
    · rw [rd_k (by omega), h2, q2]
  · refine ⟨xup σ 145 1 (σ 145 1 + 1), rfl, ?_, fun c hc => rd_c hc⟩
    obtain ⟨q0, q1, q2⟩ := bump_3 (b := b)
    refine ⟨?_, ?_, ?_⟩
    · rw [rd_k (by omega), h0, q0]
    · rw [rd_e rfl, h1, q1]
    · rw [rd_k (by omega), h2, q2]
  · refine ⟨xup σ 145 2 (σ 145 2 + 1), rfl, ?_, fun c hc => rd_c hc⟩
    obtain ⟨q0, q1, q2⟩ := bump_4 (b := b)
    refine ⟨?_, ?_, ?_⟩
    · rw [rd_k (by omega), h0, q0]
    · rw [rd_k (by omega), h1, q1]
    · rw [rd_e rfl, h2, q2]
theorem IM_ref {σ : xM} {N : xN} {k : Nat} {H : Nat → xN} {L : Nat} {T : Nat → Nat} {b : Nat → Int32} {r : Int32} (h : IM σ N k H L T b) (hr : r = -2 ∨ r = -3 ∨ r = -4) : ∃ τ, F_X11_refuses r σ = some (r, τ) ∧ IM τ N k H L T (bump b r) ∧ ∀ c, c < 141 → τ c = σ c := by
  obtain ⟨h1, h2, h3, h4⟩ := h
  obtain ⟨τ, g1, g2, g3⟩ := m_ref h3 hr
  exact ⟨τ, g1, ⟨by rw [g3 142 (by omega)]; exact h1, Jh_cg h2 (by rw [g3 141 (by omega)]) (g3 143 (by omega)), g2, Jt_cg h4 (by rw [g3 141 (by omega)]) (g3 153 (by omega))⟩, fun c hc => g3 c (by omega)⟩
theorem m_kp29 {σ : xM} {s : Nat} (hs : s ≤ 4) (h3 : σ 141 3 = nI s) : ∃ τ, L_X11_keep_29 (nI 0) σ = some τ ∧ (∀ c, c ≠ 143 → τ c = σ c) ∧ ∀ p, τ 143 p = if 169 * s ≤ p ∧ p < 169 * s + 169 then σ 142 (p - 169 * s) else σ 143 p := by
  unfold L_X11_keep_29
  refine xloop_for (f := fun x : Int32 × xM => B_X11_keep_29 x.1 x.2) (fun k x => x.1 = nI k ∧ (∀ c, c ≠ 143 → x.2 c = σ c) ∧ ∀ p, x.2 143 p = if 169 * s ≤ p ∧ p < 169 * s + k then σ 142 (p - 169 * s) else σ 143 p) (fun τ => (∀ c, c ≠ 143 → τ c = σ c) ∧ ∀ p, τ 143 p = if 169 * s ≤ p ∧ p < 169 * s + 169 then σ 142 (p - 169 * s) else σ 143 p) 169 ?_ ?_ 6000 0 (nI 0, σ) (by omega) (by omega) ⟨rfl, fun _ _ => rfl, fun p => by rw [if_neg (by omega)]⟩
  · intro k ⟨v, τ⟩ hk ⟨h1, h2, h4⟩
    dsimp only at h1 h2 h4 ⊢
    subst h1
    left
    have t3 : τ 141 3 = nI s := by rw [h2 141 (by omega), h3]
    have t4 : τ 142 = σ 142 := h2 142 (by omega)
    unfold B_X11_keep_29
    simp (disch := omega) only [Nat.add_zero, Nat.zero_add, Nat.zero_mul, Nat.mul_zero, mc8, mc3, nU_f, nU_k, nU_e, xbd_some, xgd_true, xlet_eq, g_in, nI_clamp, nI_leI, nI_ltI, nI_eq, nI_add, pk_mul, pk_sub, rd_e, rd_k, rd_c, i10, i01, xsm_l, xsm_r, if_pos, if_neg, l_neg1, oI_e0, nI_e0, oI_nI, ne_eq, not_true_eq_false, not_false_eq_true, and_true, true_and, and_false, false_and, or_true, true_or, or_false, false_or, if_true, if_false, lit_0, lit_1, lit_2, lit_3, lit_4, lit_5, lit_6, lit_8, lit_9, lit_10, lit_12, lit_13, lit_21, lit_29, lit_30, lit_31, lit_37, lit_101, lit_120, lit_121, lit_127, lit_169, lit_64, lit_99, lit_999, lit_676, lit_845, lit_48, lit_57, lit_32, lit_59, t3, t4]
    refine ⟨_, rfl, rfl, fun c hc => by simp (disch := omega) only [Nat.add_zero, Nat.zero_add, Nat.zero_mul, Nat.mul_zero, mc8, mc3, nU_f, nU_k, nU_e, xbd_some, xgd_true, xlet_eq, g_in, nI_clamp, nI_leI, nI_ltI, nI_eq, nI_add, pk_mul, pk_sub, rd_e, rd_k, rd_c, i10, i01, xsm_l, xsm_r, if_pos, if_neg, l_neg1, oI_e0, nI_e0, oI_nI, ne_eq, not_true_eq_false, not_false_eq_true, and_true, true_and, and_false, false_and, or_true, true_or, or_false, false_or, if_true, if_false, lit_0, lit_1, lit_2, lit_3, lit_4, lit_5, lit_6, lit_8, lit_9, lit_10, lit_12, lit_13, lit_21, lit_29, lit_30, lit_31, lit_37, lit_101, lit_120, lit_121, lit_127, lit_169, lit_64, lit_99, lit_999, lit_676, lit_845, lit_48, lit_57, lit_32, lit_59]; exact h2 c hc, fun p => ?_⟩
    by_cases e : p = 169 * s + k
    · subst e
      simp (disch := omega) only [Nat.add_zero, Nat.zero_add, Nat.zero_mul, Nat.mul_zero, mc8, mc3, nU_f, nU_k, nU_e, xbd_some, xgd_true, xlet_eq, g_in, nI_clamp, nI_leI, nI_ltI, nI_eq, nI_add, pk_mul, pk_sub, rd_e, rd_k, rd_c, i10, i01, xsm_l, xsm_r, if_pos, if_neg, l_neg1, oI_e0, nI_e0, oI_nI, ne_eq, not_true_eq_false, not_false_eq_true, and_true, true_and, and_false, false_and, or_true, true_or, or_false, false_or, if_true, if_false, lit_0, lit_1, lit_2, lit_3, lit_4, lit_5, lit_6, lit_8, lit_9, lit_10, lit_12, lit_13, lit_21, lit_29, lit_30, lit_31, lit_37, lit_101, lit_120, lit_121, lit_127, lit_169, lit_64, lit_99, lit_999, lit_676, lit_845, lit_48, lit_57, lit_32, lit_59]
      rw [show 169 * s + k - 169 * s = k by omega]
    · simp (disch := omega) only [Nat.add_zero, Nat.zero_add, Nat.zero_mul, Nat.mul_zero, mc8, mc3, nU_f, nU_k, nU_e, xbd_some, xgd_true, xlet_eq, g_in, nI_clamp, nI_leI, nI_ltI, nI_eq, nI_add, pk_mul, pk_sub, rd_e, rd_k, rd_c, i10, i01, xsm_l, xsm_r, if_pos, if_neg, l_neg1, oI_e0, nI_e0, oI_nI, ne_eq, not_true_eq_false, not_false_eq_true, and_true, true_and, and_false, false_and, or_true, true_or, or_false, false_or, if_true, if_false, lit_0, lit_1, lit_2, lit_3, lit_4, lit_5, lit_6, lit_8, lit_9, lit_10, lit_12, lit_13, lit_21, lit_29, lit_30, lit_31, lit_37, lit_101, lit_120, lit_121, lit_127, lit_169, lit_64, lit_99, lit_999, lit_676, lit_845, lit_48, lit_57, lit_32, lit_59]
      rw [h4]
      by_cases e2 : 169 * s ≤ p ∧ p < 169 * s + k
      · rw [if_pos e2, if_pos (by omega)]
      · rw [if_neg e2, if_neg (by omega)]
  · intro ⟨v, τ⟩ ⟨h1, h2, h4⟩
    dsimp only at h1 h2 h4 ⊢
    subst h1
    unfold B_X11_keep_29
    simp (disch := omega) only [Nat.add_zero, Nat.zero_add, Nat.zero_mul, Nat.mul_zero, mc8, mc3, nU_f, nU_k, nU_e, xbd_some, xgd_true, xlet_eq, g_in, nI_clamp, nI_leI, nI_ltI, nI_eq, nI_add, pk_mul, pk_sub, rd_e, rd_k, rd_c, i10, i01, xsm_l, xsm_r, if_pos, if_neg, l_neg1, oI_e0, nI_e0, oI_nI, ne_eq, not_true_eq_false, not_false_eq_true, and_true, true_and, and_false, false_and, or_true, true_or, or_false, false_or, if_true, if_false, lit_0, lit_1, lit_2, lit_3, lit_4, lit_5, lit_6, lit_8, lit_9, lit_10, lit_12, lit_13, lit_21, lit_29, lit_30, lit_31, lit_37, lit_101, lit_120, lit_121, lit_127, lit_169, lit_64, lit_99, lit_999, lit_676, lit_845, lit_48, lit_57, lit_32, lit_59]
    exact ⟨_, rfl, h2, h4⟩
theorem m_kp6 (σ : xM) : ∃ τ, L_X11_keep_6 (nI 0) σ = some τ ∧ (∀ c, c ≠ 143 → τ c = σ c) ∧ ∀ p, τ 143 p = if p < 676 then σ 143 (p + 169) else σ 143 p := by
  unfold L_X11_keep_6
  refine xloop_for (f := fun x : Int32 × xM => B_X11_keep_6 x.1 x.2) (fun k x => x.1 = nI k ∧ (∀ c, c ≠ 143 → x.2 c = σ c) ∧ ∀ p, x.2 143 p = if p < k then σ 143 (p + 169) else σ 143 p) (fun τ => (∀ c, c ≠ 143 → τ c = σ c) ∧ ∀ p, τ 143 p = if p < 676 then σ 143 (p + 169) else σ 143 p) 676 ?_ ?_ 6000 0 (nI 0, σ) (by omega) (by omega) ⟨rfl, fun _ _ => rfl, fun p => by rw [if_neg (by omega)]⟩
  · intro k ⟨v, τ⟩ hk ⟨h1, h2, h4⟩
    dsimp only at h1 h2 h4 ⊢
    subst h1
    left
    have t1 : τ 143 (k + 169) = σ 143 (k + 169) := by rw [h4, if_neg (by omega)]
    unfold B_X11_keep_6
    simp (disch := omega) only [Nat.add_zero, Nat.zero_add, Nat.zero_mul, Nat.mul_zero, mc8, mc3, nU_f, nU_k, nU_e, xbd_some, xgd_true, xlet_eq, g_in, nI_clamp, nI_leI, nI_ltI, nI_eq, nI_add, pk_mul, pk_sub, rd_e, rd_k, rd_c, i10, i01, xsm_l, xsm_r, if_pos, if_neg, l_neg1, oI_e0, nI_e0, oI_nI, ne_eq, not_true_eq_false, not_false_eq_true, and_true, true_and, and_false, false_and, or_true, true_or, or_false, false_or, if_true, if_false, lit_0, lit_1, lit_2, lit_3, lit_4, lit_5, lit_6, lit_8, lit_9, lit_10, lit_12, lit_13, lit_21, lit_29, lit_30, lit_31, lit_37, lit_101, lit_120, lit_121, lit_127, lit_169, lit_64, lit_99, lit_999, lit_676, lit_845, lit_48, lit_57, lit_32, lit_59, t1]
    refine ⟨_, rfl, rfl, fun c hc => by simp (disch := omega) only [Nat.add_zero, Nat.zero_add, Nat.zero_mul, Nat.mul_zero, mc8, mc3, nU_f, nU_k, nU_e, xbd_some, xgd_true, xlet_eq, g_in, nI_clamp, nI_leI, nI_ltI, nI_eq, nI_add, pk_mul, pk_sub, rd_e, rd_k, rd_c, i10, i01, xsm_l, xsm_r, if_pos, if_neg, l_neg1, oI_e0, nI_e0, oI_nI, ne_eq, not_true_eq_false, not_false_eq_true, and_true, true_and, and_false, false_and, or_true, true_or, or_false, false_or, if_true, if_false, lit_0, lit_1, lit_2, lit_3, lit_4, lit_5, lit_6, lit_8, lit_9, lit_10, lit_12, lit_13, lit_21, lit_29, lit_30, lit_31, lit_37, lit_101, lit_120, lit_121, lit_127, lit_169, lit_64, lit_99, lit_999, lit_676, lit_845, lit_48, lit_57, lit_32, lit_59]; exact h2 c hc, fun p => ?_⟩
    by_cases e : p = k
    · subst e
      simp (disch := omega) only [Nat.add_zero, Nat.zero_add, Nat.zero_mul, Nat.mul_zero, mc8, mc3, nU_f, nU_k, nU_e, xbd_some, xgd_true, xlet_eq, g_in, nI_clamp, nI_leI, nI_ltI, nI_eq, nI_add, pk_mul, pk_sub, rd_e, rd_k, rd_c, i10, i01, xsm_l, xsm_r, if_pos, if_neg, l_neg1, oI_e0, nI_e0, oI_nI, ne_eq, not_true_eq_false, not_false_eq_true, and_true, true_and, and_false, false_and, or_true, true_or, or_false, false_or, if_true, if_false, lit_0, lit_1, lit_2, lit_3, lit_4, lit_5, lit_6, lit_8, lit_9, lit_10, lit_12, lit_13, lit_21, lit_29, lit_30, lit_31, lit_37, lit_101, lit_120, lit_121, lit_127, lit_169, lit_64, lit_99, lit_999, lit_676, lit_845, lit_48, lit_57, lit_32, lit_59]
    · simp (disch := omega) only [Nat.add_zero, Nat.zero_add, Nat.zero_mul, Nat.mul_zero, mc8, mc3, nU_f, nU_k, nU_e, xbd_some, xgd_true, xlet_eq, g_in, nI_clamp, nI_leI, nI_ltI, nI_eq, nI_add, pk_mul, pk_sub, rd_e, rd_k, rd_c, i10, i01, xsm_l, xsm_r, if_pos, if_neg, l_neg1, oI_e0, nI_e0, oI_nI, ne_eq, not_true_eq_false, not_false_eq_true, and_true, true_and, and_false, false_and, or_true, true_or, or_false, false_or, if_true, if_false, lit_0, lit_1, lit_2, lit_3, lit_4, lit_5, lit_6, lit_8, lit_9, lit_10, lit_12, lit_13, lit_21, lit_29, lit_30, lit_31, lit_37, lit_101, lit_120, lit_121, lit_127, lit_169, lit_64, lit_99, lit_999, lit_676, lit_845, lit_48, lit_57, lit_32, lit_59]
      rw [h4]
      by_cases e2 : p < k
      · rw [if_pos e2, if_pos (by omega)]
      · rw [if_neg e2, if_neg (by omega)]
  · intro ⟨v, τ⟩ ⟨h1, h2, h4⟩
    dsimp only at h1 h2 h4 ⊢
    subst h1
    unfold B_X11_keep_6
    simp (disch := omega) only [Nat.add_zero, Nat.zero_add, Nat.zero_mul, Nat.mul_zero, mc8, mc3, nU_f, nU_k, nU_e, xbd_some, xgd_true, xlet_eq, g_in, nI_clamp, nI_leI, nI_ltI, nI_eq, nI_add, pk_mul, pk_sub, rd_e, rd_k, rd_c, i10, i01, xsm_l, xsm_r, if_pos, if_neg, l_neg1, oI_e0, nI_e0, oI_nI, ne_eq, not_true_eq_false, not_false_eq_true, and_true, true_and, and_false, false_and, or_true, true_or, or_false, false_or, if_true, if_false, lit_0, lit_1, lit_2, lit_3, lit_4, lit_5, lit_6, lit_8, lit_9, lit_10, lit_12, lit_13, lit_21, lit_29, lit_30, lit_31, lit_37, lit_101, lit_120, lit_121, lit_127, lit_169, lit_64, lit_99, lit_999, lit_676, lit_845, lit_48, lit_57, lit_32, lit_59]
    exact ⟨_, rfl, h2, h4⟩
theorem M_fun {R R' : Nat → Int32} {N : xN} (b : s_bd N) (e : ∀ k, k < 169 → R' k = R k) (h : s_M R N) : s_M R' N := M_169 b e h
theorem m_keep {σ : xM} {N : xN} {k : Nat} {H : Nat → xN} {L : Nat} {T : Nat → Nat} {b : Nat → Int32} (hw : s_wf N) (hH : ∀ j, j < k → s_wf (H j)) (h : IM σ N k H L T b) : ∃ τ, F_X11_keep σ = some τ ∧ IM τ N (k_up k) (push N H) L T b ∧ (∀ c, c ≠ 141 → c ≠ 143 → τ c = σ c) ∧ ∀ j, j ≠ 3 → τ 141 j = σ 141 j := by
  obtain ⟨h1, ⟨k5, e3, hj⟩, h3, h4⟩ := h
  unfold F_X11_keep
  by_cases c : k = 5
  · subst c
    obtain ⟨τ1, a1, a2, a3⟩ := m_kp6 σ
    have t3 : τ1 141 3 = nI 5 := by rw [a2 141 (by omega), e3]
    obtain ⟨τ2, b1, b2, b3⟩ := m_kp29 (σ := xup τ1 141 3 (nI 4)) (s := 4) (by omega) (by simp (disch := omega) only [Nat.add_zero, Nat.zero_add, Nat.zero_mul, Nat.mul_zero, mc8, mc3, nU_f, nU_k, nU_e, xbd_some, xgd_true, xlet_eq, g_in, nI_clamp, nI_leI, nI_ltI, nI_eq, nI_add, pk_mul, pk_sub, rd_e, rd_k, rd_c, i10, i01, xsm_l, xsm_r, if_pos, if_neg, l_neg1, oI_e0, nI_e0, oI_nI, ne_eq, not_true_eq_false, not_false_eq_true, and_true, true_and, and_false, false_and, or_true, true_or, or_false, false_or, if_true, if_false, lit_0, lit_1, lit_2, lit_3, lit_4, lit_5, lit_6, lit_8, lit_9, lit_10, lit_12, lit_13, lit_21, lit_29, lit_30, lit_31, lit_37, lit_101, lit_120, lit_121, lit_127, lit_169, lit_64, lit_99, lit_999, lit_676, lit_845, lit_48, lit_57, lit_32, lit_59])
    have u3 : τ2 141 3 = nI 4 := by rw [b2 141 (by omega)]; simp (disch := omega) only [Nat.add_zero, Nat.zero_add, Nat.zero_mul, Nat.mul_zero, mc8, mc3, nU_f, nU_k, nU_e, xbd_some, xgd_true, xlet_eq, g_in, nI_clamp, nI_leI, nI_ltI, nI_eq, nI_add, pk_mul, pk_sub, rd_e, rd_k, rd_c, i10, i01, xsm_l, xsm_r, if_pos, if_neg, l_neg1, oI_e0, nI_e0, oI_nI, ne_eq, not_true_eq_false, not_false_eq_true, and_true, true_and, and_false, false_and, or_true, true_or, or_false, false_or, if_true, if_false, lit_0, lit_1, lit_2, lit_3, lit_4, lit_5, lit_6, lit_8, lit_9, lit_10, lit_12, lit_13, lit_21, lit_29, lit_30, lit_31, lit_37, lit_101, lit_120, lit_121, lit_127, lit_169, lit_64, lit_99, lit_999, lit_676, lit_845, lit_48, lit_57, lit_32, lit_59]
    simp (disch := omega) only [Nat.add_zero, Nat.zero_add, Nat.zero_mul, Nat.mul_zero, mc8, mc3, nU_f, nU_k, nU_e, xbd_some, xgd_true, xlet_eq, g_in, nI_clamp, nI_leI, nI_ltI, nI_eq, nI_add, pk_mul, pk_sub, rd_e, rd_k, rd_c, i10, i01, xsm_l, xsm_r, if_pos, if_neg, l_neg1, oI_e0, nI_e0, oI_nI, ne_eq, not_true_eq_false, not_false_eq_true, and_true, true_and, and_false, false_and, or_true, true_or, or_false, false_or, if_true, if_false, lit_0, lit_1, lit_2, lit_3, lit_4, lit_5, lit_6, lit_8, lit_9, lit_10, lit_12, lit_13, lit_21, lit_29, lit_30, lit_31, lit_37, lit_101, lit_120, lit_121, lit_127, lit_169, lit_64, lit_99, lit_999, lit_676, lit_845, lit_48, lit_57, lit_32, lit_59, e3, a1, t3, b1, u3]
    refine ⟨_, rfl, ⟨?_, ⟨by decide, by simp (disch := omega) only [Nat.add_zero, Nat.zero_add, Nat.zero_mul, Nat.mul_zero, mc8, mc3, nU_f, nU_k, nU_e, xbd_some, xgd_true, xlet_eq, g_in, nI_clamp, nI_leI, nI_ltI, nI_eq, nI_add, pk_mul, pk_sub, rd_e, rd_k, rd_c, i10, i01, xsm_l, xsm_r, if_pos, if_neg, l_neg1, oI_e0, nI_e0, oI_nI, ne_eq, not_true_eq_false, not_false_eq_true, and_true, true_and, and_false, false_and, or_true, true_or, or_false, false_or, if_true, if_false, lit_0, lit_1, lit_2, lit_3, lit_4, lit_5, lit_6, lit_8, lit_9, lit_10, lit_12, lit_13, lit_21, lit_29, lit_30, lit_31, lit_37, lit_101, lit_120, lit_121, lit_127, lit_169, lit_64, lit_99, lit_999, lit_676, lit_845, lit_48, lit_57, lit_32, lit_59]; rfl, fun j hjk => ?_⟩, ?_, ?_⟩, fun d x y => ?_, fun j hj => ?_⟩
    · simp (disch := omega) only [Nat.add_zero, Nat.zero_add, Nat.zero_mul, Nat.mul_zero, mc8, mc3, nU_f, nU_k, nU_e, xbd_some, xgd_true, xlet_eq, g_in, nI_clamp, nI_leI, nI_ltI, nI_eq, nI_add, pk_mul, pk_sub, rd_e, rd_k, rd_c, i10, i01, xsm_l, xsm_r, if_pos, if_neg, l_neg1, oI_e0, nI_e0, oI_nI, ne_eq, not_true_eq_false, not_false_eq_true, and_true, true_and, and_false, false_and, or_true, true_or, or_false, false_or, if_true, if_false, lit_0, lit_1, lit_2, lit_3, lit_4, lit_5, lit_6, lit_8, lit_9, lit_10, lit_12, lit_13, lit_21, lit_29, lit_30, lit_31, lit_37, lit_101, lit_120, lit_121, lit_127, lit_169, lit_64, lit_99, lit_999, lit_676, lit_845, lit_48, lit_57, lit_32, lit_59]
      rw [b2 142 (by omega)]
      simp (disch := omega) only [Nat.add_zero, Nat.zero_add, Nat.zero_mul, Nat.mul_zero, mc8, mc3, nU_f, nU_k, nU_e, xbd_some, xgd_true, xlet_eq, g_in, nI_clamp, nI_leI, nI_ltI, nI_eq, nI_add, pk_mul, pk_sub, rd_e, rd_k, rd_c, i10, i01, xsm_l, xsm_r, if_pos, if_neg, l_neg1, oI_e0, nI_e0, oI_nI, ne_eq, not_true_eq_false, not_false_eq_true, and_true, true_and, and_false, false_and, or_true, true_or, or_false, false_or, if_true, if_false, lit_0, lit_1, lit_2, lit_3, lit_4, lit_5, lit_6, lit_8, lit_9, lit_10, lit_12, lit_13, lit_21, lit_29, lit_30, lit_31, lit_37, lit_101, lit_120, lit_121, lit_127, lit_169, lit_64, lit_99, lit_999, lit_676, lit_845, lit_48, lit_57, lit_32, lit_59]
      rw [a2 142 (by omega)]
      exact h1
    · have hj5 : j < 5 := hjk
      show s_M (fun i => xup τ2 141 3 (nI 5) 143 (169 * (5 - 1 - j) + i)) (push N H j)
      unfold push
      by_cases e : j = 0
      · rw [if_pos e, e]
        refine M_fun hw.1 (fun i hi => ?_) h1
        simp (disch := omega) only [Nat.add_zero, Nat.zero_add, Nat.zero_mul, Nat.mul_zero, mc8, mc3, nU_f, nU_k, nU_e, xbd_some, xgd_true, xlet_eq, g_in, nI_clamp, nI_leI, nI_ltI, nI_eq, nI_add, pk_mul, pk_sub, rd_e, rd_k, rd_c, i10, i01, xsm_l, xsm_r, if_pos, if_neg, l_neg1, oI_e0, nI_e0, oI_nI, ne_eq, not_true_eq_false, not_false_eq_true, and_true, true_and, and_false, false_and, or_true, true_or, or_false, false_or, if_true, if_false, lit_0, lit_1, lit_2, lit_3, lit_4, lit_5, lit_6, lit_8, lit_9, lit_10, lit_12, lit_13, lit_21, lit_29, lit_30, lit_31, lit_37, lit_101, lit_120, lit_121, lit_127, lit_169, lit_64, lit_99, lit_999, lit_676, lit_845, lit_48, lit_57, lit_32, lit_59]
        rw [b3, if_pos (by omega)]
        simp (disch := omega) only [Nat.add_zero, Nat.zero_add, Nat.zero_mul, Nat.mul_zero, mc8, mc3, nU_f, nU_k, nU_e, xbd_some, xgd_true, xlet_eq, g_in, nI_clamp, nI_leI, nI_ltI, nI_eq, nI_add, pk_mul, pk_sub, rd_e, rd_k, rd_c, i10, i01, xsm_l, xsm_r, if_pos, if_neg, l_neg1, oI_e0, nI_e0, oI_nI, ne_eq, not_true_eq_false, not_false_eq_true, and_true, true_and, and_false, false_and, or_true, true_or, or_false, false_or, if_true, if_false, lit_0, lit_1, lit_2, lit_3, lit_4, lit_5, lit_6, lit_8, lit_9, lit_10, lit_12, lit_13, lit_21, lit_29, lit_30, lit_31, lit_37, lit_101, lit_120, lit_121, lit_127, lit_169, lit_64, lit_99, lit_999, lit_676, lit_845, lit_48, lit_57, lit_32, lit_59]
        rw [a2 142 (by omega)]
        exact congrArg _ (by omega)
      · rw [if_neg e]
        have := hj (j - 1) (by omega)
        refine M_fun (hH (j - 1) (by omega)).1 (fun i hi => ?_) this
        simp (disch := omega) only [Nat.add_zero, Nat.zero_add, Nat.zero_mul, Nat.mul_zero, mc8, mc3, nU_f, nU_k, nU_e, xbd_some, xgd_true, xlet_eq, g_in, nI_clamp, nI_leI, nI_ltI, nI_eq, nI_add, pk_mul, pk_sub, rd_e, rd_k, rd_c, i10, i01, xsm_l, xsm_r, if_pos, if_neg, l_neg1, oI_e0, nI_e0, oI_nI, ne_eq, not_true_eq_false, not_false_eq_true, and_true, true_and, and_false, false_and, or_true, true_or, or_false, false_or, if_true, if_false, lit_0, lit_1, lit_2, lit_3, lit_4, lit_5, lit_6, lit_8, lit_9, lit_10, lit_12, lit_13, lit_21, lit_29, lit_30, lit_31, lit_37, lit_101, lit_120, lit_121, lit_127, lit_169, lit_64, lit_99, lit_999, lit_676, lit_845, lit_48, lit_57, lit_32, lit_59]
        rw [b3, if_neg (by omega)]
        simp (disch := omega) only [Nat.add_zero, Nat.zero_add, Nat.zero_mul, Nat.mul_zero, mc8, mc3, nU_f, nU_k, nU_e, xbd_some, xgd_true, xlet_eq, g_in, nI_clamp, nI_leI, nI_ltI, nI_eq, nI_add, pk_mul, pk_sub, rd_e, rd_k, rd_c, i10, i01, xsm_l, xsm_r, if_pos, if_neg, l_neg1, oI_e0, nI_e0, oI_nI, ne_eq, not_true_eq_false, not_false_eq_true, and_true, true_and, and_false, false_and, or_true, true_or, or_false, false_or, if_true, if_false, lit_0, lit_1, lit_2, lit_3, lit_4, lit_5, lit_6, lit_8, lit_9, lit_10, lit_12, lit_13, lit_21, lit_29, lit_30, lit_31, lit_37, lit_101, lit_120, lit_121, lit_127, lit_169, lit_64, lit_99, lit_999, lit_676, lit_845, lit_48, lit_57, lit_32, lit_59]
        rw [a3, if_pos (by omega)]
        exact congrArg _ (by omega)
    · refine Jb_cg h3 ?_
      simp (disch := omega) only [Nat.add_zero, Nat.zero_add, Nat.zero_mul, Nat.mul_zero, mc8, mc3, nU_f, nU_k, nU_e, xbd_some, xgd_true, xlet_eq, g_in, nI_clamp, nI_leI, nI_ltI, nI_eq, nI_add, pk_mul, pk_sub, rd_e, rd_k, rd_c, i10, i01, xsm_l, xsm_r, if_pos, if_neg, l_neg1, oI_e0, nI_e0, oI_nI, ne_eq, not_true_eq_false, not_false_eq_true, and_true, true_and, and_false, false_and, or_true, true_or, or_false, false_or, if_true, if_false, lit_0, lit_1, lit_2, lit_3, lit_4, lit_5, lit_6, lit_8, lit_9, lit_10, lit_12, lit_13, lit_21, lit_29, lit_30, lit_31, lit_37, lit_101, lit_120, lit_121, lit_127, lit_169, lit_64, lit_99, lit_999, lit_676, lit_845, lit_48, lit_57, lit_32, lit_59]
      rw [b2 145 (by omega)]
      simp (disch := omega) only [Nat.add_zero, Nat.zero_add, Nat.zero_mul, Nat.mul_zero, mc8, mc3, nU_f, nU_k, nU_e, xbd_some, xgd_true, xlet_eq, g_in, nI_clamp, nI_leI, nI_ltI, nI_eq, nI_add, pk_mul, pk_sub, rd_e, rd_k, rd_c, i10, i01, xsm_l, xsm_r, if_pos, if_neg, l_neg1, oI_e0, nI_e0, oI_nI, ne_eq, not_true_eq_false, not_false_eq_true, and_true, true_and, and_false, false_and, or_true, true_or, or_false, false_or, if_true, if_false, lit_0, lit_1, lit_2, lit_3, lit_4, lit_5, lit_6, lit_8, lit_9, lit_10, lit_12, lit_13, lit_21, lit_29, lit_30, lit_31, lit_37, lit_101, lit_120, lit_121, lit_127, lit_169, lit_64, lit_99, lit_999, lit_676, lit_845, lit_48, lit_57, lit_32, lit_59]
      rw [a2 145 (by omega)]
    · refine Jt_cg h4 ?_ ?_
      · simp (disch := omega) only [Nat.add_zero, Nat.zero_add, Nat.zero_mul, Nat.mul_zero, mc8, mc3, nU_f, nU_k, nU_e, xbd_some, xgd_true, xlet_eq, g_in, nI_clamp, nI_leI, nI_ltI, nI_eq, nI_add, pk_mul, pk_sub, rd_e, rd_k, rd_c, i10, i01, xsm_l, xsm_r, if_pos, if_neg, l_neg1, oI_e0, nI_e0, oI_nI, ne_eq, not_true_eq_false, not_false_eq_true, and_true, true_and, and_false, false_and, or_true, true_or, or_false, false_or, if_true, if_false, lit_0, lit_1, lit_2, lit_3, lit_4, lit_5, lit_6, lit_8, lit_9, lit_10, lit_12, lit_13, lit_21, lit_29, lit_30, lit_31, lit_37, lit_101, lit_120, lit_121, lit_127, lit_169, lit_64, lit_99, lit_999, lit_676, lit_845, lit_48, lit_57, lit_32, lit_59]
        rw [b2 141 (by omega)]
        simp (disch := omega) only [Nat.add_zero, Nat.zero_add, Nat.zero_mul, Nat.mul_zero, mc8, mc3, nU_f, nU_k, nU_e, xbd_some, xgd_true, xlet_eq, g_in, nI_clamp, nI_leI, nI_ltI, nI_eq, nI_add, pk_mul, pk_sub, rd_e, rd_k, rd_c, i10, i01, xsm_l, xsm_r, if_pos, if_neg, l_neg1, oI_e0, nI_e0, oI_nI, ne_eq, not_true_eq_false, not_false_eq_true, and_true, true_and, and_false, false_and, or_true, true_or, or_false, false_or, if_true, if_false, lit_0, lit_1, lit_2, lit_3, lit_4, lit_5, lit_6, lit_8, lit_9, lit_10, lit_12, lit_13, lit_21, lit_29, lit_30, lit_31, lit_37, lit_101, lit_120, lit_121, lit_127, lit_169, lit_64, lit_99, lit_999, lit_676, lit_845, lit_48, lit_57, lit_32, lit_59]
        rw [a2 141 (by omega)]
      · simp (disch := omega) only [Nat.add_zero, Nat.zero_add, Nat.zero_mul, Nat.mul_zero, mc8, mc3, nU_f, nU_k, nU_e, xbd_some, xgd_true, xlet_eq, g_in, nI_clamp, nI_leI, nI_ltI, nI_eq, nI_add, pk_mul, pk_sub, rd_e, rd_k, rd_c, i10, i01, xsm_l, xsm_r, if_pos, if_neg, l_neg1, oI_e0, nI_e0, oI_nI, ne_eq, not_true_eq_false, not_false_eq_true, and_true, true_and, and_false, false_and, or_true, true_or, or_false, false_or, if_true, if_false, lit_0, lit_1, lit_2, lit_3, lit_4, lit_5, lit_6, lit_8, lit_9, lit_10, lit_12, lit_13, lit_21, lit_29, lit_30, lit_31, lit_37, lit_101, lit_120, lit_121, lit_127, lit_169, lit_64, lit_99, lit_999, lit_676, lit_845, lit_48, lit_57, lit_32, lit_59]
        rw [b2 153 (by omega)]
        simp (disch := omega) only [Nat.add_zero, Nat.zero_add, Nat.zero_mul, Nat.mul_zero, mc8, mc3, nU_f, nU_k, nU_e, xbd_some, xgd_true, xlet_eq, g_in, nI_clamp, nI_leI, nI_ltI, nI_eq, nI_add, pk_mul, pk_sub, rd_e, rd_k, rd_c, i10, i01, xsm_l, xsm_r, if_pos, if_neg, l_neg1, oI_e0, nI_e0, oI_nI, ne_eq, not_true_eq_false, not_false_eq_true, and_true, true_and, and_false, false_and, or_true, true_or, or_false, false_or, if_true, if_false, lit_0, lit_1, lit_2, lit_3, lit_4, lit_5, lit_6, lit_8, lit_9, lit_10, lit_12, lit_13, lit_21, lit_29, lit_30, lit_31, lit_37, lit_101, lit_120, lit_121, lit_127, lit_169, lit_64, lit_99, lit_999, lit_676, lit_845, lit_48, lit_57, lit_32, lit_59]
        rw [a2 153 (by omega)]
    · simp (disch := omega) only [Nat.add_zero, Nat.zero_add, Nat.zero_mul, Nat.mul_zero, mc8, mc3, nU_f, nU_k, nU_e, xbd_some, xgd_true, xlet_eq, g_in, nI_clamp, nI_leI, nI_ltI, nI_eq, nI_add, pk_mul, pk_sub, rd_e, rd_k, rd_c, i10, i01, xsm_l, xsm_r, if_pos, if_neg, l_neg1, oI_e0, nI_e0, oI_nI, ne_eq, not_true_eq_false, not_false_eq_true, and_true, true_and, and_false, false_and, or_true, true_or, or_false, false_or, if_true, if_false, lit_0, lit_1, lit_2, lit_3, lit_4, lit_5, lit_6, lit_8, lit_9, lit_10, lit_12, lit_13, lit_21, lit_29, lit_30, lit_31, lit_37, lit_101, lit_120, lit_121, lit_127, lit_169, lit_64, lit_99, lit_999, lit_676, lit_845, lit_48, lit_57, lit_32, lit_59]
      rw [b2 d y]
      simp (disch := omega) only [Nat.add_zero, Nat.zero_add, Nat.zero_mul, Nat.mul_zero, mc8, mc3, nU_f, nU_k, nU_e, xbd_some, xgd_true, xlet_eq, g_in, nI_clamp, nI_leI, nI_ltI, nI_eq, nI_add, pk_mul, pk_sub, rd_e, rd_k, rd_c, i10, i01, xsm_l, xsm_r, if_pos, if_neg, l_neg1, oI_e0, nI_e0, oI_nI, ne_eq, not_true_eq_false, not_false_eq_true, and_true, true_and, and_false, false_and, or_true, true_or, or_false, false_or, if_true, if_false, lit_0, lit_1, lit_2, lit_3, lit_4, lit_5, lit_6, lit_8, lit_9, lit_10, lit_12, lit_13, lit_21, lit_29, lit_30, lit_31, lit_37, lit_101, lit_120, lit_121, lit_127, lit_169, lit_64, lit_99, lit_999, lit_676, lit_845, lit_48, lit_57, lit_32, lit_59]
      exact a2 d y
    · simp (disch := omega) only [Nat.add_zero, Nat.zero_add, Nat.zero_mul, Nat.mul_zero, mc8, mc3, nU_f, nU_k, nU_e, xbd_some, xgd_true, xlet_eq, g_in, nI_clamp, nI_leI, nI_ltI, nI_eq, nI_add, pk_mul, pk_sub, rd_e, rd_k, rd_c, i10, i01, xsm_l, xsm_r, if_pos, if_neg, l_neg1, oI_e0, nI_e0, oI_nI, ne_eq, not_true_eq_false, not_false_eq_true, and_true, true_and, and_false, false_and, or_true, true_or, or_false, false_or, if_true, if_false, lit_0, lit_1, lit_2, lit_3, lit_4, lit_5, lit_6, lit_8, lit_9, lit_10, lit_12, lit_13, lit_21, lit_29, lit_30, lit_31, lit_37, lit_101, lit_120, lit_121, lit_127, lit_169, lit_64, lit_99, lit_999, lit_676, lit_845, lit_48, lit_57, lit_32, lit_59]
      rw [b2 141 (by omega)]
      simp (disch := omega) only [Nat.add_zero, Nat.zero_add, Nat.zero_mul, Nat.mul_zero, mc8, mc3, nU_f, nU_k, nU_e, xbd_some, xgd_true, xlet_eq, g_in, nI_clamp, nI_leI, nI_ltI, nI_eq, nI_add, pk_mul, pk_sub, rd_e, rd_k, rd_c, i10, i01, xsm_l, xsm_r, if_pos, if_neg, l_neg1, oI_e0, nI_e0, oI_nI, ne_eq, not_true_eq_false, not_false_eq_true, and_true, true_and, and_false, false_and, or_true, true_or, or_false, false_or, if_true, if_false, lit_0, lit_1, lit_2, lit_3, lit_4, lit_5, lit_6, lit_8, lit_9, lit_10, lit_12, lit_13, lit_21, lit_29, lit_30, lit_31, lit_37, lit_101, lit_120, lit_121, lit_127, lit_169, lit_64, lit_99, lit_999, lit_676, lit_845, lit_48, lit_57, lit_32, lit_59]
      rw [a2 141 (by omega)]
  · obtain ⟨τ2, b1, b2, b3⟩ := m_kp29 (σ := σ) (s := k) (by omega) e3
    have u3 : τ2 141 3 = nI k := by rw [b2 141 (by omega), e3]
    have ku : k_up k = k + 1 := by unfold k_up; rw [if_pos (by omega)]
    simp (disch := omega) only [Nat.add_zero, Nat.zero_add, Nat.zero_mul, Nat.mul_zero, mc8, mc3, nU_f, nU_k, nU_e, xbd_some, xgd_true, xlet_eq, g_in, nI_clamp, nI_leI, nI_ltI, nI_eq, nI_add, pk_mul, pk_sub, rd_e, rd_k, rd_c, i10, i01, xsm_l, xsm_r, if_pos, if_neg, l_neg1, oI_e0, nI_e0, oI_nI, ne_eq, not_true_eq_false, not_false_eq_true, and_true, true_and, and_false, false_and, or_true, true_or, or_false, false_or, if_true, if_false, lit_0, lit_1, lit_2, lit_3, lit_4, lit_5, lit_6, lit_8, lit_9, lit_10, lit_12, lit_13, lit_21, lit_29, lit_30, lit_31, lit_37, lit_101, lit_120, lit_121, lit_127, lit_169, lit_64, lit_99, lit_999, lit_676, lit_845, lit_48, lit_57, lit_32, lit_59, e3, b1, u3]
    rw [ku]
    refine ⟨_, rfl, ⟨?_, ⟨by omega, by simp (disch := omega) only [Nat.add_zero, Nat.zero_add, Nat.zero_mul, Nat.mul_zero, mc8, mc3, nU_f, nU_k, nU_e, xbd_some, xgd_true, xlet_eq, g_in, nI_clamp, nI_leI, nI_ltI, nI_eq, nI_add, pk_mul, pk_sub, rd_e, rd_k, rd_c, i10, i01, xsm_l, xsm_r, if_pos, if_neg, l_neg1, oI_e0, nI_e0, oI_nI, ne_eq, not_true_eq_false, not_false_eq_true, and_true, true_and, and_false, false_and, or_true, true_or, or_false, false_or, if_true, if_false, lit_0, lit_1, lit_2, lit_3, lit_4, lit_5, lit_6, lit_8, lit_9, lit_10, lit_12, lit_13, lit_21, lit_29, lit_30, lit_31, lit_37, lit_101, lit_120, lit_121, lit_127, lit_169, lit_64, lit_99, lit_999, lit_676, lit_845, lit_48, lit_57, lit_32, lit_59], fun j hjk => ?_⟩, ?_, ?_⟩, fun d x y => ?_, fun j hj => ?_⟩
    · simp (disch := omega) only [Nat.add_zero, Nat.zero_add, Nat.zero_mul, Nat.mul_zero, mc8, mc3, nU_f, nU_k, nU_e, xbd_some, xgd_true, xlet_eq, g_in, nI_clamp, nI_leI, nI_ltI, nI_eq, nI_add, pk_mul, pk_sub, rd_e, rd_k, rd_c, i10, i01, xsm_l, xsm_r, if_pos, if_neg, l_neg1, oI_e0, nI_e0, oI_nI, ne_eq, not_true_eq_false, not_false_eq_true, and_true, true_and, and_false, false_and, or_true, true_or, or_false, false_or, if_true, if_false, lit_0, lit_1, lit_2, lit_3, lit_4, lit_5, lit_6, lit_8, lit_9, lit_10, lit_12, lit_13, lit_21, lit_29, lit_30, lit_31, lit_37, lit_101, lit_120, lit_121, lit_127, lit_169, lit_64, lit_99, lit_999, lit_676, lit_845, lit_48, lit_57, lit_32, lit_59]
      rw [b2 142 (by omega)]
      exact h1
    · unfold push
      by_cases e : j = 0
      · rw [if_pos e, e]
        refine M_fun hw.1 (fun i hi => ?_) h1
        simp (disch := omega) only [Nat.add_zero, Nat.zero_add, Nat.zero_mul, Nat.mul_zero, mc8, mc3, nU_f, nU_k, nU_e, xbd_some, xgd_true, xlet_eq, g_in, nI_clamp, nI_leI, nI_ltI, nI_eq, nI_add, pk_mul, pk_sub, rd_e, rd_k, rd_c, i10, i01, xsm_l, xsm_r, if_pos, if_neg, l_neg1, oI_e0, nI_e0, oI_nI, ne_eq, not_true_eq_false, not_false_eq_true, and_true, true_and, and_false, false_and, or_true, true_or, or_false, false_or, if_true, if_false, lit_0, lit_1, lit_2, lit_3, lit_4, lit_5, lit_6, lit_8, lit_9, lit_10, lit_12, lit_13, lit_21, lit_29, lit_30, lit_31, lit_37, lit_101, lit_120, lit_121, lit_127, lit_169, lit_64, lit_99, lit_999, lit_676, lit_845, lit_48, lit_57, lit_32, lit_59]
        rw [b3, if_pos (by omega)]
        exact congrArg _ (by omega)
      · rw [if_neg e]
        have := hj (j - 1) (by omega)
        refine M_fun (hH (j - 1) (by omega)).1 (fun i hi => ?_) this
        simp (disch := omega) only [Nat.add_zero, Nat.zero_add, Nat.zero_mul, Nat.mul_zero, mc8, mc3, nU_f, nU_k, nU_e, xbd_some, xgd_true, xlet_eq, g_in, nI_clamp, nI_leI, nI_ltI, nI_eq, nI_add, pk_mul, pk_sub, rd_e, rd_k, rd_c, i10, i01, xsm_l, xsm_r, if_pos, if_neg, l_neg1, oI_e0, nI_e0, oI_nI, ne_eq, not_true_eq_false, not_false_eq_true, and_true, true_and, and_false, false_and, or_true, true_or, or_false, false_or, if_true, if_false, lit_0, lit_1, lit_2, lit_3, lit_4, lit_5, lit_6, lit_8, lit_9, lit_10, lit_12, lit_13, lit_21, lit_29, lit_30, lit_31, lit_37, lit_101, lit_120, lit_121, lit_127, lit_169, lit_64, lit_99, lit_999, lit_676, lit_845, lit_48, lit_57, lit_32, lit_59]
        rw [b3, if_neg (by omega)]
        exact congrArg _ (by omega)
    · refine Jb_cg h3 ?_
      simp (disch := omega) only [Nat.add_zero, Nat.zero_add, Nat.zero_mul, Nat.mul_zero, mc8, mc3, nU_f, nU_k, nU_e, xbd_some, xgd_true, xlet_eq, g_in, nI_clamp, nI_leI, nI_ltI, nI_eq, nI_add, pk_mul, pk_sub, rd_e, rd_k, rd_c, i10, i01, xsm_l, xsm_r, if_pos, if_neg, l_neg1, oI_e0, nI_e0, oI_nI, ne_eq, not_true_eq_false, not_false_eq_true, and_true, true_and, and_false, false_and, or_true, true_or, or_false, false_or, if_true, if_false, lit_0, lit_1, lit_2, lit_3, lit_4, lit_5, lit_6, lit_8, lit_9, lit_10, lit_12, lit_13, lit_21, lit_29, lit_30, lit_31, lit_37, lit_101, lit_120, lit_121, lit_127, lit_169, lit_64, lit_99, lit_999, lit_676, lit_845, lit_48, lit_57, lit_32, lit_59]
      rw [b2 145 (by omega)]
    · refine Jt_cg h4 ?_ ?_
      · simp (disch := omega) only [Nat.add_zero, Nat.zero_add, Nat.zero_mul, Nat.mul_zero, mc8, mc3, nU_f, nU_k, nU_e, xbd_some, xgd_true, xlet_eq, g_in, nI_clamp, nI_leI, nI_ltI, nI_eq, nI_add, pk_mul, pk_sub, rd_e, rd_k, rd_c, i10, i01, xsm_l, xsm_r, if_pos, if_neg, l_neg1, oI_e0, nI_e0, oI_nI, ne_eq, not_true_eq_false, not_false_eq_true, and_true, true_and, and_false, false_and, or_true, true_or, or_false, false_or, if_true, if_false, lit_0, lit_1, lit_2, lit_3, lit_4, lit_5, lit_6, lit_8, lit_9, lit_10, lit_12, lit_13, lit_21, lit_29, lit_30, lit_31, lit_37, lit_101, lit_120, lit_121, lit_127, lit_169, lit_64, lit_99, lit_999, lit_676, lit_845, lit_48, lit_57, lit_32, lit_59]
        rw [b2 141 (by omega)]
      · simp (disch := omega) only [Nat.add_zero, Nat.zero_add, Nat.zero_mul, Nat.mul_zero, mc8, mc3, nU_f, nU_k, nU_e, xbd_some, xgd_true, xlet_eq, g_in, nI_clamp, nI_leI, nI_ltI, nI_eq, nI_add, pk_mul, pk_sub, rd_e, rd_k, rd_c, i10, i01, xsm_l, xsm_r, if_pos, if_neg, l_neg1, oI_e0, nI_e0, oI_nI, ne_eq, not_true_eq_false, not_false_eq_true, and_true, true_and, and_false, false_and, or_true, true_or, or_false, false_or, if_true, if_false, lit_0, lit_1, lit_2, lit_3, lit_4, lit_5, lit_6, lit_8, lit_9, lit_10, lit_12, lit_13, lit_21, lit_29, lit_30, lit_31, lit_37, lit_101, lit_120, lit_121, lit_127, lit_169, lit_64, lit_99, lit_999, lit_676, lit_845, lit_48, lit_57, lit_32, lit_59]
        rw [b2 153 (by omega)]
    · simp (disch := omega) only [Nat.add_zero, Nat.zero_add, Nat.zero_mul, Nat.mul_zero, mc8, mc3, nU_f, nU_k, nU_e, xbd_some, xgd_true, xlet_eq, g_in, nI_clamp, nI_leI, nI_ltI, nI_eq, nI_add, pk_mul, pk_sub, rd_e, rd_k, rd_c, i10, i01, xsm_l, xsm_r, if_pos, if_neg, l_neg1, oI_e0, nI_e0, oI_nI, ne_eq, not_true_eq_false, not_false_eq_true, and_true, true_and, and_false, false_and, or_true, true_or, or_false, false_or, if_true, if_false, lit_0, lit_1, lit_2, lit_3, lit_4, lit_5, lit_6, lit_8, lit_9, lit_10, lit_12, lit_13, lit_21, lit_29, lit_30, lit_31, lit_37, lit_101, lit_120, lit_121, lit_127, lit_169, lit_64, lit_99, lit_999, lit_676, lit_845, lit_48, lit_57, lit_32, lit_59]
      exact b2 d y
    · simp (disch := omega) only [Nat.add_zero, Nat.zero_add, Nat.zero_mul, Nat.mul_zero, mc8, mc3, nU_f, nU_k, nU_e, xbd_some, xgd_true, xlet_eq, g_in, nI_clamp, nI_leI, nI_ltI, nI_eq, nI_add, pk_mul, pk_sub, rd_e, rd_k, rd_c, i10, i01, xsm_l, xsm_r, if_pos, if_neg, l_neg1, oI_e0, nI_e0, oI_nI, ne_eq, not_true_eq_false, not_false_eq_true, and_true, true_and, and_false, false_and, or_true, true_or, or_false, false_or, if_true, if_false, lit_0, lit_1, lit_2, lit_3, lit_4, lit_5, lit_6, lit_8, lit_9, lit_10, lit_12, lit_13, lit_21, lit_29, lit_30, lit_31, lit_37, lit_101, lit_120, lit_121, lit_127, lit_169, lit_64, lit_99, lit_999, lit_676, lit_845, lit_48, lit_57, lit_32, lit_59]
      rw [b2 141 (by omega)]
theorem er_p {r : Int32} (h : 0 ≤ r) : er r = 0 := by
  unfold er
  rw [if_neg]
  rw [Int32.lt_iff_toInt_lt]
  rw [Int32.le_iff_toInt_le] at h
  omega
theorem er_e {r : Int32} (h : r = -2 ∨ r = -3 ∨ r = -4) : er r = r := by
  rcases h with rfl | rfl | rfl <;> rfl
theorem er_ng {r : Int32} (h : r = -2 ∨ r = -3 ∨ r = -4) : ¬ 0 ≤ r := by
  rcases h with rfl | rfl | rfl <;> decide
/-- the model keeps, and goes on -/
theorem m_go {Fn : xM → Option (Int32 × xM)} {sp : xN → Int32 × xN} (hnow : ∀ σ N, s_wf N → s_M (σ 142) N → 0 ≤ (sp N).1 → ∃ σ', Fn σ = some ((sp N).1, σ') ∧ s_M (σ' 142) (sp N).2 ∧ m_fr σ σ') {σ : xM} {N : xN} {k : Nat} {H : Nat → xN} {L : Nat} {T : Nat → Nat} {b : Nat → Int32} (hW : IW N k H L T) (h : IM σ N k H L T b) (hp : 0 ≤ (sp N).1) : ∃ τ, (xbd (F_X11_keep σ) fun r3 => xbd (Fn r3) fun r4 => some (r4.1, r4.2)) = some ((sp N).1, τ) ∧ IM τ (sp N).2 (k_up k) (push N H) L T b ∧ ∀ c, c < 141 → τ c = σ c := by
  obtain ⟨τ1, a1, a2, a3, a4⟩ := m_keep hW.1 (fun j hj => (hW.2.2.1 j hj).1) h
  obtain ⟨τ2, b1, b2, b3⟩ := hnow τ1 N hW.1 a2.1 hp
  refine ⟨τ2, ?_, IM_fr a2 b3 b2, fun c hc => (b3 c (by omega)).trans (a3 c (by omega) (by omega))⟩
  rw [xbd_s a1, xbd_s b1]
theorem m_act {Fc : xM → Option Int32} {Fn : xM → Option (Int32 × xM)} {sp : xN → Int32 × xN} (hcan : ∀ σ N, s_wf N → s_M (σ 142) N → Fc σ = some (er (sp N).1)) (hnow : ∀ σ N, s_wf N → s_M (σ 142) N → 0 ≤ (sp N).1 → ∃ σ', Fn σ = some ((sp N).1, σ') ∧ s_M (σ' 142) (sp N).2 ∧ m_fr σ σ') (hO : okW sp) {σ : xM} {N : xN} {k : Nat} {H : Nat → xN} {L : Nat} {T : Nat → Nat} {b : Nat → Int32} (hW : IW N k H L T) (h : IM σ N k H L T b) : ∃ τ, (xbd (Fc σ) fun r1 => if 0 ≤ r1 then (xbd (F_X11_keep σ) fun r3 => xbd (Fn r3) fun r4 => some (r4.1, r4.2)) else xbd (F_X11_refuses r1 σ) fun r5 => some (r5.1, r5.2)) = some ((sp N).1, τ) ∧ ((0 ≤ (sp N).1 ∧ IM τ (sp N).2 (k_up k) (push N H) L T b) ∨ (((sp N).1 = -2 ∨ (sp N).1 = -3 ∨ (sp N).1 = -4) ∧ (sp N).2 = N ∧ IM τ N k H L T (bump b (sp N).1))) ∧ ∀ c, c < 141 → τ c = σ c := by
  rw [xbd_s (hcan σ N hW.1 h.1)]
  rcases (hO N hW.1 hW.2.1).2.2 with hp | ⟨hn, hs⟩
  · obtain ⟨τ, g1, g2, g3⟩ := m_go hnow hW h hp
    rw [er_p hp, if_pos (by decide)]
    exact ⟨τ, g1, Or.inl ⟨hp, g2⟩, g3⟩
  · rw [er_e hn, if_neg (er_ng hn)]
    obtain ⟨τ, g1, g2, g3⟩ := IM_ref h hn
    rw [xbd_s g1]
    exact ⟨τ, rfl, Or.inr ⟨hn, hs, g2⟩, g3⟩
def Inv (σ : xM) : Prop := ∃ N k H L T b, IW N k H L T ∧ IC σ N k H L T b ∧ IM σ N k H L T b
theorem k_up_le (k : Nat) : k_up k ≤ 5 := by
  unfold k_up
  split <;> omega
theorem IW_push {N M : xN} {k : Nat} {H : Nat → xN} {L : Nat} {T : Nat → Nat} (h : IW N k H L T) (h1 : s_wf M) (h2 : s_sy M) : IW M (k_up k) (push N H) L T := by
  refine ⟨h1, h2, fun j hj => ?_, h.2.2.2⟩
  unfold push
  by_cases e : j = 0
  · rw [if_pos e]
    exact ⟨h.1, h.2.1⟩
  · rw [if_neg e]
    refine h.2.2.1 (j - 1) ?_
    unfold k_up at hj
    split at hj <;> omega
theorem IC_hi {σ τ : xM} {N : xN} {k : Nat} {H : Nat → xN} {L : Nat} {T : Nat → Nat} {b : Nat → Int32} (h : IC σ N k H L T b) (e : ∀ c, c < 141 → τ c = σ c) : IC τ N k H L T b := IC_cg h (fun c a _ _ _ => e c a)
theorem IM_lo {σ τ : xM} {N : xN} {k : Nat} {H : Nat → xN} {L : Nat} {T : Nat → Nat} {b : Nat → Int32} (h : IM σ N k H L T b) (e : ∀ c, 141 ≤ c → τ c = σ c) : IM τ N k H L T b := by
  obtain ⟨h1, h2, h3, h4⟩ := h
  exact ⟨by rw [e 142 (by omega)]; exact h1, Jh_cg h2 (by rw [e 141 (by omega)]) (e 143 (by omega)), Jb_cg h3 (e 145 (by omega)), Jt_cg h4 (by rw [e 141 (by omega)]) (e 153 (by omega))⟩
/-- an act, on both sides -/
theorem pub {A B : xM → Option (Int32 × xM)} {sp : xN → Int32 × xN} (hO : okW sp) (hA : ∀ (σ : xM) (N : xN) (k : Nat) (H : Nat → xN) (L : Nat) (T : Nat → Nat) (b : Nat → Int32), IW N k H L T → IC σ N k H L T b → ∃ τ, A σ = some ((sp N).1, τ) ∧ ((0 ≤ (sp N).1 ∧ IC τ (sp N).2 (k_up k) (push N H) L T b) ∨ (((sp N).1 = -2 ∨ (sp N).1 = -3 ∨ (sp N).1 = -4) ∧ (sp N).2 = N ∧ IC τ N k H L T (bump b (sp N).1))) ∧ ∀ c, 141 ≤ c → τ c = σ c) (hB : ∀ (σ : xM) (N : xN) (k : Nat) (H : Nat → xN) (L : Nat) (T : Nat → Nat) (b : Nat → Int32), IW N k H L T → IM σ N k H L T b → ∃ τ, B σ = some ((sp N).1, τ) ∧ ((0 ≤ (sp N).1 ∧ IM τ (sp N).2 (k_up k) (push N H) L T b) ∨ (((sp N).1 = -2 ∨ (sp N).1 = -3 ∨ (sp N).1 = -4) ∧ (sp N).2 = N ∧ IM τ N k H L T (bump b (sp N).1))) ∧ ∀ c, c < 141 → τ c = σ c) {σ : xM} (h : Inv σ) : ∃ (r : Int32) (σ1 σ2 : xM), A σ = some (r, σ1) ∧ B σ1 = some (r, σ2) ∧ Inv σ2 := by
  obtain ⟨N, k, H, L, T, b, hW, hC, hM⟩ := h
  obtain ⟨τ, a1, a2, a3⟩ := hA σ N k H L T b hW hC
  obtain ⟨υ, b1, b2, b3⟩ := hB τ N k H L T b hW (IM_lo hM a3)
  refine ⟨_, τ, υ, a1, b1, ?_⟩
  obtain ⟨w1, w2, w3⟩ := hO N hW.1 hW.2.1
  rcases a2 with ⟨p1, p2⟩ | ⟨p1, p2, p3⟩
  · rcases b2 with ⟨q1, q2⟩ | ⟨q1, q2, q3⟩
    · exact ⟨_, _, _, _, _, _, IW_push hW w1 w2, IC_hi p2 b3, q2⟩
    · exact absurd p1 (er_ng q1)
  · rcases b2 with ⟨q1, q2⟩ | ⟨q1, q2, q3⟩
    · exact absurd q1 (er_ng p1)
    · exact ⟨_, _, _, _, _, _, hW, IC_hi p3 b3, q3⟩
