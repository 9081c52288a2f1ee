/-- what the model's catches read -/
def m_W (σ : xM) (N : xN) : Prop := (σ 142 0 = nI (N 0 0) ∧ σ 142 1 = nI (N 0 1)) ∧ (∀ a, a < N 0 0 → σ 142 (13 + a) = nI (N 2 a) ∧ σ 142 (21 + a) = nI (N 3 a) ∧ σ 142 (29 + a) = oI (N 4 a)) ∧ (∀ s, s < N 0 1 → σ 142 (101 + 4 * s) = nI (N 6 s) ∧ σ 142 (101 + 4 * s + 1) = nI (N 7 s) ∧ σ 142 (101 + 4 * s + 2) = nI (N 8 s) ∧ σ 142 (101 + 4 * s + 3) = nI (N 9 s)) ∧ s_Mw σ N
theorem oI0_lt {d : Nat} (h : d < 100000) : (oI 0 < nI d) = True := by
  apply eq_true
  rw [Int32.lt_iff_toInt_lt, nI_toInt (by omega)]
  have : (oI 0).toInt = -1 := by decide
  omega
theorem w_state {σ : xM} {N : xN} {s : Nat} (hw : s_wf N) (h : m_W σ N) (hs : s < N 0 1) : F_X11_stateOf (nI s) σ = some (nI (N 9 s)) := by
  have hS := hw.1.2.1
  obtain ⟨x1, x2, x3, x4⟩ := h.2.2.1 s hs
  unfold F_X11_stateOf
  simp (disch := omega) only [Nat.add_zero, Nat.zero_add, Nat.zero_mul, Nat.mul_zero, mc8, mc3, nU_f, nU_k, nU_e, xbd_some, xgd_true, xlet_eq, g_in, nI_clamp, nI_leI, nI_ltI, nI_eq, nI_add, pk_mul, pk_sub, rd_e, rd_k, rd_c, i10, i01, xsm_l, xsm_r, if_pos, if_neg, l_neg1, oI_e0, nI_e0, oI_nI, ne_eq, not_true_eq_false, not_false_eq_true, and_true, true_and, and_false, false_and, or_true, true_or, or_false, false_or, if_true, if_false, lit_0, lit_1, lit_2, lit_3, lit_4, lit_5, lit_6, lit_8, lit_9, lit_10, lit_12, lit_13, lit_21, lit_29, lit_30, lit_31, lit_37, lit_101, lit_120, lit_121, lit_127, lit_169, lit_64, lit_99, lit_999, lit_676, lit_845, lit_48, lit_57, lit_32, lit_59, x4]
theorem w_step {σ : xM} {N : xN} {s : Nat} (hw : s_wf N) (h : m_W σ N) (hs : s < N 0 1) : F_X11_stepOf (nI s) σ = some (nI (N 8 s)) := by
  have hS := hw.1.2.1
  obtain ⟨x1, x2, x3, x4⟩ := h.2.2.1 s hs
  unfold F_X11_stepOf
  simp (disch := omega) only [Nat.add_zero, Nat.zero_add, Nat.zero_mul, Nat.mul_zero, mc8, mc3, nU_f, nU_k, nU_e, xbd_some, xgd_true, xlet_eq, g_in, nI_clamp, nI_leI, nI_ltI, nI_eq, nI_add, pk_mul, pk_sub, rd_e, rd_k, rd_c, i10, i01, xsm_l, xsm_r, if_pos, if_neg, l_neg1, oI_e0, nI_e0, oI_nI, ne_eq, not_true_eq_false, not_false_eq_true, and_true, true_and, and_false, false_and, or_true, true_or, or_false, false_or, if_true, if_false, lit_0, lit_1, lit_2, lit_3, lit_4, lit_5, lit_6, lit_8, lit_9, lit_10, lit_12, lit_13, lit_21, lit_29, lit_30, lit_31, lit_37, lit_101, lit_120, lit_121, lit_127, lit_169, lit_64, lit_99, lit_999, lit_676, lit_845, lit_48, lit_57, lit_32, lit_59, x3]
theorem w_seems {σ : xM} {N : xN} {a s : Nat} (hw : s_wf N) (h : m_W σ N) (ha : a < N 0 0) (hs : s < N 0 1) : F_X11_seemsThen (nI a) (nI s) σ = some (oI (s_sm N (s_up N) (N 8) a s)) := by
  obtain ⟨hA, hS, hT, hQ⟩ := hw.1
  obtain ⟨x1, x2, x3, x4⟩ := h.2.2.1 s hs
  obtain ⟨h6, h7, h8, h9⟩ := hw.2.2.2.2.1 s hs
  have h3 := (hw.2.1 a ha).2.1
  have y2 := (h.2.1 a ha).2.1
  have hd := h.2.2.2 a (N 6 s) ha h6
  have hdl := s_di_lt hw.2.2.1 hA (show a < 8 by omega) (show N 6 s < 8 by omega)
  unfold F_X11_seemsThen F_X11_ofSite F_X11_way F_X11_stateOf F_X11_stepOf s_sm
  rw [s_up_bit hs]
  by_cases hz : s_di N a (N 6 s) = 0
  · rw [if_pos (Or.inl hz)]
    simp (disch := omega) only [Nat.add_zero, Nat.zero_add, Nat.zero_mul, Nat.mul_zero, mc8, mc3, nU_f, nU_k, nU_e, xbd_some, xgd_true, xlet_eq, g_in, nI_clamp, nI_leI, nI_ltI, nI_eq, nI_add, pk_mul, pk_sub, rd_e, rd_k, rd_c, i10, i01, xsm_l, xsm_r, if_pos, if_neg, l_neg1, oI_e0, nI_e0, oI_nI, ne_eq, not_true_eq_false, not_false_eq_true, and_true, true_and, and_false, false_and, or_true, true_or, or_false, false_or, if_true, if_false, lit_0, lit_1, lit_2, lit_3, lit_4, lit_5, lit_6, lit_8, lit_9, lit_10, lit_12, lit_13, lit_21, lit_29, lit_30, lit_31, lit_37, lit_101, lit_120, lit_121, lit_127, lit_169, lit_64, lit_99, lit_999, lit_676, lit_845, lit_48, lit_57, lit_32, lit_59, x1, hd]
  by_cases h92 : N 9 s = 2
  · rw [if_pos (Or.inr (by simp [h92]))]
    simp (disch := omega) only [Nat.add_zero, Nat.zero_add, Nat.zero_mul, Nat.mul_zero, mc8, mc3, nU_f, nU_k, nU_e, xbd_some, xgd_true, xlet_eq, g_in, nI_clamp, nI_leI, nI_ltI, nI_eq, nI_add, pk_mul, pk_sub, rd_e, rd_k, rd_c, i10, i01, xsm_l, xsm_r, if_pos, if_neg, l_neg1, oI_e0, nI_e0, oI_nI, ne_eq, not_true_eq_false, not_false_eq_true, and_true, true_and, and_false, false_and, or_true, true_or, or_false, false_or, if_true, if_false, lit_0, lit_1, lit_2, lit_3, lit_4, lit_5, lit_6, lit_8, lit_9, lit_10, lit_12, lit_13, lit_21, lit_29, lit_30, lit_31, lit_37, lit_101, lit_120, lit_121, lit_127, lit_169, lit_64, lit_99, lit_999, lit_676, lit_845, lit_48, lit_57, lit_32, lit_59, x1, hd, x4]
  rw [if_neg (by simp [hz, h92])]
  obtain ⟨d, hd'⟩ : ∃ d, s_di N a (N 6 s) = d + 1 := ⟨s_di N a (N 6 s) - 1, by omega⟩
  rw [hd'] at hd ⊢
  by_cases h31 : N 3 a = 1
  · rw [if_pos h31]
    simp (disch := omega) only [Nat.add_zero, Nat.zero_add, Nat.zero_mul, Nat.mul_zero, mc8, mc3, nU_f, nU_k, nU_e, xbd_some, xgd_true, xlet_eq, g_in, nI_clamp, nI_leI, nI_ltI, nI_eq, nI_add, pk_mul, pk_sub, rd_e, rd_k, rd_c, i10, i01, xsm_l, xsm_r, if_pos, if_neg, l_neg1, oI_e0, nI_e0, oI_nI, ne_eq, not_true_eq_false, not_false_eq_true, and_true, true_and, and_false, false_and, or_true, true_or, or_false, false_or, if_true, if_false, lit_0, lit_1, lit_2, lit_3, lit_4, lit_5, lit_6, lit_8, lit_9, lit_10, lit_12, lit_13, lit_21, lit_29, lit_30, lit_31, lit_37, lit_101, lit_120, lit_121, lit_127, lit_169, lit_64, lit_99, lit_999, lit_676, lit_845, lit_48, lit_57, lit_32, lit_59, x1, x3, hd, x4, oI_s, y2]
  · rw [if_neg h31]
    simp (disch := omega) only [Nat.add_zero, Nat.zero_add, Nat.zero_mul, Nat.mul_zero, mc8, mc3, nU_f, nU_k, nU_e, xbd_some, xgd_true, xlet_eq, g_in, nI_clamp, nI_leI, nI_ltI, nI_eq, nI_add, pk_mul, pk_sub, rd_e, rd_k, rd_c, i10, i01, xsm_l, xsm_r, if_pos, if_neg, l_neg1, oI_e0, nI_e0, oI_nI, ne_eq, not_true_eq_false, not_false_eq_true, and_true, true_and, and_false, false_and, or_true, true_or, or_false, false_or, if_true, if_false, lit_0, lit_1, lit_2, lit_3, lit_4, lit_5, lit_6, lit_8, lit_9, lit_10, lit_12, lit_13, lit_21, lit_29, lit_30, lit_31, lit_37, lit_101, lit_120, lit_121, lit_127, lit_169, lit_64, lit_99, lit_999, lit_676, lit_845, lit_48, lit_57, lit_32, lit_59, x1, x3, hd, x4, oI_s, y2]
    rw [show d + 1 + 3 * N 8 s = d + 3 * N 8 s + 1 by omega, oI_s]
theorem w_cb {σ : xM} {N : xN} {a : Nat} (hw : s_wf N) (h : m_W σ N) (ha : a < N 0 0) : L_X11_catchOf_30 (nI a) (-1) 0 σ = some (oI (s_cb N (s_up N) (N 8) a (N 0 1))) := by
  obtain ⟨hA, hS, hT, hQ⟩ := hw.1
  have c1 := h.1.2
  unfold L_X11_catchOf_30
  refine xfor (f := fun s : Int32 × Int32 => B_X11_catchOf_30 (nI a) s.1 s.2 σ) (fun k => (oI (s_cb N (s_up N) (N 8) a k), nI k)) (N 0 1) _ (fun k hk => ?_) ?_ 6000 0 (by omega) (by omega)
  · have e1 := w_seems hw h ha hk
    have l1 := s_sm_lt hw (u := s_up N) (st := N 8) ha hk (hw.2.2.2.2.1 k hk).2.2.1
    have hle := s_cb_le N (s_up N) (N 8) a k
    have st1 := w_step hw h hk
    have b1 := (hw.2.2.2.2.1 k hk).2.2.1
    have hn : s_cb N (s_up N) (N 8) a (k + 1) = if s_sm N (s_up N) (N 8) a k ≠ 0 ∧ (s_cb N (s_up N) (N 8) a k = 0 ∨ s_sm N (s_up N) (N 8) a k < s_sm N (s_up N) (N 8) a (s_cb N (s_up N) (N 8) a k - 1) ∨ (s_sm N (s_up N) (N 8) a k = s_sm N (s_up N) (N 8) a (s_cb N (s_up N) (N 8) a k - 1) ∧ N 8 k < N 8 (s_cb N (s_up N) (N 8) a k - 1))) then k + 1 else s_cb N (s_up N) (N 8) a k := rfl
    dsimp only
    unfold B_X11_catchOf_30
    by_cases z : s_cb N (s_up N) (N 8) a k = 0
    · rw [z] at hn ⊢
      by_cases y : s_sm N (s_up N) (N 8) a k = 0
      · rw [if_neg (by omega)] at hn
        rw [hn]
        rw [y] at e1
        simp (disch := omega) only [Nat.add_zero, Nat.zero_add, Nat.zero_mul, Nat.mul_zero, mc8, mc3, nU_f, nU_k, nU_e, xbd_some, xgd_true, xlet_eq, g_in, nI_clamp, nI_leI, nI_ltI, nI_eq, nI_add, pk_mul, pk_sub, rd_e, rd_k, rd_c, i10, i01, xsm_l, xsm_r, if_pos, if_neg, l_neg1, oI_e0, nI_e0, oI_nI, ne_eq, not_true_eq_false, not_false_eq_true, and_true, true_and, and_false, false_and, or_true, true_or, or_false, false_or, if_true, if_false, lit_0, lit_1, lit_2, lit_3, lit_4, lit_5, lit_6, lit_8, lit_9, lit_10, lit_12, lit_13, lit_21, lit_29, lit_30, lit_31, lit_37, lit_101, lit_120, lit_121, lit_127, lit_169, lit_64, lit_99, lit_999, lit_676, lit_845, lit_48, lit_57, lit_32, lit_59, c1, e1]
      · rw [if_pos (by omega)] at hn
        rw [hn]
        simp (disch := omega) only [Nat.add_zero, Nat.zero_add, Nat.zero_mul, Nat.mul_zero, mc8, mc3, nU_f, nU_k, nU_e, xbd_some, xgd_true, xlet_eq, g_in, nI_clamp, nI_leI, nI_ltI, nI_eq, nI_add, pk_mul, pk_sub, rd_e, rd_k, rd_c, i10, i01, xsm_l, xsm_r, if_pos, if_neg, l_neg1, oI_e0, nI_e0, oI_nI, ne_eq, not_true_eq_false, not_false_eq_true, and_true, true_and, and_false, false_and, or_true, true_or, or_false, false_or, if_true, if_false, lit_0, lit_1, lit_2, lit_3, lit_4, lit_5, lit_6, lit_8, lit_9, lit_10, lit_12, lit_13, lit_21, lit_29, lit_30, lit_31, lit_37, lit_101, lit_120, lit_121, lit_127, lit_169, lit_64, lit_99, lit_999, lit_676, lit_845, lit_48, lit_57, lit_32, lit_59, c1, e1, oI_s]
    · obtain ⟨c, hc⟩ : ∃ c, s_cb N (s_up N) (N 8) a k = c + 1 := ⟨s_cb N (s_up N) (N 8) a k - 1, by omega⟩
      have hp := s_cb_pos N (s_up N) (N 8) a k c hc
      rw [hc, Nat.add_sub_cancel] at hn
      rw [hc, oI_s]
      have hcS : c < N 0 1 := by omega
      have e2 := w_seems hw h ha hcS
      have l2 := s_sm_lt hw (u := s_up N) (st := N 8) ha hcS (hw.2.2.2.2.1 c hcS).2.2.1
      have st2 := w_step hw h hcS
      have b2 := (hw.2.2.2.2.1 c hcS).2.2.1
      generalize s_sm N (s_up N) (N 8) a k = p at *
      generalize s_sm N (s_up N) (N 8) a c = q at *
      obtain ⟨q, rfl⟩ : ∃ q', q = q' + 1 := ⟨q - 1, by omega⟩
      rw [oI_s] at e2
      by_cases y : p = 0
      · subst y
        rw [if_neg (by omega)] at hn
        rw [hn]
        simp (disch := omega) only [Nat.add_zero, Nat.zero_add, Nat.zero_mul, Nat.mul_zero, mc8, mc3, nU_f, nU_k, nU_e, xbd_some, xgd_true, xlet_eq, g_in, nI_clamp, nI_leI, nI_ltI, nI_eq, nI_add, pk_mul, pk_sub, rd_e, rd_k, rd_c, i10, i01, xsm_l, xsm_r, if_pos, if_neg, l_neg1, oI_e0, nI_e0, oI_nI, ne_eq, not_true_eq_false, not_false_eq_true, and_true, true_and, and_false, false_and, or_true, true_or, or_false, false_or, if_true, if_false, lit_0, lit_1, lit_2, lit_3, lit_4, lit_5, lit_6, lit_8, lit_9, lit_10, lit_12, lit_13, lit_21, lit_29, lit_30, lit_31, lit_37, lit_101, lit_120, lit_121, lit_127, lit_169, lit_64, lit_99, lit_999, lit_676, lit_845, lit_48, lit_57, lit_32, lit_59, c1, e1, e2, oI0_lt, oI_s]
      obtain ⟨p, rfl⟩ : ∃ p', p = p' + 1 := ⟨p - 1, by omega⟩
      rw [oI_s] at e1
      by_cases y1 : p < q
      · rw [if_pos (by omega)] at hn
        rw [hn]
        simp (disch := omega) only [Nat.add_zero, Nat.zero_add, Nat.zero_mul, Nat.mul_zero, mc8, mc3, nU_f, nU_k, nU_e, xbd_some, xgd_true, xlet_eq, g_in, nI_clamp, nI_leI, nI_ltI, nI_eq, nI_add, pk_mul, pk_sub, rd_e, rd_k, rd_c, i10, i01, xsm_l, xsm_r, if_pos, if_neg, l_neg1, oI_e0, nI_e0, oI_nI, ne_eq, not_true_eq_false, not_false_eq_true, and_true, true_and, and_false, false_and, or_true, true_or, or_false, false_or, if_true, if_false, lit_0, lit_1, lit_2, lit_3, lit_4, lit_5, lit_6, lit_8, lit_9, lit_10, lit_12, lit_13, lit_21, lit_29, lit_30, lit_31, lit_37, lit_101, lit_120, lit_121, lit_127, lit_169, lit_64, lit_99, lit_999, lit_676, lit_845, lit_48, lit_57, lit_32, lit_59, c1, e1, e2, oI_s]
      by_cases y2 : p = q
      · by_cases y3 : N 8 c ≤ N 8 k
        · rw [if_neg (by omega)] at hn
          rw [hn]
          simp (disch := omega) only [Nat.add_zero, Nat.zero_add, Nat.zero_mul, Nat.mul_zero, mc8, mc3, nU_f, nU_k, nU_e, xbd_some, xgd_true, xlet_eq, g_in, nI_clamp, nI_leI, nI_ltI, nI_eq, nI_add, pk_mul, pk_sub, rd_e, rd_k, rd_c, i10, i01, xsm_l, xsm_r, if_pos, if_neg, l_neg1, oI_e0, nI_e0, oI_nI, ne_eq, not_true_eq_false, not_false_eq_true, and_true, true_and, and_false, false_and, or_true, true_or, or_false, false_or, if_true, if_false, lit_0, lit_1, lit_2, lit_3, lit_4, lit_5, lit_6, lit_8, lit_9, lit_10, lit_12, lit_13, lit_21, lit_29, lit_30, lit_31, lit_37, lit_101, lit_120, lit_121, lit_127, lit_169, lit_64, lit_99, lit_999, lit_676, lit_845, lit_48, lit_57, lit_32, lit_59, c1, e1, e2, oI_s, st1, st2]
        · rw [if_pos (by omega)] at hn
          rw [hn]
          simp (disch := omega) only [Nat.add_zero, Nat.zero_add, Nat.zero_mul, Nat.mul_zero, mc8, mc3, nU_f, nU_k, nU_e, xbd_some, xgd_true, xlet_eq, g_in, nI_clamp, nI_leI, nI_ltI, nI_eq, nI_add, pk_mul, pk_sub, rd_e, rd_k, rd_c, i10, i01, xsm_l, xsm_r, if_pos, if_neg, l_neg1, oI_e0, nI_e0, oI_nI, ne_eq, not_true_eq_false, not_false_eq_true, and_true, true_and, and_false, false_and, or_true, true_or, or_false, false_or, if_true, if_false, lit_0, lit_1, lit_2, lit_3, lit_4, lit_5, lit_6, lit_8, lit_9, lit_10, lit_12, lit_13, lit_21, lit_29, lit_30, lit_31, lit_37, lit_101, lit_120, lit_121, lit_127, lit_169, lit_64, lit_99, lit_999, lit_676, lit_845, lit_48, lit_57, lit_32, lit_59, c1, e1, e2, oI_s, st1, st2]
      · rw [if_neg (by omega)] at hn
        rw [hn]
        simp (disch := omega) only [Nat.add_zero, Nat.zero_add, Nat.zero_mul, Nat.mul_zero, mc8, mc3, nU_f, nU_k, nU_e, xbd_some, xgd_true, xlet_eq, g_in, nI_clamp, nI_leI, nI_ltI, nI_eq, nI_add, pk_mul, pk_sub, rd_e, rd_k, rd_c, i10, i01, xsm_l, xsm_r, if_pos, if_neg, l_neg1, oI_e0, nI_e0, oI_nI, ne_eq, not_true_eq_false, not_false_eq_true, and_true, true_and, and_false, false_and, or_true, true_or, or_false, false_or, if_true, if_false, lit_0, lit_1, lit_2, lit_3, lit_4, lit_5, lit_6, lit_8, lit_9, lit_10, lit_12, lit_13, lit_21, lit_29, lit_30, lit_31, lit_37, lit_101, lit_120, lit_121, lit_127, lit_169, lit_64, lit_99, lit_999, lit_676, lit_845, lit_48, lit_57, lit_32, lit_59, c1, e1, e2, oI_s]
  · dsimp only
    unfold B_X11_catchOf_30
    simp (disch := omega) only [Nat.add_zero, Nat.zero_add, Nat.zero_mul, Nat.mul_zero, mc8, mc3, nU_f, nU_k, nU_e, xbd_some, xgd_true, xlet_eq, g_in, nI_clamp, nI_leI, nI_ltI, nI_eq, nI_add, pk_mul, pk_sub, rd_e, rd_k, rd_c, i10, i01, xsm_l, xsm_r, if_pos, if_neg, l_neg1, oI_e0, nI_e0, oI_nI, ne_eq, not_true_eq_false, not_false_eq_true, and_true, true_and, and_false, false_and, or_true, true_or, or_false, false_or, if_true, if_false, lit_0, lit_1, lit_2, lit_3, lit_4, lit_5, lit_6, lit_8, lit_9, lit_10, lit_12, lit_13, lit_21, lit_29, lit_30, lit_31, lit_37, lit_101, lit_120, lit_121, lit_127, lit_169, lit_64, lit_99, lit_999, lit_676, lit_845, lit_48, lit_57, lit_32, lit_59, c1]
theorem w_catch {σ : xM} {N : xN} {a : Nat} (hw : s_wf N) (h : m_W σ N) (ha : a < N 0 0) : F_X11_catchOf (nI a) σ = some (oI (s_ct N (s_up N) (N 8) a)) := by
  obtain ⟨hA, hS, hT, hQ⟩ := hw.1
  obtain ⟨y1, y2, y3⟩ := h.2.1 a ha
  obtain ⟨h2, h3, h4⟩ := hw.2.1 a ha
  have cb := w_cb hw h ha
  rw [show (-1 : Int32) = oI 0 from rfl, show (0 : Int32) = nI 0 from rfl] at cb
  have hct : s_ct N (s_up N) (N 8) a = if N 3 a = 2 ∧ N 4 a ≠ 0 ∧ s_sm N (s_up N) (N 8) a (N 4 a - 1) ≠ 0 then N 4 a else s_cb N (s_up N) (N 8) a (N 0 1) := rfl
  unfold F_X11_catchOf
  by_cases hm : N 3 a = 2
  case neg =>
    rw [if_neg (by omega)] at hct
    simp (disch := omega) only [Nat.add_zero, Nat.zero_add, Nat.zero_mul, Nat.mul_zero, mc8, mc3, nU_f, nU_k, nU_e, xbd_some, xgd_true, xlet_eq, g_in, nI_clamp, nI_leI, nI_ltI, nI_eq, nI_add, pk_mul, pk_sub, rd_e, rd_k, rd_c, i10, i01, xsm_l, xsm_r, if_pos, if_neg, l_neg1, oI_e0, nI_e0, oI_nI, ne_eq, not_true_eq_false, not_false_eq_true, and_true, true_and, and_false, false_and, or_true, true_or, or_false, false_or, if_true, if_false, lit_0, lit_1, lit_2, lit_3, lit_4, lit_5, lit_6, lit_8, lit_9, lit_10, lit_12, lit_13, lit_21, lit_29, lit_30, lit_31, lit_37, lit_101, lit_120, lit_121, lit_127, lit_169, lit_64, lit_99, lit_999, lit_676, lit_845, lit_48, lit_57, lit_32, lit_59, y2, y3, cb, hct]
  by_cases hl : N 4 a = 0
  · rw [if_neg (by omega)] at hct
    rw [hl] at y3
    simp (disch := omega) only [Nat.add_zero, Nat.zero_add, Nat.zero_mul, Nat.mul_zero, mc8, mc3, nU_f, nU_k, nU_e, xbd_some, xgd_true, xlet_eq, g_in, nI_clamp, nI_leI, nI_ltI, nI_eq, nI_add, pk_mul, pk_sub, rd_e, rd_k, rd_c, i10, i01, xsm_l, xsm_r, if_pos, if_neg, l_neg1, oI_e0, nI_e0, oI_nI, ne_eq, not_true_eq_false, not_false_eq_true, and_true, true_and, and_false, false_and, or_true, true_or, or_false, false_or, if_true, if_false, lit_0, lit_1, lit_2, lit_3, lit_4, lit_5, lit_6, lit_8, lit_9, lit_10, lit_12, lit_13, lit_21, lit_29, lit_30, lit_31, lit_37, lit_101, lit_120, lit_121, lit_127, lit_169, lit_64, lit_99, lit_999, lit_676, lit_845, lit_48, lit_57, lit_32, lit_59, y2, y3, cb, hct]
  obtain ⟨c, hc⟩ : ∃ c, N 4 a = c + 1 := ⟨N 4 a - 1, by omega⟩
  rw [hc, oI_s] at y3
  have hcS : c < N 0 1 := by omega
  have e2 := w_seems hw h ha hcS
  have l2 := s_sm_lt hw (u := s_up N) (st := N 8) ha hcS (hw.2.2.2.2.1 c hcS).2.2.1
  rw [hc, Nat.add_sub_cancel] at hct
  by_cases z : s_sm N (s_up N) (N 8) a c = 0
  · rw [if_neg (by omega)] at hct
    rw [z] at e2
    simp (disch := omega) only [Nat.add_zero, Nat.zero_add, Nat.zero_mul, Nat.mul_zero, mc8, mc3, nU_f, nU_k, nU_e, xbd_some, xgd_true, xlet_eq, g_in, nI_clamp, nI_leI, nI_ltI, nI_eq, nI_add, pk_mul, pk_sub, rd_e, rd_k, rd_c, i10, i01, xsm_l, xsm_r, if_pos, if_neg, l_neg1, oI_e0, nI_e0, oI_nI, ne_eq, not_true_eq_false, not_false_eq_true, and_true, true_and, and_false, false_and, or_true, true_or, or_false, false_or, if_true, if_false, lit_0, lit_1, lit_2, lit_3, lit_4, lit_5, lit_6, lit_8, lit_9, lit_10, lit_12, lit_13, lit_21, lit_29, lit_30, lit_31, lit_37, lit_101, lit_120, lit_121, lit_127, lit_169, lit_64, lit_99, lit_999, lit_676, lit_845, lit_48, lit_57, lit_32, lit_59, y2, y3, cb, e2, hct]
  · rw [if_pos (by omega)] at hct
    simp (disch := omega) only [Nat.add_zero, Nat.zero_add, Nat.zero_mul, Nat.mul_zero, mc8, mc3, nU_f, nU_k, nU_e, xbd_some, xgd_true, xlet_eq, g_in, nI_clamp, nI_leI, nI_ltI, nI_eq, nI_add, pk_mul, pk_sub, rd_e, rd_k, rd_c, i10, i01, xsm_l, xsm_r, if_pos, if_neg, l_neg1, oI_e0, nI_e0, oI_nI, ne_eq, not_true_eq_false, not_false_eq_true, and_true, true_and, and_false, false_and, or_true, true_or, or_false, false_or, if_true, if_false, lit_0, lit_1, lit_2, lit_3, lit_4, lit_5, lit_6, lit_8, lit_9, lit_10, lit_12, lit_13, lit_21, lit_29, lit_30, lit_31, lit_37, lit_101, lit_120, lit_121, lit_127, lit_169, lit_64, lit_99, lit_999, lit_676, lit_845, lit_48, lit_57, lit_32, lit_59, y2, y3, cb, e2, hct, oI_s]
/-- sessions too -/
def m_S (σ : xM) (N : xN) : Prop := σ 142 2 = nI (N 0 2) ∧ ∀ i, i < N 0 2 → σ 142 (121 + 4 * i) = nI (N 10 i) ∧ σ 142 (121 + 4 * i + 1) = nI (N 11 i) ∧ σ 142 (121 + 4 * i + 2) = nI (N 12 i) ∧ σ 142 (121 + 4 * i + 3) = nI (N 13 i)
def m_Ct (σ : xM) (N : xN) : Prop := ∀ a, a < N 0 0 → σ 147 a = oI (s_ct N (s_up N) (N 8) a)
def e147 (σ τ : xM) : Prop := ∀ c, c ≠ 147 → τ c = σ c
theorem W_cg {σ τ : xM} {N : xN} (h : τ 142 = σ 142) (h2 : τ 146 = σ 146) (k : m_W σ N) : m_W τ N := by
  unfold m_W s_Mw at k ⊢
  rw [h, h2]
  exact k
theorem S_cg {σ τ : xM} {N : xN} (h : τ 142 = σ 142) (k : m_S σ N) : m_S τ N := by
  unfold m_S at k ⊢
  rw [h]
  exact k
theorem w_catches {σ : xM} {N : xN} (hw : s_wf N) (h : m_W σ N) : ∃ τ, F_X11_laysCatches σ = some τ ∧ e147 σ τ ∧ m_Ct τ N := by
  have hA := hw.1.1
  have hL : ∃ τ, L_X11_laysCatches_2 0 σ = some τ ∧ e147 σ τ ∧ m_Ct τ N := by
    unfold L_X11_laysCatches_2
    refine xloop_for (f := fun x : Int32 × xM => B_X11_laysCatches_2 x.1 x.2) (fun k x => x.1 = nI k ∧ e147 σ x.2 ∧ ∀ a, a < k → x.2 147 a = oI (s_ct N (s_up N) (N 8) a)) (fun τ => e147 σ τ ∧ m_Ct τ N) (N 0 0) ?_ ?_ 6000 0 (0, σ) (by omega) (by omega) ⟨rfl, fun _ _ => rfl, fun k hk => absurd hk (by omega)⟩
    · intro k ⟨v, τ⟩ hk ⟨h1, h2, h3⟩
      dsimp only at h1 h2 h3 ⊢
      subst h1
      left
      have hW : m_W τ N := W_cg (h2 142 (by omega)) (h2 146 (by omega)) h
      have c := w_catch hw hW hk
      have t0 := hW.1.1
      unfold B_X11_laysCatches_2
      simp (disch := omega) only [Nat.add_zero, Nat.zero_add, Nat.zero_mul, Nat.mul_zero, mc8, mc3, nU_f, nU_k, nU_e, xbd_some, xgd_true, xlet_eq, g_in, nI_clamp, nI_leI, nI_ltI, nI_eq, nI_add, pk_mul, pk_sub, rd_e, rd_k, rd_c, i10, i01, xsm_l, xsm_r, if_pos, if_neg, l_neg1, oI_e0, nI_e0, oI_nI, ne_eq, not_true_eq_false, not_false_eq_true, and_true, true_and, and_false, false_and, or_true, true_or, or_false, false_or, if_true, if_false, lit_0, lit_1, lit_2, lit_3, lit_4, lit_5, lit_6, lit_8, lit_9, lit_10, lit_12, lit_13, lit_21, lit_29, lit_30, lit_31, lit_37, lit_101, lit_120, lit_121, lit_127, lit_169, lit_64, lit_99, lit_999, lit_676, lit_845, lit_48, lit_57, lit_32, lit_59, t0, c]
      refine ⟨_, rfl, rfl, fun c hc => by simp (disch := omega) only [Nat.add_zero, Nat.zero_add, Nat.zero_mul, Nat.mul_zero, mc8, mc3, nU_f, nU_k, nU_e, xbd_some, xgd_true, xlet_eq, g_in, nI_clamp, nI_leI, nI_ltI, nI_eq, nI_add, pk_mul, pk_sub, rd_e, rd_k, rd_c, i10, i01, xsm_l, xsm_r, if_pos, if_neg, l_neg1, oI_e0, nI_e0, oI_nI, ne_eq, not_true_eq_false, not_false_eq_true, and_true, true_and, and_false, false_and, or_true, true_or, or_false, false_or, if_true, if_false, lit_0, lit_1, lit_2, lit_3, lit_4, lit_5, lit_6, lit_8, lit_9, lit_10, lit_12, lit_13, lit_21, lit_29, lit_30, lit_31, lit_37, lit_101, lit_120, lit_121, lit_127, lit_169, lit_64, lit_99, lit_999, lit_676, lit_845, lit_48, lit_57, lit_32, lit_59]; exact h2 c hc, fun a ha => ?_⟩
      by_cases e : a = k
      · subst e; simp (disch := omega) only [Nat.add_zero, Nat.zero_add, Nat.zero_mul, Nat.mul_zero, mc8, mc3, nU_f, nU_k, nU_e, xbd_some, xgd_true, xlet_eq, g_in, nI_clamp, nI_leI, nI_ltI, nI_eq, nI_add, pk_mul, pk_sub, rd_e, rd_k, rd_c, i10, i01, xsm_l, xsm_r, if_pos, if_neg, l_neg1, oI_e0, nI_e0, oI_nI, ne_eq, not_true_eq_false, not_false_eq_true, and_true, true_and, and_false, false_and, or_true, true_or, or_false, false_or, if_true, if_false, lit_0, lit_1, lit_2, lit_3, lit_4, lit_5, lit_6, lit_8, lit_9, lit_10, lit_12, lit_13, lit_21, lit_29, lit_30, lit_31, lit_37, lit_101, lit_120, lit_121, lit_127, lit_169, lit_64, lit_99, lit_999, lit_676, lit_845, lit_48, lit_57, lit_32, lit_59]
      · simp (disch := omega) only [Nat.add_zero, Nat.zero_add, Nat.zero_mul, Nat.mul_zero, mc8, mc3, nU_f, nU_k, nU_e, xbd_some, xgd_true, xlet_eq, g_in, nI_clamp, nI_leI, nI_ltI, nI_eq, nI_add, pk_mul, pk_sub, rd_e, rd_k, rd_c, i10, i01, xsm_l, xsm_r, if_pos, if_neg, l_neg1, oI_e0, nI_e0, oI_nI, ne_eq, not_true_eq_false, not_false_eq_true, and_true, true_and, and_false, false_and, or_true, true_or, or_false, false_or, if_true, if_false, lit_0, lit_1, lit_2, lit_3, lit_4, lit_5, lit_6, lit_8, lit_9, lit_10, lit_12, lit_13, lit_21, lit_29, lit_30, lit_31, lit_37, lit_101, lit_120, lit_121, lit_127, lit_169, lit_64, lit_99, lit_999, lit_676, lit_845, lit_48, lit_57, lit_32, lit_59]
        exact h3 a (by omega)
    · intro ⟨v, τ⟩ ⟨h1, h2, h3⟩
      dsimp only at h1 h2 h3 ⊢
      subst h1
      have hW : m_W τ N := W_cg (h2 142 (by omega)) (h2 146 (by omega)) h
      have t0 := hW.1.1
      unfold B_X11_laysCatches_2
      simp (disch := omega) only [Nat.add_zero, Nat.zero_add, Nat.zero_mul, Nat.mul_zero, mc8, mc3, nU_f, nU_k, nU_e, xbd_some, xgd_true, xlet_eq, g_in, nI_clamp, nI_leI, nI_ltI, nI_eq, nI_add, pk_mul, pk_sub, rd_e, rd_k, rd_c, i10, i01, xsm_l, xsm_r, if_pos, if_neg, l_neg1, oI_e0, nI_e0, oI_nI, ne_eq, not_true_eq_false, not_false_eq_true, and_true, true_and, and_false, false_and, or_true, true_or, or_false, false_or, if_true, if_false, lit_0, lit_1, lit_2, lit_3, lit_4, lit_5, lit_6, lit_8, lit_9, lit_10, lit_12, lit_13, lit_21, lit_29, lit_30, lit_31, lit_37, lit_101, lit_120, lit_121, lit_127, lit_169, lit_64, lit_99, lit_999, lit_676, lit_845, lit_48, lit_57, lit_32, lit_59, t0]
      exact ⟨_, rfl, h2, h3⟩
  obtain ⟨τ, g1, g2⟩ := hL
  refine ⟨τ, ?_, g2⟩
  unfold F_X11_laysCatches
  rw [xbd_s g1]
theorem w_sess {σ : xM} {N : xN} {i : Nat} (hT : N 0 2 ≤ 12) (h : m_S σ N) (hi : i < N 0 2) : F_X11_ofSession (nI i) (nI 0) σ = some (nI (N 10 i)) ∧ F_X11_ofSession (nI i) (nI 1) σ = some (nI (N 11 i)) ∧ F_X11_ofSession (nI i) (nI 2) σ = some (nI (N 12 i)) ∧ F_X11_ofSession (nI i) (nI 3) σ = some (nI (N 13 i)) := by
  obtain ⟨x1, x2, x3, x4⟩ := h.2 i hi
  unfold F_X11_ofSession
  refine ⟨?_, ?_, ?_, ?_⟩
  · simp (disch := omega) only [Nat.add_zero, Nat.zero_add, Nat.zero_mul, Nat.mul_zero, mc8, mc3, nU_f, nU_k, nU_e, xbd_some, xgd_true, xlet_eq, g_in, nI_clamp, nI_leI, nI_ltI, nI_eq, nI_add, pk_mul, pk_sub, rd_e, rd_k, rd_c, i10, i01, xsm_l, xsm_r, if_pos, if_neg, l_neg1, oI_e0, nI_e0, oI_nI, ne_eq, not_true_eq_false, not_false_eq_true, and_true, true_and, and_false, false_and, or_true, true_or, or_false, false_or, if_true, if_false, lit_0, lit_1, lit_2, lit_3, lit_4, lit_5, lit_6, lit_8, lit_9, lit_10, lit_12, lit_13, lit_21, lit_29, lit_30, lit_31, lit_37, lit_101, lit_120, lit_121, lit_127, lit_169, lit_64, lit_99, lit_999, lit_676, lit_845, lit_48, lit_57, lit_32, lit_59, x1]
  · simp (disch := omega) only [Nat.add_zero, Nat.zero_add, Nat.zero_mul, Nat.mul_zero, mc8, mc3, nU_f, nU_k, nU_e, xbd_some, xgd_true, xlet_eq, g_in, nI_clamp, nI_leI, nI_ltI, nI_eq, nI_add, pk_mul, pk_sub, rd_e, rd_k, rd_c, i10, i01, xsm_l, xsm_r, if_pos, if_neg, l_neg1, oI_e0, nI_e0, oI_nI, ne_eq, not_true_eq_false, not_false_eq_true, and_true, true_and, and_false, false_and, or_true, true_or, or_false, false_or, if_true, if_false, lit_0, lit_1, lit_2, lit_3, lit_4, lit_5, lit_6, lit_8, lit_9, lit_10, lit_12, lit_13, lit_21, lit_29, lit_30, lit_31, lit_37, lit_101, lit_120, lit_121, lit_127, lit_169, lit_64, lit_99, lit_999, lit_676, lit_845, lit_48, lit_57, lit_32, lit_59, x2]
  · simp (disch := omega) only [Nat.add_zero, Nat.zero_add, Nat.zero_mul, Nat.mul_zero, mc8, mc3, nU_f, nU_k, nU_e, xbd_some, xgd_true, xlet_eq, g_in, nI_clamp, nI_leI, nI_ltI, nI_eq, nI_add, pk_mul, pk_sub, rd_e, rd_k, rd_c, i10, i01, xsm_l, xsm_r, if_pos, if_neg, l_neg1, oI_e0, nI_e0, oI_nI, ne_eq, not_true_eq_false, not_false_eq_true, and_true, true_and, and_false, false_and, or_true, true_or, or_false, false_or, if_true, if_false, lit_0, lit_1, lit_2, lit_3, lit_4, lit_5, lit_6, lit_8, lit_9, lit_10, lit_12, lit_13, lit_21, lit_29, lit_30, lit_31, lit_37, lit_101, lit_120, lit_121, lit_127, lit_169, lit_64, lit_99, lit_999, lit_676, lit_845, lit_48, lit_57, lit_32, lit_59, x3]
  · simp (disch := omega) only [Nat.add_zero, Nat.zero_add, Nat.zero_mul, Nat.mul_zero, mc8, mc3, nU_f, nU_k, nU_e, xbd_some, xgd_true, xlet_eq, g_in, nI_clamp, nI_leI, nI_ltI, nI_eq, nI_add, pk_mul, pk_sub, rd_e, rd_k, rd_c, i10, i01, xsm_l, xsm_r, if_pos, if_neg, l_neg1, oI_e0, nI_e0, oI_nI, ne_eq, not_true_eq_false, not_false_eq_true, and_true, true_and, and_false, false_and, or_true, true_or, or_false, false_or, if_true, if_false, lit_0, lit_1, lit_2, lit_3, lit_4, lit_5, lit_6, lit_8, lit_9, lit_10, lit_12, lit_13, lit_21, lit_29, lit_30, lit_31, lit_37, lit_101, lit_120, lit_121, lit_127, lit_169, lit_64, lit_99, lit_999, lit_676, lit_845, lit_48, lit_57, lit_32, lit_59, x4]
def v_car (N : xN) (i : Nat) : Nat := if s_ct N (s_up N) (N 8) (N 10 i) = N 11 i + 1 then 0 else 1
theorem w_carried {σ : xM} {N : xN} {i : Nat} (hw : s_wf N) (h : m_S σ N) (hc : m_Ct σ N) (hi : i < N 0 2) : F_X11_isCarried (nI i) σ = some (nI (v_car N i)) := by
  obtain ⟨hA, hS, hT, hQ⟩ := hw.1
  obtain ⟨x1, x2, x3, x4⟩ := w_sess hT h hi
  obtain ⟨b1, b2, b3⟩ := hw.2.2.2.2.2.1 i hi
  have y := hc _ b1
  have hl := s_ct_lt hw (u := s_up N) (st := N 8) b1
  unfold F_X11_isCarried v_car
  by_cases e : s_ct N (s_up N) (N 8) (N 10 i) = N 11 i + 1
  · simp (disch := omega) only [Nat.add_zero, Nat.zero_add, Nat.zero_mul, Nat.mul_zero, mc8, mc3, nU_f, nU_k, nU_e, xbd_some, xgd_true, xlet_eq, g_in, nI_clamp, nI_leI, nI_ltI, nI_eq, nI_add, pk_mul, pk_sub, rd_e, rd_k, rd_c, i10, i01, xsm_l, xsm_r, if_pos, if_neg, l_neg1, oI_e0, nI_e0, oI_nI, ne_eq, not_true_eq_false, not_false_eq_true, and_true, true_and, and_false, false_and, or_true, true_or, or_false, false_or, if_true, if_false, lit_0, lit_1, lit_2, lit_3, lit_4, lit_5, lit_6, lit_8, lit_9, lit_10, lit_12, lit_13, lit_21, lit_29, lit_30, lit_31, lit_37, lit_101, lit_120, lit_121, lit_127, lit_169, lit_64, lit_99, lit_999, lit_676, lit_845, lit_48, lit_57, lit_32, lit_59, x1, x2, y]
  · simp (disch := omega) only [Nat.add_zero, Nat.zero_add, Nat.zero_mul, Nat.mul_zero, mc8, mc3, nU_f, nU_k, nU_e, xbd_some, xgd_true, xlet_eq, g_in, nI_clamp, nI_leI, nI_ltI, nI_eq, nI_add, pk_mul, pk_sub, rd_e, rd_k, rd_c, i10, i01, xsm_l, xsm_r, if_pos, if_neg, l_neg1, oI_e0, nI_e0, oI_nI, ne_eq, not_true_eq_false, not_false_eq_true, and_true, true_and, and_false, false_and, or_true, true_or, or_false, false_or, if_true, if_false, lit_0, lit_1, lit_2, lit_3, lit_4, lit_5, lit_6, lit_8, lit_9, lit_10, lit_12, lit_13, lit_21, lit_29, lit_30, lit_31, lit_37, lit_101, lit_120, lit_121, lit_127, lit_169, lit_64, lit_99, lit_999, lit_676, lit_845, lit_48, lit_57, lit_32, lit_59, x1, x2, y]
theorem w_load {σ : xM} {N : xN} {s : Nat} (hw : s_wf N) (hW : m_W σ N) (h : m_S σ N) (hc : m_Ct σ N) (hs : s < N 0 1) : F_X11_load (nI s) σ = some (nI (s_ld N (s_up N) (N 8) s)) := by
  obtain ⟨hA, hS, hT, hQ⟩ := hw.1
  have c0 := hW.1.1
  have c2 := h.1
  have hL1 : L_X11_load_4 (nI s) 0 0 σ = some (nI (s_la N (s_up N) (N 8) s (N 0 0))) := by
    unfold L_X11_load_4
    refine xfor (f := fun x : Int32 × Int32 => B_X11_load_4 (nI s) x.1 x.2 σ) (fun k => (nI (s_la N (s_up N) (N 8) s k), nI k)) (N 0 0) _ (fun k hk => ?_) ?_ 6000 0 (by omega) (by omega)
    · have y := hc k hk
      have hl := s_ct_lt hw (u := s_up N) (st := N 8) hk
      obtain ⟨y1, y2, y3⟩ := hW.2.1 k hk
      have hla : s_la N (s_up N) (N 8) s (k + 1) = s_la N (s_up N) (N 8) s k + (if s_ct N (s_up N) (N 8) k = s + 1 then N 2 k else 0) := rfl
      dsimp only
      rw [hla]
      unfold B_X11_load_4
      by_cases e : s_ct N (s_up N) (N 8) k = s + 1
      · simp (disch := omega) only [Nat.add_zero, Nat.zero_add, Nat.zero_mul, Nat.mul_zero, mc8, mc3, nU_f, nU_k, nU_e, xbd_some, xgd_true, xlet_eq, g_in, nI_clamp, nI_leI, nI_ltI, nI_eq, nI_add, pk_mul, pk_sub, rd_e, rd_k, rd_c, i10, i01, xsm_l, xsm_r, if_pos, if_neg, l_neg1, oI_e0, nI_e0, oI_nI, ne_eq, not_true_eq_false, not_false_eq_true, and_true, true_and, and_false, false_and, or_true, true_or, or_false, false_or, if_true, if_false, lit_0, lit_1, lit_2, lit_3, lit_4, lit_5, lit_6, lit_8, lit_9, lit_10, lit_12, lit_13, lit_21, lit_29, lit_30, lit_31, lit_37, lit_101, lit_120, lit_121, lit_127, lit_169, lit_64, lit_99, lit_999, lit_676, lit_845, lit_48, lit_57, lit_32, lit_59, c0, y, y1]
      · simp (disch := omega) only [Nat.add_zero, Nat.zero_add, Nat.zero_mul, Nat.mul_zero, mc8, mc3, nU_f, nU_k, nU_e, xbd_some, xgd_true, xlet_eq, g_in, nI_clamp, nI_leI, nI_ltI, nI_eq, nI_add, pk_mul, pk_sub, rd_e, rd_k, rd_c, i10, i01, xsm_l, xsm_r, if_pos, if_neg, l_neg1, oI_e0, nI_e0, oI_nI, ne_eq, not_true_eq_false, not_false_eq_true, and_true, true_and, and_false, false_and, or_true, true_or, or_false, false_or, if_true, if_false, lit_0, lit_1, lit_2, lit_3, lit_4, lit_5, lit_6, lit_8, lit_9, lit_10, lit_12, lit_13, lit_21, lit_29, lit_30, lit_31, lit_37, lit_101, lit_120, lit_121, lit_127, lit_169, lit_64, lit_99, lit_999, lit_676, lit_845, lit_48, lit_57, lit_32, lit_59, c0, y, y1]
    · dsimp only
      unfold B_X11_load_4
      simp (disch := omega) only [Nat.add_zero, Nat.zero_add, Nat.zero_mul, Nat.mul_zero, mc8, mc3, nU_f, nU_k, nU_e, xbd_some, xgd_true, xlet_eq, g_in, nI_clamp, nI_leI, nI_ltI, nI_eq, nI_add, pk_mul, pk_sub, rd_e, rd_k, rd_c, i10, i01, xsm_l, xsm_r, if_pos, if_neg, l_neg1, oI_e0, nI_e0, oI_nI, ne_eq, not_true_eq_false, not_false_eq_true, and_true, true_and, and_false, false_and, or_true, true_or, or_false, false_or, if_true, if_false, lit_0, lit_1, lit_2, lit_3, lit_4, lit_5, lit_6, lit_8, lit_9, lit_10, lit_12, lit_13, lit_21, lit_29, lit_30, lit_31, lit_37, lit_101, lit_120, lit_121, lit_127, lit_169, lit_64, lit_99, lit_999, lit_676, lit_845, lit_48, lit_57, lit_32, lit_59, c0]
  have hL2 : L_X11_load_31 (nI s) (nI (s_la N (s_up N) (N 8) s (N 0 0))) 0 σ = some (nI (s_ld N (s_up N) (N 8) s)) := by
    unfold L_X11_load_31 s_ld
    refine xfor (f := fun x : Int32 × Int32 => B_X11_load_31 (nI s) x.1 x.2 σ) (fun k => (nI (s_la N (s_up N) (N 8) s (N 0 0) + s_ls N (s_up N) (N 8) s k), nI k)) (N 0 2) _ (fun k hk => ?_) ?_ 6000 0 (by omega) (by omega)
    · obtain ⟨x1, x2, x3, x4⟩ := w_sess hT h hk
      obtain ⟨b1, b2, b3⟩ := hw.2.2.2.2.2.1 k hk
      have ca := w_carried hw h hc hk
      have hls : s_ls N (s_up N) (N 8) s (k + 1) = s_ls N (s_up N) (N 8) s k + (if N 11 k = s ∧ s_ct N (s_up N) (N 8) (N 10 k) ≠ s + 1 then N 12 k else 0) := rfl
      dsimp only
      unfold B_X11_load_31
      unfold v_car at ca
      by_cases e : N 11 k = s
      · rw [e] at ca
        by_cases e2 : s_ct N (s_up N) (N 8) (N 10 k) = s + 1
        · rw [if_neg (by omega)] at hls
          rw [if_pos e2] at ca
          rw [hls]
          simp (disch := omega) only [Nat.add_zero, Nat.zero_add, Nat.zero_mul, Nat.mul_zero, mc8, mc3, nU_f, nU_k, nU_e, xbd_some, xgd_true, xlet_eq, g_in, nI_clamp, nI_leI, nI_ltI, nI_eq, nI_add, pk_mul, pk_sub, rd_e, rd_k, rd_c, i10, i01, xsm_l, xsm_r, if_pos, if_neg, l_neg1, oI_e0, nI_e0, oI_nI, ne_eq, not_true_eq_false, not_false_eq_true, and_true, true_and, and_false, false_and, or_true, true_or, or_false, false_or, if_true, if_false, lit_0, lit_1, lit_2, lit_3, lit_4, lit_5, lit_6, lit_8, lit_9, lit_10, lit_12, lit_13, lit_21, lit_29, lit_30, lit_31, lit_37, lit_101, lit_120, lit_121, lit_127, lit_169, lit_64, lit_99, lit_999, lit_676, lit_845, lit_48, lit_57, lit_32, lit_59, c2, x2, x3, ca]
        · rw [if_pos (by omega)] at hls
          rw [if_neg e2] at ca
          rw [hls]
          simp (disch := omega) only [Nat.add_zero, Nat.zero_add, Nat.zero_mul, Nat.mul_zero, mc8, mc3, nU_f, nU_k, nU_e, xbd_some, xgd_true, xlet_eq, g_in, nI_clamp, nI_leI, nI_ltI, nI_eq, nI_add, pk_mul, pk_sub, rd_e, rd_k, rd_c, i10, i01, xsm_l, xsm_r, if_pos, if_neg, l_neg1, oI_e0, nI_e0, oI_nI, ne_eq, not_true_eq_false, not_false_eq_true, and_true, true_and, and_false, false_and, or_true, true_or, or_false, false_or, if_true, if_false, lit_0, lit_1, lit_2, lit_3, lit_4, lit_5, lit_6, lit_8, lit_9, lit_10, lit_12, lit_13, lit_21, lit_29, lit_30, lit_31, lit_37, lit_101, lit_120, lit_121, lit_127, lit_169, lit_64, lit_99, lit_999, lit_676, lit_845, lit_48, lit_57, lit_32, lit_59, c2, x2, x3, ca, Nat.add_assoc]
      · rw [if_neg (by omega)] at hls
        rw [hls]
        simp (disch := omega) only [Nat.add_zero, Nat.zero_add, Nat.zero_mul, Nat.mul_zero, mc8, mc3, nU_f, nU_k, nU_e, xbd_some, xgd_true, xlet_eq, g_in, nI_clamp, nI_leI, nI_ltI, nI_eq, nI_add, pk_mul, pk_sub, rd_e, rd_k, rd_c, i10, i01, xsm_l, xsm_r, if_pos, if_neg, l_neg1, oI_e0, nI_e0, oI_nI, ne_eq, not_true_eq_false, not_false_eq_true, and_true, true_and, and_false, false_and, or_true, true_or, or_false, false_or, if_true, if_false, lit_0, lit_1, lit_2, lit_3, lit_4, lit_5, lit_6, lit_8, lit_9, lit_10, lit_12, lit_13, lit_21, lit_29, lit_30, lit_31, lit_37, lit_101, lit_120, lit_121, lit_127, lit_169, lit_64, lit_99, lit_999, lit_676, lit_845, lit_48, lit_57, lit_32, lit_59, c2, x2]
    · dsimp only
      unfold B_X11_load_31
      simp (disch := omega) only [Nat.add_zero, Nat.zero_add, Nat.zero_mul, Nat.mul_zero, mc8, mc3, nU_f, nU_k, nU_e, xbd_some, xgd_true, xlet_eq, g_in, nI_clamp, nI_leI, nI_ltI, nI_eq, nI_add, pk_mul, pk_sub, rd_e, rd_k, rd_c, i10, i01, xsm_l, xsm_r, if_pos, if_neg, l_neg1, oI_e0, nI_e0, oI_nI, ne_eq, not_true_eq_false, not_false_eq_true, and_true, true_and, and_false, false_and, or_true, true_or, or_false, false_or, if_true, if_false, lit_0, lit_1, lit_2, lit_3, lit_4, lit_5, lit_6, lit_8, lit_9, lit_10, lit_12, lit_13, lit_21, lit_29, lit_30, lit_31, lit_37, lit_101, lit_120, lit_121, lit_127, lit_169, lit_64, lit_99, lit_999, lit_676, lit_845, lit_48, lit_57, lit_32, lit_59, c2]
  unfold F_X11_load
  rw [xbd_s hL1, xbd_s hL2]
def v_ov (N : xN) (s : Nat) : Nat := if s_ov N (s_up N) (N 8) s = true then 1 else 0
theorem w_isOver {σ : xM} {N : xN} {s : Nat} (hw : s_wf N) (hW : m_W σ N) (h : m_S σ N) (hc : m_Ct σ N) (hs : s < N 0 1) : F_X11_isOver (nI s) σ = some (nI (v_ov N s)) := by
  obtain ⟨hA, hS, hT, hQ⟩ := hw.1
  obtain ⟨b6, b7, b8, b9⟩ := hw.2.2.2.2.1 s hs
  obtain ⟨x1, x2, x3, x4⟩ := hW.2.2.1 s hs
  have e1 := w_state hw hW hs
  have e2 := w_load hw hW h hc hs
  have hl := s_ld_lt hw (s_up N) (N 8) s
  have e3 : F_X11_ofSite (nI s) (nI 1) σ = some (nI (N 7 s)) := by
    unfold F_X11_ofSite
    simp (disch := omega) only [Nat.add_zero, Nat.zero_add, Nat.zero_mul, Nat.mul_zero, mc8, mc3, nU_f, nU_k, nU_e, xbd_some, xgd_true, xlet_eq, g_in, nI_clamp, nI_leI, nI_ltI, nI_eq, nI_add, pk_mul, pk_sub, rd_e, rd_k, rd_c, i10, i01, xsm_l, xsm_r, if_pos, if_neg, l_neg1, oI_e0, nI_e0, oI_nI, ne_eq, not_true_eq_false, not_false_eq_true, and_true, true_and, and_false, false_and, or_true, true_or, or_false, false_or, if_true, if_false, lit_0, lit_1, lit_2, lit_3, lit_4, lit_5, lit_6, lit_8, lit_9, lit_10, lit_12, lit_13, lit_21, lit_29, lit_30, lit_31, lit_37, lit_101, lit_120, lit_121, lit_127, lit_169, lit_64, lit_99, lit_999, lit_676, lit_845, lit_48, lit_57, lit_32, lit_59, x2]
  unfold F_X11_isOver v_ov s_ov
  rw [s_up_bit hs]
  by_cases d1 : N 9 s = 2
  · simp (disch := omega) only [Nat.add_zero, Nat.zero_add, Nat.zero_mul, Nat.mul_zero, mc8, mc3, nU_f, nU_k, nU_e, xbd_some, xgd_true, xlet_eq, g_in, nI_clamp, nI_leI, nI_ltI, nI_eq, nI_add, pk_mul, pk_sub, rd_e, rd_k, rd_c, i10, i01, xsm_l, xsm_r, if_pos, if_neg, l_neg1, oI_e0, nI_e0, oI_nI, ne_eq, not_true_eq_false, not_false_eq_true, and_true, true_and, and_false, false_and, or_true, true_or, or_false, false_or, if_true, if_false, lit_0, lit_1, lit_2, lit_3, lit_4, lit_5, lit_6, lit_8, lit_9, lit_10, lit_12, lit_13, lit_21, lit_29, lit_30, lit_31, lit_37, lit_101, lit_120, lit_121, lit_127, lit_169, lit_64, lit_99, lit_999, lit_676, lit_845, lit_48, lit_57, lit_32, lit_59, e1]
    simp [d1]
  · by_cases d2 : s_ld N (s_up N) (N 8) s ≤ N 7 s
    · simp (disch := omega) only [Nat.add_zero, Nat.zero_add, Nat.zero_mul, Nat.mul_zero, mc8, mc3, nU_f, nU_k, nU_e, xbd_some, xgd_true, xlet_eq, g_in, nI_clamp, nI_leI, nI_ltI, nI_eq, nI_add, pk_mul, pk_sub, rd_e, rd_k, rd_c, i10, i01, xsm_l, xsm_r, if_pos, if_neg, l_neg1, oI_e0, nI_e0, oI_nI, ne_eq, not_true_eq_false, not_false_eq_true, and_true, true_and, and_false, false_and, or_true, true_or, or_false, false_or, if_true, if_false, lit_0, lit_1, lit_2, lit_3, lit_4, lit_5, lit_6, lit_8, lit_9, lit_10, lit_12, lit_13, lit_21, lit_29, lit_30, lit_31, lit_37, lit_101, lit_120, lit_121, lit_127, lit_169, lit_64, lit_99, lit_999, lit_676, lit_845, lit_48, lit_57, lit_32, lit_59, e1, e2, e3]
      rw [if_neg (by simp; omega)]
    · simp (disch := omega) only [Nat.add_zero, Nat.zero_add, Nat.zero_mul, Nat.mul_zero, mc8, mc3, nU_f, nU_k, nU_e, xbd_some, xgd_true, xlet_eq, g_in, nI_clamp, nI_leI, nI_ltI, nI_eq, nI_add, pk_mul, pk_sub, rd_e, rd_k, rd_c, i10, i01, xsm_l, xsm_r, if_pos, if_neg, l_neg1, oI_e0, nI_e0, oI_nI, ne_eq, not_true_eq_false, not_false_eq_true, and_true, true_and, and_false, false_and, or_true, true_or, or_false, false_or, if_true, if_false, lit_0, lit_1, lit_2, lit_3, lit_4, lit_5, lit_6, lit_8, lit_9, lit_10, lit_12, lit_13, lit_21, lit_29, lit_30, lit_31, lit_37, lit_101, lit_120, lit_121, lit_127, lit_169, lit_64, lit_99, lit_999, lit_676, lit_845, lit_48, lit_57, lit_32, lit_59, e1, e2, e3]
      rw [if_pos (by simp [d1]; omega)]
theorem w_over {σ : xM} {N : xN} (hw : s_wf N) (hW : m_W σ N) (h : m_S σ N) : ∃ τ, F_X11_over σ = some (nI (s_om N (s_up N) (N 8)), τ) ∧ e147 σ τ ∧ m_Ct τ N := by
  obtain ⟨hA, hS, hT, hQ⟩ := hw.1
  obtain ⟨τ, g1, g2, g3⟩ := w_catches hw hW
  have hWt : m_W τ N := W_cg (g2 142 (by omega)) (g2 146 (by omega)) hW
  have hSt : m_S τ N := S_cg (g2 142 (by omega)) h
  have c1 := hWt.1.2
  have hL : L_X11_over_6 0 0 τ = some (nI (s_om N (s_up N) (N 8))) := by
    unfold L_X11_over_6 s_om
    refine xfor (f := fun x : Int32 × Int32 => B_X11_over_6 x.1 x.2 τ) (fun k => (nI (xmk (s_ov N (s_up N) (N 8)) k), nI k)) (N 0 1) _ (fun k hk => ?_) ?_ 6000 0 (by omega) (by omega)
    · have e := w_isOver hw hWt hSt g3 hk
      have hx := xmk_lt (s_ov N (s_up N) (N 8)) k
      have h0 : nI (xmk (s_ov N (s_up N) (N 8)) k) ||| nI 0 = nI (xmk (s_ov N (s_up N) (N 8)) k) := Int32.or_zero
      dsimp only
      unfold B_X11_over_6
      unfold v_ov at e
      by_cases ho : s_ov N (s_up N) (N 8) k = true
      · rw [if_pos ho] at e
        rw [xmk_t ho]
        simp (disch := omega) only [Nat.add_zero, Nat.zero_add, Nat.zero_mul, Nat.mul_zero, mc8, mc3, nU_f, nU_k, nU_e, xbd_some, xgd_true, xlet_eq, g_in, nI_clamp, nI_leI, nI_ltI, nI_eq, nI_add, pk_mul, pk_sub, rd_e, rd_k, rd_c, i10, i01, xsm_l, xsm_r, if_pos, if_neg, l_neg1, oI_e0, nI_e0, oI_nI, ne_eq, not_true_eq_false, not_false_eq_true, and_true, true_and, and_false, false_and, or_true, true_or, or_false, false_or, if_true, if_false, lit_0, lit_1, lit_2, lit_3, lit_4, lit_5, lit_6, lit_8, lit_9, lit_10, lit_12, lit_13, lit_21, lit_29, lit_30, lit_31, lit_37, lit_101, lit_120, lit_121, lit_127, lit_169, lit_64, lit_99, lit_999, lit_676, lit_845, lit_48, lit_57, lit_32, lit_59, c1, e, shl1, orp]
      · rw [if_neg ho] at e
        rw [xmk_f (by simpa using ho)]
        simp (disch := omega) only [Nat.add_zero, Nat.zero_add, Nat.zero_mul, Nat.mul_zero, mc8, mc3, nU_f, nU_k, nU_e, xbd_some, xgd_true, xlet_eq, g_in, nI_clamp, nI_leI, nI_ltI, nI_eq, nI_add, pk_mul, pk_sub, rd_e, rd_k, rd_c, i10, i01, xsm_l, xsm_r, if_pos, if_neg, l_neg1, oI_e0, nI_e0, oI_nI, ne_eq, not_true_eq_false, not_false_eq_true, and_true, true_and, and_false, false_and, or_true, true_or, or_false, false_or, if_true, if_false, lit_0, lit_1, lit_2, lit_3, lit_4, lit_5, lit_6, lit_8, lit_9, lit_10, lit_12, lit_13, lit_21, lit_29, lit_30, lit_31, lit_37, lit_101, lit_120, lit_121, lit_127, lit_169, lit_64, lit_99, lit_999, lit_676, lit_845, lit_48, lit_57, lit_32, lit_59, c1, e, h0]
    · dsimp only
      unfold B_X11_over_6
      simp (disch := omega) only [Nat.add_zero, Nat.zero_add, Nat.zero_mul, Nat.mul_zero, mc8, mc3, nU_f, nU_k, nU_e, xbd_some, xgd_true, xlet_eq, g_in, nI_clamp, nI_leI, nI_ltI, nI_eq, nI_add, pk_mul, pk_sub, rd_e, rd_k, rd_c, i10, i01, xsm_l, xsm_r, if_pos, if_neg, l_neg1, oI_e0, nI_e0, oI_nI, ne_eq, not_true_eq_false, not_false_eq_true, and_true, true_and, and_false, false_and, or_true, true_or, or_false, false_or, if_true, if_false, lit_0, lit_1, lit_2, lit_3, lit_4, lit_5, lit_6, lit_8, lit_9, lit_10, lit_12, lit_13, lit_21, lit_29, lit_30, lit_31, lit_37, lit_101, lit_120, lit_121, lit_127, lit_169, lit_64, lit_99, lit_999, lit_676, lit_845, lit_48, lit_57, lit_32, lit_59, c1]
  refine ⟨τ, ?_, g2, g3⟩
  unfold F_X11_over
  rw [xbd_s g1, xbd_s hL]
