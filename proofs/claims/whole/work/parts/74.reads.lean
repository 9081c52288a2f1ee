theorem ps_let {T : Nat → Nat} : ∀ i, (∀ o, o < p_s T i 0 4 → nb (p_s T i 1 o) ≠ 0) ∧ (p_s T i 0 1 ≠ 0 → nb (p_s T i 1 (p_s T i 0 4)) ≠ 0)
  | 0 => ⟨fun o ho => absurd ho (by show ¬ o < 0; omega), fun h => absurd rfl h⟩
  | i + 1 => by
    obtain ⟨h1, h2⟩ := ps_let (T := T) i
    show (∀ o, o < p_st (p_s T i) i (T i) 0 4 → nb (p_st (p_s T i) i (T i) 1 o) ≠ 0) ∧ (p_st (p_s T i) i (T i) 0 1 ≠ 0 → nb (p_st (p_s T i) i (T i) 1 (p_st (p_s T i) i (T i) 0 4)) ≠ 0)
    generalize p_s T i = P at *
    generalize T i = c
    by_cases h0 : P 0 0 = 0
    case neg => rw [ps_f h0]; exact ⟨h1, h2⟩
    by_cases hc : c = 32
    · rw [ps_sp h0 hc]
      simp (disch := omega) only [Nat.add_zero, Nat.zero_add, Nat.zero_mul, Nat.mul_zero, mc8, mc3, nU_f, nU_k, nU_e, xbd_some, xgd_true, xlet_eq, g_in, nI_clamp, nI_leI, nI_ltI, nI_eq, nI_add, pk_mul, pk_sub, rd_e, rd_k, rd_c, i10, i01, xsm_l, xsm_r, if_pos, if_neg, l_neg1, oI_e0, nI_e0, oI_nI, ne_eq, not_true_eq_false, not_false_eq_true, and_true, true_and, and_false, false_and, or_true, true_or, or_false, false_or, if_true, if_false, lit_0, lit_1, lit_2, lit_3, lit_4, lit_5, lit_6, lit_8, lit_9, lit_10, lit_12, lit_13, lit_21, lit_29, lit_30, lit_31, lit_37, lit_101, lit_120, lit_121, lit_127, lit_169, lit_64, lit_99, lit_999, lit_676, lit_845, lit_48, lit_57, lit_32, lit_59]
      exact ⟨h1, h2⟩
    by_cases hd : P 0 1 = 0
    · by_cases hn : nb c = 0
      · rw [ps_l0 h0 hc hd hn]
        simp (disch := omega) only [Nat.add_zero, Nat.zero_add, Nat.zero_mul, Nat.mul_zero, mc8, mc3, nU_f, nU_k, nU_e, xbd_some, xgd_true, xlet_eq, g_in, nI_clamp, nI_leI, nI_ltI, nI_eq, nI_add, pk_mul, pk_sub, rd_e, rd_k, rd_c, i10, i01, xsm_l, xsm_r, if_pos, if_neg, l_neg1, oI_e0, nI_e0, oI_nI, ne_eq, not_true_eq_false, not_false_eq_true, and_true, true_and, and_false, false_and, or_true, true_or, or_false, false_or, if_true, if_false, lit_0, lit_1, lit_2, lit_3, lit_4, lit_5, lit_6, lit_8, lit_9, lit_10, lit_12, lit_13, lit_21, lit_29, lit_30, lit_31, lit_37, lit_101, lit_120, lit_121, lit_127, lit_169, lit_64, lit_99, lit_999, lit_676, lit_845, lit_48, lit_57, lit_32, lit_59]
        exact ⟨h1, h2⟩
      · rw [ps_l1 h0 hc hd hn]
        refine ⟨fun o ho => ?_, fun _ => ?_⟩
        · try simp (disch := omega) only [Nat.add_zero, Nat.zero_add, Nat.zero_mul, Nat.mul_zero, mc8, mc3, nU_f, nU_k, nU_e, xbd_some, xgd_true, xlet_eq, g_in, nI_clamp, nI_leI, nI_ltI, nI_eq, nI_add, pk_mul, pk_sub, rd_e, rd_k, rd_c, i10, i01, xsm_l, xsm_r, if_pos, if_neg, l_neg1, oI_e0, nI_e0, oI_nI, ne_eq, not_true_eq_false, not_false_eq_true, and_true, true_and, and_false, false_and, or_true, true_or, or_false, false_or, if_true, if_false, lit_0, lit_1, lit_2, lit_3, lit_4, lit_5, lit_6, lit_8, lit_9, lit_10, lit_12, lit_13, lit_21, lit_29, lit_30, lit_31, lit_37, lit_101, lit_120, lit_121, lit_127, lit_169, lit_64, lit_99, lit_999, lit_676, lit_845, lit_48, lit_57, lit_32, lit_59] at ho
          simp (disch := omega) only [Nat.add_zero, Nat.zero_add, Nat.zero_mul, Nat.mul_zero, mc8, mc3, nU_f, nU_k, nU_e, xbd_some, xgd_true, xlet_eq, g_in, nI_clamp, nI_leI, nI_ltI, nI_eq, nI_add, pk_mul, pk_sub, rd_e, rd_k, rd_c, i10, i01, xsm_l, xsm_r, if_pos, if_neg, l_neg1, oI_e0, nI_e0, oI_nI, ne_eq, not_true_eq_false, not_false_eq_true, and_true, true_and, and_false, false_and, or_true, true_or, or_false, false_or, if_true, if_false, lit_0, lit_1, lit_2, lit_3, lit_4, lit_5, lit_6, lit_8, lit_9, lit_10, lit_12, lit_13, lit_21, lit_29, lit_30, lit_31, lit_37, lit_101, lit_120, lit_121, lit_127, lit_169, lit_64, lit_99, lit_999, lit_676, lit_845, lit_48, lit_57, lit_32, lit_59]
          exact h1 o ho
        · simp (disch := omega) only [Nat.add_zero, Nat.zero_add, Nat.zero_mul, Nat.mul_zero, mc8, mc3, nU_f, nU_k, nU_e, xbd_some, xgd_true, xlet_eq, g_in, nI_clamp, nI_leI, nI_ltI, nI_eq, nI_add, pk_mul, pk_sub, rd_e, rd_k, rd_c, i10, i01, xsm_l, xsm_r, if_pos, if_neg, l_neg1, oI_e0, nI_e0, oI_nI, ne_eq, not_true_eq_false, not_false_eq_true, and_true, true_and, and_false, false_and, or_true, true_or, or_false, false_or, if_true, if_false, lit_0, lit_1, lit_2, lit_3, lit_4, lit_5, lit_6, lit_8, lit_9, lit_10, lit_12, lit_13, lit_21, lit_29, lit_30, lit_31, lit_37, lit_101, lit_120, lit_121, lit_127, lit_169, lit_64, lit_99, lit_999, lit_676, lit_845, lit_48, lit_57, lit_32, lit_59]
          exact hn
    by_cases he : c = 59 ∧ P 0 2 = P 0 1
    · rw [ps_e h0 hd he.1 he.2]
      refine ⟨fun o ho => ?_, fun z => ?_⟩
      · try simp (disch := omega) only [Nat.add_zero, Nat.zero_add, Nat.zero_mul, Nat.mul_zero, mc8, mc3, nU_f, nU_k, nU_e, xbd_some, xgd_true, xlet_eq, g_in, nI_clamp, nI_leI, nI_ltI, nI_eq, nI_add, pk_mul, pk_sub, rd_e, rd_k, rd_c, i10, i01, xsm_l, xsm_r, if_pos, if_neg, l_neg1, oI_e0, nI_e0, oI_nI, ne_eq, not_true_eq_false, not_false_eq_true, and_true, true_and, and_false, false_and, or_true, true_or, or_false, false_or, if_true, if_false, lit_0, lit_1, lit_2, lit_3, lit_4, lit_5, lit_6, lit_8, lit_9, lit_10, lit_12, lit_13, lit_21, lit_29, lit_30, lit_31, lit_37, lit_101, lit_120, lit_121, lit_127, lit_169, lit_64, lit_99, lit_999, lit_676, lit_845, lit_48, lit_57, lit_32, lit_59] at ho
        simp (disch := omega) only [Nat.add_zero, Nat.zero_add, Nat.zero_mul, Nat.mul_zero, mc8, mc3, nU_f, nU_k, nU_e, xbd_some, xgd_true, xlet_eq, g_in, nI_clamp, nI_leI, nI_ltI, nI_eq, nI_add, pk_mul, pk_sub, rd_e, rd_k, rd_c, i10, i01, xsm_l, xsm_r, if_pos, if_neg, l_neg1, oI_e0, nI_e0, oI_nI, ne_eq, not_true_eq_false, not_false_eq_true, and_true, true_and, and_false, false_and, or_true, true_or, or_false, false_or, if_true, if_false, lit_0, lit_1, lit_2, lit_3, lit_4, lit_5, lit_6, lit_8, lit_9, lit_10, lit_12, lit_13, lit_21, lit_29, lit_30, lit_31, lit_37, lit_101, lit_120, lit_121, lit_127, lit_169, lit_64, lit_99, lit_999, lit_676, lit_845, lit_48, lit_57, lit_32, lit_59]
        by_cases e : o = P 0 4
        · rw [e]; exact h2 hd
        · exact h1 o (by omega)
      · try simp (disch := omega) only [Nat.add_zero, Nat.zero_add, Nat.zero_mul, Nat.mul_zero, mc8, mc3, nU_f, nU_k, nU_e, xbd_some, xgd_true, xlet_eq, g_in, nI_clamp, nI_leI, nI_ltI, nI_eq, nI_add, pk_mul, pk_sub, rd_e, rd_k, rd_c, i10, i01, xsm_l, xsm_r, if_pos, if_neg, l_neg1, oI_e0, nI_e0, oI_nI, ne_eq, not_true_eq_false, not_false_eq_true, and_true, true_and, and_false, false_and, or_true, true_or, or_false, false_or, if_true, if_false, lit_0, lit_1, lit_2, lit_3, lit_4, lit_5, lit_6, lit_8, lit_9, lit_10, lit_12, lit_13, lit_21, lit_29, lit_30, lit_31, lit_37, lit_101, lit_120, lit_121, lit_127, lit_169, lit_64, lit_99, lit_999, lit_676, lit_845, lit_48, lit_57, lit_32, lit_59] at z
    by_cases hx : (48 ≤ c ∧ c ≤ 57) ∧ P 0 3 < 3 ∧ (P 0 3 ≠ 0 ∨ P 0 2 < P 0 1)
    · by_cases hg : P 0 3 = 0
      · rw [ps_d0 h0 hd hx.1 hg (by omega)]
        simp (disch := omega) only [Nat.add_zero, Nat.zero_add, Nat.zero_mul, Nat.mul_zero, mc8, mc3, nU_f, nU_k, nU_e, xbd_some, xgd_true, xlet_eq, g_in, nI_clamp, nI_leI, nI_ltI, nI_eq, nI_add, pk_mul, pk_sub, rd_e, rd_k, rd_c, i10, i01, xsm_l, xsm_r, if_pos, if_neg, l_neg1, oI_e0, nI_e0, oI_nI, ne_eq, not_true_eq_false, not_false_eq_true, and_true, true_and, and_false, false_and, or_true, true_or, or_false, false_or, if_true, if_false, lit_0, lit_1, lit_2, lit_3, lit_4, lit_5, lit_6, lit_8, lit_9, lit_10, lit_12, lit_13, lit_21, lit_29, lit_30, lit_31, lit_37, lit_101, lit_120, lit_121, lit_127, lit_169, lit_64, lit_99, lit_999, lit_676, lit_845, lit_48, lit_57, lit_32, lit_59]
        exact ⟨h1, h2⟩
      · rw [ps_d1 h0 hd hx.1 hg hx.2.1]
        simp (disch := omega) only [Nat.add_zero, Nat.zero_add, Nat.zero_mul, Nat.mul_zero, mc8, mc3, nU_f, nU_k, nU_e, xbd_some, xgd_true, xlet_eq, g_in, nI_clamp, nI_leI, nI_ltI, nI_eq, nI_add, pk_mul, pk_sub, rd_e, rd_k, rd_c, i10, i01, xsm_l, xsm_r, if_pos, if_neg, l_neg1, oI_e0, nI_e0, oI_nI, ne_eq, not_true_eq_false, not_false_eq_true, and_true, true_and, and_false, false_and, or_true, true_or, or_false, false_or, if_true, if_false, lit_0, lit_1, lit_2, lit_3, lit_4, lit_5, lit_6, lit_8, lit_9, lit_10, lit_12, lit_13, lit_21, lit_29, lit_30, lit_31, lit_37, lit_101, lit_120, lit_121, lit_127, lit_169, lit_64, lit_99, lit_999, lit_676, lit_845, lit_48, lit_57, lit_32, lit_59]
        exact ⟨h1, h2⟩
    · rw [ps_x h0 hc hd he hx]
      simp (disch := omega) only [Nat.add_zero, Nat.zero_add, Nat.zero_mul, Nat.mul_zero, mc8, mc3, nU_f, nU_k, nU_e, xbd_some, xgd_true, xlet_eq, g_in, nI_clamp, nI_leI, nI_ltI, nI_eq, nI_add, pk_mul, pk_sub, rd_e, rd_k, rd_c, i10, i01, xsm_l, xsm_r, if_pos, if_neg, l_neg1, oI_e0, nI_e0, oI_nI, ne_eq, not_true_eq_false, not_false_eq_true, and_true, true_and, and_false, false_and, or_true, true_or, or_false, false_or, if_true, if_false, lit_0, lit_1, lit_2, lit_3, lit_4, lit_5, lit_6, lit_8, lit_9, lit_10, lit_12, lit_13, lit_21, lit_29, lit_30, lit_31, lit_37, lit_101, lit_120, lit_121, lit_127, lit_169, lit_64, lit_99, lit_999, lit_676, lit_845, lit_48, lit_57, lit_32, lit_59]
      exact ⟨h1, h2⟩
theorem ps_stab1 {T : Nat → Nat} (i : Nat) : p_s T i 0 4 ≤ p_s T (i + 1) 0 4 ∧ ∀ o, o < p_s T i 0 4 → p_s T (i + 1) 1 o = p_s T i 1 o ∧ ∀ k, k < 3 → p_s T (i + 1) 2 (3 * o + k) = p_s T i 2 (3 * o + k) := by
  obtain ⟨q1, q2, q3⟩ := pinv_s T i
  show p_s T i 0 4 ≤ p_st (p_s T i) i (T i) 0 4 ∧ ∀ o, o < p_s T i 0 4 → p_st (p_s T i) i (T i) 1 o = p_s T i 1 o ∧ ∀ k, k < 3 → p_st (p_s T i) i (T i) 2 (3 * o + k) = p_s T i 2 (3 * o + k)
  generalize p_s T i = P at *
  generalize T i = c
  by_cases h0 : P 0 0 = 0
  case neg => rw [ps_f h0]; exact ⟨Nat.le_refl _, fun o _ => ⟨rfl, fun _ _ => rfl⟩⟩
  by_cases hc : c = 32
  · rw [ps_sp h0 hc]
    refine ⟨by simp (disch := omega) only [Nat.add_zero, Nat.zero_add, Nat.zero_mul, Nat.mul_zero, mc8, mc3, nU_f, nU_k, nU_e, xbd_some, xgd_true, xlet_eq, g_in, nI_clamp, nI_leI, nI_ltI, nI_eq, nI_add, pk_mul, pk_sub, rd_e, rd_k, rd_c, i10, i01, xsm_l, xsm_r, if_pos, if_neg, l_neg1, oI_e0, nI_e0, oI_nI, ne_eq, not_true_eq_false, not_false_eq_true, and_true, true_and, and_false, false_and, or_true, true_or, or_false, false_or, if_true, if_false, lit_0, lit_1, lit_2, lit_3, lit_4, lit_5, lit_6, lit_8, lit_9, lit_10, lit_12, lit_13, lit_21, lit_29, lit_30, lit_31, lit_37, lit_101, lit_120, lit_121, lit_127, lit_169, lit_64, lit_99, lit_999, lit_676, lit_845, lit_48, lit_57, lit_32, lit_59]; omega, fun o ho => ⟨by simp (disch := omega) only [Nat.add_zero, Nat.zero_add, Nat.zero_mul, Nat.mul_zero, mc8, mc3, nU_f, nU_k, nU_e, xbd_some, xgd_true, xlet_eq, g_in, nI_clamp, nI_leI, nI_ltI, nI_eq, nI_add, pk_mul, pk_sub, rd_e, rd_k, rd_c, i10, i01, xsm_l, xsm_r, if_pos, if_neg, l_neg1, oI_e0, nI_e0, oI_nI, ne_eq, not_true_eq_false, not_false_eq_true, and_true, true_and, and_false, false_and, or_true, true_or, or_false, false_or, if_true, if_false, lit_0, lit_1, lit_2, lit_3, lit_4, lit_5, lit_6, lit_8, lit_9, lit_10, lit_12, lit_13, lit_21, lit_29, lit_30, lit_31, lit_37, lit_101, lit_120, lit_121, lit_127, lit_169, lit_64, lit_99, lit_999, lit_676, lit_845, lit_48, lit_57, lit_32, lit_59], fun k hk => by simp (disch := omega) only [Nat.add_zero, Nat.zero_add, Nat.zero_mul, Nat.mul_zero, mc8, mc3, nU_f, nU_k, nU_e, xbd_some, xgd_true, xlet_eq, g_in, nI_clamp, nI_leI, nI_ltI, nI_eq, nI_add, pk_mul, pk_sub, rd_e, rd_k, rd_c, i10, i01, xsm_l, xsm_r, if_pos, if_neg, l_neg1, oI_e0, nI_e0, oI_nI, ne_eq, not_true_eq_false, not_false_eq_true, and_true, true_and, and_false, false_and, or_true, true_or, or_false, false_or, if_true, if_false, lit_0, lit_1, lit_2, lit_3, lit_4, lit_5, lit_6, lit_8, lit_9, lit_10, lit_12, lit_13, lit_21, lit_29, lit_30, lit_31, lit_37, lit_101, lit_120, lit_121, lit_127, lit_169, lit_64, lit_99, lit_999, lit_676, lit_845, lit_48, lit_57, lit_32, lit_59]⟩⟩
  by_cases hd : P 0 1 = 0
  · by_cases hn : nb c = 0
    · rw [ps_l0 h0 hc hd hn]
      refine ⟨by simp (disch := omega) only [Nat.add_zero, Nat.zero_add, Nat.zero_mul, Nat.mul_zero, mc8, mc3, nU_f, nU_k, nU_e, xbd_some, xgd_true, xlet_eq, g_in, nI_clamp, nI_leI, nI_ltI, nI_eq, nI_add, pk_mul, pk_sub, rd_e, rd_k, rd_c, i10, i01, xsm_l, xsm_r, if_pos, if_neg, l_neg1, oI_e0, nI_e0, oI_nI, ne_eq, not_true_eq_false, not_false_eq_true, and_true, true_and, and_false, false_and, or_true, true_or, or_false, false_or, if_true, if_false, lit_0, lit_1, lit_2, lit_3, lit_4, lit_5, lit_6, lit_8, lit_9, lit_10, lit_12, lit_13, lit_21, lit_29, lit_30, lit_31, lit_37, lit_101, lit_120, lit_121, lit_127, lit_169, lit_64, lit_99, lit_999, lit_676, lit_845, lit_48, lit_57, lit_32, lit_59]; omega, fun o ho => ⟨by simp (disch := omega) only [Nat.add_zero, Nat.zero_add, Nat.zero_mul, Nat.mul_zero, mc8, mc3, nU_f, nU_k, nU_e, xbd_some, xgd_true, xlet_eq, g_in, nI_clamp, nI_leI, nI_ltI, nI_eq, nI_add, pk_mul, pk_sub, rd_e, rd_k, rd_c, i10, i01, xsm_l, xsm_r, if_pos, if_neg, l_neg1, oI_e0, nI_e0, oI_nI, ne_eq, not_true_eq_false, not_false_eq_true, and_true, true_and, and_false, false_and, or_true, true_or, or_false, false_or, if_true, if_false, lit_0, lit_1, lit_2, lit_3, lit_4, lit_5, lit_6, lit_8, lit_9, lit_10, lit_12, lit_13, lit_21, lit_29, lit_30, lit_31, lit_37, lit_101, lit_120, lit_121, lit_127, lit_169, lit_64, lit_99, lit_999, lit_676, lit_845, lit_48, lit_57, lit_32, lit_59], fun k hk => by simp (disch := omega) only [Nat.add_zero, Nat.zero_add, Nat.zero_mul, Nat.mul_zero, mc8, mc3, nU_f, nU_k, nU_e, xbd_some, xgd_true, xlet_eq, g_in, nI_clamp, nI_leI, nI_ltI, nI_eq, nI_add, pk_mul, pk_sub, rd_e, rd_k, rd_c, i10, i01, xsm_l, xsm_r, if_pos, if_neg, l_neg1, oI_e0, nI_e0, oI_nI, ne_eq, not_true_eq_false, not_false_eq_true, and_true, true_and, and_false, false_and, or_true, true_or, or_false, false_or, if_true, if_false, lit_0, lit_1, lit_2, lit_3, lit_4, lit_5, lit_6, lit_8, lit_9, lit_10, lit_12, lit_13, lit_21, lit_29, lit_30, lit_31, lit_37, lit_101, lit_120, lit_121, lit_127, lit_169, lit_64, lit_99, lit_999, lit_676, lit_845, lit_48, lit_57, lit_32, lit_59]⟩⟩
    · rw [ps_l1 h0 hc hd hn]
      refine ⟨by simp (disch := omega) only [Nat.add_zero, Nat.zero_add, Nat.zero_mul, Nat.mul_zero, mc8, mc3, nU_f, nU_k, nU_e, xbd_some, xgd_true, xlet_eq, g_in, nI_clamp, nI_leI, nI_ltI, nI_eq, nI_add, pk_mul, pk_sub, rd_e, rd_k, rd_c, i10, i01, xsm_l, xsm_r, if_pos, if_neg, l_neg1, oI_e0, nI_e0, oI_nI, ne_eq, not_true_eq_false, not_false_eq_true, and_true, true_and, and_false, false_and, or_true, true_or, or_false, false_or, if_true, if_false, lit_0, lit_1, lit_2, lit_3, lit_4, lit_5, lit_6, lit_8, lit_9, lit_10, lit_12, lit_13, lit_21, lit_29, lit_30, lit_31, lit_37, lit_101, lit_120, lit_121, lit_127, lit_169, lit_64, lit_99, lit_999, lit_676, lit_845, lit_48, lit_57, lit_32, lit_59]; omega, fun o ho => ⟨by simp (disch := omega) only [Nat.add_zero, Nat.zero_add, Nat.zero_mul, Nat.mul_zero, mc8, mc3, nU_f, nU_k, nU_e, xbd_some, xgd_true, xlet_eq, g_in, nI_clamp, nI_leI, nI_ltI, nI_eq, nI_add, pk_mul, pk_sub, rd_e, rd_k, rd_c, i10, i01, xsm_l, xsm_r, if_pos, if_neg, l_neg1, oI_e0, nI_e0, oI_nI, ne_eq, not_true_eq_false, not_false_eq_true, and_true, true_and, and_false, false_and, or_true, true_or, or_false, false_or, if_true, if_false, lit_0, lit_1, lit_2, lit_3, lit_4, lit_5, lit_6, lit_8, lit_9, lit_10, lit_12, lit_13, lit_21, lit_29, lit_30, lit_31, lit_37, lit_101, lit_120, lit_121, lit_127, lit_169, lit_64, lit_99, lit_999, lit_676, lit_845, lit_48, lit_57, lit_32, lit_59], fun k hk => by simp (disch := omega) only [Nat.add_zero, Nat.zero_add, Nat.zero_mul, Nat.mul_zero, mc8, mc3, nU_f, nU_k, nU_e, xbd_some, xgd_true, xlet_eq, g_in, nI_clamp, nI_leI, nI_ltI, nI_eq, nI_add, pk_mul, pk_sub, rd_e, rd_k, rd_c, i10, i01, xsm_l, xsm_r, if_pos, if_neg, l_neg1, oI_e0, nI_e0, oI_nI, ne_eq, not_true_eq_false, not_false_eq_true, and_true, true_and, and_false, false_and, or_true, true_or, or_false, false_or, if_true, if_false, lit_0, lit_1, lit_2, lit_3, lit_4, lit_5, lit_6, lit_8, lit_9, lit_10, lit_12, lit_13, lit_21, lit_29, lit_30, lit_31, lit_37, lit_101, lit_120, lit_121, lit_127, lit_169, lit_64, lit_99, lit_999, lit_676, lit_845, lit_48, lit_57, lit_32, lit_59]⟩⟩
  obtain ⟨d1, d2, d3⟩ := q3 hd
  by_cases he : c = 59 ∧ P 0 2 = P 0 1
  · rw [ps_e h0 hd he.1 he.2]
    refine ⟨by simp (disch := omega) only [Nat.add_zero, Nat.zero_add, Nat.zero_mul, Nat.mul_zero, mc8, mc3, nU_f, nU_k, nU_e, xbd_some, xgd_true, xlet_eq, g_in, nI_clamp, nI_leI, nI_ltI, nI_eq, nI_add, pk_mul, pk_sub, rd_e, rd_k, rd_c, i10, i01, xsm_l, xsm_r, if_pos, if_neg, l_neg1, oI_e0, nI_e0, oI_nI, ne_eq, not_true_eq_false, not_false_eq_true, and_true, true_and, and_false, false_and, or_true, true_or, or_false, false_or, if_true, if_false, lit_0, lit_1, lit_2, lit_3, lit_4, lit_5, lit_6, lit_8, lit_9, lit_10, lit_12, lit_13, lit_21, lit_29, lit_30, lit_31, lit_37, lit_101, lit_120, lit_121, lit_127, lit_169, lit_64, lit_99, lit_999, lit_676, lit_845, lit_48, lit_57, lit_32, lit_59]; omega, fun o ho => ⟨by simp (disch := omega) only [Nat.add_zero, Nat.zero_add, Nat.zero_mul, Nat.mul_zero, mc8, mc3, nU_f, nU_k, nU_e, xbd_some, xgd_true, xlet_eq, g_in, nI_clamp, nI_leI, nI_ltI, nI_eq, nI_add, pk_mul, pk_sub, rd_e, rd_k, rd_c, i10, i01, xsm_l, xsm_r, if_pos, if_neg, l_neg1, oI_e0, nI_e0, oI_nI, ne_eq, not_true_eq_false, not_false_eq_true, and_true, true_and, and_false, false_and, or_true, true_or, or_false, false_or, if_true, if_false, lit_0, lit_1, lit_2, lit_3, lit_4, lit_5, lit_6, lit_8, lit_9, lit_10, lit_12, lit_13, lit_21, lit_29, lit_30, lit_31, lit_37, lit_101, lit_120, lit_121, lit_127, lit_169, lit_64, lit_99, lit_999, lit_676, lit_845, lit_48, lit_57, lit_32, lit_59], fun k hk => by simp (disch := omega) only [Nat.add_zero, Nat.zero_add, Nat.zero_mul, Nat.mul_zero, mc8, mc3, nU_f, nU_k, nU_e, xbd_some, xgd_true, xlet_eq, g_in, nI_clamp, nI_leI, nI_ltI, nI_eq, nI_add, pk_mul, pk_sub, rd_e, rd_k, rd_c, i10, i01, xsm_l, xsm_r, if_pos, if_neg, l_neg1, oI_e0, nI_e0, oI_nI, ne_eq, not_true_eq_false, not_false_eq_true, and_true, true_and, and_false, false_and, or_true, true_or, or_false, false_or, if_true, if_false, lit_0, lit_1, lit_2, lit_3, lit_4, lit_5, lit_6, lit_8, lit_9, lit_10, lit_12, lit_13, lit_21, lit_29, lit_30, lit_31, lit_37, lit_101, lit_120, lit_121, lit_127, lit_169, lit_64, lit_99, lit_999, lit_676, lit_845, lit_48, lit_57, lit_32, lit_59]⟩⟩
  by_cases hx : (48 ≤ c ∧ c ≤ 57) ∧ P 0 3 < 3 ∧ (P 0 3 ≠ 0 ∨ P 0 2 < P 0 1)
  · by_cases hg : P 0 3 = 0
    · rw [ps_d0 h0 hd hx.1 hg (by omega)]
      refine ⟨by simp (disch := omega) only [Nat.add_zero, Nat.zero_add, Nat.zero_mul, Nat.mul_zero, mc8, mc3, nU_f, nU_k, nU_e, xbd_some, xgd_true, xlet_eq, g_in, nI_clamp, nI_leI, nI_ltI, nI_eq, nI_add, pk_mul, pk_sub, rd_e, rd_k, rd_c, i10, i01, xsm_l, xsm_r, if_pos, if_neg, l_neg1, oI_e0, nI_e0, oI_nI, ne_eq, not_true_eq_false, not_false_eq_true, and_true, true_and, and_false, false_and, or_true, true_or, or_false, false_or, if_true, if_false, lit_0, lit_1, lit_2, lit_3, lit_4, lit_5, lit_6, lit_8, lit_9, lit_10, lit_12, lit_13, lit_21, lit_29, lit_30, lit_31, lit_37, lit_101, lit_120, lit_121, lit_127, lit_169, lit_64, lit_99, lit_999, lit_676, lit_845, lit_48, lit_57, lit_32, lit_59]; omega, fun o ho => ⟨by simp (disch := omega) only [Nat.add_zero, Nat.zero_add, Nat.zero_mul, Nat.mul_zero, mc8, mc3, nU_f, nU_k, nU_e, xbd_some, xgd_true, xlet_eq, g_in, nI_clamp, nI_leI, nI_ltI, nI_eq, nI_add, pk_mul, pk_sub, rd_e, rd_k, rd_c, i10, i01, xsm_l, xsm_r, if_pos, if_neg, l_neg1, oI_e0, nI_e0, oI_nI, ne_eq, not_true_eq_false, not_false_eq_true, and_true, true_and, and_false, false_and, or_true, true_or, or_false, false_or, if_true, if_false, lit_0, lit_1, lit_2, lit_3, lit_4, lit_5, lit_6, lit_8, lit_9, lit_10, lit_12, lit_13, lit_21, lit_29, lit_30, lit_31, lit_37, lit_101, lit_120, lit_121, lit_127, lit_169, lit_64, lit_99, lit_999, lit_676, lit_845, lit_48, lit_57, lit_32, lit_59], fun k hk => by simp (disch := omega) only [Nat.add_zero, Nat.zero_add, Nat.zero_mul, Nat.mul_zero, mc8, mc3, nU_f, nU_k, nU_e, xbd_some, xgd_true, xlet_eq, g_in, nI_clamp, nI_leI, nI_ltI, nI_eq, nI_add, pk_mul, pk_sub, rd_e, rd_k, rd_c, i10, i01, xsm_l, xsm_r, if_pos, if_neg, l_neg1, oI_e0, nI_e0, oI_nI, ne_eq, not_true_eq_false, not_false_eq_true, and_true, true_and, and_false, false_and, or_true, true_or, or_false, false_or, if_true, if_false, lit_0, lit_1, lit_2, lit_3, lit_4, lit_5, lit_6, lit_8, lit_9, lit_10, lit_12, lit_13, lit_21, lit_29, lit_30, lit_31, lit_37, lit_101, lit_120, lit_121, lit_127, lit_169, lit_64, lit_99, lit_999, lit_676, lit_845, lit_48, lit_57, lit_32, lit_59]⟩⟩
    · rw [ps_d1 h0 hd hx.1 hg hx.2.1]
      have := d3 hg
      refine ⟨by simp (disch := omega) only [Nat.add_zero, Nat.zero_add, Nat.zero_mul, Nat.mul_zero, mc8, mc3, nU_f, nU_k, nU_e, xbd_some, xgd_true, xlet_eq, g_in, nI_clamp, nI_leI, nI_ltI, nI_eq, nI_add, pk_mul, pk_sub, rd_e, rd_k, rd_c, i10, i01, xsm_l, xsm_r, if_pos, if_neg, l_neg1, oI_e0, nI_e0, oI_nI, ne_eq, not_true_eq_false, not_false_eq_true, and_true, true_and, and_false, false_and, or_true, true_or, or_false, false_or, if_true, if_false, lit_0, lit_1, lit_2, lit_3, lit_4, lit_5, lit_6, lit_8, lit_9, lit_10, lit_12, lit_13, lit_21, lit_29, lit_30, lit_31, lit_37, lit_101, lit_120, lit_121, lit_127, lit_169, lit_64, lit_99, lit_999, lit_676, lit_845, lit_48, lit_57, lit_32, lit_59]; omega, fun o ho => ⟨by simp (disch := omega) only [Nat.add_zero, Nat.zero_add, Nat.zero_mul, Nat.mul_zero, mc8, mc3, nU_f, nU_k, nU_e, xbd_some, xgd_true, xlet_eq, g_in, nI_clamp, nI_leI, nI_ltI, nI_eq, nI_add, pk_mul, pk_sub, rd_e, rd_k, rd_c, i10, i01, xsm_l, xsm_r, if_pos, if_neg, l_neg1, oI_e0, nI_e0, oI_nI, ne_eq, not_true_eq_false, not_false_eq_true, and_true, true_and, and_false, false_and, or_true, true_or, or_false, false_or, if_true, if_false, lit_0, lit_1, lit_2, lit_3, lit_4, lit_5, lit_6, lit_8, lit_9, lit_10, lit_12, lit_13, lit_21, lit_29, lit_30, lit_31, lit_37, lit_101, lit_120, lit_121, lit_127, lit_169, lit_64, lit_99, lit_999, lit_676, lit_845, lit_48, lit_57, lit_32, lit_59], fun k hk => by simp (disch := omega) only [Nat.add_zero, Nat.zero_add, Nat.zero_mul, Nat.mul_zero, mc8, mc3, nU_f, nU_k, nU_e, xbd_some, xgd_true, xlet_eq, g_in, nI_clamp, nI_leI, nI_ltI, nI_eq, nI_add, pk_mul, pk_sub, rd_e, rd_k, rd_c, i10, i01, xsm_l, xsm_r, if_pos, if_neg, l_neg1, oI_e0, nI_e0, oI_nI, ne_eq, not_true_eq_false, not_false_eq_true, and_true, true_and, and_false, false_and, or_true, true_or, or_false, false_or, if_true, if_false, lit_0, lit_1, lit_2, lit_3, lit_4, lit_5, lit_6, lit_8, lit_9, lit_10, lit_12, lit_13, lit_21, lit_29, lit_30, lit_31, lit_37, lit_101, lit_120, lit_121, lit_127, lit_169, lit_64, lit_99, lit_999, lit_676, lit_845, lit_48, lit_57, lit_32, lit_59]⟩⟩
  · rw [ps_x h0 hc hd he hx]
    refine ⟨by simp (disch := omega) only [Nat.add_zero, Nat.zero_add, Nat.zero_mul, Nat.mul_zero, mc8, mc3, nU_f, nU_k, nU_e, xbd_some, xgd_true, xlet_eq, g_in, nI_clamp, nI_leI, nI_ltI, nI_eq, nI_add, pk_mul, pk_sub, rd_e, rd_k, rd_c, i10, i01, xsm_l, xsm_r, if_pos, if_neg, l_neg1, oI_e0, nI_e0, oI_nI, ne_eq, not_true_eq_false, not_false_eq_true, and_true, true_and, and_false, false_and, or_true, true_or, or_false, false_or, if_true, if_false, lit_0, lit_1, lit_2, lit_3, lit_4, lit_5, lit_6, lit_8, lit_9, lit_10, lit_12, lit_13, lit_21, lit_29, lit_30, lit_31, lit_37, lit_101, lit_120, lit_121, lit_127, lit_169, lit_64, lit_99, lit_999, lit_676, lit_845, lit_48, lit_57, lit_32, lit_59]; omega, fun o ho => ⟨by simp (disch := omega) only [Nat.add_zero, Nat.zero_add, Nat.zero_mul, Nat.mul_zero, mc8, mc3, nU_f, nU_k, nU_e, xbd_some, xgd_true, xlet_eq, g_in, nI_clamp, nI_leI, nI_ltI, nI_eq, nI_add, pk_mul, pk_sub, rd_e, rd_k, rd_c, i10, i01, xsm_l, xsm_r, if_pos, if_neg, l_neg1, oI_e0, nI_e0, oI_nI, ne_eq, not_true_eq_false, not_false_eq_true, and_true, true_and, and_false, false_and, or_true, true_or, or_false, false_or, if_true, if_false, lit_0, lit_1, lit_2, lit_3, lit_4, lit_5, lit_6, lit_8, lit_9, lit_10, lit_12, lit_13, lit_21, lit_29, lit_30, lit_31, lit_37, lit_101, lit_120, lit_121, lit_127, lit_169, lit_64, lit_99, lit_999, lit_676, lit_845, lit_48, lit_57, lit_32, lit_59], fun k hk => by simp (disch := omega) only [Nat.add_zero, Nat.zero_add, Nat.zero_mul, Nat.mul_zero, mc8, mc3, nU_f, nU_k, nU_e, xbd_some, xgd_true, xlet_eq, g_in, nI_clamp, nI_leI, nI_ltI, nI_eq, nI_add, pk_mul, pk_sub, rd_e, rd_k, rd_c, i10, i01, xsm_l, xsm_r, if_pos, if_neg, l_neg1, oI_e0, nI_e0, oI_nI, ne_eq, not_true_eq_false, not_false_eq_true, and_true, true_and, and_false, false_and, or_true, true_or, or_false, false_or, if_true, if_false, lit_0, lit_1, lit_2, lit_3, lit_4, lit_5, lit_6, lit_8, lit_9, lit_10, lit_12, lit_13, lit_21, lit_29, lit_30, lit_31, lit_37, lit_101, lit_120, lit_121, lit_127, lit_169, lit_64, lit_99, lit_999, lit_676, lit_845, lit_48, lit_57, lit_32, lit_59]⟩⟩
theorem ps_stab {T : Nat → Nat} {i : Nat} : ∀ j, i ≤ j → p_s T i 0 4 ≤ p_s T j 0 4 ∧ ∀ o, o < p_s T i 0 4 → p_s T j 1 o = p_s T i 1 o ∧ ∀ k, k < 3 → p_s T j 2 (3 * o + k) = p_s T i 2 (3 * o + k)
  | 0, h => by
    have : i = 0 := by omega
    rw [this]
    exact ⟨Nat.le_refl _, fun o _ => ⟨rfl, fun _ _ => rfl⟩⟩
  | j + 1, h => by
    by_cases e : i = j + 1
    · rw [e]
      exact ⟨Nat.le_refl _, fun o _ => ⟨rfl, fun _ _ => rfl⟩⟩
    · obtain ⟨a1, a2⟩ := ps_stab (T := T) (i := i) j (by omega)
      obtain ⟨b1, b2⟩ := ps_stab1 (T := T) j
      refine ⟨by omega, fun o ho => ?_⟩
      obtain ⟨c1, c2⟩ := a2 o ho
      obtain ⟨e1, e2⟩ := b2 o (by omega)
      exact ⟨e1.trans c1, fun k hk => (e2 k hk).trans (c2 k hk)⟩
/-- the orders of a text, one after the other -/
def o_sp (P : xN) (j : Nat) (N : xN) : Int32 × xN := sp_ord (P 1 j) (nI (P 2 (3 * j))) (nI (P 2 (3 * j + 1))) (nI (P 2 (3 * j + 2))) N
def o_N (P : xN) (N : xN) : Nat → xN
  | 0 => N
  | j + 1 => (o_sp P j (o_N P N j)).2
theorem o_wf {P N : xN} (hw : s_wf N) (hy : s_sy N) : ∀ j, s_wf (o_N P N j) ∧ s_sy (o_N P N j)
  | 0 => ⟨hw, hy⟩
  | j + 1 => by
    obtain ⟨h1, h2⟩ := o_wf (P := P) hw hy j
    obtain ⟨k1, k2, -⟩ := w_ord (P 1 j) (nI (P 2 (3 * j))) (nI (P 2 (3 * j + 1))) (nI (P 2 (3 * j + 2))) _ h1 h2
    exact ⟨k1, k2⟩
theorem f_markx {σ τ : xM} {k : Nat} {H : Nat → xN} {m : Nat} (h : I_h σ k H m) (e : F_X10_mark σ = some τ) : ∀ c, 129 ≤ c → c ≠ 132 → τ c = σ c := by
  obtain ⟨υ, g1, g2⟩ := mark_h h.1 h.2.2.2.1
  have m6 := h.1
  have e2 : F_X10_mark σ = some (xup υ 132 3 (nI 0)) := by
    unfold F_X10_mark F_X5_forget
    simp (disch := omega) only [Nat.add_zero, Nat.zero_add, Nat.zero_mul, Nat.mul_zero, mc8, mc3, nU_f, nU_k, nU_e, xbd_some, xgd_true, xlet_eq, g_in, nI_clamp, nI_leI, nI_ltI, nI_eq, nI_add, pk_mul, pk_sub, rd_e, rd_k, rd_c, i10, i01, xsm_l, xsm_r, if_pos, if_neg, l_neg1, oI_e0, nI_e0, oI_nI, ne_eq, not_true_eq_false, not_false_eq_true, and_true, true_and, and_false, false_and, or_true, true_or, or_false, false_or, if_true, if_false, lit_0, lit_1, lit_2, lit_3, lit_4, lit_5, lit_6, lit_8, lit_9, lit_10, lit_12, lit_13, lit_21, lit_29, lit_30, lit_31, lit_37, lit_101, lit_120, lit_121, lit_127, lit_169, lit_64, lit_99, lit_999, lit_676, lit_845, lit_48, lit_57, lit_32, lit_59, g1]
  rw [e2] at e
  obtain rfl := Option.some.inj e
  intro c hc h132
  simp (disch := omega) only [Nat.add_zero, Nat.zero_add, Nat.zero_mul, Nat.mul_zero, mc8, mc3, nU_f, nU_k, nU_e, xbd_some, xgd_true, xlet_eq, g_in, nI_clamp, nI_leI, nI_ltI, nI_eq, nI_add, pk_mul, pk_sub, rd_e, rd_k, rd_c, i10, i01, xsm_l, xsm_r, if_pos, if_neg, l_neg1, oI_e0, nI_e0, oI_nI, ne_eq, not_true_eq_false, not_false_eq_true, and_true, true_and, and_false, false_and, or_true, true_or, or_false, false_or, if_true, if_false, lit_0, lit_1, lit_2, lit_3, lit_4, lit_5, lit_6, lit_8, lit_9, lit_10, lit_12, lit_13, lit_21, lit_29, lit_30, lit_31, lit_37, lit_101, lit_120, lit_121, lit_127, lit_169, lit_64, lit_99, lit_999, lit_676, lit_845, lit_48, lit_57, lit_32, lit_59]
  exact g2.1 c (by omega)
theorem c_orders {σ : xM} {N : xN} {P : xN} (hw : s_wf N) (hy : s_sy N) (hO : P 0 4 ≤ 120) (hlet : ∀ o, o < P 0 4 → nb (P 1 o) ≠ 0) (hC : s_C σ 1 N) (hP : pC σ P) : ∃ e, L_X10_reads_15 (nI 0) σ = some e ∧ ((∃ j τ, e = .inl (nI j, τ) ∧ j < P 0 4 ∧ (∀ i, i < j → 0 ≤ (o_sp P i (o_N P N i)).1) ∧ ¬ 0 ≤ (o_sp P j (o_N P N j)).1 ∧ s_fr σ τ) ∨ (∃ τ, e = .inr τ ∧ (∀ i, i < P 0 4 → 0 ≤ (o_sp P i (o_N P N i)).1) ∧ s_C τ 1 (o_N P N (P 0 4)) ∧ s_fr σ τ)) := by
  obtain ⟨k1, -, k3⟩ := hP
  unfold L_X10_reads_15
  refine xloop_for (f := fun x : Int32 × xM => B_X10_reads_15 x.1 x.2) (fun j x => x.1 = nI j ∧ (∀ i, i < j → 0 ≤ (o_sp P i (o_N P N i)).1) ∧ s_C x.2 1 (o_N P N j) ∧ s_fr σ x.2) (fun e => (∃ j τ, e = .inl (nI j, τ) ∧ j < P 0 4 ∧ (∀ i, i < j → 0 ≤ (o_sp P i (o_N P N i)).1) ∧ ¬ 0 ≤ (o_sp P j (o_N P N j)).1 ∧ s_fr σ τ) ∨ (∃ τ, e = .inr τ ∧ (∀ i, i < P 0 4 → 0 ≤ (o_sp P i (o_N P N i)).1) ∧ s_C τ 1 (o_N P N (P 0 4)) ∧ s_fr σ τ)) (P 0 4) ?_ ?_ 6000 0 (nI 0, σ) (by omega) (by omega) ⟨rfl, fun i hi => absurd hi (by omega), hC, fr_rf σ⟩
  · intro j ⟨v, τ⟩ hj ⟨h1, h2, h3, h4⟩
    dsimp only at h1 h2 h3 h4 ⊢
    subst h1
    have e137 : τ 137 = σ 137 := h4 137 (by omega) (by omega) (by omega)
    have e139 : τ 139 = σ 139 := h4 139 (by omega) (by omega) (by omega)
    have e140 : τ 140 = σ 140 := h4 140 (by omega) (by omega) (by omega)
    have t1 : τ 137 1 = nI (P 0 4) := by rw [e137]; exact k1
    obtain ⟨q1, q2⟩ := k3 j hj
    have nbz := hlet j hj
    have nbl := nb_le (P 1 j)
    have t2 : τ 139 j = nI (P 1 j) := by rw [e139]; exact q1
    have t3 : τ 140 (3 * j) = nI (P 2 (3 * j)) := by rw [e140]; exact q2 0 (by omega)
    obtain ⟨hwj, hyj⟩ := o_wf (P := P) hw hy j
    obtain ⟨υ, g1, g2, g3⟩ := c_carry (c := P 1 j) (nI (P 2 (3 * j))) (τ 140 (3 * j + 1)) (τ 140 (3 * j + 2)) nbz hwj h3
    have eo : sp_ord (P 1 j) (nI (P 2 (3 * j))) (τ 140 (3 * j + 1)) (τ 140 (3 * j + 2)) (o_N P N j) = o_sp P j (o_N P N j) := ord_cg nbz (fun z => by rw [e140]; exact q2 1 (by omega)) (fun z => by rw [e140]; exact q2 2 (by omega))
    rw [eo] at g1 g2
    have fl : F_X6_letter (nI j) τ = some (nI (P 1 j)) := by
      unfold F_X6_letter
      simp (disch := omega) only [Nat.add_zero, Nat.zero_add, Nat.zero_mul, Nat.mul_zero, mc8, mc3, nU_f, nU_k, nU_e, xbd_some, xgd_true, xlet_eq, g_in, nI_clamp, nI_leI, nI_ltI, nI_eq, nI_add, pk_mul, pk_sub, rd_e, rd_k, rd_c, i10, i01, xsm_l, xsm_r, if_pos, if_neg, l_neg1, oI_e0, nI_e0, oI_nI, ne_eq, not_true_eq_false, not_false_eq_true, and_true, true_and, and_false, false_and, or_true, true_or, or_false, false_or, if_true, if_false, lit_0, lit_1, lit_2, lit_3, lit_4, lit_5, lit_6, lit_8, lit_9, lit_10, lit_12, lit_13, lit_21, lit_29, lit_30, lit_31, lit_37, lit_101, lit_120, lit_121, lit_127, lit_169, lit_64, lit_99, lit_999, lit_676, lit_845, lit_48, lit_57, lit_32, lit_59, t2]
    have fn : ∀ k, k < 3 → F_X6_number (nI j) (nI k) τ = some (τ 140 (3 * j + k)) := fun k hk => by
      unfold F_X6_number
      simp (disch := omega) only [Nat.add_zero, Nat.zero_add, Nat.zero_mul, Nat.mul_zero, mc8, mc3, nU_f, nU_k, nU_e, xbd_some, xgd_true, xlet_eq, g_in, nI_clamp, nI_leI, nI_ltI, nI_eq, nI_add, pk_mul, pk_sub, rd_e, rd_k, rd_c, i10, i01, xsm_l, xsm_r, if_pos, if_neg, l_neg1, oI_e0, nI_e0, oI_nI, ne_eq, not_true_eq_false, not_false_eq_true, and_true, true_and, and_false, false_and, or_true, true_or, or_false, false_or, if_true, if_false, lit_0, lit_1, lit_2, lit_3, lit_4, lit_5, lit_6, lit_8, lit_9, lit_10, lit_12, lit_13, lit_21, lit_29, lit_30, lit_31, lit_37, lit_101, lit_120, lit_121, lit_127, lit_169, lit_64, lit_99, lit_999, lit_676, lit_845, lit_48, lit_57, lit_32, lit_59]
    have n0 := fn 0 (by omega)
    have n1 := fn 1 (by omega)
    have n2 := fn 2 (by omega)
    rw [Nat.add_zero, t3] at n0
    unfold B_X10_reads_15
    rw [t1, if_neg (nI_ge hj (by omega)), xbd_s fl, xbd_s (show F_X6_number (nI j) 0 τ = _ from n0), xbd_s (show F_X6_number (nI j) 1 τ = _ from n1), xbd_s (show F_X6_number (nI j) 2 τ = _ from n2), xbd_s g1]
    dsimp only
    by_cases hp : 0 ≤ (o_sp P j (o_N P N j)).1
    · left
      rw [if_pos hp]
      refine ⟨_, rfl, nI_1 j, fun i hi => ?_, g2, fr_tr h4 g3⟩
      by_cases e : i = j
      · rw [e]; exact hp
      · exact h2 i (by omega)
    · right
      rw [if_neg hp]
      exact ⟨_, rfl, Or.inl ⟨j, υ, rfl, hj, h2, hp, fr_tr h4 g3⟩⟩
  · intro ⟨v, τ⟩ ⟨h1, h2, h3, h4⟩
    dsimp only at h1 h2 h3 h4 ⊢
    subst h1
    have t1 : τ 137 1 = nI (P 0 4) := by rw [h4 137 (by omega) (by omega) (by omega)]; exact k1
    unfold B_X10_reads_15
    simp (disch := omega) only [Nat.add_zero, Nat.zero_add, Nat.zero_mul, Nat.mul_zero, mc8, mc3, nU_f, nU_k, nU_e, xbd_some, xgd_true, xlet_eq, g_in, nI_clamp, nI_leI, nI_ltI, nI_eq, nI_add, pk_mul, pk_sub, rd_e, rd_k, rd_c, i10, i01, xsm_l, xsm_r, if_pos, if_neg, l_neg1, oI_e0, nI_e0, oI_nI, ne_eq, not_true_eq_false, not_false_eq_true, and_true, true_and, and_false, false_and, or_true, true_or, or_false, false_or, if_true, if_false, lit_0, lit_1, lit_2, lit_3, lit_4, lit_5, lit_6, lit_8, lit_9, lit_10, lit_12, lit_13, lit_21, lit_29, lit_30, lit_31, lit_37, lit_101, lit_120, lit_121, lit_127, lit_169, lit_64, lit_99, lit_999, lit_676, lit_845, lit_48, lit_57, lit_32, lit_59, t1]
    exact ⟨_, rfl, Or.inr ⟨τ, rfl, h2, h3, h4⟩⟩
/-- reads, in the class -/
theorem c_reads {σ : xM} {N : xN} {k : Nat} {H : Nat → xN} {L : Nat} {T : Nat → Nat} {b : Nat → Int32} (hW : IW N k H L T) (hC : IC σ N k H L T b) : ∃ r τ, F_X10_reads σ = some (r, τ) ∧ (∀ c, 141 ≤ c → τ c = σ c) ∧ ((∃ f, p_r T L = f + 1 ∧ r = -10 - nI f ∧ IC τ N k H L T b) ∨ (p_r T L = 0 ∧ ∃ j, j < p_s T L 0 4 ∧ (∀ i, i < j → 0 ≤ (o_sp (p_s T L) i (o_N (p_s T L) N i)).1) ∧ ¬ 0 ≤ (o_sp (p_s T L) j (o_N (p_s T L) N j)).1 ∧ r = -1000 - nI j ∧ IC τ N k H L T b) ∨ (p_r T L = 0 ∧ (∀ i, i < p_s T L 0 4 → 0 ≤ (o_sp (p_s T L) i (o_N (p_s T L) N i)).1) ∧ r = nI (p_s T L 0 4) ∧ IC τ (o_N (p_s T L) N (p_s T L 0 4)) (k_up k) (push N H) L T b)) := by
  obtain ⟨hL, t0, tT⟩ := hC.2.2.2.1
  obtain ⟨τ, g1, g2, g3, g4⟩ := f_parse (T := T) hL t0 (fun i hi => ⟨tT i hi, hW.2.2.2 i hi⟩)
  have hC1 : IC τ N k H L T b := by
    obtain ⟨h1, ⟨m, h2⟩, h3, -, h5⟩ := hC
    refine ⟨C_blk (fun c x y => g2 c (by omega) (by omega) (by omega)) h1, ⟨m, Ih_cg h2 (fun c x y => g2 c (by omega) (by omega) (by omega))⟩, Ib_cg h3 (g2 0 (by omega) (by omega) (by omega)), ⟨hL, g3, fun i hi => by rw [g2 138 (by omega) (by omega) (by omega)]; exact tT i hi⟩, ?_⟩
    rw [g2 132 (by omega) (by omega) (by omega)]
    rcases h5 with h5 | ⟨h5, h6⟩
    · exact Or.inl h5
    · exact Or.inr ⟨h5, PK_cg h6 (g2 132 (by omega) (by omega) (by omega)) (g2 133 (by omega) (by omega) (by omega))⟩
  unfold F_X10_reads
  rw [xbd_s g1]
  dsimp only
  by_cases hr : p_r T L = 0
  case neg =>
    obtain ⟨f, hf⟩ : ∃ f, p_r T L = f + 1 := ⟨p_r T L - 1, by omega⟩
    have hfl : f ≤ L := by
      have : p_r T L ≤ L + 1 := by
        unfold p_r
        split
        · next z =>
          have key : ∀ i, p_s T i 0 0 ≤ i := by
            intro i
            induction i with
            | zero => exact Nat.le_refl 0
            | succ i ih =>
              show p_st (p_s T i) i (T i) 0 0 ≤ i + 1
              generalize p_s T i = P at *
              generalize T i = c
              by_cases h0 : P 0 0 = 0
              case neg => rw [ps_f h0]; omega
              by_cases hc : c = 32
              · rw [ps_sp h0 hc]; simp (disch := omega) only [Nat.add_zero, Nat.zero_add, Nat.zero_mul, Nat.mul_zero, mc8, mc3, nU_f, nU_k, nU_e, xbd_some, xgd_true, xlet_eq, g_in, nI_clamp, nI_leI, nI_ltI, nI_eq, nI_add, pk_mul, pk_sub, rd_e, rd_k, rd_c, i10, i01, xsm_l, xsm_r, if_pos, if_neg, l_neg1, oI_e0, nI_e0, oI_nI, ne_eq, not_true_eq_false, not_false_eq_true, and_true, true_and, and_false, false_and, or_true, true_or, or_false, false_or, if_true, if_false, lit_0, lit_1, lit_2, lit_3, lit_4, lit_5, lit_6, lit_8, lit_9, lit_10, lit_12, lit_13, lit_21, lit_29, lit_30, lit_31, lit_37, lit_101, lit_120, lit_121, lit_127, lit_169, lit_64, lit_99, lit_999, lit_676, lit_845, lit_48, lit_57, lit_32, lit_59]; omega
              by_cases hd : P 0 1 = 0
              · by_cases hn : nb c = 0
                · rw [ps_l0 h0 hc hd hn]; simp (disch := omega) only [Nat.add_zero, Nat.zero_add, Nat.zero_mul, Nat.mul_zero, mc8, mc3, nU_f, nU_k, nU_e, xbd_some, xgd_true, xlet_eq, g_in, nI_clamp, nI_leI, nI_ltI, nI_eq, nI_add, pk_mul, pk_sub, rd_e, rd_k, rd_c, i10, i01, xsm_l, xsm_r, if_pos, if_neg, l_neg1, oI_e0, nI_e0, oI_nI, ne_eq, not_true_eq_false, not_false_eq_true, and_true, true_and, and_false, false_and, or_true, true_or, or_false, false_or, if_true, if_false, lit_0, lit_1, lit_2, lit_3, lit_4, lit_5, lit_6, lit_8, lit_9, lit_10, lit_12, lit_13, lit_21, lit_29, lit_30, lit_31, lit_37, lit_101, lit_120, lit_121, lit_127, lit_169, lit_64, lit_99, lit_999, lit_676, lit_845, lit_48, lit_57, lit_32, lit_59]; omega
                · rw [ps_l1 h0 hc hd hn]; simp (disch := omega) only [Nat.add_zero, Nat.zero_add, Nat.zero_mul, Nat.mul_zero, mc8, mc3, nU_f, nU_k, nU_e, xbd_some, xgd_true, xlet_eq, g_in, nI_clamp, nI_leI, nI_ltI, nI_eq, nI_add, pk_mul, pk_sub, rd_e, rd_k, rd_c, i10, i01, xsm_l, xsm_r, if_pos, if_neg, l_neg1, oI_e0, nI_e0, oI_nI, ne_eq, not_true_eq_false, not_false_eq_true, and_true, true_and, and_false, false_and, or_true, true_or, or_false, false_or, if_true, if_false, lit_0, lit_1, lit_2, lit_3, lit_4, lit_5, lit_6, lit_8, lit_9, lit_10, lit_12, lit_13, lit_21, lit_29, lit_30, lit_31, lit_37, lit_101, lit_120, lit_121, lit_127, lit_169, lit_64, lit_99, lit_999, lit_676, lit_845, lit_48, lit_57, lit_32, lit_59]; omega
              by_cases he : c = 59 ∧ P 0 2 = P 0 1
              · rw [ps_e h0 hd he.1 he.2]; simp (disch := omega) only [Nat.add_zero, Nat.zero_add, Nat.zero_mul, Nat.mul_zero, mc8, mc3, nU_f, nU_k, nU_e, xbd_some, xgd_true, xlet_eq, g_in, nI_clamp, nI_leI, nI_ltI, nI_eq, nI_add, pk_mul, pk_sub, rd_e, rd_k, rd_c, i10, i01, xsm_l, xsm_r, if_pos, if_neg, l_neg1, oI_e0, nI_e0, oI_nI, ne_eq, not_true_eq_false, not_false_eq_true, and_true, true_and, and_false, false_and, or_true, true_or, or_false, false_or, if_true, if_false, lit_0, lit_1, lit_2, lit_3, lit_4, lit_5, lit_6, lit_8, lit_9, lit_10, lit_12, lit_13, lit_21, lit_29, lit_30, lit_31, lit_37, lit_101, lit_120, lit_121, lit_127, lit_169, lit_64, lit_99, lit_999, lit_676, lit_845, lit_48, lit_57, lit_32, lit_59]; omega
              by_cases hx : (48 ≤ c ∧ c ≤ 57) ∧ P 0 3 < 3 ∧ (P 0 3 ≠ 0 ∨ P 0 2 < P 0 1)
              · by_cases hg : P 0 3 = 0
                · rw [ps_d0 h0 hd hx.1 hg (by omega)]; simp (disch := omega) only [Nat.add_zero, Nat.zero_add, Nat.zero_mul, Nat.mul_zero, mc8, mc3, nU_f, nU_k, nU_e, xbd_some, xgd_true, xlet_eq, g_in, nI_clamp, nI_leI, nI_ltI, nI_eq, nI_add, pk_mul, pk_sub, rd_e, rd_k, rd_c, i10, i01, xsm_l, xsm_r, if_pos, if_neg, l_neg1, oI_e0, nI_e0, oI_nI, ne_eq, not_true_eq_false, not_false_eq_true, and_true, true_and, and_false, false_and, or_true, true_or, or_false, false_or, if_true, if_false, lit_0, lit_1, lit_2, lit_3, lit_4, lit_5, lit_6, lit_8, lit_9, lit_10, lit_12, lit_13, lit_21, lit_29, lit_30, lit_31, lit_37, lit_101, lit_120, lit_121, lit_127, lit_169, lit_64, lit_99, lit_999, lit_676, lit_845, lit_48, lit_57, lit_32, lit_59]; omega
                · rw [ps_d1 h0 hd hx.1 hg hx.2.1]; simp (disch := omega) only [Nat.add_zero, Nat.zero_add, Nat.zero_mul, Nat.mul_zero, mc8, mc3, nU_f, nU_k, nU_e, xbd_some, xgd_true, xlet_eq, g_in, nI_clamp, nI_leI, nI_ltI, nI_eq, nI_add, pk_mul, pk_sub, rd_e, rd_k, rd_c, i10, i01, xsm_l, xsm_r, if_pos, if_neg, l_neg1, oI_e0, nI_e0, oI_nI, ne_eq, not_true_eq_false, not_false_eq_true, and_true, true_and, and_false, false_and, or_true, true_or, or_false, false_or, if_true, if_false, lit_0, lit_1, lit_2, lit_3, lit_4, lit_5, lit_6, lit_8, lit_9, lit_10, lit_12, lit_13, lit_21, lit_29, lit_30, lit_31, lit_37, lit_101, lit_120, lit_121, lit_127, lit_169, lit_64, lit_99, lit_999, lit_676, lit_845, lit_48, lit_57, lit_32, lit_59]; omega
              · rw [ps_x h0 hc hd he hx]; simp (disch := omega) only [Nat.add_zero, Nat.zero_add, Nat.zero_mul, Nat.mul_zero, mc8, mc3, nU_f, nU_k, nU_e, xbd_some, xgd_true, xlet_eq, g_in, nI_clamp, nI_leI, nI_ltI, nI_eq, nI_add, pk_mul, pk_sub, rd_e, rd_k, rd_c, i10, i01, xsm_l, xsm_r, if_pos, if_neg, l_neg1, oI_e0, nI_e0, oI_nI, ne_eq, not_true_eq_false, not_false_eq_true, and_true, true_and, and_false, false_and, or_true, true_or, or_false, false_or, if_true, if_false, lit_0, lit_1, lit_2, lit_3, lit_4, lit_5, lit_6, lit_8, lit_9, lit_10, lit_12, lit_13, lit_21, lit_29, lit_30, lit_31, lit_37, lit_101, lit_120, lit_121, lit_127, lit_169, lit_64, lit_99, lit_999, lit_676, lit_845, lit_48, lit_57, lit_32, lit_59]; omega
          have := key L
          omega
        · split <;> omega
      omega
    rw [hf, oI_s, if_neg (nI_m1 (by omega))]
    exact ⟨_, τ, rfl, fun c hc => g2 c (by omega) (by omega) (by omega), Or.inl ⟨f, rfl, rfl, hC1⟩⟩
  rw [hr, if_pos oI_0]
  have hP := g4 hr
  obtain ⟨τ2, a1, a2, a3, a4⟩ := f_mark hW.1 hC1
  obtain ⟨m0, hm0⟩ := hC1.2.1
  have ax := f_markx hm0 a1
  have hP2 : pC τ2 (p_s T L) := by
    unfold pC at hP ⊢
    rw [ax 137 (by omega) (by omega), ax 139 (by omega) (by omega), ax 140 (by omega) (by omega)]
    exact hP
  have hO : p_s T L 0 4 ≤ 120 := by have := (pinv_s T L).1; omega
  obtain ⟨e, b1, b2⟩ := c_orders hW.1 hW.2.1 hO (ps_let L).1 a2.1 hP2
  rw [xbd_s a1, xbd_s (show L_X10_reads_15 0 τ2 = some e from b1)]
  have hhi : ∀ c, 141 ≤ c → τ2 c = σ c := fun c hc => (a4 c hc).trans (g2 c (by omega) (by omega) (by omega))
  obtain ⟨i1, ⟨m, i2, i2'⟩, i3, i4⟩ := id a2
  rcases b2 with ⟨j, υ, rfl, hj, h1, h2, hfr⟩ | ⟨υ, rfl, h1, h2, hfr⟩
  · -- an order can't be carried out
    have j2 : I_h υ k H m := Ih_cg i2 (fun c x y => hfr c (by omega) (by omega) (by omega))
    have m6 := i2.1
    have j2' : s_C υ (21 + 18 * m) N := C_blk (fun c x y => hfr c (by omega) (by omega) (by omega)) i2'
    obtain ⟨ω, c1, c2⟩ := rest_h m6 j2.2.2.2.1
    rw [xsm_l, xbd_s c1]
    refine ⟨_, ω, rfl, fun c hc => ?_, Or.inr (Or.inl ⟨rfl, j, hj, h1, h2, rfl, ?_⟩)⟩
    · rw [c2.1 c (by omega), hfr c (by omega) (by omega) (by omega)]
      exact hhi c hc
    · refine ⟨bc_C hW.1 c2 j2', ⟨m, Ih_cg j2 (fun c x y => c2.1 c (by omega))⟩, Ib_cg i3 ?_, It_cg i4 ?_ ?_, Or.inl ?_⟩
      · rw [c2.1 0 (by omega), hfr 0 (by omega) (by omega) (by omega)]
      · rw [c2.1 137 (by omega), hfr 137 (by omega) (by omega) (by omega)]
      · rw [c2.1 138 (by omega), hfr 138 (by omega) (by omega) (by omega)]
      · rw [c2.1 132 (by omega), hfr 132 (by omega) (by omega) (by omega)]
        exact a3
  · have hK := IK_fr a2 hfr h2
    obtain ⟨ω, c1, c2, c3⟩ := f_keepM hK
    have t1 : υ 137 1 = nI (p_s T L 0 4) := by
      rw [hfr 137 (by omega) (by omega) (by omega)]
      exact hP2.1
    have hp : (0 : Int32) ≤ nI (p_s T L 0 4) := nI_pos' (by omega)
    rw [xsm_r, t1]
    unfold F_X10_settled
    rw [if_neg (nI_pos (by omega)), xbd_s c1, xbd_s (f_cnt0 hp), xbd_some]
    refine ⟨_, ω, rfl, fun c hc => ?_, Or.inr (Or.inr ⟨rfl, h1, rfl, c2.1, c2.2.1, c2.2.2.1, c2.2.2.2, Or.inl ?_⟩)⟩
    · rw [c3 c (by omega), hfr c (by omega) (by omega) (by omega)]
      exact hhi c hc
    · rw [c3 132 (by omega), hfr 132 (by omega) (by omega) (by omega)]
      exact a3
