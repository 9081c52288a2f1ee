theorem m_dA {σ : xM} {N : xN} (hw : s_wf N) (hM : s_M (σ 142) N) (h : Int64) : ∃ τ, L_X11_digest_20 h (nI 0) σ = some (dg (fA N) h (6 * N 0 0), τ) ∧ s_M (τ 142) N ∧ m_fr σ τ ∧ (N 0 0 ≠ 0 → s_Mw τ N) := by
  have hA := hw.1.1
  have hL : ∃ e, L_X11_digest_20 h (nI 0) σ = some e ∧ e.1 = dg (fA N) h (6 * N 0 0) ∧ s_M (e.2 142) N ∧ m_fr σ e.2 ∧ (6 * N 0 0 ≠ 0 → s_Mw e.2 N) := by
    unfold L_X11_digest_20
    refine xloop_for (f := fun x : Int64 × Int32 × xM => B_X11_digest_20 x.1 x.2.1 x.2.2) (fun k x => x.1 = dg (fA N) h k ∧ x.2.1 = nI k ∧ s_M (x.2.2 142) N ∧ m_fr σ x.2.2 ∧ (k ≠ 0 → s_Mw x.2.2 N)) (fun e => e.1 = dg (fA N) h (6 * N 0 0) ∧ s_M (e.2 142) N ∧ m_fr σ e.2 ∧ (6 * N 0 0 ≠ 0 → s_Mw e.2 N)) (6 * N 0 0) ?_ ?_ 6000 0 (h, nI 0, σ) (by omega) (by omega) ⟨rfl, rfl, hM, mf_rf σ, fun z => absurd rfl z⟩
    · intro k ⟨h0, v, τ⟩ hk ⟨h1, h2, h3, h4, h5⟩
      dsimp only at h1 h2 h3 h4 h5 ⊢
      subst h1 h2
      left
      have r0 := h3.1 0 (by omega)
      obtain ⟨υ, e1, e2, e3, e4⟩ := m_ofNow (a := k / 6) (w := k % 6) hw h3 (by omega) (by omega)
      unfold B_X11_digest_20
      simp (disch := omega) only [Nat.add_zero, Nat.zero_add, Nat.zero_mul, Nat.mul_zero, mc8, mc3, nU_f, nU_k, nU_e, xbd_some, xgd_true, xlet_eq, g_in, nI_clamp, nI_leI, nI_ltI, nI_eq, nI_add, pk_mul, pk_sub, rd_e, rd_k, rd_c, i10, i01, xsm_l, xsm_r, if_pos, if_neg, l_neg1, oI_e0, nI_e0, oI_nI, ne_eq, not_true_eq_false, not_false_eq_true, and_true, true_and, and_false, false_and, or_true, true_or, or_false, false_or, if_true, if_false, lit_0, lit_1, lit_2, lit_3, lit_4, lit_5, lit_6, lit_8, lit_9, lit_10, lit_12, lit_13, lit_21, lit_29, lit_30, lit_31, lit_37, lit_101, lit_120, lit_121, lit_127, lit_169, lit_64, lit_99, lit_999, lit_676, lit_845, lit_48, lit_57, lit_32, lit_59, r0, pk_div, mc6, md6, e1]
      exact ⟨_, rfl, rfl, rfl, e2, mf_tr h4 e4, fun _ => e3⟩
    · intro ⟨h0, v, τ⟩ ⟨h1, h2, h3, h4, h5⟩
      dsimp only at h1 h2 h3 h4 h5 ⊢
      subst h1 h2
      have r0 := h3.1 0 (by omega)
      unfold B_X11_digest_20
      simp (disch := omega) only [Nat.add_zero, Nat.zero_add, Nat.zero_mul, Nat.mul_zero, mc8, mc3, nU_f, nU_k, nU_e, xbd_some, xgd_true, xlet_eq, g_in, nI_clamp, nI_leI, nI_ltI, nI_eq, nI_add, pk_mul, pk_sub, rd_e, rd_k, rd_c, i10, i01, xsm_l, xsm_r, if_pos, if_neg, l_neg1, oI_e0, nI_e0, oI_nI, ne_eq, not_true_eq_false, not_false_eq_true, and_true, true_and, and_false, false_and, or_true, true_or, or_false, false_or, if_true, if_false, lit_0, lit_1, lit_2, lit_3, lit_4, lit_5, lit_6, lit_8, lit_9, lit_10, lit_12, lit_13, lit_21, lit_29, lit_30, lit_31, lit_37, lit_101, lit_120, lit_121, lit_127, lit_169, lit_64, lit_99, lit_999, lit_676, lit_845, lit_48, lit_57, lit_32, lit_59, r0]
      exact ⟨_, rfl, rfl, h3, h4, h5⟩
  obtain ⟨⟨g0, τ⟩, i1, i2, i3, i4, i5⟩ := hL
  dsimp only at i2 i3 i4 i5
  exact ⟨τ, by rw [i1, i2], i3, i4, fun z => i5 (by omega)⟩
theorem m_dP {σ : xM} {N : xN} (hw : s_wf N) (hM : s_M (σ 142) N) (hMw : N 0 0 ≠ 0 → s_Mw σ N) (h : Int64) : L_X11_digest_46 h (nI 1) σ = some (dq N h (N 0 0)) := by
  have hA := hw.1.1
  have r0 := hM.1 0 (by omega)
  unfold L_X11_digest_46
  by_cases hz : N 0 0 = 0
  · rw [hz]
    refine xfor (f := fun x : Int64 × Int32 => B_X11_digest_46 x.1 x.2 σ) (fun k => (h, nI 1)) 0 _ (fun k hk => absurd hk (by omega)) ?_ 6000 0 (by omega) (by omega)
    dsimp only
    unfold B_X11_digest_46
    simp (disch := omega) only [Nat.add_zero, Nat.zero_add, Nat.zero_mul, Nat.mul_zero, mc8, mc3, nU_f, nU_k, nU_e, xbd_some, xgd_true, xlet_eq, g_in, nI_clamp, nI_leI, nI_ltI, nI_eq, nI_add, pk_mul, pk_sub, rd_e, rd_k, rd_c, i10, i01, xsm_l, xsm_r, if_pos, if_neg, l_neg1, oI_e0, nI_e0, oI_nI, ne_eq, not_true_eq_false, not_false_eq_true, and_true, true_and, and_false, false_and, or_true, true_or, or_false, false_or, if_true, if_false, lit_0, lit_1, lit_2, lit_3, lit_4, lit_5, lit_6, lit_8, lit_9, lit_10, lit_12, lit_13, lit_21, lit_29, lit_30, lit_31, lit_37, lit_101, lit_120, lit_121, lit_127, lit_169, lit_64, lit_99, lit_999, lit_676, lit_845, lit_48, lit_57, lit_32, lit_59, r0]
    rfl
  have hMw := hMw hz
  refine xfor (f := fun x : Int64 × Int32 => B_X11_digest_46 x.1 x.2 σ) (fun b => (dq N h b, nI b)) (N 0 0) _ (fun b hb => ?_) ?_ 6000 1 (by omega) (by omega)
  · have inner : L_X11_digest_54 (nI b) (dq N h b) (nI 0) σ = some (dq N h (b + 1)) := by
      unfold L_X11_digest_54
      refine xfor (f := fun x : Int64 × Int32 => B_X11_digest_54 (nI b) x.1 x.2 σ) (fun a => (dp N b (dq N h b) a, nI a)) b _ (fun a ha => ?_) ?_ 6000 0 (by omega) (by omega)
      · have x1 := hM.2.2.2.1 (8 * a + b) (by omega)
        have x2 := hMw a b (by omega) hb
        have w : F_X11_way (nI a) (nI b) σ = some (oI (s_di N a b)) := by
          unfold F_X11_way
          simp (disch := omega) only [Nat.add_zero, Nat.zero_add, Nat.zero_mul, Nat.mul_zero, mc8, mc3, nU_f, nU_k, nU_e, xbd_some, xgd_true, xlet_eq, g_in, nI_clamp, nI_leI, nI_ltI, nI_eq, nI_add, pk_mul, pk_sub, rd_e, rd_k, rd_c, i10, i01, xsm_l, xsm_r, if_pos, if_neg, l_neg1, oI_e0, nI_e0, oI_nI, ne_eq, not_true_eq_false, not_false_eq_true, and_true, true_and, and_false, false_and, or_true, true_or, or_false, false_or, if_true, if_false, lit_0, lit_1, lit_2, lit_3, lit_4, lit_5, lit_6, lit_8, lit_9, lit_10, lit_12, lit_13, lit_21, lit_29, lit_30, lit_31, lit_37, lit_101, lit_120, lit_121, lit_127, lit_169, lit_64, lit_99, lit_999, lit_676, lit_845, lit_48, lit_57, lit_32, lit_59, x2]
        dsimp only
        unfold B_X11_digest_54
        simp (disch := omega) only [Nat.add_zero, Nat.zero_add, Nat.zero_mul, Nat.mul_zero, mc8, mc3, nU_f, nU_k, nU_e, xbd_some, xgd_true, xlet_eq, g_in, nI_clamp, nI_leI, nI_ltI, nI_eq, nI_add, pk_mul, pk_sub, rd_e, rd_k, rd_c, i10, i01, xsm_l, xsm_r, if_pos, if_neg, l_neg1, oI_e0, nI_e0, oI_nI, ne_eq, not_true_eq_false, not_false_eq_true, and_true, true_and, and_false, false_and, or_true, true_or, or_false, false_or, if_true, if_false, lit_0, lit_1, lit_2, lit_3, lit_4, lit_5, lit_6, lit_8, lit_9, lit_10, lit_12, lit_13, lit_21, lit_29, lit_30, lit_31, lit_37, lit_101, lit_120, lit_121, lit_127, lit_169, lit_64, lit_99, lit_999, lit_676, lit_845, lit_48, lit_57, lit_32, lit_59, w, Nat.add_assoc, x1]
        rfl
      · dsimp only
        unfold B_X11_digest_54
        simp (disch := omega) only [Nat.add_zero, Nat.zero_add, Nat.zero_mul, Nat.mul_zero, mc8, mc3, nU_f, nU_k, nU_e, xbd_some, xgd_true, xlet_eq, g_in, nI_clamp, nI_leI, nI_ltI, nI_eq, nI_add, pk_mul, pk_sub, rd_e, rd_k, rd_c, i10, i01, xsm_l, xsm_r, if_pos, if_neg, l_neg1, oI_e0, nI_e0, oI_nI, ne_eq, not_true_eq_false, not_false_eq_true, and_true, true_and, and_false, false_and, or_true, true_or, or_false, false_or, if_true, if_false, lit_0, lit_1, lit_2, lit_3, lit_4, lit_5, lit_6, lit_8, lit_9, lit_10, lit_12, lit_13, lit_21, lit_29, lit_30, lit_31, lit_37, lit_101, lit_120, lit_121, lit_127, lit_169, lit_64, lit_99, lit_999, lit_676, lit_845, lit_48, lit_57, lit_32, lit_59]
        rfl
    dsimp only
    unfold B_X11_digest_46
    simp (disch := omega) only [Nat.add_zero, Nat.zero_add, Nat.zero_mul, Nat.mul_zero, mc8, mc3, nU_f, nU_k, nU_e, xbd_some, xgd_true, xlet_eq, g_in, nI_clamp, nI_leI, nI_ltI, nI_eq, nI_add, pk_mul, pk_sub, rd_e, rd_k, rd_c, i10, i01, xsm_l, xsm_r, if_pos, if_neg, l_neg1, oI_e0, nI_e0, oI_nI, ne_eq, not_true_eq_false, not_false_eq_true, and_true, true_and, and_false, false_and, or_true, true_or, or_false, false_or, if_true, if_false, lit_0, lit_1, lit_2, lit_3, lit_4, lit_5, lit_6, lit_8, lit_9, lit_10, lit_12, lit_13, lit_21, lit_29, lit_30, lit_31, lit_37, lit_101, lit_120, lit_121, lit_127, lit_169, lit_64, lit_99, lit_999, lit_676, lit_845, lit_48, lit_57, lit_32, lit_59, r0, inner]
  · dsimp only
    unfold B_X11_digest_46
    simp (disch := omega) only [Nat.add_zero, Nat.zero_add, Nat.zero_mul, Nat.mul_zero, mc8, mc3, nU_f, nU_k, nU_e, xbd_some, xgd_true, xlet_eq, g_in, nI_clamp, nI_leI, nI_ltI, nI_eq, nI_add, pk_mul, pk_sub, rd_e, rd_k, rd_c, i10, i01, xsm_l, xsm_r, if_pos, if_neg, l_neg1, oI_e0, nI_e0, oI_nI, ne_eq, not_true_eq_false, not_false_eq_true, and_true, true_and, and_false, false_and, or_true, true_or, or_false, false_or, if_true, if_false, lit_0, lit_1, lit_2, lit_3, lit_4, lit_5, lit_6, lit_8, lit_9, lit_10, lit_12, lit_13, lit_21, lit_29, lit_30, lit_31, lit_37, lit_101, lit_120, lit_121, lit_127, lit_169, lit_64, lit_99, lit_999, lit_676, lit_845, lit_48, lit_57, lit_32, lit_59, r0]
theorem m_dS {σ : xM} {N : xN} (hw : s_wf N) (hM : s_M (σ 142) N) (h : Int64) : ∃ τ, L_X11_digest_87 h (nI 0) σ = some (dg (fS N) h (10 * N 0 1), τ) ∧ s_M (τ 142) N ∧ m_fr σ τ := by
  have hS := hw.1.2.1
  have hL : ∃ e, L_X11_digest_87 h (nI 0) σ = some e ∧ e.1 = dg (fS N) h (10 * N 0 1) ∧ s_M (e.2 142) N ∧ m_fr σ e.2 := by
    unfold L_X11_digest_87
    refine xloop_for (f := fun x : Int64 × Int32 × xM => B_X11_digest_87 x.1 x.2.1 x.2.2) (fun k x => x.1 = dg (fS N) h k ∧ x.2.1 = nI k ∧ s_M (x.2.2 142) N ∧ m_fr σ x.2.2) (fun e => e.1 = dg (fS N) h (10 * N 0 1) ∧ s_M (e.2 142) N ∧ m_fr σ e.2) (10 * N 0 1) ?_ ?_ 6000 0 (h, nI 0, σ) (by omega) (by omega) ⟨rfl, rfl, hM, mf_rf σ⟩
    · intro k ⟨h0, v, τ⟩ hk ⟨h1, h2, h3, h4⟩
      dsimp only at h1 h2 h3 h4 ⊢
      subst h1 h2
      left
      have r1 := h3.1 1 (by omega)
      obtain ⟨υ, e1, e2, e3⟩ := m_siteV (s := k / 10) (w := k % 10) hw h3 (by omega) (by omega)
      unfold B_X11_digest_87
      simp (disch := omega) only [Nat.add_zero, Nat.zero_add, Nat.zero_mul, Nat.mul_zero, mc8, mc3, nU_f, nU_k, nU_e, xbd_some, xgd_true, xlet_eq, g_in, nI_clamp, nI_leI, nI_ltI, nI_eq, nI_add, pk_mul, pk_sub, rd_e, rd_k, rd_c, i10, i01, xsm_l, xsm_r, if_pos, if_neg, l_neg1, oI_e0, nI_e0, oI_nI, ne_eq, not_true_eq_false, not_false_eq_true, and_true, true_and, and_false, false_and, or_true, true_or, or_false, false_or, if_true, if_false, lit_0, lit_1, lit_2, lit_3, lit_4, lit_5, lit_6, lit_8, lit_9, lit_10, lit_12, lit_13, lit_21, lit_29, lit_30, lit_31, lit_37, lit_101, lit_120, lit_121, lit_127, lit_169, lit_64, lit_99, lit_999, lit_676, lit_845, lit_48, lit_57, lit_32, lit_59, r1, pk_div, mc10, md10, e1]
      exact ⟨_, rfl, rfl, rfl, e2, mf_tr h4 e3⟩
    · intro ⟨h0, v, τ⟩ ⟨h1, h2, h3, h4⟩
      dsimp only at h1 h2 h3 h4 ⊢
      subst h1 h2
      have r1 := h3.1 1 (by omega)
      unfold B_X11_digest_87
      simp (disch := omega) only [Nat.add_zero, Nat.zero_add, Nat.zero_mul, Nat.mul_zero, mc8, mc3, nU_f, nU_k, nU_e, xbd_some, xgd_true, xlet_eq, g_in, nI_clamp, nI_leI, nI_ltI, nI_eq, nI_add, pk_mul, pk_sub, rd_e, rd_k, rd_c, i10, i01, xsm_l, xsm_r, if_pos, if_neg, l_neg1, oI_e0, nI_e0, oI_nI, ne_eq, not_true_eq_false, not_false_eq_true, and_true, true_and, and_false, false_and, or_true, true_or, or_false, false_or, if_true, if_false, lit_0, lit_1, lit_2, lit_3, lit_4, lit_5, lit_6, lit_8, lit_9, lit_10, lit_12, lit_13, lit_21, lit_29, lit_30, lit_31, lit_37, lit_101, lit_120, lit_121, lit_127, lit_169, lit_64, lit_99, lit_999, lit_676, lit_845, lit_48, lit_57, lit_32, lit_59, r1]
      exact ⟨_, rfl, rfl, h3, h4⟩
  obtain ⟨⟨g0, τ⟩, i1, i2, i3, i4⟩ := hL
  dsimp only at i2 i3 i4
  exact ⟨τ, by rw [i1, i2], i3, i4⟩
theorem m_dT {σ : xM} {N : xN} (hw : s_wf N) (hM : s_M (σ 142) N) (h : Int64) : ∃ τ, L_X11_digest_113 h (nI 0) σ = some (dg (fT N) h (5 * N 0 2), τ) ∧ s_M (τ 142) N ∧ m_fr σ τ := by
  have hT := hw.1.2.2.1
  have hL : ∃ e, L_X11_digest_113 h (nI 0) σ = some e ∧ e.1 = dg (fT N) h (5 * N 0 2) ∧ s_M (e.2 142) N ∧ m_fr σ e.2 := by
    unfold L_X11_digest_113
    refine xloop_for (f := fun x : Int64 × Int32 × xM => B_X11_digest_113 x.1 x.2.1 x.2.2) (fun k x => x.1 = dg (fT N) h k ∧ x.2.1 = nI k ∧ s_M (x.2.2 142) N ∧ m_fr σ x.2.2) (fun e => e.1 = dg (fT N) h (5 * N 0 2) ∧ s_M (e.2 142) N ∧ m_fr σ e.2) (5 * N 0 2) ?_ ?_ 6000 0 (h, nI 0, σ) (by omega) (by omega) ⟨rfl, rfl, hM, mf_rf σ⟩
    · intro k ⟨h0, v, τ⟩ hk ⟨h1, h2, h3, h4⟩
      dsimp only at h1 h2 h3 h4 ⊢
      subst h1 h2
      left
      have r2 := h3.1 2 (by omega)
      obtain ⟨υ, e1, e2, e3⟩ := m_sessV (i := k / 5) (w := k % 5) hw h3 (by omega) (by omega)
      unfold B_X11_digest_113
      simp (disch := omega) only [Nat.add_zero, Nat.zero_add, Nat.zero_mul, Nat.mul_zero, mc8, mc3, nU_f, nU_k, nU_e, xbd_some, xgd_true, xlet_eq, g_in, nI_clamp, nI_leI, nI_ltI, nI_eq, nI_add, pk_mul, pk_sub, rd_e, rd_k, rd_c, i10, i01, xsm_l, xsm_r, if_pos, if_neg, l_neg1, oI_e0, nI_e0, oI_nI, ne_eq, not_true_eq_false, not_false_eq_true, and_true, true_and, and_false, false_and, or_true, true_or, or_false, false_or, if_true, if_false, lit_0, lit_1, lit_2, lit_3, lit_4, lit_5, lit_6, lit_8, lit_9, lit_10, lit_12, lit_13, lit_21, lit_29, lit_30, lit_31, lit_37, lit_101, lit_120, lit_121, lit_127, lit_169, lit_64, lit_99, lit_999, lit_676, lit_845, lit_48, lit_57, lit_32, lit_59, r2, pk_div, mc5, md5, e1]
      exact ⟨_, rfl, rfl, rfl, e2, mf_tr h4 e3⟩
    · intro ⟨h0, v, τ⟩ ⟨h1, h2, h3, h4⟩
      dsimp only at h1 h2 h3 h4 ⊢
      subst h1 h2
      have r2 := h3.1 2 (by omega)
      unfold B_X11_digest_113
      simp (disch := omega) only [Nat.add_zero, Nat.zero_add, Nat.zero_mul, Nat.mul_zero, mc8, mc3, nU_f, nU_k, nU_e, xbd_some, xgd_true, xlet_eq, g_in, nI_clamp, nI_leI, nI_ltI, nI_eq, nI_add, pk_mul, pk_sub, rd_e, rd_k, rd_c, i10, i01, xsm_l, xsm_r, if_pos, if_neg, l_neg1, oI_e0, nI_e0, oI_nI, ne_eq, not_true_eq_false, not_false_eq_true, and_true, true_and, and_false, false_and, or_true, true_or, or_false, false_or, if_true, if_false, lit_0, lit_1, lit_2, lit_3, lit_4, lit_5, lit_6, lit_8, lit_9, lit_10, lit_12, lit_13, lit_21, lit_29, lit_30, lit_31, lit_37, lit_101, lit_120, lit_121, lit_127, lit_169, lit_64, lit_99, lit_999, lit_676, lit_845, lit_48, lit_57, lit_32, lit_59, r2]
      exact ⟨_, rfl, rfl, h3, h4⟩
  obtain ⟨⟨g0, τ⟩, i1, i2, i3, i4⟩ := hL
  dsimp only at i2 i3 i4
  exact ⟨τ, by rw [i1, i2], i3, i4⟩
theorem p_digest {σ : xM} (h : Inv σ) : ∃ (r : Int64) (σ1 σ2 : xM), F_X10_digest σ = some (r, σ1) ∧ F_X11_digest σ1 = some (r, σ2) ∧ Inv σ2 := by
  obtain ⟨N, k, H, L, T, b, hW, hC, hM⟩ := h
  obtain ⟨σ1, a1, a2⟩ := c_digest hW hC
  have hM1 := lk_IM hM a2
  have hC1 := lk_IC hC a2
  have h1 : L_X11_digest_4 2333 (nI 0) σ1 = some (dg (v_told N k L b) 2333 13) := by
    unfold L_X11_digest_4
    refine xfor (f := fun x : Int64 × Int32 => B_X11_digest_4 x.1 x.2 σ1) (fun w => (dg (v_told N k L b) 2333 w, nI w)) 13 _ (fun w hw => ?_) ?_ 6000 0 (by omega) (by omega)
    · have e := m_told hM1 (show w ≤ 12 by omega)
      dsimp only
      rw [dg_s rfl]
      unfold B_X11_digest_4
      simp (disch := omega) only [Nat.add_zero, Nat.zero_add, Nat.zero_mul, Nat.mul_zero, mc8, mc3, nU_f, nU_k, nU_e, xbd_some, xgd_true, xlet_eq, g_in, nI_clamp, nI_leI, nI_ltI, nI_eq, nI_add, pk_mul, pk_sub, rd_e, rd_k, rd_c, i10, i01, xsm_l, xsm_r, if_pos, if_neg, l_neg1, oI_e0, nI_e0, oI_nI, ne_eq, not_true_eq_false, not_false_eq_true, and_true, true_and, and_false, false_and, or_true, true_or, or_false, false_or, if_true, if_false, lit_0, lit_1, lit_2, lit_3, lit_4, lit_5, lit_6, lit_8, lit_9, lit_10, lit_12, lit_13, lit_21, lit_29, lit_30, lit_31, lit_37, lit_101, lit_120, lit_121, lit_127, lit_169, lit_64, lit_99, lit_999, lit_676, lit_845, lit_48, lit_57, lit_32, lit_59, e]
    · dsimp only
      unfold B_X11_digest_4
      simp (disch := omega) only [Nat.add_zero, Nat.zero_add, Nat.zero_mul, Nat.mul_zero, mc8, mc3, nU_f, nU_k, nU_e, xbd_some, xgd_true, xlet_eq, g_in, nI_clamp, nI_leI, nI_ltI, nI_eq, nI_add, pk_mul, pk_sub, rd_e, rd_k, rd_c, i10, i01, xsm_l, xsm_r, if_pos, if_neg, l_neg1, oI_e0, nI_e0, oI_nI, ne_eq, not_true_eq_false, not_false_eq_true, and_true, true_and, and_false, false_and, or_true, true_or, or_false, false_or, if_true, if_false, lit_0, lit_1, lit_2, lit_3, lit_4, lit_5, lit_6, lit_8, lit_9, lit_10, lit_12, lit_13, lit_21, lit_29, lit_30, lit_31, lit_37, lit_101, lit_120, lit_121, lit_127, lit_169, lit_64, lit_99, lit_999, lit_676, lit_845, lit_48, lit_57, lit_32, lit_59]
  obtain ⟨τ1, b1, b2, b3, b4⟩ := m_dA hW.1 hM1.1 (dg (v_told N k L b) 2333 13)
  have c1 := m_dP hW.1 b2 b4 (dg (fA N) (dg (v_told N k L b) 2333 13) (6 * N 0 0))
  obtain ⟨τ2, d1, d2, d3⟩ := m_dS hW.1 b2 (dq N (dg (fA N) (dg (v_told N k L b) 2333 13) (6 * N 0 0)) (N 0 0))
  obtain ⟨τ3, e1, e2, e3⟩ := m_dT hW.1 d2 (dg (fS N) (dq N (dg (fA N) (dg (v_told N k L b) 2333 13) (6 * N 0 0)) (N 0 0)) (10 * N 0 1))
  refine ⟨d_all N k L b, σ1, τ3, a1, ?_, q_yes hW hC1 hM1 (mf_tr (mf_tr b3 d3) e3) e2⟩
  unfold F_X11_digest d_all
  rw [xbd_s (show L_X11_digest_4 2333 0 σ1 = _ from h1), xbd_s (show L_X11_digest_20 _ 0 σ1 = _ from b1)]
  dsimp only
  rw [xbd_s (show L_X11_digest_46 _ 1 τ1 = _ from c1), xbd_s (show L_X11_digest_87 _ 0 τ1 = _ from d1)]
  dsimp only
  rw [xbd_s (show L_X11_digest_113 _ 0 τ2 = _ from e1)]
theorem inv_ok : lw_OK Inv := ⟨fun σ a h => p_area a h, fun σ a b h => p_wants a b h, fun σ a b c h => p_line a b c h, fun σ a b h => p_mood a b h, fun σ a b h => p_site a b h, fun σ a b h => p_rooms a b h, fun σ a b h => p_steps a b h, fun σ a h => p_drains a h, fun σ a h => p_cuts a h, fun σ a b h => p_far a b h, fun σ a b h => p_of a b h, fun σ a b h => p_siteOf a b h, fun σ a b h => p_seems a b h, fun σ a b c h => p_opens a b c h, fun σ a b h => p_session a b h, fun σ a h => p_ends a h, fun σ a h => p_ticks a h, fun σ a h => p_plan a h, fun σ h => p_lays h, fun σ a b h => p_order a b h, fun σ a b h => p_worst a b h, fun σ a h => p_type a h, fun σ h => p_clear h, fun σ h => p_reads h, fun σ h => p_back h, fun σ a h => p_told a h, fun σ h => p_digest h⟩
theorem inv_0 : Inv xM0 := by
  refine ⟨fun _ _ => 0, 0, fun _ _ _ => 0, 0, fun _ => 0, fun _ => 0, ⟨?_, fun a b _ _ => rfl, fun j hj => absurd hj (by omega), fun i hi => absurd hi (by omega)⟩, ⟨?_, ⟨0, by omega, by omega, rfl, rfl, fun j hj => absurd hj (by omega)⟩, ⟨rfl, rfl, rfl⟩, ⟨by omega, rfl, fun i hi => absurd hi (by omega)⟩, Or.inl rfl⟩, ?_, ⟨by omega, rfl, fun j hj => absurd hj (by omega)⟩, ⟨rfl, rfl, rfl⟩, by omega, rfl, fun i hi => absurd hi (by omega)⟩
  · refine ⟨⟨by decide, by decide, by decide, by decide⟩, fun a ha => ?_, fun j hj => Nat.zero_le _, fun a b _ _ _ => rfl, fun s hs => ?_, fun i hi => ?_, fun i hi => ?_, fun i j hi => ?_⟩
    · exact (Nat.not_lt_zero _ ha).elim
    · exact (Nat.not_lt_zero _ hs).elim
    · exact (Nat.not_lt_zero _ hi).elim
    · exact (Nat.not_lt_zero _ hi).elim
    · exact (Nat.not_lt_zero _ hi).elim
  · refine ⟨⟨rfl, rfl, rfl, rfl, rfl, rfl, rfl, rfl⟩, fun a ha => ?_, fun j hj => rfl, fun a c ha => ?_, fun s hs => ?_, fun i hi => ?_, fun i hi => ?_⟩
    · exact (Nat.not_lt_zero _ ha).elim
    · exact (Nat.not_lt_zero _ ha).elim
    · exact (Nat.not_lt_zero _ hs).elim
    · exact (Nat.not_lt_zero _ hi).elim
    · exact (Nat.not_lt_zero _ hi).elim
  · refine ⟨fun k hk => rfl, fun i hi => ?_, fun a ha => ?_, fun j hj => rfl, fun s hs => ?_, fun i hi => ?_⟩
    · exact (Nat.not_lt_zero _ hi).elim
    · exact (Nat.not_lt_zero _ ha).elim
    · exact (Nat.not_lt_zero _ hs).elim
    · exact (Nat.not_lt_zero _ hi).elim
