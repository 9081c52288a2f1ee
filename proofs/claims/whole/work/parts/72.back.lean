def v_told (N : xN) (k L : Nat) (b : Nat → Int32) (w : Nat) : Int32 := if w < 3 then b w else if w = 3 then nI L else if w = 4 then nI (N 0 0) else if w = 5 then nI (N 0 1) else if w = 6 then nI (N 0 2) else if w = 11 then nI (N 0 7) else if w = 12 then nI k else nI (N 0 (w - 4))
theorem f_told {σ : xM} {N : xN} {k : Nat} {H : Nat → xN} {L : Nat} {T : Nat → Nat} {b : Nat → Int32} {w : Nat} (h : IC σ N k H L T b) (h12 : w ≤ 12) : F_X10_countValue (nI w) σ = some (v_told N k L b w) := by
  obtain ⟨h1, ⟨m, h2⟩, ⟨b0, b1, b2⟩, ⟨hL, t0, -⟩, h5⟩ := h
  obtain ⟨⟨c2, c8, c8q, c14, t3, t4, t5, t6⟩, -⟩ := s_C_0 h1
  have e0 := h2.2.2.1
  have hc : w = 0 ∨ w = 1 ∨ w = 2 ∨ w = 3 ∨ w = 4 ∨ w = 5 ∨ w = 6 ∨ w = 7 ∨ w = 8 ∨ w = 9 ∨ w = 10 ∨ w = 11 ∨ w = 12 := by omega
  rcases hc with rfl | rfl | rfl | rfl | rfl | rfl | rfl | rfl | rfl | rfl | rfl | rfl | rfl
  · show some (σ 0 7) = _
    rw [b0]; rfl
  · show some (σ 0 8) = _
    rw [b1]; rfl
  · show some (σ 0 9) = _
    rw [b2]; rfl
  · show some (σ 137 0) = _
    rw [t0]; rfl
  · show some (σ 2 0) = _
    rw [c2]; rfl
  · show some (σ 8 0) = _
    rw [c8]; rfl
  · show some (σ 14 0) = _
    rw [c14]; rfl
  · show some (σ 1 3) = _
    rw [t3]; rfl
  · show some (σ 1 4) = _
    rw [t4]; rfl
  · show some (σ 1 5) = _
    rw [t5]; rfl
  · show some (σ 1 6) = _
    rw [t6]; rfl
  · show some (σ 8 1) = _
    rw [c8q]; rfl
  · show some (σ 19 0) = _
    rw [e0]; rfl
theorem m_told {σ : xM} {N : xN} {k : Nat} {H : Nat → xN} {L : Nat} {T : Nat → Nat} {b : Nat → Int32} {w : Nat} (h : IM σ N k H L T b) (h12 : w ≤ 12) : F_X11_toldOf (nI w) σ = some (v_told N k L b w) := by
  obtain ⟨h1, ⟨k5, e3, -⟩, ⟨b0, b1, b2⟩, hL, t0, -⟩ := h
  have r := fun k hk => h1.1 k hk
  have hc : w = 0 ∨ w = 1 ∨ w = 2 ∨ w = 3 ∨ w = 4 ∨ w = 5 ∨ w = 6 ∨ w = 7 ∨ w = 8 ∨ w = 9 ∨ w = 10 ∨ w = 11 ∨ w = 12 := by omega
  rcases hc with rfl | rfl | rfl | rfl | rfl | rfl | rfl | rfl | rfl | rfl | rfl | rfl | rfl
  · show some (σ 145 0) = _
    rw [b0]; rfl
  · show some (σ 145 1) = _
    rw [b1]; rfl
  · show some (σ 145 2) = _
    rw [b2]; rfl
  · show some (σ 141 13) = _
    rw [t0]; rfl
  · show some (σ 142 0) = _
    rw [r 0 (by omega)]; rfl
  · show some (σ 142 1) = _
    rw [r 1 (by omega)]; rfl
  · show some (σ 142 2) = _
    rw [r 2 (by omega)]; rfl
  · show some (σ 142 3) = _
    rw [r 3 (by omega)]; rfl
  · show some (σ 142 4) = _
    rw [r 4 (by omega)]; rfl
  · show some (σ 142 5) = _
    rw [r 5 (by omega)]; rfl
  · show some (σ 142 6) = _
    rw [r 6 (by omega)]; rfl
  · show some (σ 142 7) = _
    rw [r 7 (by omega)]; rfl
  · show some (σ 141 3) = _
    rw [e3]; rfl
theorem p_told (a : Int32) {σ : xM} (h : Inv σ) : ∃ (r : Int32) (σ1 σ2 : xM), F_X10_told a σ = some (r, σ1) ∧ F_X11_told a σ1 = some (r, σ2) ∧ Inv σ2 := by
  obtain ⟨N, k, H, L, T, b, hW, hC, hM⟩ := h
  unfold F_X10_told F_X11_told
  by_cases h1 : 0 ≤ a ∧ a ≤ 12
  case neg =>
    obtain ⟨τ1, e1, m1, τ2, e2, i2⟩ := q_no (r := -2) (Or.inl rfl) hW hC hM
    refine ⟨-2, τ1, τ2, ?_, ?_, i2⟩
    · rw [xbd_s (wi_f h1 σ), if_pos rfl, e1]
    · rw [xbd_s (if_0_12 h1 τ1), if_pos rfl, e2]
  have e2 := wi_t h1 σ
  have e4 := it_0_12 h1 σ
  obtain ⟨w, hw, rfl⟩ := (rg_of (n := 12) rfl (by omega)).mp h1
  refine ⟨v_told N k L b w, σ, σ, ?_, ?_, N, k, H, L, T, b, hW, hC, hM⟩
  · rw [xbd_s e2, if_neg one0, xbd_s (f_told hC hw)]
  · rw [xbd_s e4, if_neg one0, xbd_s (m_told hM hw)]
def shH (H : Nat → xN) : Nat → xN := fun j => H (j + 1)
theorem p_back {σ : xM} (h : Inv σ) : ∃ (r : Int32) (σ1 σ2 : xM), F_X10_back σ = some (r, σ1) ∧ F_X11_back σ1 = some (r, σ2) ∧ Inv σ2 := by
  obtain ⟨N, k, H, L, T, b, hW, hC, hM⟩ := h
  obtain ⟨h1, ⟨m, m6, k5, e0, e1, hj⟩, h3, h4, h5⟩ := id hC
  unfold F_X10_back F_X11_back
  by_cases hk : k = 0
  · subst hk
    obtain ⟨τ1, e1, m1, τ2, e2, i2⟩ := q_no (r := -3) (Or.inr (Or.inl rfl)) hW hC hM
    refine ⟨-3, τ1, τ2, ?_, ?_, i2⟩
    · rw [e0, if_pos (show nI 0 = 0 from rfl), e1]
    · rw [m1.2.1.2.1, if_pos (show nI 0 = 0 from rfl), e2]
  obtain ⟨m', hm', hmm, hcl⟩ : ∃ m', m' < 6 ∧ (m + 5) % 6 = m' ∧ (m = 0 → m' = 5) ∧ (m ≠ 0 → m' = m - 1) := ⟨(m + 5) % 6, by omega, rfl, by omega, by omega⟩
  have hslot := hj 0 (by omega)
  rw [Nat.sub_zero, hmm] at hslot
  -- the class
  have cls : ∃ τ1, F_X3_restoreLatest_1 σ = some τ1 ∧ s_bc (xup (xup σ 19 1 (nI m')) 19 0 (nI (k - 1))) τ1 1 (21 + 18 * m') := by
    obtain ⟨τ1, a1, a2⟩ := rest_h (σ := xup (xup σ 19 1 (nI m')) 19 0 (nI (k - 1))) hm' (by simp (disch := omega) only [Nat.add_zero, Nat.zero_add, Nat.zero_mul, Nat.mul_zero, mc8, mc3, nU_f, nU_k, nU_e, xbd_some, xgd_true, xlet_eq, g_in, nI_clamp, nI_leI, nI_ltI, nI_eq, nI_add, pk_mul, pk_sub, rd_e, rd_k, rd_c, i10, i01, xsm_l, xsm_r, if_pos, if_neg, l_neg1, oI_e0, nI_e0, oI_nI, ne_eq, not_true_eq_false, not_false_eq_true, and_true, true_and, and_false, false_and, or_true, true_or, or_false, false_or, if_true, if_false, lit_0, lit_1, lit_2, lit_3, lit_4, lit_5, lit_6, lit_8, lit_9, lit_10, lit_12, lit_13, lit_21, lit_29, lit_30, lit_31, lit_37, lit_101, lit_120, lit_121, lit_127, lit_169, lit_64, lit_99, lit_999, lit_676, lit_845, lit_48, lit_57, lit_32, lit_59])
    refine ⟨τ1, ?_, a2⟩
    unfold F_X3_restoreLatest_1
    by_cases m0 : m = 0
    · have e5 := hcl.1 m0
      subst m0 e5
      simp (disch := omega) only [Nat.add_zero, Nat.zero_add, Nat.zero_mul, Nat.mul_zero, mc8, mc3, nU_f, nU_k, nU_e, xbd_some, xgd_true, xlet_eq, g_in, nI_clamp, nI_leI, nI_ltI, nI_eq, nI_add, pk_mul, pk_sub, rd_e, rd_k, rd_c, i10, i01, xsm_l, xsm_r, if_pos, if_neg, l_neg1, oI_e0, nI_e0, oI_nI, ne_eq, not_true_eq_false, not_false_eq_true, and_true, true_and, and_false, false_and, or_true, true_or, or_false, false_or, if_true, if_false, lit_0, lit_1, lit_2, lit_3, lit_4, lit_5, lit_6, lit_8, lit_9, lit_10, lit_12, lit_13, lit_21, lit_29, lit_30, lit_31, lit_37, lit_101, lit_120, lit_121, lit_127, lit_169, lit_64, lit_99, lit_999, lit_676, lit_845, lit_48, lit_57, lit_32, lit_59, e1, e0, a1]
    · have e5 := hcl.2 m0
      subst e5
      simp (disch := omega) only [Nat.add_zero, Nat.zero_add, Nat.zero_mul, Nat.mul_zero, mc8, mc3, nU_f, nU_k, nU_e, xbd_some, xgd_true, xlet_eq, g_in, nI_clamp, nI_leI, nI_ltI, nI_eq, nI_add, pk_mul, pk_sub, rd_e, rd_k, rd_c, i10, i01, xsm_l, xsm_r, if_pos, if_neg, l_neg1, oI_e0, nI_e0, oI_nI, ne_eq, not_true_eq_false, not_false_eq_true, and_true, true_and, and_false, false_and, or_true, true_or, or_false, false_or, if_true, if_false, lit_0, lit_1, lit_2, lit_3, lit_4, lit_5, lit_6, lit_8, lit_9, lit_10, lit_12, lit_13, lit_21, lit_29, lit_30, lit_31, lit_37, lit_101, lit_120, lit_121, lit_127, lit_169, lit_64, lit_99, lit_999, lit_676, lit_845, lit_48, lit_57, lit_32, lit_59, e1, e0, a1]
  obtain ⟨τ1, a1, a2⟩ := cls
  have fr := a2.1
  have wf0 := hW.2.2.1 0 (by omega)
  have hs0 : s_C (xup (xup σ 19 1 (nI m')) 19 0 (nI (k - 1))) (21 + 18 * m') (H 0) := C_blk (fun c x y => by simp (disch := omega) only [Nat.add_zero, Nat.zero_add, Nat.zero_mul, Nat.mul_zero, mc8, mc3, nU_f, nU_k, nU_e, xbd_some, xgd_true, xlet_eq, g_in, nI_clamp, nI_leI, nI_ltI, nI_eq, nI_add, pk_mul, pk_sub, rd_e, rd_k, rd_c, i10, i01, xsm_l, xsm_r, if_pos, if_neg, l_neg1, oI_e0, nI_e0, oI_nI, ne_eq, not_true_eq_false, not_false_eq_true, and_true, true_and, and_false, false_and, or_true, true_or, or_false, false_or, if_true, if_false, lit_0, lit_1, lit_2, lit_3, lit_4, lit_5, lit_6, lit_8, lit_9, lit_10, lit_12, lit_13, lit_21, lit_29, lit_30, lit_31, lit_37, lit_101, lit_120, lit_121, lit_127, lit_169, lit_64, lit_99, lit_999, lit_676, lit_845, lit_48, lit_57, lit_32, lit_59]) hslot
  have hC1 : s_C τ1 1 (H 0) := bc_C wf0.1 a2 hs0
  have t19 : τ1 19 = xup (xup σ 19 1 (nI m')) 19 0 (nI (k - 1)) 19 := fr 19 (by omega)
  have cls2 : IC (xup τ1 132 3 (nI 0)) (H 0) (k - 1) (shH H) L T b := by
    refine ⟨C_blk (fun c x y => by simp (disch := omega) only [Nat.add_zero, Nat.zero_add, Nat.zero_mul, Nat.mul_zero, mc8, mc3, nU_f, nU_k, nU_e, xbd_some, xgd_true, xlet_eq, g_in, nI_clamp, nI_leI, nI_ltI, nI_eq, nI_add, pk_mul, pk_sub, rd_e, rd_k, rd_c, i10, i01, xsm_l, xsm_r, if_pos, if_neg, l_neg1, oI_e0, nI_e0, oI_nI, ne_eq, not_true_eq_false, not_false_eq_true, and_true, true_and, and_false, false_and, or_true, true_or, or_false, false_or, if_true, if_false, lit_0, lit_1, lit_2, lit_3, lit_4, lit_5, lit_6, lit_8, lit_9, lit_10, lit_12, lit_13, lit_21, lit_29, lit_30, lit_31, lit_37, lit_101, lit_120, lit_121, lit_127, lit_169, lit_64, lit_99, lit_999, lit_676, lit_845, lit_48, lit_57, lit_32, lit_59]) hC1, ⟨m', hm', by omega, ?_, ?_, fun j hjk => ?_⟩, ?_, ?_, Or.inl (by simp (disch := omega) only [Nat.add_zero, Nat.zero_add, Nat.zero_mul, Nat.mul_zero, mc8, mc3, nU_f, nU_k, nU_e, xbd_some, xgd_true, xlet_eq, g_in, nI_clamp, nI_leI, nI_ltI, nI_eq, nI_add, pk_mul, pk_sub, rd_e, rd_k, rd_c, i10, i01, xsm_l, xsm_r, if_pos, if_neg, l_neg1, oI_e0, nI_e0, oI_nI, ne_eq, not_true_eq_false, not_false_eq_true, and_true, true_and, and_false, false_and, or_true, true_or, or_false, false_or, if_true, if_false, lit_0, lit_1, lit_2, lit_3, lit_4, lit_5, lit_6, lit_8, lit_9, lit_10, lit_12, lit_13, lit_21, lit_29, lit_30, lit_31, lit_37, lit_101, lit_120, lit_121, lit_127, lit_169, lit_64, lit_99, lit_999, lit_676, lit_845, lit_48, lit_57, lit_32, lit_59])⟩
    · simp (disch := omega) only [Nat.add_zero, Nat.zero_add, Nat.zero_mul, Nat.mul_zero, mc8, mc3, nU_f, nU_k, nU_e, xbd_some, xgd_true, xlet_eq, g_in, nI_clamp, nI_leI, nI_ltI, nI_eq, nI_add, pk_mul, pk_sub, rd_e, rd_k, rd_c, i10, i01, xsm_l, xsm_r, if_pos, if_neg, l_neg1, oI_e0, nI_e0, oI_nI, ne_eq, not_true_eq_false, not_false_eq_true, and_true, true_and, and_false, false_and, or_true, true_or, or_false, false_or, if_true, if_false, lit_0, lit_1, lit_2, lit_3, lit_4, lit_5, lit_6, lit_8, lit_9, lit_10, lit_12, lit_13, lit_21, lit_29, lit_30, lit_31, lit_37, lit_101, lit_120, lit_121, lit_127, lit_169, lit_64, lit_99, lit_999, lit_676, lit_845, lit_48, lit_57, lit_32, lit_59, t19]
    · simp (disch := omega) only [Nat.add_zero, Nat.zero_add, Nat.zero_mul, Nat.mul_zero, mc8, mc3, nU_f, nU_k, nU_e, xbd_some, xgd_true, xlet_eq, g_in, nI_clamp, nI_leI, nI_ltI, nI_eq, nI_add, pk_mul, pk_sub, rd_e, rd_k, rd_c, i10, i01, xsm_l, xsm_r, if_pos, if_neg, l_neg1, oI_e0, nI_e0, oI_nI, ne_eq, not_true_eq_false, not_false_eq_true, and_true, true_and, and_false, false_and, or_true, true_or, or_false, false_or, if_true, if_false, lit_0, lit_1, lit_2, lit_3, lit_4, lit_5, lit_6, lit_8, lit_9, lit_10, lit_12, lit_13, lit_21, lit_29, lit_30, lit_31, lit_37, lit_101, lit_120, lit_121, lit_127, lit_169, lit_64, lit_99, lit_999, lit_676, lit_845, lit_48, lit_57, lit_32, lit_59, t19]
    · unfold shH
      have := hj (j + 1) (by omega)
      rw [show (m + 5 - (j + 1)) % 6 = (m' + 5 - j) % 6 by omega] at this
      refine C_blk (fun c x y => ?_) this
      simp (disch := omega) only [Nat.add_zero, Nat.zero_add, Nat.zero_mul, Nat.mul_zero, mc8, mc3, nU_f, nU_k, nU_e, xbd_some, xgd_true, xlet_eq, g_in, nI_clamp, nI_leI, nI_ltI, nI_eq, nI_add, pk_mul, pk_sub, rd_e, rd_k, rd_c, i10, i01, xsm_l, xsm_r, if_pos, if_neg, l_neg1, oI_e0, nI_e0, oI_nI, ne_eq, not_true_eq_false, not_false_eq_true, and_true, true_and, and_false, false_and, or_true, true_or, or_false, false_or, if_true, if_false, lit_0, lit_1, lit_2, lit_3, lit_4, lit_5, lit_6, lit_8, lit_9, lit_10, lit_12, lit_13, lit_21, lit_29, lit_30, lit_31, lit_37, lit_101, lit_120, lit_121, lit_127, lit_169, lit_64, lit_99, lit_999, lit_676, lit_845, lit_48, lit_57, lit_32, lit_59]
      rw [fr c (by omega)]
      simp (disch := omega) only [Nat.add_zero, Nat.zero_add, Nat.zero_mul, Nat.mul_zero, mc8, mc3, nU_f, nU_k, nU_e, xbd_some, xgd_true, xlet_eq, g_in, nI_clamp, nI_leI, nI_ltI, nI_eq, nI_add, pk_mul, pk_sub, rd_e, rd_k, rd_c, i10, i01, xsm_l, xsm_r, if_pos, if_neg, l_neg1, oI_e0, nI_e0, oI_nI, ne_eq, not_true_eq_false, not_false_eq_true, and_true, true_and, and_false, false_and, or_true, true_or, or_false, false_or, if_true, if_false, lit_0, lit_1, lit_2, lit_3, lit_4, lit_5, lit_6, lit_8, lit_9, lit_10, lit_12, lit_13, lit_21, lit_29, lit_30, lit_31, lit_37, lit_101, lit_120, lit_121, lit_127, lit_169, lit_64, lit_99, lit_999, lit_676, lit_845, lit_48, lit_57, lit_32, lit_59]
    · refine Ib_cg h3 ?_
      simp (disch := omega) only [Nat.add_zero, Nat.zero_add, Nat.zero_mul, Nat.mul_zero, mc8, mc3, nU_f, nU_k, nU_e, xbd_some, xgd_true, xlet_eq, g_in, nI_clamp, nI_leI, nI_ltI, nI_eq, nI_add, pk_mul, pk_sub, rd_e, rd_k, rd_c, i10, i01, xsm_l, xsm_r, if_pos, if_neg, l_neg1, oI_e0, nI_e0, oI_nI, ne_eq, not_true_eq_false, not_false_eq_true, and_true, true_and, and_false, false_and, or_true, true_or, or_false, false_or, if_true, if_false, lit_0, lit_1, lit_2, lit_3, lit_4, lit_5, lit_6, lit_8, lit_9, lit_10, lit_12, lit_13, lit_21, lit_29, lit_30, lit_31, lit_37, lit_101, lit_120, lit_121, lit_127, lit_169, lit_64, lit_99, lit_999, lit_676, lit_845, lit_48, lit_57, lit_32, lit_59]
      rw [fr 0 (by omega)]
      simp (disch := omega) only [Nat.add_zero, Nat.zero_add, Nat.zero_mul, Nat.mul_zero, mc8, mc3, nU_f, nU_k, nU_e, xbd_some, xgd_true, xlet_eq, g_in, nI_clamp, nI_leI, nI_ltI, nI_eq, nI_add, pk_mul, pk_sub, rd_e, rd_k, rd_c, i10, i01, xsm_l, xsm_r, if_pos, if_neg, l_neg1, oI_e0, nI_e0, oI_nI, ne_eq, not_true_eq_false, not_false_eq_true, and_true, true_and, and_false, false_and, or_true, true_or, or_false, false_or, if_true, if_false, lit_0, lit_1, lit_2, lit_3, lit_4, lit_5, lit_6, lit_8, lit_9, lit_10, lit_12, lit_13, lit_21, lit_29, lit_30, lit_31, lit_37, lit_101, lit_120, lit_121, lit_127, lit_169, lit_64, lit_99, lit_999, lit_676, lit_845, lit_48, lit_57, lit_32, lit_59]
    · refine It_cg h4 ?_ ?_
      · simp (disch := omega) only [Nat.add_zero, Nat.zero_add, Nat.zero_mul, Nat.mul_zero, mc8, mc3, nU_f, nU_k, nU_e, xbd_some, xgd_true, xlet_eq, g_in, nI_clamp, nI_leI, nI_ltI, nI_eq, nI_add, pk_mul, pk_sub, rd_e, rd_k, rd_c, i10, i01, xsm_l, xsm_r, if_pos, if_neg, l_neg1, oI_e0, nI_e0, oI_nI, ne_eq, not_true_eq_false, not_false_eq_true, and_true, true_and, and_false, false_and, or_true, true_or, or_false, false_or, if_true, if_false, lit_0, lit_1, lit_2, lit_3, lit_4, lit_5, lit_6, lit_8, lit_9, lit_10, lit_12, lit_13, lit_21, lit_29, lit_30, lit_31, lit_37, lit_101, lit_120, lit_121, lit_127, lit_169, lit_64, lit_99, lit_999, lit_676, lit_845, lit_48, lit_57, lit_32, lit_59]
        rw [fr 137 (by omega)]
        simp (disch := omega) only [Nat.add_zero, Nat.zero_add, Nat.zero_mul, Nat.mul_zero, mc8, mc3, nU_f, nU_k, nU_e, xbd_some, xgd_true, xlet_eq, g_in, nI_clamp, nI_leI, nI_ltI, nI_eq, nI_add, pk_mul, pk_sub, rd_e, rd_k, rd_c, i10, i01, xsm_l, xsm_r, if_pos, if_neg, l_neg1, oI_e0, nI_e0, oI_nI, ne_eq, not_true_eq_false, not_false_eq_true, and_true, true_and, and_false, false_and, or_true, true_or, or_false, false_or, if_true, if_false, lit_0, lit_1, lit_2, lit_3, lit_4, lit_5, lit_6, lit_8, lit_9, lit_10, lit_12, lit_13, lit_21, lit_29, lit_30, lit_31, lit_37, lit_101, lit_120, lit_121, lit_127, lit_169, lit_64, lit_99, lit_999, lit_676, lit_845, lit_48, lit_57, lit_32, lit_59]
      · simp (disch := omega) only [Nat.add_zero, Nat.zero_add, Nat.zero_mul, Nat.mul_zero, mc8, mc3, nU_f, nU_k, nU_e, xbd_some, xgd_true, xlet_eq, g_in, nI_clamp, nI_leI, nI_ltI, nI_eq, nI_add, pk_mul, pk_sub, rd_e, rd_k, rd_c, i10, i01, xsm_l, xsm_r, if_pos, if_neg, l_neg1, oI_e0, nI_e0, oI_nI, ne_eq, not_true_eq_false, not_false_eq_true, and_true, true_and, and_false, false_and, or_true, true_or, or_false, false_or, if_true, if_false, lit_0, lit_1, lit_2, lit_3, lit_4, lit_5, lit_6, lit_8, lit_9, lit_10, lit_12, lit_13, lit_21, lit_29, lit_30, lit_31, lit_37, lit_101, lit_120, lit_121, lit_127, lit_169, lit_64, lit_99, lit_999, lit_676, lit_845, lit_48, lit_57, lit_32, lit_59]
        rw [fr 138 (by omega)]
        simp (disch := omega) only [Nat.add_zero, Nat.zero_add, Nat.zero_mul, Nat.mul_zero, mc8, mc3, nU_f, nU_k, nU_e, xbd_some, xgd_true, xlet_eq, g_in, nI_clamp, nI_leI, nI_ltI, nI_eq, nI_add, pk_mul, pk_sub, rd_e, rd_k, rd_c, i10, i01, xsm_l, xsm_r, if_pos, if_neg, l_neg1, oI_e0, nI_e0, oI_nI, ne_eq, not_true_eq_false, not_false_eq_true, and_true, true_and, and_false, false_and, or_true, true_or, or_false, false_or, if_true, if_false, lit_0, lit_1, lit_2, lit_3, lit_4, lit_5, lit_6, lit_8, lit_9, lit_10, lit_12, lit_13, lit_21, lit_29, lit_30, lit_31, lit_37, lit_101, lit_120, lit_121, lit_127, lit_169, lit_64, lit_99, lit_999, lit_676, lit_845, lit_48, lit_57, lit_32, lit_59]
  have hi : ∀ c, 141 ≤ c → xup τ1 132 3 (nI 0) c = σ c := fun c hc => by
    simp (disch := omega) only [Nat.add_zero, Nat.zero_add, Nat.zero_mul, Nat.mul_zero, mc8, mc3, nU_f, nU_k, nU_e, xbd_some, xgd_true, xlet_eq, g_in, nI_clamp, nI_leI, nI_ltI, nI_eq, nI_add, pk_mul, pk_sub, rd_e, rd_k, rd_c, i10, i01, xsm_l, xsm_r, if_pos, if_neg, l_neg1, oI_e0, nI_e0, oI_nI, ne_eq, not_true_eq_false, not_false_eq_true, and_true, true_and, and_false, false_and, or_true, true_or, or_false, false_or, if_true, if_false, lit_0, lit_1, lit_2, lit_3, lit_4, lit_5, lit_6, lit_8, lit_9, lit_10, lit_12, lit_13, lit_21, lit_29, lit_30, lit_31, lit_37, lit_101, lit_120, lit_121, lit_127, lit_169, lit_64, lit_99, lit_999, lit_676, lit_845, lit_48, lit_57, lit_32, lit_59]
    rw [fr c (by omega)]
    simp (disch := omega) only [Nat.add_zero, Nat.zero_add, Nat.zero_mul, Nat.mul_zero, mc8, mc3, nU_f, nU_k, nU_e, xbd_some, xgd_true, xlet_eq, g_in, nI_clamp, nI_leI, nI_ltI, nI_eq, nI_add, pk_mul, pk_sub, rd_e, rd_k, rd_c, i10, i01, xsm_l, xsm_r, if_pos, if_neg, l_neg1, oI_e0, nI_e0, oI_nI, ne_eq, not_true_eq_false, not_false_eq_true, and_true, true_and, and_false, false_and, or_true, true_or, or_false, false_or, if_true, if_false, lit_0, lit_1, lit_2, lit_3, lit_4, lit_5, lit_6, lit_8, lit_9, lit_10, lit_12, lit_13, lit_21, lit_29, lit_30, lit_31, lit_37, lit_101, lit_120, lit_121, lit_127, lit_169, lit_64, lit_99, lit_999, lit_676, lit_845, lit_48, lit_57, lit_32, lit_59]
  have hM1 := IM_lo hM hi
  generalize hT1 : xup τ1 132 3 (nI 0) = υ at *
  obtain ⟨g1, ⟨-, g3, gj⟩, gb, gt⟩ := hM1
  have u19 : υ 19 0 = nI (k - 1) := by rw [← hT1]; simp (disch := omega) only [Nat.add_zero, Nat.zero_add, Nat.zero_mul, Nat.mul_zero, mc8, mc3, nU_f, nU_k, nU_e, xbd_some, xgd_true, xlet_eq, g_in, nI_clamp, nI_leI, nI_ltI, nI_eq, nI_add, pk_mul, pk_sub, rd_e, rd_k, rd_c, i10, i01, xsm_l, xsm_r, if_pos, if_neg, l_neg1, oI_e0, nI_e0, oI_nI, ne_eq, not_true_eq_false, not_false_eq_true, and_true, true_and, and_false, false_and, or_true, true_or, or_false, false_or, if_true, if_false, lit_0, lit_1, lit_2, lit_3, lit_4, lit_5, lit_6, lit_8, lit_9, lit_10, lit_12, lit_13, lit_21, lit_29, lit_30, lit_31, lit_37, lit_101, lit_120, lit_121, lit_127, lit_169, lit_64, lit_99, lit_999, lit_676, lit_845, lit_48, lit_57, lit_32, lit_59, t19]
  -- the model
  have mod : ∃ ω, L_X11_back_15 (nI 0) (xup υ 141 3 (nI (k - 1))) = some ω ∧ (∀ c, c ≠ 142 → ω c = xup υ 141 3 (nI (k - 1)) c) ∧ ∀ p, p < 169 → ω 142 p = υ 143 (169 * (k - 1) + p) := by
    unfold L_X11_back_15
    refine xloop_for (f := fun x : Int32 × xM => B_X11_back_15 x.1 x.2) (fun j x => x.1 = nI j ∧ (∀ c, c ≠ 142 → x.2 c = xup υ 141 3 (nI (k - 1)) c) ∧ ∀ p, p < j → x.2 142 p = υ 143 (169 * (k - 1) + p)) (fun ω => (∀ c, c ≠ 142 → ω c = xup υ 141 3 (nI (k - 1)) c) ∧ ∀ p, p < 169 → ω 142 p = υ 143 (169 * (k - 1) + p)) 169 ?_ ?_ 6000 0 (nI 0, xup υ 141 3 (nI (k - 1))) (by omega) (by omega) ⟨rfl, fun _ _ => rfl, fun p hp => absurd hp (by omega)⟩
    · intro j ⟨v, ω⟩ hj ⟨q1, q2, q3⟩
      dsimp only at q1 q2 q3 ⊢
      subst q1
      left
      have w3 : ω 141 3 = nI (k - 1) := by rw [q2 141 (by omega)]; simp (disch := omega) only [Nat.add_zero, Nat.zero_add, Nat.zero_mul, Nat.mul_zero, mc8, mc3, nU_f, nU_k, nU_e, xbd_some, xgd_true, xlet_eq, g_in, nI_clamp, nI_leI, nI_ltI, nI_eq, nI_add, pk_mul, pk_sub, rd_e, rd_k, rd_c, i10, i01, xsm_l, xsm_r, if_pos, if_neg, l_neg1, oI_e0, nI_e0, oI_nI, ne_eq, not_true_eq_false, not_false_eq_true, and_true, true_and, and_false, false_and, or_true, true_or, or_false, false_or, if_true, if_false, lit_0, lit_1, lit_2, lit_3, lit_4, lit_5, lit_6, lit_8, lit_9, lit_10, lit_12, lit_13, lit_21, lit_29, lit_30, lit_31, lit_37, lit_101, lit_120, lit_121, lit_127, lit_169, lit_64, lit_99, lit_999, lit_676, lit_845, lit_48, lit_57, lit_32, lit_59]
      have w4 : ω 143 = υ 143 := by rw [q2 143 (by omega)]; simp (disch := omega) only [Nat.add_zero, Nat.zero_add, Nat.zero_mul, Nat.mul_zero, mc8, mc3, nU_f, nU_k, nU_e, xbd_some, xgd_true, xlet_eq, g_in, nI_clamp, nI_leI, nI_ltI, nI_eq, nI_add, pk_mul, pk_sub, rd_e, rd_k, rd_c, i10, i01, xsm_l, xsm_r, if_pos, if_neg, l_neg1, oI_e0, nI_e0, oI_nI, ne_eq, not_true_eq_false, not_false_eq_true, and_true, true_and, and_false, false_and, or_true, true_or, or_false, false_or, if_true, if_false, lit_0, lit_1, lit_2, lit_3, lit_4, lit_5, lit_6, lit_8, lit_9, lit_10, lit_12, lit_13, lit_21, lit_29, lit_30, lit_31, lit_37, lit_101, lit_120, lit_121, lit_127, lit_169, lit_64, lit_99, lit_999, lit_676, lit_845, lit_48, lit_57, lit_32, lit_59]
      unfold B_X11_back_15
      simp (disch := omega) only [Nat.add_zero, Nat.zero_add, Nat.zero_mul, Nat.mul_zero, mc8, mc3, nU_f, nU_k, nU_e, xbd_some, xgd_true, xlet_eq, g_in, nI_clamp, nI_leI, nI_ltI, nI_eq, nI_add, pk_mul, pk_sub, rd_e, rd_k, rd_c, i10, i01, xsm_l, xsm_r, if_pos, if_neg, l_neg1, oI_e0, nI_e0, oI_nI, ne_eq, not_true_eq_false, not_false_eq_true, and_true, true_and, and_false, false_and, or_true, true_or, or_false, false_or, if_true, if_false, lit_0, lit_1, lit_2, lit_3, lit_4, lit_5, lit_6, lit_8, lit_9, lit_10, lit_12, lit_13, lit_21, lit_29, lit_30, lit_31, lit_37, lit_101, lit_120, lit_121, lit_127, lit_169, lit_64, lit_99, lit_999, lit_676, lit_845, lit_48, lit_57, lit_32, lit_59, w3, w4]
      refine ⟨_, rfl, rfl, fun c hc => by simp (disch := omega) only [Nat.add_zero, Nat.zero_add, Nat.zero_mul, Nat.mul_zero, mc8, mc3, nU_f, nU_k, nU_e, xbd_some, xgd_true, xlet_eq, g_in, nI_clamp, nI_leI, nI_ltI, nI_eq, nI_add, pk_mul, pk_sub, rd_e, rd_k, rd_c, i10, i01, xsm_l, xsm_r, if_pos, if_neg, l_neg1, oI_e0, nI_e0, oI_nI, ne_eq, not_true_eq_false, not_false_eq_true, and_true, true_and, and_false, false_and, or_true, true_or, or_false, false_or, if_true, if_false, lit_0, lit_1, lit_2, lit_3, lit_4, lit_5, lit_6, lit_8, lit_9, lit_10, lit_12, lit_13, lit_21, lit_29, lit_30, lit_31, lit_37, lit_101, lit_120, lit_121, lit_127, lit_169, lit_64, lit_99, lit_999, lit_676, lit_845, lit_48, lit_57, lit_32, lit_59]; exact (q2 c hc).trans (by simp (disch := omega) only [Nat.add_zero, Nat.zero_add, Nat.zero_mul, Nat.mul_zero, mc8, mc3, nU_f, nU_k, nU_e, xbd_some, xgd_true, xlet_eq, g_in, nI_clamp, nI_leI, nI_ltI, nI_eq, nI_add, pk_mul, pk_sub, rd_e, rd_k, rd_c, i10, i01, xsm_l, xsm_r, if_pos, if_neg, l_neg1, oI_e0, nI_e0, oI_nI, ne_eq, not_true_eq_false, not_false_eq_true, and_true, true_and, and_false, false_and, or_true, true_or, or_false, false_or, if_true, if_false, lit_0, lit_1, lit_2, lit_3, lit_4, lit_5, lit_6, lit_8, lit_9, lit_10, lit_12, lit_13, lit_21, lit_29, lit_30, lit_31, lit_37, lit_101, lit_120, lit_121, lit_127, lit_169, lit_64, lit_99, lit_999, lit_676, lit_845, lit_48, lit_57, lit_32, lit_59]), fun p hp => ?_⟩
      by_cases e : p = j
      · subst e; simp (disch := omega) only [Nat.add_zero, Nat.zero_add, Nat.zero_mul, Nat.mul_zero, mc8, mc3, nU_f, nU_k, nU_e, xbd_some, xgd_true, xlet_eq, g_in, nI_clamp, nI_leI, nI_ltI, nI_eq, nI_add, pk_mul, pk_sub, rd_e, rd_k, rd_c, i10, i01, xsm_l, xsm_r, if_pos, if_neg, l_neg1, oI_e0, nI_e0, oI_nI, ne_eq, not_true_eq_false, not_false_eq_true, and_true, true_and, and_false, false_and, or_true, true_or, or_false, false_or, if_true, if_false, lit_0, lit_1, lit_2, lit_3, lit_4, lit_5, lit_6, lit_8, lit_9, lit_10, lit_12, lit_13, lit_21, lit_29, lit_30, lit_31, lit_37, lit_101, lit_120, lit_121, lit_127, lit_169, lit_64, lit_99, lit_999, lit_676, lit_845, lit_48, lit_57, lit_32, lit_59]
      · simp (disch := omega) only [Nat.add_zero, Nat.zero_add, Nat.zero_mul, Nat.mul_zero, mc8, mc3, nU_f, nU_k, nU_e, xbd_some, xgd_true, xlet_eq, g_in, nI_clamp, nI_leI, nI_ltI, nI_eq, nI_add, pk_mul, pk_sub, rd_e, rd_k, rd_c, i10, i01, xsm_l, xsm_r, if_pos, if_neg, l_neg1, oI_e0, nI_e0, oI_nI, ne_eq, not_true_eq_false, not_false_eq_true, and_true, true_and, and_false, false_and, or_true, true_or, or_false, false_or, if_true, if_false, lit_0, lit_1, lit_2, lit_3, lit_4, lit_5, lit_6, lit_8, lit_9, lit_10, lit_12, lit_13, lit_21, lit_29, lit_30, lit_31, lit_37, lit_101, lit_120, lit_121, lit_127, lit_169, lit_64, lit_99, lit_999, lit_676, lit_845, lit_48, lit_57, lit_32, lit_59]
        exact q3 p (by omega)
    · intro ⟨v, ω⟩ ⟨q1, q2, q3⟩
      dsimp only at q1 q2 q3 ⊢
      subst q1
      unfold B_X11_back_15
      simp (disch := omega) only [Nat.add_zero, Nat.zero_add, Nat.zero_mul, Nat.mul_zero, mc8, mc3, nU_f, nU_k, nU_e, xbd_some, xgd_true, xlet_eq, g_in, nI_clamp, nI_leI, nI_ltI, nI_eq, nI_add, pk_mul, pk_sub, rd_e, rd_k, rd_c, i10, i01, xsm_l, xsm_r, if_pos, if_neg, l_neg1, oI_e0, nI_e0, oI_nI, ne_eq, not_true_eq_false, not_false_eq_true, and_true, true_and, and_false, false_and, or_true, true_or, or_false, false_or, if_true, if_false, lit_0, lit_1, lit_2, lit_3, lit_4, lit_5, lit_6, lit_8, lit_9, lit_10, lit_12, lit_13, lit_21, lit_29, lit_30, lit_31, lit_37, lit_101, lit_120, lit_121, lit_127, lit_169, lit_64, lit_99, lit_999, lit_676, lit_845, lit_48, lit_57, lit_32, lit_59]
      exact ⟨_, rfl, fun c hc => (q2 c hc).trans (by simp (disch := omega) only [Nat.add_zero, Nat.zero_add, Nat.zero_mul, Nat.mul_zero, mc8, mc3, nU_f, nU_k, nU_e, xbd_some, xgd_true, xlet_eq, g_in, nI_clamp, nI_leI, nI_ltI, nI_eq, nI_add, pk_mul, pk_sub, rd_e, rd_k, rd_c, i10, i01, xsm_l, xsm_r, if_pos, if_neg, l_neg1, oI_e0, nI_e0, oI_nI, ne_eq, not_true_eq_false, not_false_eq_true, and_true, true_and, and_false, false_and, or_true, true_or, or_false, false_or, if_true, if_false, lit_0, lit_1, lit_2, lit_3, lit_4, lit_5, lit_6, lit_8, lit_9, lit_10, lit_12, lit_13, lit_21, lit_29, lit_30, lit_31, lit_37, lit_101, lit_120, lit_121, lit_127, lit_169, lit_64, lit_99, lit_999, lit_676, lit_845, lit_48, lit_57, lit_32, lit_59]), q3⟩
  obtain ⟨ω, n1, n2, n3⟩ := mod
  have o3 : ω 141 3 = nI (k - 1) := by rw [n2 141 (by omega)]; simp (disch := omega) only [Nat.add_zero, Nat.zero_add, Nat.zero_mul, Nat.mul_zero, mc8, mc3, nU_f, nU_k, nU_e, xbd_some, xgd_true, xlet_eq, g_in, nI_clamp, nI_leI, nI_ltI, nI_eq, nI_add, pk_mul, pk_sub, rd_e, rd_k, rd_c, i10, i01, xsm_l, xsm_r, if_pos, if_neg, l_neg1, oI_e0, nI_e0, oI_nI, ne_eq, not_true_eq_false, not_false_eq_true, and_true, true_and, and_false, false_and, or_true, true_or, or_false, false_or, if_true, if_false, lit_0, lit_1, lit_2, lit_3, lit_4, lit_5, lit_6, lit_8, lit_9, lit_10, lit_12, lit_13, lit_21, lit_29, lit_30, lit_31, lit_37, lit_101, lit_120, lit_121, lit_127, lit_169, lit_64, lit_99, lit_999, lit_676, lit_845, lit_48, lit_57, lit_32, lit_59]
  refine ⟨nI (k - 1), υ, ω, ?_, ?_, H 0, k - 1, shH H, L, T, b, ⟨wf0.1, wf0.2, fun j hjk => hW.2.2.1 (j + 1) (by omega), hW.2.2.2⟩, IC_hi cls2 (fun c hc => by rw [n2 c (by omega)]; simp (disch := omega) only [Nat.add_zero, Nat.zero_add, Nat.zero_mul, Nat.mul_zero, mc8, mc3, nU_f, nU_k, nU_e, xbd_some, xgd_true, xlet_eq, g_in, nI_clamp, nI_leI, nI_ltI, nI_eq, nI_add, pk_mul, pk_sub, rd_e, rd_k, rd_c, i10, i01, xsm_l, xsm_r, if_pos, if_neg, l_neg1, oI_e0, nI_e0, oI_nI, ne_eq, not_true_eq_false, not_false_eq_true, and_true, true_and, and_false, false_and, or_true, true_or, or_false, false_or, if_true, if_false, lit_0, lit_1, lit_2, lit_3, lit_4, lit_5, lit_6, lit_8, lit_9, lit_10, lit_12, lit_13, lit_21, lit_29, lit_30, lit_31, lit_37, lit_101, lit_120, lit_121, lit_127, lit_169, lit_64, lit_99, lit_999, lit_676, lit_845, lit_48, lit_57, lit_32, lit_59]), ?_, ⟨by omega, o3, fun j hjk => ?_⟩, ?_, ?_⟩
  · rw [e0, if_neg (nI_ne0 (by omega) (by omega)), xbd_s a1]
    unfold F_X5_forget
    rw [show xlet (xup τ1 132 3 0) (fun σ1 => some σ1) = some υ from by rw [← hT1]; rfl, xbd_some, u19]
  · rw [g3, if_neg (nI_ne0 (by omega) (by omega))]
    simp (disch := omega) only [Nat.add_zero, Nat.zero_add, Nat.zero_mul, Nat.mul_zero, mc8, mc3, nU_f, nU_k, nU_e, xbd_some, xgd_true, xlet_eq, g_in, nI_clamp, nI_leI, nI_ltI, nI_eq, nI_add, pk_mul, pk_sub, rd_e, rd_k, rd_c, i10, i01, xsm_l, xsm_r, if_pos, if_neg, l_neg1, oI_e0, nI_e0, oI_nI, ne_eq, not_true_eq_false, not_false_eq_true, and_true, true_and, and_false, false_and, or_true, true_or, or_false, false_or, if_true, if_false, lit_0, lit_1, lit_2, lit_3, lit_4, lit_5, lit_6, lit_8, lit_9, lit_10, lit_12, lit_13, lit_21, lit_29, lit_30, lit_31, lit_37, lit_101, lit_120, lit_121, lit_127, lit_169, lit_64, lit_99, lit_999, lit_676, lit_845, lit_48, lit_57, lit_32, lit_59, n1, o3]
  · have := gj 0 (by omega)
    rw [Nat.sub_zero] at this
    exact M_fun wf0.1.1 (fun p hp => n3 p hp) this
  · have := gj (j + 1) (by omega)
    unfold shH
    refine M_fun (hW.2.2.1 (j + 1) (by omega)).1.1 (fun i hi => ?_) this
    rw [n2 143 (by omega)]
    simp (disch := omega) only [Nat.add_zero, Nat.zero_add, Nat.zero_mul, Nat.mul_zero, mc8, mc3, nU_f, nU_k, nU_e, xbd_some, xgd_true, xlet_eq, g_in, nI_clamp, nI_leI, nI_ltI, nI_eq, nI_add, pk_mul, pk_sub, rd_e, rd_k, rd_c, i10, i01, xsm_l, xsm_r, if_pos, if_neg, l_neg1, oI_e0, nI_e0, oI_nI, ne_eq, not_true_eq_false, not_false_eq_true, and_true, true_and, and_false, false_and, or_true, true_or, or_false, false_or, if_true, if_false, lit_0, lit_1, lit_2, lit_3, lit_4, lit_5, lit_6, lit_8, lit_9, lit_10, lit_12, lit_13, lit_21, lit_29, lit_30, lit_31, lit_37, lit_101, lit_120, lit_121, lit_127, lit_169, lit_64, lit_99, lit_999, lit_676, lit_845, lit_48, lit_57, lit_32, lit_59]
    exact congrArg _ (by omega)
  · refine Jb_cg gb ?_
    rw [n2 145 (by omega)]
    simp (disch := omega) only [Nat.add_zero, Nat.zero_add, Nat.zero_mul, Nat.mul_zero, mc8, mc3, nU_f, nU_k, nU_e, xbd_some, xgd_true, xlet_eq, g_in, nI_clamp, nI_leI, nI_ltI, nI_eq, nI_add, pk_mul, pk_sub, rd_e, rd_k, rd_c, i10, i01, xsm_l, xsm_r, if_pos, if_neg, l_neg1, oI_e0, nI_e0, oI_nI, ne_eq, not_true_eq_false, not_false_eq_true, and_true, true_and, and_false, false_and, or_true, true_or, or_false, false_or, if_true, if_false, lit_0, lit_1, lit_2, lit_3, lit_4, lit_5, lit_6, lit_8, lit_9, lit_10, lit_12, lit_13, lit_21, lit_29, lit_30, lit_31, lit_37, lit_101, lit_120, lit_121, lit_127, lit_169, lit_64, lit_99, lit_999, lit_676, lit_845, lit_48, lit_57, lit_32, lit_59]
  · refine Jt_cg gt ?_ ?_
    · rw [n2 141 (by omega)]
      simp (disch := omega) only [Nat.add_zero, Nat.zero_add, Nat.zero_mul, Nat.mul_zero, mc8, mc3, nU_f, nU_k, nU_e, xbd_some, xgd_true, xlet_eq, g_in, nI_clamp, nI_leI, nI_ltI, nI_eq, nI_add, pk_mul, pk_sub, rd_e, rd_k, rd_c, i10, i01, xsm_l, xsm_r, if_pos, if_neg, l_neg1, oI_e0, nI_e0, oI_nI, ne_eq, not_true_eq_false, not_false_eq_true, and_true, true_and, and_false, false_and, or_true, true_or, or_false, false_or, if_true, if_false, lit_0, lit_1, lit_2, lit_3, lit_4, lit_5, lit_6, lit_8, lit_9, lit_10, lit_12, lit_13, lit_21, lit_29, lit_30, lit_31, lit_37, lit_101, lit_120, lit_121, lit_127, lit_169, lit_64, lit_99, lit_999, lit_676, lit_845, lit_48, lit_57, lit_32, lit_59]
    · rw [n2 153 (by omega)]
      simp (disch := omega) only [Nat.add_zero, Nat.zero_add, Nat.zero_mul, Nat.mul_zero, mc8, mc3, nU_f, nU_k, nU_e, xbd_some, xgd_true, xlet_eq, g_in, nI_clamp, nI_leI, nI_ltI, nI_eq, nI_add, pk_mul, pk_sub, rd_e, rd_k, rd_c, i10, i01, xsm_l, xsm_r, if_pos, if_neg, l_neg1, oI_e0, nI_e0, oI_nI, ne_eq, not_true_eq_false, not_false_eq_true, and_true, true_and, and_false, false_and, or_true, true_or, or_false, false_or, if_true, if_false, lit_0, lit_1, lit_2, lit_3, lit_4, lit_5, lit_6, lit_8, lit_9, lit_10, lit_12, lit_13, lit_21, lit_29, lit_30, lit_31, lit_37, lit_101, lit_120, lit_121, lit_127, lit_169, lit_64, lit_99, lit_999, lit_676, lit_845, lit_48, lit_57, lit_32, lit_59]
