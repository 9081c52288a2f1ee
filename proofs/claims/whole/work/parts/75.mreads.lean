theorem mT_of {σ : xM} {L : Nat} {T : Nat → Nat} {p : Nat} (h : J_t σ L T) (hT : ∀ i, i < L → T i < 128) (hp : σ 141 14 = nI p) (hl : p ≤ L) : mT σ T L p := ⟨h.2.1, hp, hl, h.1, fun i hi => ⟨h.2.2 i hi, hT i hi⟩⟩
theorem er_le {r : Int32} (h : 0 ≤ r ∨ (r = -2 ∨ r = -3 ∨ r = -4)) : (er r = 0 ∧ 0 ≤ r) ∨ (¬ 0 ≤ er r ∧ ¬ er r = 0 ∧ ¬ 0 ≤ r) := by
  rcases h with h | h
  · exact Or.inl ⟨er_p h, h⟩
  · right
    rw [er_e h]
    refine ⟨er_ng h, ?_, er_ng h⟩
    rcases h with rfl | rfl | rfl <;> decide
/-- the second reading: the orders are carried out -/
theorem m_pass2 {σ : xM} {N : xN} {L : Nat} {T : Nat → Nat} (hw : s_wf N) (hy : s_sy N) (hr : p_r T L = 0) (hM : s_M (σ 142) N) (h0 : mT σ T L 0) (h16 : σ 141 16 = nI 0) : ∃ e, L_X11_reads_48 (nI 0) σ = some e ∧ ((∃ j τ, e = .inl (nI j, τ) ∧ j < p_s T L 0 4 ∧ (∀ i, i < j → 0 ≤ (o_sp (p_s T L) i (o_N (p_s T L) N i)).1) ∧ ¬ 0 ≤ (o_sp (p_s T L) j (o_N (p_s T L) N j)).1 ∧ (∀ c, c < 141 ∨ c = 143 ∨ c = 144 ∨ c = 145 ∨ c = 153 → τ c = σ c) ∧ ∀ i, i ≠ 14 → i ≠ 16 → τ 141 i = σ 141 i) ∨ (∃ τ, e = .inr (nI (p_s T L 0 4), τ) ∧ (∀ i, i < p_s T L 0 4 → 0 ≤ (o_sp (p_s T L) i (o_N (p_s T L) N i)).1) ∧ s_M (τ 142) (o_N (p_s T L) N (p_s T L 0 4)) ∧ (∀ c, c < 141 ∨ c = 143 ∨ c = 144 ∨ c = 145 ∨ c = 153 → τ c = σ c) ∧ ∀ i, i ≠ 14 → i ≠ 16 → τ 141 i = σ 141 i)) := by
  have pr : p_s T L 0 0 = 0 ∧ p_s T L 0 1 = 0 ∧ p_s T L 0 4 ≠ 0 := by
    unfold p_r at hr
    split at hr
    · next z => exact absurd hr z
    · next z =>
      split at hr
      · omega
      · next z2 => exact ⟨by omega, by omega, by omega⟩
  have hO : p_s T L 0 4 ≤ 120 := by have := (pinv_s T L).1; have := h0.2.2.2.1; omega
  generalize hPe : p_s T L = P at *
  obtain ⟨P0, P1, P4⟩ := pr
  unfold L_X11_reads_48
  refine xloop_for (f := fun x : Int32 × xM => B_X11_reads_48 x.1 x.2) (fun j x => x.1 = nI j ∧ (∀ i, i < j → 0 ≤ (o_sp P i (o_N P N i)).1) ∧ s_M (x.2 142) (o_N P N j) ∧ (∀ c, c < 141 ∨ c = 143 ∨ c = 144 ∨ c = 145 ∨ c = 153 → x.2 c = σ c) ∧ (∀ i, i ≠ 14 → i ≠ 16 → x.2 141 i = σ 141 i) ∧ ∃ p, mT x.2 T L p ∧ p_s T p 0 0 = 0 ∧ p_s T p 0 1 = 0 ∧ p_s T p 0 4 = j) (fun e => (∃ j τ, e = .inl (nI j, τ) ∧ j < P 0 4 ∧ (∀ i, i < j → 0 ≤ (o_sp P i (o_N P N i)).1) ∧ ¬ 0 ≤ (o_sp P j (o_N P N j)).1 ∧ (∀ c, c < 141 ∨ c = 143 ∨ c = 144 ∨ c = 145 ∨ c = 153 → τ c = σ c) ∧ ∀ i, i ≠ 14 → i ≠ 16 → τ 141 i = σ 141 i) ∨ (∃ τ, e = .inr (nI (P 0 4), τ) ∧ (∀ i, i < P 0 4 → 0 ≤ (o_sp P i (o_N P N i)).1) ∧ s_M (τ 142) (o_N P N (P 0 4)) ∧ (∀ c, c < 141 ∨ c = 143 ∨ c = 144 ∨ c = 145 ∨ c = 153 → τ c = σ c) ∧ ∀ i, i ≠ 14 → i ≠ 16 → τ 141 i = σ 141 i)) (P 0 4) ?_ ?_ 6000 0 (nI 0, σ) (by omega) (by omega) ⟨rfl, fun i hi => absurd hi (by omega), hM, fun _ _ => rfl, fun _ _ _ => rfl, 0, h0, rfl, rfl, rfl⟩
  · intro j ⟨v, τ⟩ hj ⟨h1, h2, h3, h4, h5, p, h6, h7, h8, h9⟩
    dsimp only at h1 h2 h3 h4 h5 h6 h7 h8 h9 ⊢
    subst h1
    obtain ⟨q, τ1, a1, a2, a3, a4, a5, a6, a7⟩ := m_here h6
    have sk := ps_skip h7 q a5 a6
    have s0 : p_s T q 0 0 = 0 ∧ p_s T q 0 1 = 0 ∧ p_s T q 0 4 = j := by
      rw [sk]
      by_cases e : q = p
      · rw [if_pos e]; exact ⟨h7, h8, h9⟩
      · rw [if_neg e]
        simp (disch := omega) only [Nat.add_zero, Nat.zero_add, Nat.zero_mul, Nat.mul_zero, mc8, mc3, nU_f, nU_k, nU_e, xbd_some, xgd_true, xlet_eq, g_in, nI_clamp, nI_leI, nI_ltI, nI_eq, nI_add, pk_mul, pk_sub, rd_e, rd_k, rd_c, i10, i01, xsm_l, xsm_r, if_pos, if_neg, l_neg1, oI_e0, nI_e0, oI_nI, ne_eq, not_true_eq_false, not_false_eq_true, and_true, true_and, and_false, false_and, or_true, true_or, or_false, false_or, if_true, if_false, lit_0, lit_1, lit_2, lit_3, lit_4, lit_5, lit_6, lit_8, lit_9, lit_10, lit_12, lit_13, lit_21, lit_29, lit_30, lit_31, lit_37, lit_101, lit_120, lit_121, lit_127, lit_169, lit_64, lit_99, lit_999, lit_676, lit_845, lit_48, lit_57, lit_32, lit_59]
        exact ⟨h7, h8, h9⟩
    obtain ⟨s1, s2, s3⟩ := s0
    have hqL : q < L := by
      by_cases z : q < L
      · exact z
      · have qL : q = L := by have := a2.2.2.1; omega
        rw [qL, hPe] at s3
        omega
    have tq := (a2.2.2.2.2 q hqL).2
    rw [if_pos hqL] at a1
    obtain ⟨hwj, hyj⟩ := o_wf (P := P) hw hy j
    rcases m_ro 1 a2 s1 s2 s3 (Or.inr ⟨hqL, a7 hqL⟩) with ⟨τ2, f, b1, b2, b3, b4⟩ | ⟨τ2, c, p', b1, b2, b3, b4, b5, b6, b7, b8, b9, b10, b11⟩
    · omega
    have hp'L := b3.2.2.1
    obtain ⟨st1, st2⟩ := ps_stab (T := T) (i := p') L hp'L
    rw [hPe, b7] at st1
    obtain ⟨u1, u2⟩ := st2 j (by omega)
    rw [hPe, b8] at u1
    rw [hPe] at u2
    have hM2 : s_M (τ2 142) (o_N P N j) := by
      rw [b2.1 142 (by omega) (by omega), a3 142 (by omega)]
      exact h3
    obtain ⟨υ, c1, c2, c3⟩ := m_can (c := c) b9 hwj hyj hM2
    have nbl := nb_le c
    have eo : ∀ ω : xM, ω 154 = τ2 154 → sp_ord c (ω 154 0) (ω 154 1) (ω 154 2) (o_N P N j) = o_sp P j (o_N P N j) := fun ω he => by
      unfold o_sp
      rw [he, u1, b11 0 (by omega), ← u2 0 (by omega), Nat.add_zero]
      exact ord_cg b9 (fun z => by rw [b11 1 (by omega), ← u2 1 (by omega)]) (fun z => by rw [b11 2 (by omega), ← u2 2 (by omega)])
    rw [eo τ2 rfl] at c1
    have fr12 : ∀ c, c < 141 ∨ c = 143 ∨ c = 144 ∨ c = 145 ∨ c = 153 → υ c = σ c := fun d hd => by
      rw [c3 d (by omega), b2.1 d (by omega) (by omega), a3 d (by omega)]
      exact h4 d hd
    have f141 : ∀ i, i ≠ 14 → i ≠ 16 → υ 141 i = σ 141 i := fun i x y => by
      rw [c3 141 (by omega), b2.2 i x, a4 i x]
      exact h5 i x y
    have mTu : mT υ T L p' := by
      obtain ⟨z1, z2, z3, z4, z5⟩ := b3
      exact ⟨by rw [c3 141 (by omega)]; exact z1, by rw [c3 141 (by omega)]; exact z2, z3, z4, fun i hi => by rw [c3 153 (by omega)]; exact z5 i hi⟩
    have hor := w_ord (P 1 j) (nI (P 2 (3 * j))) (nI (P 2 (3 * j + 1))) (nI (P 2 (3 * j + 2))) (o_N P N j) hwj hyj
    have hor2 : 0 ≤ (o_sp P j (o_N P N j)).1 ∨ ((o_sp P j (o_N P N j)).1 = -2 ∨ (o_sp P j (o_N P N j)).1 = -3 ∨ (o_sp P j (o_N P N j)).1 = -4) := by
      rcases hor.2.2 with z | ⟨z, -⟩
      · exact Or.inl z
      · exact Or.inr z
    unfold B_X11_reads_48
    rw [xbd_s a1]
    dsimp only
    rw [if_neg (nI_m1 (by omega)), b1]
    unfold ro_k
    rw [if_neg (by decide), xbd_s c1]
    dsimp only [xlet]
    rw [rd_e rfl]
    rcases er_le hor2 with ⟨e1, e2⟩ | ⟨e1, e2, e3⟩
    · -- carried out
      left
      rw [if_pos e1, e1]
      have hMx : s_M (xup υ 141 16 0 142) (o_N P N j) := by simp (disch := omega) only [Nat.add_zero, Nat.zero_add, Nat.zero_mul, Nat.mul_zero, mc8, mc3, nU_f, nU_k, nU_e, xbd_some, xgd_true, xlet_eq, g_in, nI_clamp, nI_leI, nI_ltI, nI_eq, nI_add, pk_mul, pk_sub, rd_e, rd_k, rd_c, i10, i01, xsm_l, xsm_r, if_pos, if_neg, l_neg1, oI_e0, nI_e0, oI_nI, ne_eq, not_true_eq_false, not_false_eq_true, and_true, true_and, and_false, false_and, or_true, true_or, or_false, false_or, if_true, if_false, lit_0, lit_1, lit_2, lit_3, lit_4, lit_5, lit_6, lit_8, lit_9, lit_10, lit_12, lit_13, lit_21, lit_29, lit_30, lit_31, lit_37, lit_101, lit_120, lit_121, lit_127, lit_169, lit_64, lit_99, lit_999, lit_676, lit_845, lit_48, lit_57, lit_32, lit_59]; exact c2
      have e154 : xup υ 141 16 0 154 = τ2 154 := by
        rw [rd_c (by omega)]
        exact c3 154 (by omega)
      obtain ⟨ω, d1, d2, d3⟩ := m_does (c := c) (σ := xup υ 141 16 0) b9 hwj hMx (by rw [eo _ e154]; exact e2)
      rw [eo _ e154] at d1 d2
      have o16 : ω 141 16 = nI 0 := by
        rw [d3 141 (by omega)]
        exact rd_e rfl
      rw [xbd_s d1, xbd_some]
      dsimp only
      rw [if_pos (show (0 : Int32) ≤ ω 141 16 by rw [o16]; decide)]
      refine ⟨_, rfl, nI_1 j, fun i hi => ?_, d2, fun d hd => ?_, fun i x y => ?_, p', ?_, b5, b6, b7⟩
      · by_cases e : i = j
        · rw [e]; exact e2
        · exact h2 i (by omega)
      · show ω d = σ d
        rw [d3 d (by omega), rd_c (by omega)]
        exact fr12 d hd
      · show ω 141 i = σ 141 i
        rw [d3 141 (by omega), rd_k y]
        exact f141 i x y
      · obtain ⟨z1, z2, z3, z4, z5⟩ := mTu
        refine ⟨?_, ?_, z3, z4, fun i hi => ?_⟩
        · show ω 141 13 = _
          rw [d3 141 (by omega), rd_k (by omega)]
          exact z1
        · show ω 141 14 = _
          rw [d3 141 (by omega), rd_k (by omega)]
          exact z2
        · show ω 153 i = _ ∧ _
          rw [d3 153 (by omega), rd_c (by omega)]
          exact z5 i hi
    · -- refused
      right
      rw [if_neg e2, xbd_some]
      dsimp only
      rw [if_neg (show ¬ (0 : Int32) ≤ xup υ 141 16 (er (o_sp P j (o_N P N j)).fst) 141 16 by rw [rd_e rfl]; exact e1)]
      refine ⟨_, rfl, Or.inl ⟨j, _, rfl, hj, h2, e3, fun d hd => ?_, fun i x y => ?_⟩⟩
      · rw [rd_c (by omega)]
        exact fr12 d hd
      · rw [rd_k y]
        exact f141 i x y
  · intro ⟨v, τ⟩ ⟨h1, h2, h3, h4, h5, p, h6, h7, h8, h9⟩
    dsimp only at h1 h2 h3 h4 h5 h6 h7 h8 h9 ⊢
    subst h1
    obtain ⟨q, τ1, a1, a2, a3, a4, a5, a6, a7⟩ := m_here h6
    have sk := ps_skip h7 q a5 a6
    have s0 : p_s T q 0 0 = 0 ∧ p_s T q 0 1 = 0 ∧ p_s T q 0 4 = P 0 4 := by
      rw [sk]
      by_cases e : q = p
      · rw [if_pos e]; exact ⟨h7, h8, h9⟩
      · rw [if_neg e]
        simp (disch := omega) only [Nat.add_zero, Nat.zero_add, Nat.zero_mul, Nat.mul_zero, mc8, mc3, nU_f, nU_k, nU_e, xbd_some, xgd_true, xlet_eq, g_in, nI_clamp, nI_leI, nI_ltI, nI_eq, nI_add, pk_mul, pk_sub, rd_e, rd_k, rd_c, i10, i01, xsm_l, xsm_r, if_pos, if_neg, l_neg1, oI_e0, nI_e0, oI_nI, ne_eq, not_true_eq_false, not_false_eq_true, and_true, true_and, and_false, false_and, or_true, true_or, or_false, false_or, if_true, if_false, lit_0, lit_1, lit_2, lit_3, lit_4, lit_5, lit_6, lit_8, lit_9, lit_10, lit_12, lit_13, lit_21, lit_29, lit_30, lit_31, lit_37, lit_101, lit_120, lit_121, lit_127, lit_169, lit_64, lit_99, lit_999, lit_676, lit_845, lit_48, lit_57, lit_32, lit_59]
        exact ⟨h7, h8, h9⟩
    obtain ⟨s1, s2, s3⟩ := s0
    have hqL : ¬ q < L := by
      intro z
      rcases m_ro 1 a2 s1 s2 s3 (Or.inr ⟨z, a7 z⟩) with ⟨τ2, f, b1, b2, b3, b4⟩ | ⟨τ2, c, p', b1, b2, b3, b4, b5, b6, b7, -⟩
      · omega
      · have := (ps_stab (T := T) (i := p') L b3.2.2.1).1
        rw [hPe, b7] at this
        omega
    rw [if_neg hqL] at a1
    unfold B_X11_reads_48
    rw [xbd_s a1]
    dsimp only
    rw [if_pos oI_0]
    refine ⟨_, rfl, Or.inr ⟨τ1, rfl, h2, by rw [a3 142 (by omega)]; exact h3, fun d hd => by rw [a3 d (by omega)]; exact h4 d hd, fun i x y => by rw [a4 i x]; exact h5 i x y⟩⟩
theorem m_ka2 (σ : xM) : ∃ τ, L_X11_keepsAside_2 (nI 0) σ = some τ ∧ (∀ c, c ≠ 142 → c ≠ 144 → τ c = σ c) ∧ ∀ p, p < 169 → τ 142 p = σ 144 p ∧ τ 144 p = σ 142 p := by
  unfold L_X11_keepsAside_2
  refine xloop_for (f := fun x : Int32 × xM => B_X11_keepsAside_2 x.1 x.2) (fun k x => x.1 = nI k ∧ (∀ c, c ≠ 142 → c ≠ 144 → x.2 c = σ c) ∧ (∀ p, p < k → x.2 142 p = σ 144 p ∧ x.2 144 p = σ 142 p) ∧ ∀ p, k ≤ p → x.2 142 p = σ 142 p ∧ x.2 144 p = σ 144 p) (fun τ => (∀ c, c ≠ 142 → c ≠ 144 → τ c = σ c) ∧ ∀ p, p < 169 → τ 142 p = σ 144 p ∧ τ 144 p = σ 142 p) 169 ?_ ?_ 6000 0 (nI 0, σ) (by omega) (by omega) ⟨rfl, fun _ _ _ => rfl, fun p hp => absurd hp (by omega), fun p _ => ⟨rfl, rfl⟩⟩
  · intro k ⟨v, τ⟩ hk ⟨h1, h2, h3, h4⟩
    dsimp only at h1 h2 h3 h4 ⊢
    subst h1
    left
    obtain ⟨x1, x2⟩ := h4 k (by omega)
    unfold B_X11_keepsAside_2
    simp (disch := omega) only [Nat.add_zero, Nat.zero_add, Nat.zero_mul, Nat.mul_zero, mc8, mc3, nU_f, nU_k, nU_e, xbd_some, xgd_true, xlet_eq, g_in, nI_clamp, nI_leI, nI_ltI, nI_eq, nI_add, pk_mul, pk_sub, rd_e, rd_k, rd_c, i10, i01, xsm_l, xsm_r, if_pos, if_neg, l_neg1, oI_e0, nI_e0, oI_nI, ne_eq, not_true_eq_false, not_false_eq_true, and_true, true_and, and_false, false_and, or_true, true_or, or_false, false_or, if_true, if_false, lit_0, lit_1, lit_2, lit_3, lit_4, lit_5, lit_6, lit_8, lit_9, lit_10, lit_12, lit_13, lit_21, lit_29, lit_30, lit_31, lit_37, lit_101, lit_120, lit_121, lit_127, lit_169, lit_64, lit_99, lit_999, lit_676, lit_845, lit_48, lit_57, lit_32, lit_59, x1, x2]
    refine ⟨_, rfl, rfl, fun c a b => by simp (disch := omega) only [Nat.add_zero, Nat.zero_add, Nat.zero_mul, Nat.mul_zero, mc8, mc3, nU_f, nU_k, nU_e, xbd_some, xgd_true, xlet_eq, g_in, nI_clamp, nI_leI, nI_ltI, nI_eq, nI_add, pk_mul, pk_sub, rd_e, rd_k, rd_c, i10, i01, xsm_l, xsm_r, if_pos, if_neg, l_neg1, oI_e0, nI_e0, oI_nI, ne_eq, not_true_eq_false, not_false_eq_true, and_true, true_and, and_false, false_and, or_true, true_or, or_false, false_or, if_true, if_false, lit_0, lit_1, lit_2, lit_3, lit_4, lit_5, lit_6, lit_8, lit_9, lit_10, lit_12, lit_13, lit_21, lit_29, lit_30, lit_31, lit_37, lit_101, lit_120, lit_121, lit_127, lit_169, lit_64, lit_99, lit_999, lit_676, lit_845, lit_48, lit_57, lit_32, lit_59]; exact h2 c a b, fun p hp => ?_, fun p hp => ?_⟩
    · by_cases e : p = k
      · subst e
        simp (disch := omega) only [Nat.add_zero, Nat.zero_add, Nat.zero_mul, Nat.mul_zero, mc8, mc3, nU_f, nU_k, nU_e, xbd_some, xgd_true, xlet_eq, g_in, nI_clamp, nI_leI, nI_ltI, nI_eq, nI_add, pk_mul, pk_sub, rd_e, rd_k, rd_c, i10, i01, xsm_l, xsm_r, if_pos, if_neg, l_neg1, oI_e0, nI_e0, oI_nI, ne_eq, not_true_eq_false, not_false_eq_true, and_true, true_and, and_false, false_and, or_true, true_or, or_false, false_or, if_true, if_false, lit_0, lit_1, lit_2, lit_3, lit_4, lit_5, lit_6, lit_8, lit_9, lit_10, lit_12, lit_13, lit_21, lit_29, lit_30, lit_31, lit_37, lit_101, lit_120, lit_121, lit_127, lit_169, lit_64, lit_99, lit_999, lit_676, lit_845, lit_48, lit_57, lit_32, lit_59]
      · simp (disch := omega) only [Nat.add_zero, Nat.zero_add, Nat.zero_mul, Nat.mul_zero, mc8, mc3, nU_f, nU_k, nU_e, xbd_some, xgd_true, xlet_eq, g_in, nI_clamp, nI_leI, nI_ltI, nI_eq, nI_add, pk_mul, pk_sub, rd_e, rd_k, rd_c, i10, i01, xsm_l, xsm_r, if_pos, if_neg, l_neg1, oI_e0, nI_e0, oI_nI, ne_eq, not_true_eq_false, not_false_eq_true, and_true, true_and, and_false, false_and, or_true, true_or, or_false, false_or, if_true, if_false, lit_0, lit_1, lit_2, lit_3, lit_4, lit_5, lit_6, lit_8, lit_9, lit_10, lit_12, lit_13, lit_21, lit_29, lit_30, lit_31, lit_37, lit_101, lit_120, lit_121, lit_127, lit_169, lit_64, lit_99, lit_999, lit_676, lit_845, lit_48, lit_57, lit_32, lit_59]
        exact h3 p (by omega)
    · simp (disch := omega) only [Nat.add_zero, Nat.zero_add, Nat.zero_mul, Nat.mul_zero, mc8, mc3, nU_f, nU_k, nU_e, xbd_some, xgd_true, xlet_eq, g_in, nI_clamp, nI_leI, nI_ltI, nI_eq, nI_add, pk_mul, pk_sub, rd_e, rd_k, rd_c, i10, i01, xsm_l, xsm_r, if_pos, if_neg, l_neg1, oI_e0, nI_e0, oI_nI, ne_eq, not_true_eq_false, not_false_eq_true, and_true, true_and, and_false, false_and, or_true, true_or, or_false, false_or, if_true, if_false, lit_0, lit_1, lit_2, lit_3, lit_4, lit_5, lit_6, lit_8, lit_9, lit_10, lit_12, lit_13, lit_21, lit_29, lit_30, lit_31, lit_37, lit_101, lit_120, lit_121, lit_127, lit_169, lit_64, lit_99, lit_999, lit_676, lit_845, lit_48, lit_57, lit_32, lit_59]
      exact h4 p (by omega)
  · intro ⟨v, τ⟩ ⟨h1, h2, h3, h4⟩
    dsimp only at h1 h2 h3 h4 ⊢
    subst h1
    unfold B_X11_keepsAside_2
    simp (disch := omega) only [Nat.add_zero, Nat.zero_add, Nat.zero_mul, Nat.mul_zero, mc8, mc3, nU_f, nU_k, nU_e, xbd_some, xgd_true, xlet_eq, g_in, nI_clamp, nI_leI, nI_ltI, nI_eq, nI_add, pk_mul, pk_sub, rd_e, rd_k, rd_c, i10, i01, xsm_l, xsm_r, if_pos, if_neg, l_neg1, oI_e0, nI_e0, oI_nI, ne_eq, not_true_eq_false, not_false_eq_true, and_true, true_and, and_false, false_and, or_true, true_or, or_false, false_or, if_true, if_false, lit_0, lit_1, lit_2, lit_3, lit_4, lit_5, lit_6, lit_8, lit_9, lit_10, lit_12, lit_13, lit_21, lit_29, lit_30, lit_31, lit_37, lit_101, lit_120, lit_121, lit_127, lit_169, lit_64, lit_99, lit_999, lit_676, lit_845, lit_48, lit_57, lit_32, lit_59]
    exact ⟨_, rfl, h2, h3⟩
theorem p_reads {σ : xM} (h : Inv σ) : ∃ (r : Int32) (σ1 σ2 : xM), F_X10_reads σ = some (r, σ1) ∧ F_X11_reads σ1 = some (r, σ2) ∧ Inv σ2 := by
  obtain ⟨N, k, H, L, T, b, hW, hC, hM⟩ := h
  obtain ⟨r, σ1, a1, a2, a3⟩ := c_reads hW hC
  have hM1 := IM_lo hM a2
  obtain ⟨g1, g2, g3, g4⟩ := id hM1
  have hJ : J_t (xup σ1 141 14 (nI 0)) L T := Jt_cg g4 (by simp (disch := omega) only [Nat.add_zero, Nat.zero_add, Nat.zero_mul, Nat.mul_zero, mc8, mc3, nU_f, nU_k, nU_e, xbd_some, xgd_true, xlet_eq, g_in, nI_clamp, nI_leI, nI_ltI, nI_eq, nI_add, pk_mul, pk_sub, rd_e, rd_k, rd_c, i10, i01, xsm_l, xsm_r, if_pos, if_neg, l_neg1, oI_e0, nI_e0, oI_nI, ne_eq, not_true_eq_false, not_false_eq_true, and_true, true_and, and_false, false_and, or_true, true_or, or_false, false_or, if_true, if_false, lit_0, lit_1, lit_2, lit_3, lit_4, lit_5, lit_6, lit_8, lit_9, lit_10, lit_12, lit_13, lit_21, lit_29, lit_30, lit_31, lit_37, lit_101, lit_120, lit_121, lit_127, lit_169, lit_64, lit_99, lit_999, lit_676, lit_845, lit_48, lit_57, lit_32, lit_59]) (by simp (disch := omega) only [Nat.add_zero, Nat.zero_add, Nat.zero_mul, Nat.mul_zero, mc8, mc3, nU_f, nU_k, nU_e, xbd_some, xgd_true, xlet_eq, g_in, nI_clamp, nI_leI, nI_ltI, nI_eq, nI_add, pk_mul, pk_sub, rd_e, rd_k, rd_c, i10, i01, xsm_l, xsm_r, if_pos, if_neg, l_neg1, oI_e0, nI_e0, oI_nI, ne_eq, not_true_eq_false, not_false_eq_true, and_true, true_and, and_false, false_and, or_true, true_or, or_false, false_or, if_true, if_false, lit_0, lit_1, lit_2, lit_3, lit_4, lit_5, lit_6, lit_8, lit_9, lit_10, lit_12, lit_13, lit_21, lit_29, lit_30, lit_31, lit_37, lit_101, lit_120, lit_121, lit_127, lit_169, lit_64, lit_99, lit_999, lit_676, lit_845, lit_48, lit_57, lit_32, lit_59])
  obtain ⟨r1, τ1, e, b1, b2, b3, b4⟩ := m_pass1 (mT_of (p := 0) hJ hW.2.2.2 (by simp (disch := omega) only [Nat.add_zero, Nat.zero_add, Nat.zero_mul, Nat.mul_zero, mc8, mc3, nU_f, nU_k, nU_e, xbd_some, xgd_true, xlet_eq, g_in, nI_clamp, nI_leI, nI_ltI, nI_eq, nI_add, pk_mul, pk_sub, rd_e, rd_k, rd_c, i10, i01, xsm_l, xsm_r, if_pos, if_neg, l_neg1, oI_e0, nI_e0, oI_nI, ne_eq, not_true_eq_false, not_false_eq_true, and_true, true_and, and_false, false_and, or_true, true_or, or_false, false_or, if_true, if_false, lit_0, lit_1, lit_2, lit_3, lit_4, lit_5, lit_6, lit_8, lit_9, lit_10, lit_12, lit_13, lit_21, lit_29, lit_30, lit_31, lit_37, lit_101, lit_120, lit_121, lit_127, lit_169, lit_64, lit_99, lit_999, lit_676, lit_845, lit_48, lit_57, lit_32, lit_59]) (by omega))
  have e1 : ∀ c, c ≠ 141 → c ≠ 154 → e.2 c = σ1 c := fun c x y => by
    rw [b3.1 c x y]
    simp (disch := omega) only [Nat.add_zero, Nat.zero_add, Nat.zero_mul, Nat.mul_zero, mc8, mc3, nU_f, nU_k, nU_e, xbd_some, xgd_true, xlet_eq, g_in, nI_clamp, nI_leI, nI_ltI, nI_eq, nI_add, pk_mul, pk_sub, rd_e, rd_k, rd_c, i10, i01, xsm_l, xsm_r, if_pos, if_neg, l_neg1, oI_e0, nI_e0, oI_nI, ne_eq, not_true_eq_false, not_false_eq_true, and_true, true_and, and_false, false_and, or_true, true_or, or_false, false_or, if_true, if_false, lit_0, lit_1, lit_2, lit_3, lit_4, lit_5, lit_6, lit_8, lit_9, lit_10, lit_12, lit_13, lit_21, lit_29, lit_30, lit_31, lit_37, lit_101, lit_120, lit_121, lit_127, lit_169, lit_64, lit_99, lit_999, lit_676, lit_845, lit_48, lit_57, lit_32, lit_59]
  have e2 : ∀ i, i ≠ 14 → e.2 141 i = σ1 141 i := fun i x => by
    rw [b3.2 i x]
    simp (disch := omega) only [Nat.add_zero, Nat.zero_add, Nat.zero_mul, Nat.mul_zero, mc8, mc3, nU_f, nU_k, nU_e, xbd_some, xgd_true, xlet_eq, g_in, nI_clamp, nI_leI, nI_ltI, nI_eq, nI_add, pk_mul, pk_sub, rd_e, rd_k, rd_c, i10, i01, xsm_l, xsm_r, if_pos, if_neg, l_neg1, oI_e0, nI_e0, oI_nI, ne_eq, not_true_eq_false, not_false_eq_true, and_true, true_and, and_false, false_and, or_true, true_or, or_false, false_or, if_true, if_false, lit_0, lit_1, lit_2, lit_3, lit_4, lit_5, lit_6, lit_8, lit_9, lit_10, lit_12, lit_13, lit_21, lit_29, lit_30, lit_31, lit_37, lit_101, lit_120, lit_121, lit_127, lit_169, lit_64, lit_99, lit_999, lit_676, lit_845, lit_48, lit_57, lit_32, lit_59]
  have hM2 : s_M (e.2 142) N := by rw [e1 142 (by omega) (by omega)]; exact g1
  have hW1 := hW.1
  unfold F_X11_reads
  rw [show (0 : Int32) = nI 0 from rfl] at b1
  rcases a3 with ⟨f, p1, p2, p3⟩ | ⟨p1, p2⟩ | ⟨p1, p2⟩
  · -- a fault
    rcases b4 with ⟨q1, f', q2, q3⟩ | ⟨q1, -, q3⟩
    case inr => omega
    have ef : f' = f := by omega
    subst ef
    refine ⟨r, σ1, e.2, a1, ?_, N, k, H, L, T, b, hW, IC_hi p3 (fun c hc => e1 c (by omega) (by omega)), hM2, Jh_cg g2 (e2 3 (by omega)) (e1 143 (by omega) (by omega)), Jb_cg g3 (e1 145 (by omega) (by omega)), Jt_cg g4 (e2 13 (by omega)) (e1 153 (by omega) (by omega))⟩
    simp (disch := omega) only [Nat.add_zero, Nat.zero_add, Nat.zero_mul, Nat.mul_zero, mc8, mc3, nU_f, nU_k, nU_e, xbd_some, xgd_true, xlet_eq, g_in, nI_clamp, nI_leI, nI_ltI, nI_eq, nI_add, pk_mul, pk_sub, rd_e, rd_k, rd_c, i10, i01, xsm_l, xsm_r, if_pos, if_neg, l_neg1, oI_e0, nI_e0, oI_nI, ne_eq, not_true_eq_false, not_false_eq_true, and_true, true_and, and_false, false_and, or_true, true_or, or_false, false_or, if_true, if_false, lit_0, lit_1, lit_2, lit_3, lit_4, lit_5, lit_6, lit_8, lit_9, lit_10, lit_12, lit_13, lit_21, lit_29, lit_30, lit_31, lit_37, lit_101, lit_120, lit_121, lit_127, lit_169, lit_64, lit_99, lit_999, lit_676, lit_845, lit_48, lit_57, lit_32, lit_59, b1, b2, q1, q2.2.1]
    rw [p2]
    rfl
  all_goals
    rcases b4 with ⟨q1, f', q2, q3⟩ | ⟨q1, ⟨f', q2⟩, q3⟩
    case inl => omega
    obtain ⟨τ3, c1, c2, c3⟩ := cp_rd27 e.2
    have hx142 : xup (xup τ3 141 14 (nI 0)) 141 16 (nI 0) 142 = e.2 142 := by
      simp (disch := omega) only [Nat.add_zero, Nat.zero_add, Nat.zero_mul, Nat.mul_zero, mc8, mc3, nU_f, nU_k, nU_e, xbd_some, xgd_true, xlet_eq, g_in, nI_clamp, nI_leI, nI_ltI, nI_eq, nI_add, pk_mul, pk_sub, rd_e, rd_k, rd_c, i10, i01, xsm_l, xsm_r, if_pos, if_neg, l_neg1, oI_e0, nI_e0, oI_nI, ne_eq, not_true_eq_false, not_false_eq_true, and_true, true_and, and_false, false_and, or_true, true_or, or_false, false_or, if_true, if_false, lit_0, lit_1, lit_2, lit_3, lit_4, lit_5, lit_6, lit_8, lit_9, lit_10, lit_12, lit_13, lit_21, lit_29, lit_30, lit_31, lit_37, lit_101, lit_120, lit_121, lit_127, lit_169, lit_64, lit_99, lit_999, lit_676, lit_845, lit_48, lit_57, lit_32, lit_59]
      exact c2 142 (by omega)
    have hJ3 : J_t (xup (xup τ3 141 14 (nI 0)) 141 16 (nI 0)) L T := Jt_cg g4 (by simp (disch := omega) only [Nat.add_zero, Nat.zero_add, Nat.zero_mul, Nat.mul_zero, mc8, mc3, nU_f, nU_k, nU_e, xbd_some, xgd_true, xlet_eq, g_in, nI_clamp, nI_leI, nI_ltI, nI_eq, nI_add, pk_mul, pk_sub, rd_e, rd_k, rd_c, i10, i01, xsm_l, xsm_r, if_pos, if_neg, l_neg1, oI_e0, nI_e0, oI_nI, ne_eq, not_true_eq_false, not_false_eq_true, and_true, true_and, and_false, false_and, or_true, true_or, or_false, false_or, if_true, if_false, lit_0, lit_1, lit_2, lit_3, lit_4, lit_5, lit_6, lit_8, lit_9, lit_10, lit_12, lit_13, lit_21, lit_29, lit_30, lit_31, lit_37, lit_101, lit_120, lit_121, lit_127, lit_169, lit_64, lit_99, lit_999, lit_676, lit_845, lit_48, lit_57, lit_32, lit_59]; rw [c2 141 (by omega)]; exact e2 13 (by omega)) (by simp (disch := omega) only [Nat.add_zero, Nat.zero_add, Nat.zero_mul, Nat.mul_zero, mc8, mc3, nU_f, nU_k, nU_e, xbd_some, xgd_true, xlet_eq, g_in, nI_clamp, nI_leI, nI_ltI, nI_eq, nI_add, pk_mul, pk_sub, rd_e, rd_k, rd_c, i10, i01, xsm_l, xsm_r, if_pos, if_neg, l_neg1, oI_e0, nI_e0, oI_nI, ne_eq, not_true_eq_false, not_false_eq_true, and_true, true_and, and_false, false_and, or_true, true_or, or_false, false_or, if_true, if_false, lit_0, lit_1, lit_2, lit_3, lit_4, lit_5, lit_6, lit_8, lit_9, lit_10, lit_12, lit_13, lit_21, lit_29, lit_30, lit_31, lit_37, lit_101, lit_120, lit_121, lit_127, lit_169, lit_64, lit_99, lit_999, lit_676, lit_845, lit_48, lit_57, lit_32, lit_59]; rw [c2 153 (by omega)]; exact e1 153 (by omega) (by omega))
    obtain ⟨e', d1, d2⟩ := m_pass2 (σ := xup (xup τ3 141 14 (nI 0)) 141 16 (nI 0)) hW.1 hW.2.1 p1 (by rw [hx142]; exact hM2) (mT_of (p := 0) hJ3 hW.2.2.2 (by simp (disch := omega) only [Nat.add_zero, Nat.zero_add, Nat.zero_mul, Nat.mul_zero, mc8, mc3, nU_f, nU_k, nU_e, xbd_some, xgd_true, xlet_eq, g_in, nI_clamp, nI_leI, nI_ltI, nI_eq, nI_add, pk_mul, pk_sub, rd_e, rd_k, rd_c, i10, i01, xsm_l, xsm_r, if_pos, if_neg, l_neg1, oI_e0, nI_e0, oI_nI, ne_eq, not_true_eq_false, not_false_eq_true, and_true, true_and, and_false, false_and, or_true, true_or, or_false, false_or, if_true, if_false, lit_0, lit_1, lit_2, lit_3, lit_4, lit_5, lit_6, lit_8, lit_9, lit_10, lit_12, lit_13, lit_21, lit_29, lit_30, lit_31, lit_37, lit_101, lit_120, lit_121, lit_127, lit_169, lit_64, lit_99, lit_999, lit_676, lit_845, lit_48, lit_57, lit_32, lit_59]) (by omega)) (by simp (disch := omega) only [Nat.add_zero, Nat.zero_add, Nat.zero_mul, Nat.mul_zero, mc8, mc3, nU_f, nU_k, nU_e, xbd_some, xgd_true, xlet_eq, g_in, nI_clamp, nI_leI, nI_ltI, nI_eq, nI_add, pk_mul, pk_sub, rd_e, rd_k, rd_c, i10, i01, xsm_l, xsm_r, if_pos, if_neg, l_neg1, oI_e0, nI_e0, oI_nI, ne_eq, not_true_eq_false, not_false_eq_true, and_true, true_and, and_false, false_and, or_true, true_or, or_false, false_or, if_true, if_false, lit_0, lit_1, lit_2, lit_3, lit_4, lit_5, lit_6, lit_8, lit_9, lit_10, lit_12, lit_13, lit_21, lit_29, lit_30, lit_31, lit_37, lit_101, lit_120, lit_121, lit_127, lit_169, lit_64, lit_99, lit_999, lit_676, lit_845, lit_48, lit_57, lit_32, lit_59])
    have t144 : ∀ p, p < 169 → xup (xup τ3 141 14 (nI 0)) 141 16 (nI 0) 144 p = e.2 142 p := fun p hp => by
      simp (disch := omega) only [Nat.add_zero, Nat.zero_add, Nat.zero_mul, Nat.mul_zero, mc8, mc3, nU_f, nU_k, nU_e, xbd_some, xgd_true, xlet_eq, g_in, nI_clamp, nI_leI, nI_ltI, nI_eq, nI_add, pk_mul, pk_sub, rd_e, rd_k, rd_c, i10, i01, xsm_l, xsm_r, if_pos, if_neg, l_neg1, oI_e0, nI_e0, oI_nI, ne_eq, not_true_eq_false, not_false_eq_true, and_true, true_and, and_false, false_and, or_true, true_or, or_false, false_or, if_true, if_false, lit_0, lit_1, lit_2, lit_3, lit_4, lit_5, lit_6, lit_8, lit_9, lit_10, lit_12, lit_13, lit_21, lit_29, lit_30, lit_31, lit_37, lit_101, lit_120, lit_121, lit_127, lit_169, lit_64, lit_99, lit_999, lit_676, lit_845, lit_48, lit_57, lit_32, lit_59]
      rw [c3, if_pos hp]
    have lo3 : ∀ c, c ≠ 141 → c ≠ 144 → c ≠ 154 → xup (xup τ3 141 14 (nI 0)) 141 16 (nI 0) c = σ1 c := fun c x y z => by
      simp (disch := omega) only [Nat.add_zero, Nat.zero_add, Nat.zero_mul, Nat.mul_zero, mc8, mc3, nU_f, nU_k, nU_e, xbd_some, xgd_true, xlet_eq, g_in, nI_clamp, nI_leI, nI_ltI, nI_eq, nI_add, pk_mul, pk_sub, rd_e, rd_k, rd_c, i10, i01, xsm_l, xsm_r, if_pos, if_neg, l_neg1, oI_e0, nI_e0, oI_nI, ne_eq, not_true_eq_false, not_false_eq_true, and_true, true_and, and_false, false_and, or_true, true_or, or_false, false_or, if_true, if_false, lit_0, lit_1, lit_2, lit_3, lit_4, lit_5, lit_6, lit_8, lit_9, lit_10, lit_12, lit_13, lit_21, lit_29, lit_30, lit_31, lit_37, lit_101, lit_120, lit_121, lit_127, lit_169, lit_64, lit_99, lit_999, lit_676, lit_845, lit_48, lit_57, lit_32, lit_59]
      rw [c2 c y]
      exact e1 c x z
    have l141 : ∀ i, i ≠ 14 → i ≠ 16 → xup (xup τ3 141 14 (nI 0)) 141 16 (nI 0) 141 i = σ1 141 i := fun i x y => by
      simp (disch := omega) only [Nat.add_zero, Nat.zero_add, Nat.zero_mul, Nat.mul_zero, mc8, mc3, nU_f, nU_k, nU_e, xbd_some, xgd_true, xlet_eq, g_in, nI_clamp, nI_leI, nI_ltI, nI_eq, nI_add, pk_mul, pk_sub, rd_e, rd_k, rd_c, i10, i01, xsm_l, xsm_r, if_pos, if_neg, l_neg1, oI_e0, nI_e0, oI_nI, ne_eq, not_true_eq_false, not_false_eq_true, and_true, true_and, and_false, false_and, or_true, true_or, or_false, false_or, if_true, if_false, lit_0, lit_1, lit_2, lit_3, lit_4, lit_5, lit_6, lit_8, lit_9, lit_10, lit_12, lit_13, lit_21, lit_29, lit_30, lit_31, lit_37, lit_101, lit_120, lit_121, lit_127, lit_169, lit_64, lit_99, lit_999, lit_676, lit_845, lit_48, lit_57, lit_32, lit_59]
      rw [c2 141 (by omega)]
      exact e2 i x
    rw [show (0 : Int32) = nI 0 from rfl] at c1
  · -- an order can't be carried out
    obtain ⟨j, j1, j2, j3, j4, j5⟩ := p2
    rcases d2 with ⟨j', υ, rfl, k1, k2, k3, k4, k5⟩ | ⟨υ, rfl, k2, k3, k4, k5⟩
    case inr => exact absurd (k2 j j1) j3
    have ej : j' = j := by
      by_cases z : j' < j
      · exact absurd (j2 j' z) k3
      · by_cases z2 : j < j'
        · exact absurd (k2 j z2) j3
        · omega
    subst ej
    obtain ⟨ω, n1, n2, n3⟩ := cp_rd61 υ (nI j')
    rw [show (0 : Int32) = nI 0 from rfl] at n1
    refine ⟨r, σ1, ω, a1, ?_, N, k, H, L, T, b, hW, IC_hi j5 (fun c hc => ?_), ?_, Jh_cg g2 ?_ ?_, Jb_cg g3 ?_, Jt_cg g4 ?_ ?_⟩
    · simp (disch := omega) only [Nat.add_zero, Nat.zero_add, Nat.zero_mul, Nat.mul_zero, mc8, mc3, nU_f, nU_k, nU_e, xbd_some, xgd_true, xlet_eq, g_in, nI_clamp, nI_leI, nI_ltI, nI_eq, nI_add, pk_mul, pk_sub, rd_e, rd_k, rd_c, i10, i01, xsm_l, xsm_r, if_pos, if_neg, l_neg1, oI_e0, nI_e0, oI_nI, ne_eq, not_true_eq_false, not_false_eq_true, and_true, true_and, and_false, false_and, or_true, true_or, or_false, false_or, if_true, if_false, lit_0, lit_1, lit_2, lit_3, lit_4, lit_5, lit_6, lit_8, lit_9, lit_10, lit_12, lit_13, lit_21, lit_29, lit_30, lit_31, lit_37, lit_101, lit_120, lit_121, lit_127, lit_169, lit_64, lit_99, lit_999, lit_676, lit_845, lit_48, lit_57, lit_32, lit_59, b1, b2, q1, c1, d1, n1]
      rw [j4]
    · rw [n2 c (by omega), k4 c (by omega)]
      exact lo3 c (by omega) (by omega) (by omega)
    · refine M_169 hW1.1 (fun p hp => ?_) hM2
      rw [n3, if_pos hp, k4 144 (by omega), t144 p hp]
    · rw [n2 141 (by omega), k5 3 (by omega) (by omega)]
      exact l141 3 (by omega) (by omega)
    · rw [n2 143 (by omega), k4 143 (by omega)]
      exact lo3 143 (by omega) (by omega) (by omega)
    · rw [n2 145 (by omega), k4 145 (by omega)]
      exact lo3 145 (by omega) (by omega) (by omega)
    · rw [n2 141 (by omega), k5 13 (by omega) (by omega)]
      exact l141 13 (by omega) (by omega)
    · rw [n2 153 (by omega), k4 153 (by omega)]
      exact lo3 153 (by omega) (by omega) (by omega)
  · -- all are carried out
    obtain ⟨j2, j4, j5⟩ := p2
    rcases d2 with ⟨j', υ, rfl, k1, k2, k3, k4, k5⟩ | ⟨υ, rfl, k2, k3, k4, k5⟩
    case inl => exact absurd (j2 j' k1) k3
    obtain ⟨ω1, n1, n2, n3⟩ := m_ka2 υ
    rw [show (0 : Int32) = nI 0 from rfl] at *
    have hwO := o_wf (P := p_s T L) hW.1 hW.2.1 (p_s T L 0 4)
    have hMk : IM ω1 N k H L T b := by
      refine ⟨?_, Jh_cg g2 ?_ ?_, Jb_cg g3 ?_, Jt_cg g4 ?_ ?_⟩
      · refine M_169 hW1.1 (fun p hp => ?_) hM2
        rw [(n3 p hp).1, k4 144 (by omega), t144 p hp]
      · rw [n2 141 (by omega) (by omega), k5 3 (by omega) (by omega)]
        exact l141 3 (by omega) (by omega)
      · rw [n2 143 (by omega) (by omega), k4 143 (by omega)]
        exact lo3 143 (by omega) (by omega) (by omega)
      · rw [n2 145 (by omega) (by omega), k4 145 (by omega)]
        exact lo3 145 (by omega) (by omega) (by omega)
      · rw [n2 141 (by omega) (by omega), k5 13 (by omega) (by omega)]
        exact l141 13 (by omega) (by omega)
      · rw [n2 153 (by omega) (by omega), k4 153 (by omega)]
        exact lo3 153 (by omega) (by omega) (by omega)
    obtain ⟨ω2, m1, m2, m3, m4⟩ := m_keep hW.1 (fun j hj => (hW.2.2.1 j hj).1) hMk
    obtain ⟨ω3, s1, s2, s3⟩ := cp_ka29 ω2
    obtain ⟨x1, x2, x3, x4⟩ := m2
    refine ⟨r, σ1, ω3, a1, ?_, o_N (p_s T L) N (p_s T L 0 4), k_up k, push N H, L, T, b, IW_push hW hwO.1 hwO.2, IC_hi j5 (fun c hc => ?_), ?_, Jh_cg x2 ?_ ?_, Jb_cg x3 ?_, Jt_cg x4 ?_ ?_⟩
    · have ka : F_X11_keepsAside υ = some ω3 := by
        unfold F_X11_keepsAside
        rw [xbd_s (show L_X11_keepsAside_2 0 υ = some ω1 from n1), xbd_s m1, xbd_s (show L_X11_keepsAside_29 0 ω2 = some ω3 from s1)]
      simp (disch := omega) only [Nat.add_zero, Nat.zero_add, Nat.zero_mul, Nat.mul_zero, mc8, mc3, nU_f, nU_k, nU_e, xbd_some, xgd_true, xlet_eq, g_in, nI_clamp, nI_leI, nI_ltI, nI_eq, nI_add, pk_mul, pk_sub, rd_e, rd_k, rd_c, i10, i01, xsm_l, xsm_r, if_pos, if_neg, l_neg1, oI_e0, nI_e0, oI_nI, ne_eq, not_true_eq_false, not_false_eq_true, and_true, true_and, and_false, false_and, or_true, true_or, or_false, false_or, if_true, if_false, lit_0, lit_1, lit_2, lit_3, lit_4, lit_5, lit_6, lit_8, lit_9, lit_10, lit_12, lit_13, lit_21, lit_29, lit_30, lit_31, lit_37, lit_101, lit_120, lit_121, lit_127, lit_169, lit_64, lit_99, lit_999, lit_676, lit_845, lit_48, lit_57, lit_32, lit_59, b1, b2, q1, c1, d1, ka]
      rw [j4]
    · rw [s2 c (by omega), m3 c (by omega) (by omega), n2 c (by omega) (by omega), k4 c (by omega)]
      exact lo3 c (by omega) (by omega) (by omega)
    · refine M_169 hwO.1.1 (fun p hp => ?_) k3
      rw [s3, if_pos hp, m3 144 (by omega) (by omega), (n3 p hp).2]
    · rw [s2 141 (by omega)]
    · rw [s2 143 (by omega)]
    · rw [s2 145 (by omega)]
    · rw [s2 141 (by omega)]
    · rw [s2 153 (by omega)]
