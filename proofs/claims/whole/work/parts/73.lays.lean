theorem stN_on {N : xN} {st : Nat → Nat} : p_on (stN N st) = p_on N := by
  funext s
  unfold p_on
  rw [stN_f (by omega)]
theorem stN_sum {N : xN} {st st' : Nat → Nat} : ∀ k, p_sum (stN N st) st' k = p_sum N st' k
  | 0 => rfl
  | k + 1 => by
    unfold p_sum
    rw [stN_sum k, stN_on]
theorem stN_cd {N : xN} {st st' : Nat → Nat} : ∀ k, p_cd (stN N st) st' k = p_cd N st' k
  | 0 => rfl
  | k + 1 => by
    unfold p_cd
    rw [stN_cd k, stN_on]
theorem stN_ok {N : xN} {st st' : Nat → Nat} (hw : s_wf N) (hv : p_va N st) : p_ok (stN N st) st' ↔ p_ok N st' := by
  have e1 : s_om (stN N st) (s_up (stN N st)) st' = s_om N (s_up N) st' := by
    rw [stN_up]
    exact s_om_cg stN_ag hw (au_rf _ _ _)
  unfold p_ok p_va
  rw [e1, stN_on, stN_8, stN_f (by omega)]
  constructor
  · intro ⟨h1, h2⟩
    exact ⟨fun s hs => ⟨(h1 s hs).1, fun ho => by rw [(h1 s hs).2 ho]; exact (hv s hs).2 ho⟩, h2⟩
  · intro ⟨h1, h2⟩
    exact ⟨fun s hs => ⟨(h1 s hs).1, fun ho => by rw [(h1 s hs).2 ho]; exact ((hv s hs).2 ho).symm⟩, h2⟩
theorem stN_b {N : xN} {v : Nat} {st : Nat → Nat} (hw : s_wf N) (h : p_b N v st) : p_b (stN N st) v st := by
  obtain ⟨h1, h2, h3⟩ := h
  have hv := h1.1
  refine ⟨(stN_ok hw hv).mpr h1, ?_, fun st' h' => ?_⟩
  · rw [stN_sum, stN_f (by omega)]
    exact h2
  · rw [stN_sum, stN_cd, stN_cd, stN_f (by omega)]
    exact h3 st' ((stN_ok hw hv).mp h')
theorem C_st {σ : xM} {N : xN} {st st' : Nat → Nat} (h : s_C0 σ (stN N st)) (e : ∀ s, s < N 0 1 → st s = st' s) : s_C0 σ (stN N st') := by
  unfold s_C0 at h ⊢
  simp only [stN_f (show (0 : Nat) ≠ 8 by omega), stN_f (show (1 : Nat) ≠ 8 by omega), stN_f (show (2 : Nat) ≠ 8 by omega), stN_f (show (3 : Nat) ≠ 8 by omega), stN_f (show (4 : Nat) ≠ 8 by omega), stN_f (show (5 : Nat) ≠ 8 by omega), stN_f (show (6 : Nat) ≠ 8 by omega), stN_f (show (7 : Nat) ≠ 8 by omega), stN_f (show (9 : Nat) ≠ 8 by omega), stN_f (show (10 : Nat) ≠ 8 by omega), stN_f (show (11 : Nat) ≠ 8 by omega), stN_f (show (12 : Nat) ≠ 8 by omega), stN_f (show (13 : Nat) ≠ 8 by omega), stN_8] at h ⊢
  obtain ⟨r0, rA, rL, rS, rQ, rT⟩ := h
  exact ⟨r0, rA, rL, fun s hs => by rw [← e s hs]; exact rS s hs, rQ, rT⟩
theorem f_lay {σ : xM} {N : xN} {st : Nat → Nat} (p : Int32) (hw : s_wf N) (hC : s_C σ 1 N) (h133 : ∀ s, s < N 0 1 → σ 133 s = nI (st s)) : ∃ τ, L_X0_layPlan_11 p (nI 0) σ = some τ ∧ s_C τ 1 (stN N st) ∧ ∀ c, c ≠ 11 → τ c = σ c := by
  have hS := hw.1.2.1
  have hL : ∃ τ, L_X0_layPlan_11 p (nI 0) σ = some τ ∧ s_C0 τ (stN N st) ∧ ∀ c, c ≠ 11 → τ c = σ c := by
    unfold L_X0_layPlan_11
    refine xloop_for (f := fun x : Int32 × xM => B_X0_layPlan_11 p x.1 x.2) (fun k x => x.1 = nI k ∧ s_C0 x.2 (stN N (fun s => if s < k then st s else N 8 s)) ∧ ∀ c, c ≠ 11 → x.2 c = σ c) (fun τ => s_C0 τ (stN N st) ∧ ∀ c, c ≠ 11 → τ c = σ c) (N 0 1) ?_ ?_ 6000 0 (nI 0, σ) (by omega) (by omega) ⟨rfl, C_st (st := N 8) (by rw [stN_s]; exact s_C_0 hC) (fun s _ => by rw [if_neg (by omega)]), fun _ _ => rfl⟩
    · intro k ⟨v, τ⟩ hk ⟨h1, h2, h3⟩
      dsimp only at h1 h2 h3 ⊢
      subst h1
      left
      have c8 : τ 8 0 = nI (N 0 1) := by rw [h3 8 (by omega)]; exact (s_C_0 hC).1.2.1
      have t1 : τ 133 k = nI (st k) := by rw [h3 133 (by omega)]; exact h133 k hk
      unfold B_X0_layPlan_11 F_X5_stepOf
      simp (disch := omega) only [Nat.add_zero, Nat.zero_add, Nat.zero_mul, Nat.mul_zero, mc8, mc3, nU_f, nU_k, nU_e, xbd_some, xgd_true, xlet_eq, g_in, nI_clamp, nI_leI, nI_ltI, nI_eq, nI_add, pk_mul, pk_sub, rd_e, rd_k, rd_c, i10, i01, xsm_l, xsm_r, if_pos, if_neg, l_neg1, oI_e0, nI_e0, oI_nI, ne_eq, not_true_eq_false, not_false_eq_true, and_true, true_and, and_false, false_and, or_true, true_or, or_false, false_or, if_true, if_false, lit_0, lit_1, lit_2, lit_3, lit_4, lit_5, lit_6, lit_8, lit_9, lit_10, lit_12, lit_13, lit_21, lit_29, lit_30, lit_31, lit_37, lit_101, lit_120, lit_121, lit_127, lit_169, lit_64, lit_99, lit_999, lit_676, lit_845, lit_48, lit_57, lit_32, lit_59, c8, t1]
      refine ⟨_, rfl, rfl, ?_, fun c hc => by simp (disch := omega) only [Nat.add_zero, Nat.zero_add, Nat.zero_mul, Nat.mul_zero, mc8, mc3, nU_f, nU_k, nU_e, xbd_some, xgd_true, xlet_eq, g_in, nI_clamp, nI_leI, nI_ltI, nI_eq, nI_add, pk_mul, pk_sub, rd_e, rd_k, rd_c, i10, i01, xsm_l, xsm_r, if_pos, if_neg, l_neg1, oI_e0, nI_e0, oI_nI, ne_eq, not_true_eq_false, not_false_eq_true, and_true, true_and, and_false, false_and, or_true, true_or, or_false, false_or, if_true, if_false, lit_0, lit_1, lit_2, lit_3, lit_4, lit_5, lit_6, lit_8, lit_9, lit_10, lit_12, lit_13, lit_21, lit_29, lit_30, lit_31, lit_37, lit_101, lit_120, lit_121, lit_127, lit_169, lit_64, lit_99, lit_999, lit_676, lit_845, lit_48, lit_57, lit_32, lit_59]; exact h3 c hc⟩
      have := c0_f8 h2 k (st k)
      rw [stN_u] at this
      refine C_st this (fun s hs => ?_)
      by_cases e : s = k
      · rw [tS_e e, if_pos (by omega), e]
      · rw [tS_n e]
        by_cases e2 : s < k
        · rw [if_pos e2, if_pos (by omega)]
        · rw [if_neg e2, if_neg (by omega)]
    · intro ⟨v, τ⟩ ⟨h1, h2, h3⟩
      dsimp only at h1 h2 h3 ⊢
      subst h1
      have c8 : τ 8 0 = nI (N 0 1) := by rw [h3 8 (by omega)]; exact (s_C_0 hC).1.2.1
      unfold B_X0_layPlan_11
      simp (disch := omega) only [Nat.add_zero, Nat.zero_add, Nat.zero_mul, Nat.mul_zero, mc8, mc3, nU_f, nU_k, nU_e, xbd_some, xgd_true, xlet_eq, g_in, nI_clamp, nI_leI, nI_ltI, nI_eq, nI_add, pk_mul, pk_sub, rd_e, rd_k, rd_c, i10, i01, xsm_l, xsm_r, if_pos, if_neg, l_neg1, oI_e0, nI_e0, oI_nI, ne_eq, not_true_eq_false, not_false_eq_true, and_true, true_and, and_false, false_and, or_true, true_or, or_false, false_or, if_true, if_false, lit_0, lit_1, lit_2, lit_3, lit_4, lit_5, lit_6, lit_8, lit_9, lit_10, lit_12, lit_13, lit_21, lit_29, lit_30, lit_31, lit_37, lit_101, lit_120, lit_121, lit_127, lit_169, lit_64, lit_99, lit_999, lit_676, lit_845, lit_48, lit_57, lit_32, lit_59, c8]
      exact ⟨_, rfl, C_st h2 (fun s hs => by rw [if_pos hs]), h3⟩
  obtain ⟨τ, g1, g2, g3⟩ := hL
  exact ⟨τ, g1, s_C_mk g2 (s_D7_cg (stN_f (by omega)) (by rw [stN_f (by omega)]) (g3 7 (by omega)) (s_C_7 hC)), g3⟩
theorem m_lay {σ : xM} {N : xN} {st : Nat → Nat} (p : Int32) (hw : s_wf N) (h : s_M (σ 142) N) (h149 : ∀ s, s < N 0 1 → σ 149 s = nI (st s)) : ∃ τ, L_X11_lays_14 p (nI 0) σ = some τ ∧ s_M (τ 142) (stN N st) ∧ ∀ c, c ≠ 142 → τ c = σ c := by
  have b := hw.1
  have hS := hw.1.2.1
  unfold L_X11_lays_14
  refine xloop_for (f := fun x : Int32 × xM => B_X11_lays_14 p x.1 x.2) (fun k x => x.1 = nI k ∧ s_M (x.2 142) (stN N (fun s => if s < k then st s else N 8 s)) ∧ ∀ c, c ≠ 142 → x.2 c = σ c) (fun τ => s_M (τ 142) (stN N st) ∧ ∀ c, c ≠ 142 → τ c = σ c) (N 0 1) ?_ ?_ 6000 0 (nI 0, σ) (by omega) (by omega) ⟨rfl, M_st (st := N 8) (by rw [stN_s]; exact h) (fun s _ => by rw [if_neg (by omega)]), fun _ _ => rfl⟩
  · intro k ⟨v, τ⟩ hk ⟨h1, h2, h3⟩
    dsimp only at h1 h2 h3 ⊢
    subst h1
    left
    have r1 := S_1 h2
    have t1 : τ 149 k = nI (st k) := by rw [h3 149 (by omega)]; exact h149 k hk
    unfold B_X11_lays_14
    simp (disch := omega) only [Nat.add_zero, Nat.zero_add, Nat.zero_mul, Nat.mul_zero, mc8, mc3, nU_f, nU_k, nU_e, xbd_some, xgd_true, xlet_eq, g_in, nI_clamp, nI_leI, nI_ltI, nI_eq, nI_add, pk_mul, pk_sub, rd_e, rd_k, rd_c, i10, i01, xsm_l, xsm_r, if_pos, if_neg, l_neg1, oI_e0, nI_e0, oI_nI, ne_eq, not_true_eq_false, not_false_eq_true, and_true, true_and, and_false, false_and, or_true, true_or, or_false, false_or, if_true, if_false, lit_0, lit_1, lit_2, lit_3, lit_4, lit_5, lit_6, lit_8, lit_9, lit_10, lit_12, lit_13, lit_21, lit_29, lit_30, lit_31, lit_37, lit_101, lit_120, lit_121, lit_127, lit_169, lit_64, lit_99, lit_999, lit_676, lit_845, lit_48, lit_57, lit_32, lit_59, r1, t1, puts_step]
    refine ⟨_, rfl, rfl, ?_, fun c hc => by simp (disch := omega) only [Nat.add_zero, Nat.zero_add, Nat.zero_mul, Nat.mul_zero, mc8, mc3, nU_f, nU_k, nU_e, xbd_some, xgd_true, xlet_eq, g_in, nI_clamp, nI_leI, nI_ltI, nI_eq, nI_add, pk_mul, pk_sub, rd_e, rd_k, rd_c, i10, i01, xsm_l, xsm_r, if_pos, if_neg, l_neg1, oI_e0, nI_e0, oI_nI, ne_eq, not_true_eq_false, not_false_eq_true, and_true, true_and, and_false, false_and, or_true, true_or, or_false, false_or, if_true, if_false, lit_0, lit_1, lit_2, lit_3, lit_4, lit_5, lit_6, lit_8, lit_9, lit_10, lit_12, lit_13, lit_21, lit_29, lit_30, lit_31, lit_37, lit_101, lit_120, lit_121, lit_127, lit_169, lit_64, lit_99, lit_999, lit_676, lit_845, lit_48, lit_57, lit_32, lit_59]; exact h3 c hc⟩
    have hM := m_f8 (stN_bd b) h2 (k := k) (v := st k) (by omega)
    rw [stN_u] at hM
    refine M_st hM (fun s hs => ?_)
    by_cases e : s = k
    · rw [tS_e e, if_pos (by omega), e]
    · rw [tS_n e]
      by_cases e2 : s < k
      · rw [if_pos e2, if_pos (by omega)]
      · rw [if_neg e2, if_neg (by omega)]
  · intro ⟨v, τ⟩ ⟨h1, h2, h3⟩
    dsimp only at h1 h2 h3 ⊢
    subst h1
    have r1 := S_1 h2
    unfold B_X11_lays_14
    simp (disch := omega) only [Nat.add_zero, Nat.zero_add, Nat.zero_mul, Nat.mul_zero, mc8, mc3, nU_f, nU_k, nU_e, xbd_some, xgd_true, xlet_eq, g_in, nI_clamp, nI_leI, nI_ltI, nI_eq, nI_add, pk_mul, pk_sub, rd_e, rd_k, rd_c, i10, i01, xsm_l, xsm_r, if_pos, if_neg, l_neg1, oI_e0, nI_e0, oI_nI, ne_eq, not_true_eq_false, not_false_eq_true, and_true, true_and, and_false, false_and, or_true, true_or, or_false, false_or, if_true, if_false, lit_0, lit_1, lit_2, lit_3, lit_4, lit_5, lit_6, lit_8, lit_9, lit_10, lit_12, lit_13, lit_21, lit_29, lit_30, lit_31, lit_37, lit_101, lit_120, lit_121, lit_127, lit_169, lit_64, lit_99, lit_999, lit_676, lit_845, lit_48, lit_57, lit_32, lit_59, r1]
    exact ⟨_, rfl, M_st h2 (fun s hs => by rw [if_pos hs]), h3⟩
theorem p_lays {σ : xM} (h : Inv σ) : ∃ (r : Int32) (σ1 σ2 : xM), F_X10_lays σ = some (r, σ1) ∧ F_X11_lays σ1 = some (r, σ2) ∧ Inv σ2 := by
  obtain ⟨N, k, H, L, T, b, hW, hC, hM⟩ := h
  obtain ⟨τ1, a1, a2, a3, a4⟩ := f_mark hW.1 hC
  obtain ⟨τ, g1, g2, g3, g4⟩ := f_best hW.1 hW.2.1 a2.1 (Or.inl a3)
  obtain ⟨h1, ⟨m, h2, h2'⟩, h3, h4⟩ := a2
  have m6 := h2.1
  have e : ∀ c, c ≠ 130 → c ≠ 131 → c ≠ 132 → c ≠ 133 → τ c = τ1 c := g2
  have i1 : s_C τ 1 N := C_blk (fun c x y => e c (by omega) (by omega) (by omega) (by omega)) h1
  have i2 : I_h τ k H m := Ih_cg h2 (fun c x y => e c (by omega) (by omega) (by omega) (by omega))
  have i2' : s_C τ (21 + 18 * m) N := C_blk (fun c x y => e c (by omega) (by omega) (by omega) (by omega)) h2'
  have i3 : I_b τ b := Ib_cg h3 (e 0 (by omega) (by omega) (by omega) (by omega))
  have i4 : I_t τ L T := It_cg h4 (e 137 (by omega) (by omega) (by omega) (by omega)) (e 138 (by omega) (by omega) (by omega) (by omega))
  have ehi : ∀ c, 141 ≤ c → τ c = σ c := fun c hc => (e c (by omega) (by omega) (by omega) (by omega)).trans (a4 c hc)
  unfold F_X10_lays F_X0_layPlan F_X11_lays
  rcases g4 with ⟨x1, x2⟩ | ⟨v, st, x1, x2, x3, x4⟩
  · -- no plan
    obtain ⟨τ2, b1, b2, b3⟩ := f_cnt (r := -3) i3 (Or.inr (Or.inl rfl))
    have hC2 : IC τ2 N k H L T (bump b (-3)) := ⟨C_blk (fun c x y => b3 c (by omega)) i1, ⟨m, Ih_cg i2 (fun c x y => b3 c (by omega))⟩, b2, It_cg i4 (b3 137 (by omega)) (b3 138 (by omega)), Or.inr ⟨by rw [b3 132 (by omega)]; exact g3, Or.inl ⟨by rw [b3 132 (by omega)]; exact x1, x2⟩⟩⟩
    have hM2 : IM τ2 N k H L T b := IM_lo hM (fun c hc => (b3 c (by omega)).trans (ehi c hc))
    obtain ⟨r, υ, m1, m2, m3, m4⟩ := m_plan hW.1 hM2.1
    have hr : r = oI 0 := by
      rcases m4 with ⟨y1, y2⟩ | ⟨w, st', y1, y2, y3, y4⟩
      · exact y1
      · exact absurd y3.1 (x2 st')
    have hM3 := IM_fr hM2 m3 m2
    obtain ⟨ω, n1, n2, n3⟩ := IM_ref (r := -3) hM3 (Or.inr (Or.inl rfl))
    refine ⟨-3, τ2, ω, ?_, ?_, N, k, H, L, T, bump b (-3), hW, IC_hi hC2 (fun c hc => (n3 c hc).trans (m3 c (by omega))), n2⟩
    · rw [xbd_s a1, xbd_s g1]
      dsimp only
      rw [x1, if_pos oI_0, xbd_some]
      unfold F_X10_settled
      dsimp only
      rw [if_pos (show (-3 : Int32) < 0 by decide), xbd_s b1, xbd_some]
    · rw [xbd_s m1]
      dsimp only
      rw [hr, if_pos oI_0, xbd_s n1]
  · -- a plan
    obtain ⟨τ2, b1, b2, b3⟩ := f_lay (nI v) hW.1 i1 x4
    have hw' : s_wf (stN N st) := stN_wf hW.1 (va4 hW.1 x3.1.1)
    have hK : IK τ2 N (stN N st) k H L T b := ⟨b2, ⟨m, Ih_cg i2 (fun c x y => b3 c (by omega)), C_blk (fun c x y => b3 c (by omega)) i2'⟩, Ib_cg i3 (b3 0 (by omega)), It_cg i4 (b3 137 (by omega)) (b3 138 (by omega))⟩
    obtain ⟨τ3, k1, k2, k3⟩ := f_keepM hK
    have hp : (0 : Int32) ≤ nI v := nI_pos' (by omega)
    have hPK : PK τ3 (stN N st) := by
      refine Or.inr ⟨v, st, ?_, x2, stN_b hW.1 x3, fun s hs => ?_⟩
      · rw [k3 132 (by omega), b3 132 (by omega)]
        exact x1
      · rw [stN_f (by omega)] at hs
        rw [k3 133 (by omega), b3 133 (by omega)]
        exact x4 s hs
    have hC3 : IC τ3 (stN N st) (k_up k) (push N H) L T b := ⟨k2.1, k2.2.1, k2.2.2.1, k2.2.2.2, Or.inr ⟨by rw [k3 132 (by omega), b3 132 (by omega)]; exact g3, hPK⟩⟩
    have hM3 : IM τ3 N k H L T b := IM_lo hM (fun c hc => (k3 c (by omega)).trans ((b3 c (by omega)).trans (ehi c hc)))
    obtain ⟨r, υ, m1, m2, m3, m4⟩ := m_plan hW.1 hM3.1
    obtain ⟨hr, h149⟩ : r = nI v ∧ ∀ s, s < N 0 1 → υ 149 s = nI (st s) := by
      rcases m4 with ⟨y1, y2⟩ | ⟨w, st', y1, y2, y3, y4⟩
      · exact absurd x3.1 (y2 st)
      · obtain ⟨e1, e2⟩ := p_b_un x3 y3
        exact ⟨by rw [y1, e1], fun s hs => by rw [e2 s hs]; exact y4 s hs⟩
    have hM4 := IM_fr hM3 m3 m2
    obtain ⟨ω, n1, n2, n3, n4⟩ := m_keep hW.1 (fun j hj => (hW.2.2.1 j hj).1) hM4
    obtain ⟨ψ, q1, q2, q3⟩ := m_lay (nI v) hW.1 n2.1 (fun s hs => by rw [n3 149 (by omega) (by omega)]; exact h149 s hs)
    have hM5 : IM ψ (stN N st) (k_up k) (push N H) L T b := IM_fr n2 (fun c hc => q3 c (by omega)) q2
    refine ⟨nI v, τ3, ψ, ?_, ?_, stN N st, k_up k, push N H, L, T, b, IW_push hW hw' (sy_cg (stN_f (by omega)) hW.2.1), IC_hi hC3 (fun c hc => (q3 c (by omega)).trans ((n3 c (by omega) (by omega)).trans (m3 c (by omega)))), hM5⟩
    · rw [xbd_s a1, xbd_s g1]
      dsimp only
      rw [x1, if_neg (nI_m1 (by omega)), xbd_s (show L_X0_layPlan_11 (nI v) 0 τ = some τ2 from b1), xbd_some]
      unfold F_X10_settled
      dsimp only
      rw [if_neg (nI_pos (by omega)), xbd_s k1, xbd_s (f_cnt0 hp), xbd_some]
    · rw [xbd_s m1]
      dsimp only
      rw [hr, if_neg (nI_m1 (by omega)), xbd_s n1, xbd_s (show L_X11_lays_14 (nI v) 0 ω = some ψ from q1)]
