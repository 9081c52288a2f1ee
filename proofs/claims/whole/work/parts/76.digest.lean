def dg (f : Nat → Int32) (h : Int64) : Nat → Int64
  | 0 => h
  | k + 1 => (31 : Int64) * dg f h k + (f k).toInt64
def fA (N : xN) : Nat → Int32 := fun k => v_area N (k / 6) (k % 6)
def fS (N : xN) : Nat → Int32 := fun k => v_site N (k / 10) (k % 10)
def fT (N : xN) : Nat → Int32 := fun k => v_sess N (k / 5) (k % 5)
def dp (N : xN) (b : Nat) (h : Int64) : Nat → Int64
  | 0 => h
  | a + 1 => (31 : Int64) * ((31 : Int64) * dp N b h a + (nI (N 5 (8 * a + b))).toInt64) + (oI (s_di N a b)).toInt64
def dq (N : xN) (h : Int64) : Nat → Int64
  | 0 => h
  | b + 1 => dp N b (dq N h b) b
theorem dg_s {f : Nat → Int32} {h : Int64} {k : Nat} {v : Int32} (e : f k = v) : dg f h (k + 1) = (31 : Int64) * dg f h k + v.toInt64 := by rw [← e]; rfl
theorem fA_e {N : xN} {a w : Nat} (h : w < 6) : fA N (6 * a + w) = v_area N a w := by
  unfold fA
  rw [show (6 * a + w) / 6 = a by omega, show (6 * a + w) % 6 = w by omega]
theorem fS_e {N : xN} {a w : Nat} (h : w < 10) : fS N (10 * a + w) = v_site N a w := by
  unfold fS
  rw [show (10 * a + w) / 10 = a by omega, show (10 * a + w) % 10 = w by omega]
theorem fT_e {N : xN} {a w : Nat} (h : w < 5) : fT N (5 * a + w) = v_sess N a w := by
  unfold fT
  rw [show (5 * a + w) / 5 = a by omega, show (5 * a + w) % 5 = w by omega]
theorem c_dA {σ : xM} {N : xN} (hw : s_wf N) (hC : s_C σ 1 N) (h : Int64) : L_X10_digestOfAreas_4 h (nI 0) σ = some (dg (fA N) h (6 * N 0 0)) := by
  have hA := hw.1.1
  have c2 : σ 2 0 = nI (N 0 0) := (s_C_0 hC).1.1
  unfold L_X10_digestOfAreas_4
  refine xfor (f := fun x : Int64 × Int32 => B_X10_digestOfAreas_4 x.1 x.2 σ) (fun a => (dg (fA N) h (6 * a), nI a)) (N 0 0) _ (fun a ha => ?_) ?_ 6000 0 (by omega) (by omega)
  · have inner : L_X10_digestOfAreas_12 (nI a) (dg (fA N) h (6 * a)) (nI 0) σ = some (dg (fA N) h (6 * (a + 1))) := by
      unfold L_X10_digestOfAreas_12
      refine xfor (f := fun x : Int64 × Int32 => B_X10_digestOfAreas_12 (nI a) x.1 x.2 σ) (fun w => (dg (fA N) h (6 * a + w), nI w)) 6 _ (fun w hw6 => ?_) ?_ 6000 0 (by omega) (by omega)
      · have e := f_areaV hw hC ha (show w ≤ 5 by omega)
        dsimp only
        rw [show 6 * a + (w + 1) = 6 * a + w + 1 by omega, dg_s (fA_e hw6)]
        unfold B_X10_digestOfAreas_12 F_X10_mixed
        simp (disch := omega) only [Nat.add_zero, Nat.zero_add, Nat.zero_mul, Nat.mul_zero, mc8, mc3, nU_f, nU_k, nU_e, xbd_some, xgd_true, xlet_eq, g_in, nI_clamp, nI_leI, nI_ltI, nI_eq, nI_add, pk_mul, pk_sub, rd_e, rd_k, rd_c, i10, i01, xsm_l, xsm_r, if_pos, if_neg, l_neg1, oI_e0, nI_e0, oI_nI, ne_eq, not_true_eq_false, not_false_eq_true, and_true, true_and, and_false, false_and, or_true, true_or, or_false, false_or, if_true, if_false, lit_0, lit_1, lit_2, lit_3, lit_4, lit_5, lit_6, lit_8, lit_9, lit_10, lit_12, lit_13, lit_21, lit_29, lit_30, lit_31, lit_37, lit_101, lit_120, lit_121, lit_127, lit_169, lit_64, lit_99, lit_999, lit_676, lit_845, lit_48, lit_57, lit_32, lit_59, e]
      · dsimp only
        unfold B_X10_digestOfAreas_12
        simp (disch := omega) only [Nat.add_zero, Nat.zero_add, Nat.zero_mul, Nat.mul_zero, mc8, mc3, nU_f, nU_k, nU_e, xbd_some, xgd_true, xlet_eq, g_in, nI_clamp, nI_leI, nI_ltI, nI_eq, nI_add, pk_mul, pk_sub, rd_e, rd_k, rd_c, i10, i01, xsm_l, xsm_r, if_pos, if_neg, l_neg1, oI_e0, nI_e0, oI_nI, ne_eq, not_true_eq_false, not_false_eq_true, and_true, true_and, and_false, false_and, or_true, true_or, or_false, false_or, if_true, if_false, lit_0, lit_1, lit_2, lit_3, lit_4, lit_5, lit_6, lit_8, lit_9, lit_10, lit_12, lit_13, lit_21, lit_29, lit_30, lit_31, lit_37, lit_101, lit_120, lit_121, lit_127, lit_169, lit_64, lit_99, lit_999, lit_676, lit_845, lit_48, lit_57, lit_32, lit_59]
        rw [show 6 * a + 6 = 6 * (a + 1) by omega]
    dsimp only
    unfold B_X10_digestOfAreas_4
    simp (disch := omega) only [Nat.add_zero, Nat.zero_add, Nat.zero_mul, Nat.mul_zero, mc8, mc3, nU_f, nU_k, nU_e, xbd_some, xgd_true, xlet_eq, g_in, nI_clamp, nI_leI, nI_ltI, nI_eq, nI_add, pk_mul, pk_sub, rd_e, rd_k, rd_c, i10, i01, xsm_l, xsm_r, if_pos, if_neg, l_neg1, oI_e0, nI_e0, oI_nI, ne_eq, not_true_eq_false, not_false_eq_true, and_true, true_and, and_false, false_and, or_true, true_or, or_false, false_or, if_true, if_false, lit_0, lit_1, lit_2, lit_3, lit_4, lit_5, lit_6, lit_8, lit_9, lit_10, lit_12, lit_13, lit_21, lit_29, lit_30, lit_31, lit_37, lit_101, lit_120, lit_121, lit_127, lit_169, lit_64, lit_99, lit_999, lit_676, lit_845, lit_48, lit_57, lit_32, lit_59, c2, inner]
  · dsimp only
    unfold B_X10_digestOfAreas_4
    simp (disch := omega) only [Nat.add_zero, Nat.zero_add, Nat.zero_mul, Nat.mul_zero, mc8, mc3, nU_f, nU_k, nU_e, xbd_some, xgd_true, xlet_eq, g_in, nI_clamp, nI_leI, nI_ltI, nI_eq, nI_add, pk_mul, pk_sub, rd_e, rd_k, rd_c, i10, i01, xsm_l, xsm_r, if_pos, if_neg, l_neg1, oI_e0, nI_e0, oI_nI, ne_eq, not_true_eq_false, not_false_eq_true, and_true, true_and, and_false, false_and, or_true, true_or, or_false, false_or, if_true, if_false, lit_0, lit_1, lit_2, lit_3, lit_4, lit_5, lit_6, lit_8, lit_9, lit_10, lit_12, lit_13, lit_21, lit_29, lit_30, lit_31, lit_37, lit_101, lit_120, lit_121, lit_127, lit_169, lit_64, lit_99, lit_999, lit_676, lit_845, lit_48, lit_57, lit_32, lit_59, c2]
theorem c_dP {σ : xM} {N : xN} (hw : s_wf N) (hC : s_C σ 1 N) (h : Int64) : L_X10_digestOfAreas_28 h (nI 0) σ = some (dq N h (N 0 0)) := by
  have hA := hw.1.1
  have c2 : σ 2 0 = nI (N 0 0) := (s_C_0 hC).1.1
  unfold L_X10_digestOfAreas_28
  refine xfor (f := fun x : Int64 × Int32 => B_X10_digestOfAreas_28 x.1 x.2 σ) (fun b => (dq N h b, nI b)) (N 0 0) _ (fun b hb => ?_) ?_ 6000 0 (by omega) (by omega)
  · have inner : L_X10_digestOfAreas_36 (nI b) (dq N h b) (nI 0) σ = some (dq N h (b + 1)) := by
      unfold L_X10_digestOfAreas_36
      refine xfor (f := fun x : Int64 × Int32 => B_X10_digestOfAreas_36 (nI b) x.1 x.2 σ) (fun a => (dp N b (dq N h b) a, nI a)) b _ (fun a ha => ?_) ?_ 6000 0 (by omega) (by omega)
      · have x1 := (s_C_0 hC).2.2.1 (8 * a + b) (by omega)
        have x2 := s_C_7 hC a b (by omega) hb
        dsimp only
        unfold B_X10_digestOfAreas_36 F_X10_mixed
        simp (disch := omega) only [Nat.add_zero, Nat.zero_add, Nat.zero_mul, Nat.mul_zero, mc8, mc3, nU_f, nU_k, nU_e, xbd_some, xgd_true, xlet_eq, g_in, nI_clamp, nI_leI, nI_ltI, nI_eq, nI_add, pk_mul, pk_sub, rd_e, rd_k, rd_c, i10, i01, xsm_l, xsm_r, if_pos, if_neg, l_neg1, oI_e0, nI_e0, oI_nI, ne_eq, not_true_eq_false, not_false_eq_true, and_true, true_and, and_false, false_and, or_true, true_or, or_false, false_or, if_true, if_false, lit_0, lit_1, lit_2, lit_3, lit_4, lit_5, lit_6, lit_8, lit_9, lit_10, lit_12, lit_13, lit_21, lit_29, lit_30, lit_31, lit_37, lit_101, lit_120, lit_121, lit_127, lit_169, lit_64, lit_99, lit_999, lit_676, lit_845, lit_48, lit_57, lit_32, lit_59, f_line, f_dist, x1, x2]
        rfl
      · dsimp only
        unfold B_X10_digestOfAreas_36
        simp (disch := omega) only [Nat.add_zero, Nat.zero_add, Nat.zero_mul, Nat.mul_zero, mc8, mc3, nU_f, nU_k, nU_e, xbd_some, xgd_true, xlet_eq, g_in, nI_clamp, nI_leI, nI_ltI, nI_eq, nI_add, pk_mul, pk_sub, rd_e, rd_k, rd_c, i10, i01, xsm_l, xsm_r, if_pos, if_neg, l_neg1, oI_e0, nI_e0, oI_nI, ne_eq, not_true_eq_false, not_false_eq_true, and_true, true_and, and_false, false_and, or_true, true_or, or_false, false_or, if_true, if_false, lit_0, lit_1, lit_2, lit_3, lit_4, lit_5, lit_6, lit_8, lit_9, lit_10, lit_12, lit_13, lit_21, lit_29, lit_30, lit_31, lit_37, lit_101, lit_120, lit_121, lit_127, lit_169, lit_64, lit_99, lit_999, lit_676, lit_845, lit_48, lit_57, lit_32, lit_59]
        rfl
    dsimp only
    unfold B_X10_digestOfAreas_28
    simp (disch := omega) only [Nat.add_zero, Nat.zero_add, Nat.zero_mul, Nat.mul_zero, mc8, mc3, nU_f, nU_k, nU_e, xbd_some, xgd_true, xlet_eq, g_in, nI_clamp, nI_leI, nI_ltI, nI_eq, nI_add, pk_mul, pk_sub, rd_e, rd_k, rd_c, i10, i01, xsm_l, xsm_r, if_pos, if_neg, l_neg1, oI_e0, nI_e0, oI_nI, ne_eq, not_true_eq_false, not_false_eq_true, and_true, true_and, and_false, false_and, or_true, true_or, or_false, false_or, if_true, if_false, lit_0, lit_1, lit_2, lit_3, lit_4, lit_5, lit_6, lit_8, lit_9, lit_10, lit_12, lit_13, lit_21, lit_29, lit_30, lit_31, lit_37, lit_101, lit_120, lit_121, lit_127, lit_169, lit_64, lit_99, lit_999, lit_676, lit_845, lit_48, lit_57, lit_32, lit_59, c2, inner]
  · dsimp only
    unfold B_X10_digestOfAreas_28
    simp (disch := omega) only [Nat.add_zero, Nat.zero_add, Nat.zero_mul, Nat.mul_zero, mc8, mc3, nU_f, nU_k, nU_e, xbd_some, xgd_true, xlet_eq, g_in, nI_clamp, nI_leI, nI_ltI, nI_eq, nI_add, pk_mul, pk_sub, rd_e, rd_k, rd_c, i10, i01, xsm_l, xsm_r, if_pos, if_neg, l_neg1, oI_e0, nI_e0, oI_nI, ne_eq, not_true_eq_false, not_false_eq_true, and_true, true_and, and_false, false_and, or_true, true_or, or_false, false_or, if_true, if_false, lit_0, lit_1, lit_2, lit_3, lit_4, lit_5, lit_6, lit_8, lit_9, lit_10, lit_12, lit_13, lit_21, lit_29, lit_30, lit_31, lit_37, lit_101, lit_120, lit_121, lit_127, lit_169, lit_64, lit_99, lit_999, lit_676, lit_845, lit_48, lit_57, lit_32, lit_59, c2]
theorem c_dS {σ : xM} {N : xN} (hw : s_wf N) (hC : s_C σ 1 N) (h : Int64) : ∃ τ, L_X10_digest_21 h (nI 0) σ = some (dg (fS N) h (10 * N 0 1), τ) ∧ s_eq s_lk σ τ := by
  have hS := hw.1.2.1
  have hL : ∃ e, L_X10_digest_21 h (nI 0) σ = some e ∧ e.1 = dg (fS N) h (10 * N 0 1) ∧ s_eq s_lk σ e.2 := by
    unfold L_X10_digest_21
    refine xloop_for (f := fun x : Int64 × Int32 × xM => B_X10_digest_21 x.1 x.2.1 x.2.2) (fun a x => x.1 = dg (fS N) h (10 * a) ∧ x.2.1 = nI a ∧ s_eq s_lk σ x.2.2) (fun e => e.1 = dg (fS N) h (10 * N 0 1) ∧ s_eq s_lk σ e.2) (N 0 1) ?_ ?_ 6000 0 (h, nI 0, σ) (by omega) (by omega) ⟨rfl, rfl, s_eq_rf σ⟩
    · intro a ⟨h0, v, τ⟩ ha ⟨h1, h2, h3⟩
      dsimp only at h1 h2 h3 ⊢
      subst h1 h2
      left
      have hCt := c_lk h3 hC
      have c8 : τ 8 0 = nI (N 0 1) := (s_C_0 hCt).1.2.1
      have inner : ∃ e, L_X10_digest_29 (nI a) (dg (fS N) h (10 * a)) (nI 0) τ = some e ∧ e.1 = dg (fS N) h (10 * (a + 1)) ∧ s_eq s_lk σ e.2 := by
        unfold L_X10_digest_29
        refine xloop_for (f := fun x : Int64 × Int32 × xM => B_X10_digest_29 (nI a) x.1 x.2.1 x.2.2) (fun w x => x.1 = dg (fS N) h (10 * a + w) ∧ x.2.1 = nI w ∧ s_eq s_lk σ x.2.2) (fun e => e.1 = dg (fS N) h (10 * (a + 1)) ∧ s_eq s_lk σ e.2) 10 ?_ ?_ 6000 0 (dg (fS N) h (10 * a), nI 0, τ) (by omega) (by omega) ⟨rfl, rfl, h3⟩
        · intro w ⟨g0, u, υ⟩ hw10 ⟨k1, k2, k3⟩
          dsimp only at k1 k2 k3 ⊢
          subst k1 k2
          left
          obtain ⟨ω, e1, e2⟩ := f_siteV hw (c_lk k3 hC) ha (show w ≤ 9 by omega)
          unfold B_X10_digest_29 F_X10_mixed
          simp (disch := omega) only [Nat.add_zero, Nat.zero_add, Nat.zero_mul, Nat.mul_zero, mc8, mc3, nU_f, nU_k, nU_e, xbd_some, xgd_true, xlet_eq, g_in, nI_clamp, nI_leI, nI_ltI, nI_eq, nI_add, pk_mul, pk_sub, rd_e, rd_k, rd_c, i10, i01, xsm_l, xsm_r, if_pos, if_neg, l_neg1, oI_e0, nI_e0, oI_nI, ne_eq, not_true_eq_false, not_false_eq_true, and_true, true_and, and_false, false_and, or_true, true_or, or_false, false_or, if_true, if_false, lit_0, lit_1, lit_2, lit_3, lit_4, lit_5, lit_6, lit_8, lit_9, lit_10, lit_12, lit_13, lit_21, lit_29, lit_30, lit_31, lit_37, lit_101, lit_120, lit_121, lit_127, lit_169, lit_64, lit_99, lit_999, lit_676, lit_845, lit_48, lit_57, lit_32, lit_59, e1]
          refine ⟨_, rfl, ?_, rfl, fun c hc => (e2 c hc).trans (k3 c hc)⟩
          rw [show 10 * a + (w + 1) = 10 * a + w + 1 by omega, dg_s (fS_e hw10)]
        · intro ⟨g0, u, υ⟩ ⟨k1, k2, k3⟩
          dsimp only at k1 k2 k3 ⊢
          subst k1 k2
          unfold B_X10_digest_29
          simp (disch := omega) only [Nat.add_zero, Nat.zero_add, Nat.zero_mul, Nat.mul_zero, mc8, mc3, nU_f, nU_k, nU_e, xbd_some, xgd_true, xlet_eq, g_in, nI_clamp, nI_leI, nI_ltI, nI_eq, nI_add, pk_mul, pk_sub, rd_e, rd_k, rd_c, i10, i01, xsm_l, xsm_r, if_pos, if_neg, l_neg1, oI_e0, nI_e0, oI_nI, ne_eq, not_true_eq_false, not_false_eq_true, and_true, true_and, and_false, false_and, or_true, true_or, or_false, false_or, if_true, if_false, lit_0, lit_1, lit_2, lit_3, lit_4, lit_5, lit_6, lit_8, lit_9, lit_10, lit_12, lit_13, lit_21, lit_29, lit_30, lit_31, lit_37, lit_101, lit_120, lit_121, lit_127, lit_169, lit_64, lit_99, lit_999, lit_676, lit_845, lit_48, lit_57, lit_32, lit_59]
          exact ⟨_, rfl, by rw [show 10 * a + 10 = 10 * (a + 1) by omega], k3⟩
      obtain ⟨⟨g0, υ⟩, i1, i2, i3⟩ := inner
      dsimp only at i2 i3
      unfold B_X10_digest_21
      simp (disch := omega) only [Nat.add_zero, Nat.zero_add, Nat.zero_mul, Nat.mul_zero, mc8, mc3, nU_f, nU_k, nU_e, xbd_some, xgd_true, xlet_eq, g_in, nI_clamp, nI_leI, nI_ltI, nI_eq, nI_add, pk_mul, pk_sub, rd_e, rd_k, rd_c, i10, i01, xsm_l, xsm_r, if_pos, if_neg, l_neg1, oI_e0, nI_e0, oI_nI, ne_eq, not_true_eq_false, not_false_eq_true, and_true, true_and, and_false, false_and, or_true, true_or, or_false, false_or, if_true, if_false, lit_0, lit_1, lit_2, lit_3, lit_4, lit_5, lit_6, lit_8, lit_9, lit_10, lit_12, lit_13, lit_21, lit_29, lit_30, lit_31, lit_37, lit_101, lit_120, lit_121, lit_127, lit_169, lit_64, lit_99, lit_999, lit_676, lit_845, lit_48, lit_57, lit_32, lit_59, c8, i1]
      exact ⟨_, rfl, i2, rfl, i3⟩
    · intro ⟨h0, v, τ⟩ ⟨h1, h2, h3⟩
      dsimp only at h1 h2 h3 ⊢
      subst h1 h2
      have c8 : τ 8 0 = nI (N 0 1) := (s_C_0 (c_lk h3 hC)).1.2.1
      unfold B_X10_digest_21
      simp (disch := omega) only [Nat.add_zero, Nat.zero_add, Nat.zero_mul, Nat.mul_zero, mc8, mc3, nU_f, nU_k, nU_e, xbd_some, xgd_true, xlet_eq, g_in, nI_clamp, nI_leI, nI_ltI, nI_eq, nI_add, pk_mul, pk_sub, rd_e, rd_k, rd_c, i10, i01, xsm_l, xsm_r, if_pos, if_neg, l_neg1, oI_e0, nI_e0, oI_nI, ne_eq, not_true_eq_false, not_false_eq_true, and_true, true_and, and_false, false_and, or_true, true_or, or_false, false_or, if_true, if_false, lit_0, lit_1, lit_2, lit_3, lit_4, lit_5, lit_6, lit_8, lit_9, lit_10, lit_12, lit_13, lit_21, lit_29, lit_30, lit_31, lit_37, lit_101, lit_120, lit_121, lit_127, lit_169, lit_64, lit_99, lit_999, lit_676, lit_845, lit_48, lit_57, lit_32, lit_59, c8]
      exact ⟨_, rfl, rfl, h3⟩
  obtain ⟨⟨g0, τ⟩, i1, i2, i3⟩ := hL
  dsimp only at i2 i3
  exact ⟨τ, by rw [i1, i2], i3⟩
theorem c_dT {σ : xM} {N : xN} (hw : s_wf N) (hC : s_C σ 1 N) (h : Int64) : L_X10_digest_45 h (nI 0) σ = some (dg (fT N) h (5 * N 0 2)) := by
  have hT := hw.1.2.2.1
  have c14 : σ 14 0 = nI (N 0 2) := (s_C_0 hC).1.2.2.2.1
  unfold L_X10_digest_45
  refine xfor (f := fun x : Int64 × Int32 => B_X10_digest_45 x.1 x.2 σ) (fun a => (dg (fT N) h (5 * a), nI a)) (N 0 2) _ (fun a ha => ?_) ?_ 6000 0 (by omega) (by omega)
  · have inner : L_X10_digest_53 (nI a) (dg (fT N) h (5 * a)) (nI 0) σ = some (dg (fT N) h (5 * (a + 1))) := by
      unfold L_X10_digest_53
      refine xfor (f := fun x : Int64 × Int32 => B_X10_digest_53 (nI a) x.1 x.2 σ) (fun w => (dg (fT N) h (5 * a + w), nI w)) 5 _ (fun w hw5 => ?_) ?_ 6000 0 (by omega) (by omega)
      · have e := f_sessV hw hC ha (show w ≤ 4 by omega)
        dsimp only
        rw [show 5 * a + (w + 1) = 5 * a + w + 1 by omega, dg_s (fT_e hw5)]
        unfold B_X10_digest_53 F_X10_mixed
        simp (disch := omega) only [Nat.add_zero, Nat.zero_add, Nat.zero_mul, Nat.mul_zero, mc8, mc3, nU_f, nU_k, nU_e, xbd_some, xgd_true, xlet_eq, g_in, nI_clamp, nI_leI, nI_ltI, nI_eq, nI_add, pk_mul, pk_sub, rd_e, rd_k, rd_c, i10, i01, xsm_l, xsm_r, if_pos, if_neg, l_neg1, oI_e0, nI_e0, oI_nI, ne_eq, not_true_eq_false, not_false_eq_true, and_true, true_and, and_false, false_and, or_true, true_or, or_false, false_or, if_true, if_false, lit_0, lit_1, lit_2, lit_3, lit_4, lit_5, lit_6, lit_8, lit_9, lit_10, lit_12, lit_13, lit_21, lit_29, lit_30, lit_31, lit_37, lit_101, lit_120, lit_121, lit_127, lit_169, lit_64, lit_99, lit_999, lit_676, lit_845, lit_48, lit_57, lit_32, lit_59, e]
      · dsimp only
        unfold B_X10_digest_53
        simp (disch := omega) only [Nat.add_zero, Nat.zero_add, Nat.zero_mul, Nat.mul_zero, mc8, mc3, nU_f, nU_k, nU_e, xbd_some, xgd_true, xlet_eq, g_in, nI_clamp, nI_leI, nI_ltI, nI_eq, nI_add, pk_mul, pk_sub, rd_e, rd_k, rd_c, i10, i01, xsm_l, xsm_r, if_pos, if_neg, l_neg1, oI_e0, nI_e0, oI_nI, ne_eq, not_true_eq_false, not_false_eq_true, and_true, true_and, and_false, false_and, or_true, true_or, or_false, false_or, if_true, if_false, lit_0, lit_1, lit_2, lit_3, lit_4, lit_5, lit_6, lit_8, lit_9, lit_10, lit_12, lit_13, lit_21, lit_29, lit_30, lit_31, lit_37, lit_101, lit_120, lit_121, lit_127, lit_169, lit_64, lit_99, lit_999, lit_676, lit_845, lit_48, lit_57, lit_32, lit_59]
        rw [show 5 * a + 5 = 5 * (a + 1) by omega]
    dsimp only
    unfold B_X10_digest_45
    simp (disch := omega) only [Nat.add_zero, Nat.zero_add, Nat.zero_mul, Nat.mul_zero, mc8, mc3, nU_f, nU_k, nU_e, xbd_some, xgd_true, xlet_eq, g_in, nI_clamp, nI_leI, nI_ltI, nI_eq, nI_add, pk_mul, pk_sub, rd_e, rd_k, rd_c, i10, i01, xsm_l, xsm_r, if_pos, if_neg, l_neg1, oI_e0, nI_e0, oI_nI, ne_eq, not_true_eq_false, not_false_eq_true, and_true, true_and, and_false, false_and, or_true, true_or, or_false, false_or, if_true, if_false, lit_0, lit_1, lit_2, lit_3, lit_4, lit_5, lit_6, lit_8, lit_9, lit_10, lit_12, lit_13, lit_21, lit_29, lit_30, lit_31, lit_37, lit_101, lit_120, lit_121, lit_127, lit_169, lit_64, lit_99, lit_999, lit_676, lit_845, lit_48, lit_57, lit_32, lit_59, c14, inner]
  · dsimp only
    unfold B_X10_digest_45
    simp (disch := omega) only [Nat.add_zero, Nat.zero_add, Nat.zero_mul, Nat.mul_zero, mc8, mc3, nU_f, nU_k, nU_e, xbd_some, xgd_true, xlet_eq, g_in, nI_clamp, nI_leI, nI_ltI, nI_eq, nI_add, pk_mul, pk_sub, rd_e, rd_k, rd_c, i10, i01, xsm_l, xsm_r, if_pos, if_neg, l_neg1, oI_e0, nI_e0, oI_nI, ne_eq, not_true_eq_false, not_false_eq_true, and_true, true_and, and_false, false_and, or_true, true_or, or_false, false_or, if_true, if_false, lit_0, lit_1, lit_2, lit_3, lit_4, lit_5, lit_6, lit_8, lit_9, lit_10, lit_12, lit_13, lit_21, lit_29, lit_30, lit_31, lit_37, lit_101, lit_120, lit_121, lit_127, lit_169, lit_64, lit_99, lit_999, lit_676, lit_845, lit_48, lit_57, lit_32, lit_59, c14]
def d_all (N : xN) (k L : Nat) (b : Nat → Int32) : Int64 := dg (fT N) (dg (fS N) (dq N (dg (fA N) (dg (v_told N k L b) 2333 13) (6 * N 0 0)) (N 0 0)) (10 * N 0 1)) (5 * N 0 2)
theorem c_digest {σ : xM} {N : xN} {k : Nat} {H : Nat → xN} {L : Nat} {T : Nat → Nat} {b : Nat → Int32} (hW : IW N k H L T) (hC : IC σ N k H L T b) : ∃ τ, F_X10_digest σ = some (d_all N k L b, τ) ∧ s_eq s_lk σ τ := by
  have h1 : L_X10_digest_4 2333 (nI 0) σ = some (dg (v_told N k L b) 2333 13) := by
    unfold L_X10_digest_4
    refine xfor (f := fun x : Int64 × Int32 => B_X10_digest_4 x.1 x.2 σ) (fun w => (dg (v_told N k L b) 2333 w, nI w)) 13 _ (fun w hw => ?_) ?_ 6000 0 (by omega) (by omega)
    · have e := f_told hC (show w ≤ 12 by omega)
      dsimp only
      rw [dg_s rfl]
      unfold B_X10_digest_4 F_X10_mixed
      simp (disch := omega) only [Nat.add_zero, Nat.zero_add, Nat.zero_mul, Nat.mul_zero, mc8, mc3, nU_f, nU_k, nU_e, xbd_some, xgd_true, xlet_eq, g_in, nI_clamp, nI_leI, nI_ltI, nI_eq, nI_add, pk_mul, pk_sub, rd_e, rd_k, rd_c, i10, i01, xsm_l, xsm_r, if_pos, if_neg, l_neg1, oI_e0, nI_e0, oI_nI, ne_eq, not_true_eq_false, not_false_eq_true, and_true, true_and, and_false, false_and, or_true, true_or, or_false, false_or, if_true, if_false, lit_0, lit_1, lit_2, lit_3, lit_4, lit_5, lit_6, lit_8, lit_9, lit_10, lit_12, lit_13, lit_21, lit_29, lit_30, lit_31, lit_37, lit_101, lit_120, lit_121, lit_127, lit_169, lit_64, lit_99, lit_999, lit_676, lit_845, lit_48, lit_57, lit_32, lit_59, e]
    · dsimp only
      unfold B_X10_digest_4
      simp (disch := omega) only [Nat.add_zero, Nat.zero_add, Nat.zero_mul, Nat.mul_zero, mc8, mc3, nU_f, nU_k, nU_e, xbd_some, xgd_true, xlet_eq, g_in, nI_clamp, nI_leI, nI_ltI, nI_eq, nI_add, pk_mul, pk_sub, rd_e, rd_k, rd_c, i10, i01, xsm_l, xsm_r, if_pos, if_neg, l_neg1, oI_e0, nI_e0, oI_nI, ne_eq, not_true_eq_false, not_false_eq_true, and_true, true_and, and_false, false_and, or_true, true_or, or_false, false_or, if_true, if_false, lit_0, lit_1, lit_2, lit_3, lit_4, lit_5, lit_6, lit_8, lit_9, lit_10, lit_12, lit_13, lit_21, lit_29, lit_30, lit_31, lit_37, lit_101, lit_120, lit_121, lit_127, lit_169, lit_64, lit_99, lit_999, lit_676, lit_845, lit_48, lit_57, lit_32, lit_59]
  have h2 : F_X10_digestOfAreas (dg (v_told N k L b) 2333 13) σ = some (dq N (dg (fA N) (dg (v_told N k L b) 2333 13) (6 * N 0 0)) (N 0 0)) := by
    unfold F_X10_digestOfAreas
    rw [xbd_s (show L_X10_digestOfAreas_4 (dg (v_told N k L b) 2333 13) 0 σ = _ from c_dA hW.1 hC.1 _), xbd_s (show L_X10_digestOfAreas_28 _ 0 σ = _ from c_dP hW.1 hC.1 _)]
  obtain ⟨τ, h3, h4⟩ := c_dS hW.1 hC.1 (dq N (dg (fA N) (dg (v_told N k L b) 2333 13) (6 * N 0 0)) (N 0 0))
  have h5 := c_dT hW.1 (c_lk h4 hC.1) (dg (fS N) (dq N (dg (fA N) (dg (v_told N k L b) 2333 13) (6 * N 0 0)) (N 0 0)) (10 * N 0 1))
  refine ⟨τ, ?_, h4⟩
  unfold F_X10_digest d_all
  rw [xbd_s (show L_X10_digest_4 2333 0 σ = _ from h1), xbd_s h2, xbd_s (show L_X10_digest_21 _ 0 σ = _ from h3), xbd_s (show L_X10_digest_45 _ 0 τ = _ from h5)]
