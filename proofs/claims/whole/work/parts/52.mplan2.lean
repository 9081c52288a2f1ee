def f_B (σ0 : xM) (N : xN) (i : Nat) (v1 : Int32) (τ : xM) : Prop := (∀ c, c ≠ 142 → c ≠ 147 → c ≠ 149 → τ c = σ0 c) ∧ ((v1 = oI 0 ∧ ∀ st, p_ok N st → i ≤ p_cd N st (N 0 1)) ∨ ∃ v st0, v1 = nI v ∧ v ≤ 20 ∧ p_ok N st0 ∧ p_sum N st0 (N 0 1) = v ∧ p_cd N st0 (N 0 1) < i ∧ (∀ s, s < N 0 1 → τ 149 s = nI (st0 s)) ∧ ∀ st', p_ok N st' → p_cd N st' (N 0 1) < i → v < p_sum N st' (N 0 1) ∨ (v = p_sum N st' (N 0 1) ∧ p_cd N st0 (N 0 1) ≤ p_cd N st' (N 0 1)))
def f_V (N : xN) (i : Nat) (v2 : Int32) (τ : xM) : Prop := (i < p_pw N 0 ∧ v2 = nI 1 ∧ ∃ st, p_va N st ∧ p_cd N st (N 0 1) = i ∧ s_M (τ 142) (stN N st)) ∨ (i = p_pw N 0 ∧ v2 = nI 0 ∧ ∃ st, s_M (τ 142) (stN N st))
theorem f_nx {σ0 τ : xM} {N : xN} {i : Nat} {v1 : Int32} {st : Nat → Nat} (hw : s_wf N) (hv : p_va N st) (hc : p_cd N st (N 0 1) = i) (hi : i < p_pw N 0) (h : s_M (τ 142) (stN N st)) (hB : f_B σ0 N (i + 1) v1 τ) : ∃ r υ, F_X11_nextSteps τ = some (r, υ) ∧ f_B σ0 N (i + 1) v1 υ ∧ f_V N (i + 1) r υ := by
  obtain ⟨r, υ, g1, g2, g3⟩ := m_next hw hv h
  refine ⟨r, υ, g1, ⟨fun c a b d => (g2 c a).trans (hB.1 c a b d), ?_⟩, ?_⟩
  · rcases hB.2 with h | ⟨v, st0, q1, q2, q3, q4, q5, q6, q7⟩
    · exact Or.inl h
    · exact Or.inr ⟨v, st0, q1, q2, q3, q4, q5, fun s hs => by rw [g2 149 (by omega)]; exact q6 s hs, q7⟩
  · rcases g3 with ⟨rfl, st', k1, k2, k3⟩ | ⟨rfl, k1, k2⟩
    · have := p_cd_top k1
      exact Or.inl ⟨by omega, rfl, st', k1, by omega, k2⟩
    · exact Or.inr ⟨by omega, rfl, k2⟩
theorem f_B_skip {σ0 τ : xM} {N : xN} {i : Nat} {v1 : Int32} {st : Nat → Nat} (hw : s_wf N) (hv : p_va N st) (hc : p_cd N st (N 0 1) = i) (hB : f_B σ0 N i v1 τ) (hno : ¬ p_ok N st ∨ ∃ v, v1 = nI v ∧ v ≤ 20 ∧ v ≤ p_sum N st (N 0 1)) : f_B σ0 N (i + 1) v1 τ := by
  have same : ∀ st', p_ok N st' → p_cd N st' (N 0 1) = i → (∀ j, j < N 0 1 → st' j = st j) := fun st' h' e => p_cd_inj h'.1 hv _ (Nat.le_refl _) (e.trans hc.symm)
  refine ⟨hB.1, ?_⟩
  rcases hB.2 with ⟨h1, h2⟩ | ⟨v, st0, q1, q2, q3, q4, q5, q6, q7⟩
  · refine Or.inl ⟨h1, fun st' h' => ?_⟩
    have := h2 st' h'
    by_cases e : p_cd N st' (N 0 1) = i
    · exfalso
      rcases hno with hno | ⟨v, hv1, hv2, -⟩
      · exact hno (p_ok_cg hw (same st' h' e) h')
      · rw [h1] at hv1
        have := nI_e0 (k := v) (by omega)
        rw [hv1] at this
        simp at this
    · omega
  · refine Or.inr ⟨v, st0, q1, q2, q3, q4, by omega, q6, fun st' h' hl => ?_⟩
    by_cases e : p_cd N st' (N 0 1) = i
    · rcases hno with hno | ⟨w, hv1, hv2, hv3⟩
      · exact absurd (p_ok_cg hw (same st' h' e) h') hno
      · rw [q1, nI_eq (by omega) (by omega)] at hv1
        rw [p_sum_cg (N 0 1) (same st' h' e)]
        omega
    · exact q7 st' h' (by omega)
theorem f_B_take {σ0 τ υ : xM} {N : xN} {i : Nat} {v1 : Int32} {st : Nat → Nat} (hw : s_wf N) (hok : p_ok N st) (hs20 : p_sum N st (N 0 1) ≤ 20) (hc : p_cd N st (N 0 1) = i) (hB : f_B σ0 N i v1 τ) (hlt : v1 = oI 0 ∨ ∃ v, v1 = nI v ∧ v ≤ 20 ∧ p_sum N st (N 0 1) < v) (e : ∀ c, c ≠ 147 → c ≠ 149 → υ c = τ c) (h9 : ∀ s, s < N 0 1 → υ 149 s = nI (st s)) : f_B σ0 N (i + 1) (nI (p_sum N st (N 0 1))) υ := by
  have same : ∀ st', p_ok N st' → p_cd N st' (N 0 1) = i → (∀ j, j < N 0 1 → st' j = st j) := fun st' h' e => p_cd_inj h'.1 hok.1 _ (Nat.le_refl _) (e.trans hc.symm)
  refine ⟨fun c a b d => (e c b d).trans (hB.1 c a b d), Or.inr ⟨_, st, rfl, hs20, hok, rfl, by omega, h9, fun st' h' hl => ?_⟩⟩
  by_cases e : p_cd N st' (N 0 1) = i
  · right
    rw [p_sum_cg (N 0 1) (same st' h' e)]
    omega
  · left
    rcases hB.2 with ⟨h1, h2⟩ | ⟨v, st0, q1, q2, q3, q4, q5, q6, q7⟩
    · have := h2 st' h'
      omega
    · have := q7 st' h' (by omega)
      rcases hlt with hlt | ⟨w, hv1, hv2, hv3⟩
      · rw [q1, nI_e0 (by omega)] at hlt
        exact hlt.elim
      · rw [q1, nI_eq (by omega) (by omega)] at hv1
        omega
theorem m_fp36 {σ : xM} {N : xN} (hw : s_wf N) (h : s_M (σ 142) (stN N (p_0 N))) (hMw : s_Mw σ N) : ∃ e, L_X11_findsPlan_36 (-1) 1 σ = some e ∧ f_B σ N (p_pw N 0) e.1 e.2 ∧ ∃ st, s_M (e.2 142) (stN N st) := by
  have b := hw.1
  have hS := hw.1.2.1
  have hT := p_pw_le (N := N) hS
  have hv0 : p_va N (p_0 N) := fun s hs => ⟨fun ho => by unfold p_0; rw [if_pos ho]; omega, fun ho => by unfold p_0; rw [if_neg (by simp [ho])]⟩
  have hc0 : p_cd N (p_0 N) (N 0 1) = 0 := by
    have := p_cd_z (N := N) (st := p_0 N) (N 0 1) 0 (by omega) (fun j _ _ ho => by unfold p_0; rw [if_pos ho])
    rw [this, show p_cd N (p_0 N) 0 = 0 from rfl, Nat.zero_mul]
  have hp0 : 0 < p_pw N 0 := by
    have := p_cd_top hv0
    omega
  unfold L_X11_findsPlan_36
  refine xloop_for (f := fun x : Int32 × Int32 × xM => B_X11_findsPlan_36 x.1 x.2.1 x.2.2) (fun i x => f_B σ N i x.1 x.2.2 ∧ f_V N i x.2.1 x.2.2) (fun e => f_B σ N (p_pw N 0) e.1 e.2 ∧ ∃ st, s_M (e.2 142) (stN N st)) (p_pw N 0) ?_ ?_ 6000 0 (-1, 1, σ) (by omega) (by omega) ⟨⟨fun _ _ _ _ => rfl, Or.inl ⟨rfl, fun _ _ => by omega⟩⟩, Or.inl ⟨hp0, rfl, p_0 N, hv0, hc0, h⟩⟩
  · intro i ⟨v1, v2, τ⟩ hi ⟨h1, h2⟩
    dsimp only at h1 h2 ⊢
    left
    rcases h2 with ⟨-, rfl, st, hv, hc, hM⟩ | ⟨h3, _⟩
    case inr => omega
    have v4 := va4 hw hv
    have hwS := stN_wf (st := st) hw v4
    have t146 : τ 146 = σ 146 := h1.1 146 (by omega) (by omega) (by omega)
    have hWS : m_W τ (stN N st) := M_W hM (Mw_cg (stN_f (by omega)) (by rw [stN_f (by omega)]) t146 hMw)
    obtain ⟨τ1, o1, o2, o3⟩ := w_over hwS hWS (M_S hM)
    rw [stN_om hw] at o1
    have om := s_om_lt5 hS (s_up N) st
    have hM1 := M_cg (o2 142 (by omega)) hM
    have sum := m_sum hw hM
    have sum1 := m_sum hw hM1
    have hs20 : p_sum N st (N 0 1) ≤ 20 := by
      have h1 := p_sum_le hv (s := 0) (N 0 1) (by omega) (Nat.le_refl _)
      have h2 := xct_le (p_on N) (N 0 1)
      have z : p_sum N st 0 = 0 := rfl
      omega
    have hB1 : f_B σ N i v1 τ1 := ⟨fun c a b d => (o2 c b).trans (h1.1 c a b d), by
      rcases h1.2 with h | ⟨v, st0, q1, q2, q3, q4, q5, q6, q7⟩
      · exact Or.inl h
      · exact Or.inr ⟨v, st0, q1, q2, q3, q4, q5, fun s hs => by rw [o2 149 (by omega)]; exact q6 s hs, q7⟩⟩
    obtain ⟨τ2, p1, p2, p3⟩ := m_fp53 hw hM1 (nI (p_sum N st (N 0 1)))
    have hM2 := M_cg (p2 142 (by omega)) hM1
    have take : s_om N (s_up N) st = 0 → (v1 = oI 0 ∨ ∃ v, v1 = nI v ∧ v ≤ 20 ∧ p_sum N st (N 0 1) < v) → ∃ r υ, F_X11_nextSteps τ2 = some (r, υ) ∧ f_B σ N (i + 1) (nI (p_sum N st (N 0 1))) υ ∧ f_V N (i + 1) r υ := fun hz hlt => f_nx hw hv hc hi hM2 (f_B_take hw ⟨hv, hz⟩ hs20 hc hB1 hlt (fun c a b => p2 c b) p3)
    unfold B_X11_findsPlan_36
    by_cases hz : s_om N (s_up N) st = 0
    · rw [hz] at o1
      rcases h1.2 with ⟨rfl, -⟩ | ⟨v, st0, rfl, q2, q3, q4, q5, q6, q7⟩
      · obtain ⟨r, υ, n1, n2, n3⟩ := take hz (Or.inl rfl)
        simp (disch := omega) only [Nat.add_zero, Nat.zero_add, Nat.zero_mul, Nat.mul_zero, mc8, mc3, nU_f, nU_k, nU_e, xbd_some, xgd_true, xlet_eq, g_in, nI_clamp, nI_leI, nI_ltI, nI_eq, nI_add, pk_mul, pk_sub, rd_e, rd_k, rd_c, i10, i01, xsm_l, xsm_r, if_pos, if_neg, l_neg1, oI_e0, nI_e0, oI_nI, ne_eq, not_true_eq_false, not_false_eq_true, and_true, true_and, and_false, false_and, or_true, true_or, or_false, false_or, if_true, if_false, lit_0, lit_1, lit_2, lit_3, lit_4, lit_5, lit_6, lit_8, lit_9, lit_10, lit_12, lit_13, lit_21, lit_29, lit_30, lit_31, lit_37, lit_101, lit_120, lit_121, lit_127, lit_169, lit_64, lit_99, lit_999, lit_676, lit_845, lit_48, lit_57, lit_32, lit_59, o1, sum1, p1, n1]
        exact ⟨_, rfl, n2, n3⟩
      · by_cases hl : v ≤ p_sum N st (N 0 1)
        · obtain ⟨r, υ, n1, n2, n3⟩ := f_nx hw hv hc hi hM (f_B_skip hw hv hc h1 (Or.inr ⟨v, rfl, q2, hl⟩))
          simp (disch := omega) only [Nat.add_zero, Nat.zero_add, Nat.zero_mul, Nat.mul_zero, mc8, mc3, nU_f, nU_k, nU_e, xbd_some, xgd_true, xlet_eq, g_in, nI_clamp, nI_leI, nI_ltI, nI_eq, nI_add, pk_mul, pk_sub, rd_e, rd_k, rd_c, i10, i01, xsm_l, xsm_r, if_pos, if_neg, l_neg1, oI_e0, nI_e0, oI_nI, ne_eq, not_true_eq_false, not_false_eq_true, and_true, true_and, and_false, false_and, or_true, true_or, or_false, false_or, if_true, if_false, lit_0, lit_1, lit_2, lit_3, lit_4, lit_5, lit_6, lit_8, lit_9, lit_10, lit_12, lit_13, lit_21, lit_29, lit_30, lit_31, lit_37, lit_101, lit_120, lit_121, lit_127, lit_169, lit_64, lit_99, lit_999, lit_676, lit_845, lit_48, lit_57, lit_32, lit_59, sum, n1]
          exact ⟨_, rfl, n2, n3⟩
        · obtain ⟨r, υ, n1, n2, n3⟩ := take hz (Or.inr ⟨v, rfl, q2, by omega⟩)
          simp (disch := omega) only [Nat.add_zero, Nat.zero_add, Nat.zero_mul, Nat.mul_zero, mc8, mc3, nU_f, nU_k, nU_e, xbd_some, xgd_true, xlet_eq, g_in, nI_clamp, nI_leI, nI_ltI, nI_eq, nI_add, pk_mul, pk_sub, rd_e, rd_k, rd_c, i10, i01, xsm_l, xsm_r, if_pos, if_neg, l_neg1, oI_e0, nI_e0, oI_nI, ne_eq, not_true_eq_false, not_false_eq_true, and_true, true_and, and_false, false_and, or_true, true_or, or_false, false_or, if_true, if_false, lit_0, lit_1, lit_2, lit_3, lit_4, lit_5, lit_6, lit_8, lit_9, lit_10, lit_12, lit_13, lit_21, lit_29, lit_30, lit_31, lit_37, lit_101, lit_120, lit_121, lit_127, lit_169, lit_64, lit_99, lit_999, lit_676, lit_845, lit_48, lit_57, lit_32, lit_59, sum, o1, sum1, p1, n1]
          exact ⟨_, rfl, n2, n3⟩
    · have hno : ¬ p_ok N st := fun h => hz h.2
      obtain ⟨r, υ, n1, n2, n3⟩ := f_nx hw hv hc hi hM (f_B_skip hw hv hc h1 (Or.inl hno))
      obtain ⟨r1, υ1, m1, m2, m3⟩ := f_nx hw hv hc hi hM1 (f_B_skip hw hv hc hB1 (Or.inl hno))
      rcases h1.2 with ⟨rfl, -⟩ | ⟨v, st0, rfl, q2, q3, q4, q5, q6, q7⟩
      · simp (disch := omega) only [Nat.add_zero, Nat.zero_add, Nat.zero_mul, Nat.mul_zero, mc8, mc3, nU_f, nU_k, nU_e, xbd_some, xgd_true, xlet_eq, g_in, nI_clamp, nI_leI, nI_ltI, nI_eq, nI_add, pk_mul, pk_sub, rd_e, rd_k, rd_c, i10, i01, xsm_l, xsm_r, if_pos, if_neg, l_neg1, oI_e0, nI_e0, oI_nI, ne_eq, not_true_eq_false, not_false_eq_true, and_true, true_and, and_false, false_and, or_true, true_or, or_false, false_or, if_true, if_false, lit_0, lit_1, lit_2, lit_3, lit_4, lit_5, lit_6, lit_8, lit_9, lit_10, lit_12, lit_13, lit_21, lit_29, lit_30, lit_31, lit_37, lit_101, lit_120, lit_121, lit_127, lit_169, lit_64, lit_99, lit_999, lit_676, lit_845, lit_48, lit_57, lit_32, lit_59, o1, m1]
        exact ⟨_, rfl, m2, m3⟩
      · by_cases hl : v ≤ p_sum N st (N 0 1)
        · simp (disch := omega) only [Nat.add_zero, Nat.zero_add, Nat.zero_mul, Nat.mul_zero, mc8, mc3, nU_f, nU_k, nU_e, xbd_some, xgd_true, xlet_eq, g_in, nI_clamp, nI_leI, nI_ltI, nI_eq, nI_add, pk_mul, pk_sub, rd_e, rd_k, rd_c, i10, i01, xsm_l, xsm_r, if_pos, if_neg, l_neg1, oI_e0, nI_e0, oI_nI, ne_eq, not_true_eq_false, not_false_eq_true, and_true, true_and, and_false, false_and, or_true, true_or, or_false, false_or, if_true, if_false, lit_0, lit_1, lit_2, lit_3, lit_4, lit_5, lit_6, lit_8, lit_9, lit_10, lit_12, lit_13, lit_21, lit_29, lit_30, lit_31, lit_37, lit_101, lit_120, lit_121, lit_127, lit_169, lit_64, lit_99, lit_999, lit_676, lit_845, lit_48, lit_57, lit_32, lit_59, sum, n1]
          exact ⟨_, rfl, n2, n3⟩
        · simp (disch := omega) only [Nat.add_zero, Nat.zero_add, Nat.zero_mul, Nat.mul_zero, mc8, mc3, nU_f, nU_k, nU_e, xbd_some, xgd_true, xlet_eq, g_in, nI_clamp, nI_leI, nI_ltI, nI_eq, nI_add, pk_mul, pk_sub, rd_e, rd_k, rd_c, i10, i01, xsm_l, xsm_r, if_pos, if_neg, l_neg1, oI_e0, nI_e0, oI_nI, ne_eq, not_true_eq_false, not_false_eq_true, and_true, true_and, and_false, false_and, or_true, true_or, or_false, false_or, if_true, if_false, lit_0, lit_1, lit_2, lit_3, lit_4, lit_5, lit_6, lit_8, lit_9, lit_10, lit_12, lit_13, lit_21, lit_29, lit_30, lit_31, lit_37, lit_101, lit_120, lit_121, lit_127, lit_169, lit_64, lit_99, lit_999, lit_676, lit_845, lit_48, lit_57, lit_32, lit_59, sum, o1, m1]
          exact ⟨_, rfl, m2, m3⟩
  · intro ⟨v1, v2, τ⟩ ⟨h1, h2⟩
    dsimp only at h1 h2 ⊢
    rcases h2 with ⟨h3, _⟩ | ⟨-, rfl, st, hM⟩
    · omega
    unfold B_X11_findsPlan_36
    simp (disch := omega) only [Nat.add_zero, Nat.zero_add, Nat.zero_mul, Nat.mul_zero, mc8, mc3, nU_f, nU_k, nU_e, xbd_some, xgd_true, xlet_eq, g_in, nI_clamp, nI_leI, nI_ltI, nI_eq, nI_add, pk_mul, pk_sub, rd_e, rd_k, rd_c, i10, i01, xsm_l, xsm_r, if_pos, if_neg, l_neg1, oI_e0, nI_e0, oI_nI, ne_eq, not_true_eq_false, not_false_eq_true, and_true, true_and, and_false, false_and, or_true, true_or, or_false, false_or, if_true, if_false, lit_0, lit_1, lit_2, lit_3, lit_4, lit_5, lit_6, lit_8, lit_9, lit_10, lit_12, lit_13, lit_21, lit_29, lit_30, lit_31, lit_37, lit_101, lit_120, lit_121, lit_127, lit_169, lit_64, lit_99, lit_999, lit_676, lit_845, lit_48, lit_57, lit_32, lit_59]
    exact ⟨_, rfl, h1, st, hM⟩
theorem m_plan {σ : xM} {N : xN} (hw : s_wf N) (h : s_M (σ 142) N) : ∃ r τ, F_X11_findsPlan σ = some (r, τ) ∧ s_M (τ 142) N ∧ m_fr σ τ ∧ ((r = oI 0 ∧ ∀ st, ¬ p_ok N st) ∨ ∃ v st, r = nI v ∧ v ≤ 20 ∧ p_b N v st ∧ ∀ s, s < N 0 1 → τ 149 s = nI (st s)) := by
  have hS := hw.1.2.1
  obtain ⟨τ1, a1, a2, a3, a4⟩ := m_lays hw h
  obtain ⟨τ2, b1, b2, b3, b4⟩ := m_fp6 hw a4
  have hMw2 : s_Mw τ2 N := Mw_cg rfl rfl (b2 146 (by omega) (by omega)) a3.2.2.2
  obtain ⟨⟨r, τ3⟩, c1, c2, st, c3⟩ := m_fp36 hw b3 hMw2
  dsimp only at c2 c3
  obtain ⟨τ4, d1, d2, d3⟩ := m_fp74 hw c3 (fun s hs => by rw [c2.1 150 (by omega) (by omega) (by omega)]; exact b4 s hs) r
  refine ⟨r, τ4, ?_, d3, fun c hc => ?_, ?_⟩
  · unfold F_X11_findsPlan
    rw [xbd_s a1, xbd_s b1, xbd_s c1, xbd_s d1]
  · rw [d2 c (by omega), c2.1 c (by omega) (by omega) (by omega), b2 c (by omega) (by omega), a2 c (by omega)]
  · rcases c2.2 with ⟨h1, h2⟩ | ⟨v, st0, q1, q2, q3, q4, q5, q6, q7⟩
    · refine Or.inl ⟨h1, fun st hst => ?_⟩
      have := h2 st hst
      have := p_cd_top hst.1
      omega
    · refine Or.inr ⟨v, st0, q1, q2, ⟨q3, q4, fun st' h' => q7 st' h' (p_cd_top h'.1)⟩, fun s hs => ?_⟩
      rw [d2 149 (by omega)]
      exact q6 s hs
