def stN (N : xN) (st : Nat → Nat) : xN := fun f k => if f = 8 then st k else N f k
theorem stN_f {N : xN} {st : Nat → Nat} {f : Nat} (h : f ≠ 8) : stN N st f = N f := by funext k; simp [stN, h]
theorem stN_8 {N : xN} {st : Nat → Nat} : stN N st 8 = st := by funext k; simp [stN]
theorem stN_s {N : xN} : stN N (N 8) = N := by
  funext f k
  by_cases e : f = 8
  · subst e; rw [stN_8]
  · rw [stN_f e]
theorem stN_u {N : xN} {st : Nat → Nat} {s v : Nat} : nU (stN N st) 8 s v = stN N (tS st s v) := by
  funext f k
  by_cases e : f = 8
  · subst e
    rw [stN_8]
    by_cases e2 : k = s
    · rw [nU_e e2, tS_e e2]
    · rw [nU_k e2, tS_n e2, stN_8]
  · rw [nU_f e, stN_f e, stN_f e]
theorem stN_up {N : xN} {st : Nat → Nat} : s_up (stN N st) = s_up N := by
  unfold s_up
  rw [stN_f (by omega), stN_f (by omega)]
theorem stN_ag {N : xN} {st : Nat → Nat} : s_ag N (stN N st) := ⟨⟨by rw [stN_f (by omega)], by rw [stN_f (by omega)], by rw [stN_f (by omega)]⟩, stN_f (by omega), stN_f (by omega), stN_f (by omega), stN_f (by omega), stN_f (by omega), stN_f (by omega), stN_f (by omega), stN_f (by omega), stN_f (by omega)⟩
theorem stN_om {N : xN} {st : Nat → Nat} (hw : s_wf N) : s_om (stN N st) (s_up (stN N st)) (stN N st 8) = s_om N (s_up N) st := by
  rw [stN_up, stN_8]
  exact s_om_cg stN_ag hw (au_rf _ _ _)
theorem stN_wf {N : xN} {st : Nat → Nat} (hw : s_wf N) (h : ∀ s, s < N 0 1 → st s ≤ 4) : s_wf (stN N st) := by
  obtain ⟨h0, w2, w5, w0, w6, w10, w1, w1d⟩ := hw
  unfold s_wf
  rw [stN_f (by omega), stN_f (by omega), stN_f (by omega), stN_f (by omega), stN_f (by omega), stN_f (by omega), stN_f (by omega), stN_8, stN_f (by omega), stN_f (by omega), stN_f (by omega), stN_f (by omega), stN_f (by omega), stN_f (by omega)]
  exact ⟨h0, w2, w5, w0, fun s hs => ⟨(w6 s hs).1, (w6 s hs).2.1, h s hs, (w6 s hs).2.2.2⟩, w10, w1, w1d⟩
theorem stN_bd {N : xN} {st : Nat → Nat} (b : s_bd N) : s_bd (stN N st) := by
  unfold s_bd
  rw [stN_f (by omega)]
  exact b
theorem va4 {N : xN} {st : Nat → Nat} (hw : s_wf N) (h : p_va N st) : ∀ s, s < N 0 1 → st s ≤ 4 := fun s hs => by
  rcases p_on_c N s with ho | ho
  · exact (h s hs).1 ho
  · rw [(h s hs).2 ho]
    exact (hw.2.2.2.2.1 s hs).2.2.1
/-- two tellings of a row by steps that agree -/
theorem M_st {R : Nat → Int32} {N : xN} {st st' : Nat → Nat} (h : s_M R (stN N st)) (e : ∀ s, s < N 0 1 → st s = st' s) : s_M R (stN N st') := by
  unfold s_M at h ⊢
  simp only [stN_f (show (0 : Nat) ≠ 8 by omega), stN_f (show (1 : Nat) ≠ 8 by omega), stN_f (show (2 : Nat) ≠ 8 by omega), stN_f (show (3 : Nat) ≠ 8 by omega), stN_f (show (4 : Nat) ≠ 8 by omega), stN_f (show (5 : Nat) ≠ 8 by omega), stN_f (show (6 : Nat) ≠ 8 by omega), stN_f (show (7 : Nat) ≠ 8 by omega), stN_f (show (9 : Nat) ≠ 8 by omega), stN_f (show (10 : Nat) ≠ 8 by omega), stN_f (show (11 : Nat) ≠ 8 by omega), stN_f (show (12 : Nat) ≠ 8 by omega), stN_f (show (13 : Nat) ≠ 8 by omega), stN_8] at h ⊢
  obtain ⟨r0, rQ, rA, rL, rS, rT⟩ := h
  exact ⟨r0, rQ, rA, rL, fun s hs => by rw [← e s hs]; exact rS s hs, rT⟩
theorem M_state {σ : xM} {N : xN} {s : Nat} (hS : N 0 1 ≤ 5) (h : s_M (σ 142) N) (hs : s < N 0 1) : F_X11_stateOf (nI s) σ = some (nI (N 9 s)) := by
  obtain ⟨x1, x2, x3, x4⟩ := h.2.2.2.2.1 s hs
  unfold F_X11_stateOf
  simp (disch := omega) only [Nat.add_zero, Nat.zero_add, Nat.zero_mul, Nat.mul_zero, mc8, mc3, nU_f, nU_k, nU_e, xbd_some, xgd_true, xlet_eq, g_in, nI_clamp, nI_leI, nI_ltI, nI_eq, nI_add, pk_mul, pk_sub, rd_e, rd_k, rd_c, i10, i01, xsm_l, xsm_r, if_pos, if_neg, l_neg1, oI_e0, nI_e0, oI_nI, ne_eq, not_true_eq_false, not_false_eq_true, and_true, true_and, and_false, false_and, or_true, true_or, or_false, false_or, if_true, if_false, lit_0, lit_1, lit_2, lit_3, lit_4, lit_5, lit_6, lit_8, lit_9, lit_10, lit_12, lit_13, lit_21, lit_29, lit_30, lit_31, lit_37, lit_101, lit_120, lit_121, lit_127, lit_169, lit_64, lit_99, lit_999, lit_676, lit_845, lit_48, lit_57, lit_32, lit_59, x4]
theorem M_step {σ : xM} {N : xN} {s : Nat} (hS : N 0 1 ≤ 5) (h : s_M (σ 142) N) (hs : s < N 0 1) : F_X11_stepOf (nI s) σ = some (nI (N 8 s)) := by
  obtain ⟨x1, x2, x3, x4⟩ := h.2.2.2.2.1 s hs
  unfold F_X11_stepOf
  simp (disch := omega) only [Nat.add_zero, Nat.zero_add, Nat.zero_mul, Nat.mul_zero, mc8, mc3, nU_f, nU_k, nU_e, xbd_some, xgd_true, xlet_eq, g_in, nI_clamp, nI_leI, nI_ltI, nI_eq, nI_add, pk_mul, pk_sub, rd_e, rd_k, rd_c, i10, i01, xsm_l, xsm_r, if_pos, if_neg, l_neg1, oI_e0, nI_e0, oI_nI, ne_eq, not_true_eq_false, not_false_eq_true, and_true, true_and, and_false, false_and, or_true, true_or, or_false, false_or, if_true, if_false, lit_0, lit_1, lit_2, lit_3, lit_4, lit_5, lit_6, lit_8, lit_9, lit_10, lit_12, lit_13, lit_21, lit_29, lit_30, lit_31, lit_37, lit_101, lit_120, lit_121, lit_127, lit_169, lit_64, lit_99, lit_999, lit_676, lit_845, lit_48, lit_57, lit_32, lit_59, x3]
theorem puts_step {σ : xM} {s : Nat} {v : Int32} (hs : s < 5) : F_X11_putsStep (nI s) v σ = some (xup σ 142 (101 + 4 * s + 2) v) := by
  unfold F_X11_putsStep
  simp (disch := omega) only [Nat.add_zero, Nat.zero_add, Nat.zero_mul, Nat.mul_zero, mc8, mc3, nU_f, nU_k, nU_e, xbd_some, xgd_true, xlet_eq, g_in, nI_clamp, nI_leI, nI_ltI, nI_eq, nI_add, pk_mul, pk_sub, rd_e, rd_k, rd_c, i10, i01, xsm_l, xsm_r, if_pos, if_neg, l_neg1, oI_e0, nI_e0, oI_nI, ne_eq, not_true_eq_false, not_false_eq_true, and_true, true_and, and_false, false_and, or_true, true_or, or_false, false_or, if_true, if_false, lit_0, lit_1, lit_2, lit_3, lit_4, lit_5, lit_6, lit_8, lit_9, lit_10, lit_12, lit_13, lit_21, lit_29, lit_30, lit_31, lit_37, lit_101, lit_120, lit_121, lit_127, lit_169, lit_64, lit_99, lit_999, lit_676, lit_845, lit_48, lit_57, lit_32, lit_59]
theorem puts_state {σ : xM} {s : Nat} {v : Int32} (hs : s < 5) : F_X11_putsState (nI s) v σ = some (xup σ 142 (101 + 4 * s + 3) v) := by
  unfold F_X11_putsState
  simp (disch := omega) only [Nat.add_zero, Nat.zero_add, Nat.zero_mul, Nat.mul_zero, mc8, mc3, nU_f, nU_k, nU_e, xbd_some, xgd_true, xlet_eq, g_in, nI_clamp, nI_leI, nI_ltI, nI_eq, nI_add, pk_mul, pk_sub, rd_e, rd_k, rd_c, i10, i01, xsm_l, xsm_r, if_pos, if_neg, l_neg1, oI_e0, nI_e0, oI_nI, ne_eq, not_true_eq_false, not_false_eq_true, and_true, true_and, and_false, false_and, or_true, true_or, or_false, false_or, if_true, if_false, lit_0, lit_1, lit_2, lit_3, lit_4, lit_5, lit_6, lit_8, lit_9, lit_10, lit_12, lit_13, lit_21, lit_29, lit_30, lit_31, lit_37, lit_101, lit_120, lit_121, lit_127, lit_169, lit_64, lit_99, lit_999, lit_676, lit_845, lit_48, lit_57, lit_32, lit_59]
theorem S_state {σ : xM} {N : xN} {st : Nat → Nat} {s : Nat} (hS : N 0 1 ≤ 5) (h : s_M (σ 142) (stN N st)) (hs : s < N 0 1) : F_X11_stateOf (nI s) σ = some (nI (N 9 s)) := by
  have := M_state (s := s) (by rw [stN_f (by omega)]; exact hS) h (by rw [stN_f (by omega)]; exact hs)
  rw [stN_f (by omega)] at this
  exact this
theorem S_step {σ : xM} {N : xN} {st : Nat → Nat} {s : Nat} (hS : N 0 1 ≤ 5) (h : s_M (σ 142) (stN N st)) (hs : s < N 0 1) : F_X11_stepOf (nI s) σ = some (nI (st s)) := by
  have := M_step (s := s) (by rw [stN_f (by omega)]; exact hS) h (by rw [stN_f (by omega)]; exact hs)
  rw [stN_8] at this
  exact this
theorem S_1 {σ : xM} {N : xN} {st : Nat → Nat} (h : s_M (σ 142) (stN N st)) : σ 142 1 = nI (N 0 1) := by
  have := h.1 1 (by omega)
  rw [stN_f (by omega)] at this
  exact this
theorem on_9 {N : xN} {s : Nat} : (N 9 s = 2) = (p_on N s = false) := by
  unfold p_on
  by_cases e : N 9 s = 2
  · simp [e]
  · simp [e]
theorem p_on_t {N : xN} {s : Nat} (h : p_on N s = true) : N 9 s ≠ 2 := by
  intro e
  rw [on_9] at e
  rw [e] at h
  cases h
theorem p_on_f {N : xN} {s : Nat} (h : p_on N s = false) : N 9 s = 2 := by
  rw [on_9]
  exact h
theorem m_sum {σ : xM} {N : xN} {st : Nat → Nat} (hw : s_wf N) (h : s_M (σ 142) (stN N st)) : F_X11_stepsSum σ = some (nI (p_sum N st (N 0 1))) := by
  have hS := hw.1.2.1
  have r1 := S_1 h
  have hL : L_X11_stepsSum_4 0 0 σ = some (nI (p_sum N st (N 0 1))) := by
    unfold L_X11_stepsSum_4
    refine xfor (f := fun x : Int32 × Int32 => B_X11_stepsSum_4 x.1 x.2 σ) (fun k => (nI (p_sum N st k), nI k)) (N 0 1) _ (fun k hk => ?_) ?_ 6000 0 (by omega) (by omega)
    · have e1 := S_state hS h hk
      have e2 := S_step hS h hk
      have b9 := (hw.2.2.2.2.1 k hk).2.2.2
      dsimp only
      unfold B_X11_stepsSum_4
      rcases p_on_c N k with ho | ho
      · have := p_on_t ho
        rw [p_sum_t ho]
        simp (disch := omega) only [Nat.add_zero, Nat.zero_add, Nat.zero_mul, Nat.mul_zero, mc8, mc3, nU_f, nU_k, nU_e, xbd_some, xgd_true, xlet_eq, g_in, nI_clamp, nI_leI, nI_ltI, nI_eq, nI_add, pk_mul, pk_sub, rd_e, rd_k, rd_c, i10, i01, xsm_l, xsm_r, if_pos, if_neg, l_neg1, oI_e0, nI_e0, oI_nI, ne_eq, not_true_eq_false, not_false_eq_true, and_true, true_and, and_false, false_and, or_true, true_or, or_false, false_or, if_true, if_false, lit_0, lit_1, lit_2, lit_3, lit_4, lit_5, lit_6, lit_8, lit_9, lit_10, lit_12, lit_13, lit_21, lit_29, lit_30, lit_31, lit_37, lit_101, lit_120, lit_121, lit_127, lit_169, lit_64, lit_99, lit_999, lit_676, lit_845, lit_48, lit_57, lit_32, lit_59, r1, e1, e2]
      · have := p_on_f ho
        rw [p_sum_f ho]
        simp (disch := omega) only [Nat.add_zero, Nat.zero_add, Nat.zero_mul, Nat.mul_zero, mc8, mc3, nU_f, nU_k, nU_e, xbd_some, xgd_true, xlet_eq, g_in, nI_clamp, nI_leI, nI_ltI, nI_eq, nI_add, pk_mul, pk_sub, rd_e, rd_k, rd_c, i10, i01, xsm_l, xsm_r, if_pos, if_neg, l_neg1, oI_e0, nI_e0, oI_nI, ne_eq, not_true_eq_false, not_false_eq_true, and_true, true_and, and_false, false_and, or_true, true_or, or_false, false_or, if_true, if_false, lit_0, lit_1, lit_2, lit_3, lit_4, lit_5, lit_6, lit_8, lit_9, lit_10, lit_12, lit_13, lit_21, lit_29, lit_30, lit_31, lit_37, lit_101, lit_120, lit_121, lit_127, lit_169, lit_64, lit_99, lit_999, lit_676, lit_845, lit_48, lit_57, lit_32, lit_59, r1, e1, e2]
    · dsimp only
      unfold B_X11_stepsSum_4
      simp (disch := omega) only [Nat.add_zero, Nat.zero_add, Nat.zero_mul, Nat.mul_zero, mc8, mc3, nU_f, nU_k, nU_e, xbd_some, xgd_true, xlet_eq, g_in, nI_clamp, nI_leI, nI_ltI, nI_eq, nI_add, pk_mul, pk_sub, rd_e, rd_k, rd_c, i10, i01, xsm_l, xsm_r, if_pos, if_neg, l_neg1, oI_e0, nI_e0, oI_nI, ne_eq, not_true_eq_false, not_false_eq_true, and_true, true_and, and_false, false_and, or_true, true_or, or_false, false_or, if_true, if_false, lit_0, lit_1, lit_2, lit_3, lit_4, lit_5, lit_6, lit_8, lit_9, lit_10, lit_12, lit_13, lit_21, lit_29, lit_30, lit_31, lit_37, lit_101, lit_120, lit_121, lit_127, lit_169, lit_64, lit_99, lit_999, lit_676, lit_845, lit_48, lit_57, lit_32, lit_59, r1]
  unfold F_X11_stepsSum
  rw [xbd_s hL]
theorem nI_m0 (j : Nat) : nI j + oI 0 = oI j := by
  cases j with
  | zero => rfl
  | succ j => exact pk_m1 j
theorem nI_s1 (n : Nat) : nI n - nI 1 = oI n := by
  cases n with
  | zero => rfl
  | succ n => rw [oI_s]; exact nI_pred n
theorem oI_lt0 {k : Nat} (h : k < 100000) : (oI k < nI 0) = (k = 0) := by
  cases k with
  | zero => simp only [eq_iff_iff, iff_true]; decide
  | succ k =>
    rw [oI_s]
    exact propext ⟨fun e => absurd e (nI_pos (by omega)), fun e => by omega⟩
theorem m_next {σ : xM} {N : xN} {st : Nat → Nat} (hw : s_wf N) (hv : p_va N st) (h : s_M (σ 142) (stN N st)) : ∃ r τ, F_X11_nextSteps σ = some (r, τ) ∧ (∀ c, c ≠ 142 → τ c = σ c) ∧ ((r = nI 1 ∧ ∃ st', p_va N st' ∧ s_M (τ 142) (stN N st') ∧ p_cd N st' (N 0 1) = p_cd N st (N 0 1) + 1) ∨ (r = nI 0 ∧ p_cd N st (N 0 1) + 1 = p_pw N 0 ∧ ∃ st', s_M (τ 142) (stN N st'))) := by
  have b := hw.1
  have hS := hw.1.2.1
  have r1 := S_1 h
  have v4 := va4 hw hv
  have hL : ∃ e, L_X11_nextSteps_7 (oI (N 0 1)) σ = some e ∧ ((∃ s τ st', e = .inl (nI s, τ) ∧ s < N 0 1 ∧ p_on N s = true ∧ st s < 4 ∧ (∀ c, c ≠ 142 → τ c = σ c) ∧ s_M (τ 142) (stN N st') ∧ (∀ j, j ≤ s → st' j = st j) ∧ ∀ j, s < j → j < N 0 1 → (p_on N j = true → st' j = 0 ∧ st j = 4) ∧ (p_on N j = false → st' j = st j)) ∨ (∃ τ st', e = .inr τ ∧ (∀ c, c ≠ 142 → τ c = σ c) ∧ s_M (τ 142) (stN N st') ∧ ∀ j, j < N 0 1 → p_on N j = true → st j = 4)) := by
    unfold L_X11_nextSteps_7
    refine xloop_for (f := fun x : Int32 × xM => B_X11_nextSteps_7 x.1 x.2) (fun k x => x.1 = oI (N 0 1 - k) ∧ (∀ c, c ≠ 142 → x.2 c = σ c) ∧ ∃ st', s_M (x.2 142) (stN N st') ∧ (∀ j, j < N 0 1 - k → st' j = st j) ∧ ∀ j, N 0 1 - k ≤ j → j < N 0 1 → (p_on N j = true → st' j = 0 ∧ st j = 4) ∧ (p_on N j = false → st' j = st j)) (fun e => (∃ s τ st', e = .inl (nI s, τ) ∧ s < N 0 1 ∧ p_on N s = true ∧ st s < 4 ∧ (∀ c, c ≠ 142 → τ c = σ c) ∧ s_M (τ 142) (stN N st') ∧ (∀ j, j ≤ s → st' j = st j) ∧ ∀ j, s < j → j < N 0 1 → (p_on N j = true → st' j = 0 ∧ st j = 4) ∧ (p_on N j = false → st' j = st j)) ∨ (∃ τ st', e = .inr τ ∧ (∀ c, c ≠ 142 → τ c = σ c) ∧ s_M (τ 142) (stN N st') ∧ ∀ j, j < N 0 1 → p_on N j = true → st j = 4)) (N 0 1) ?_ ?_ 6000 0 (oI (N 0 1), σ) (by omega) (by omega) ⟨rfl, fun _ _ => rfl, st, h, fun _ _ => rfl, fun j a b => absurd a (by omega)⟩
    · intro k ⟨v, τ⟩ hk ⟨h1, h2, st', h3, h4, h5⟩
      dsimp only at h1 h2 h3 h4 h5 ⊢
      subst h1
      obtain ⟨s, hs⟩ : ∃ s, N 0 1 - k = s + 1 := ⟨N 0 1 - k - 1, by omega⟩
      have hsn : s < N 0 1 := by omega
      have e1 := S_state hS h3 hsn
      have e2 := S_step hS h3 hsn
      have b9 := (hw.2.2.2.2.1 s hsn).2.2.2
      have b8 := v4 s hsn
      rw [h4 s (by omega)] at e2
      rw [hs, oI_s, show N 0 1 - (k + 1) = s by omega]
      unfold B_X11_nextSteps_7
      rcases p_on_c N s with ho | ho
      · have h9 := p_on_t ho
        by_cases h84 : st s = 4
        · left
          have p1 := puts_step (σ := τ) (s := s) (v := nI 0) (by omega)
          simp (disch := omega) only [Nat.add_zero, Nat.zero_add, Nat.zero_mul, Nat.mul_zero, mc8, mc3, nU_f, nU_k, nU_e, xbd_some, xgd_true, xlet_eq, g_in, nI_clamp, nI_leI, nI_ltI, nI_eq, nI_add, pk_mul, pk_sub, rd_e, rd_k, rd_c, i10, i01, xsm_l, xsm_r, if_pos, if_neg, l_neg1, oI_e0, nI_e0, oI_nI, ne_eq, not_true_eq_false, not_false_eq_true, and_true, true_and, and_false, false_and, or_true, true_or, or_false, false_or, if_true, if_false, lit_0, lit_1, lit_2, lit_3, lit_4, lit_5, lit_6, lit_8, lit_9, lit_10, lit_12, lit_13, lit_21, lit_29, lit_30, lit_31, lit_37, lit_101, lit_120, lit_121, lit_127, lit_169, lit_64, lit_99, lit_999, lit_676, lit_845, lit_48, lit_57, lit_32, lit_59, e1, e2, p1, nI_m0]
          have hM := m_f8 (stN_bd b) h3 (k := s) (v := 0) (by omega)
          rw [stN_u] at hM
          refine ⟨_, rfl, rfl, fun c hc => by simp (disch := omega) only [Nat.add_zero, Nat.zero_add, Nat.zero_mul, Nat.mul_zero, mc8, mc3, nU_f, nU_k, nU_e, xbd_some, xgd_true, xlet_eq, g_in, nI_clamp, nI_leI, nI_ltI, nI_eq, nI_add, pk_mul, pk_sub, rd_e, rd_k, rd_c, i10, i01, xsm_l, xsm_r, if_pos, if_neg, l_neg1, oI_e0, nI_e0, oI_nI, ne_eq, not_true_eq_false, not_false_eq_true, and_true, true_and, and_false, false_and, or_true, true_or, or_false, false_or, if_true, if_false, lit_0, lit_1, lit_2, lit_3, lit_4, lit_5, lit_6, lit_8, lit_9, lit_10, lit_12, lit_13, lit_21, lit_29, lit_30, lit_31, lit_37, lit_101, lit_120, lit_121, lit_127, lit_169, lit_64, lit_99, lit_999, lit_676, lit_845, lit_48, lit_57, lit_32, lit_59]; exact h2 c hc, _, hM, fun j hj => ?_, fun j a c => ?_⟩
          · rw [tS_n (by omega)]
            exact h4 j (by omega)
          · by_cases e : j = s
            · rw [tS_e e, e]
              exact ⟨fun _ => ⟨rfl, h84⟩, fun z => (by rw [ho] at z; cases z)⟩
            · rw [tS_n e]
              exact h5 j (by omega) c
        · right
          simp (disch := omega) only [Nat.add_zero, Nat.zero_add, Nat.zero_mul, Nat.mul_zero, mc8, mc3, nU_f, nU_k, nU_e, xbd_some, xgd_true, xlet_eq, g_in, nI_clamp, nI_leI, nI_ltI, nI_eq, nI_add, pk_mul, pk_sub, rd_e, rd_k, rd_c, i10, i01, xsm_l, xsm_r, if_pos, if_neg, l_neg1, oI_e0, nI_e0, oI_nI, ne_eq, not_true_eq_false, not_false_eq_true, and_true, true_and, and_false, false_and, or_true, true_or, or_false, false_or, if_true, if_false, lit_0, lit_1, lit_2, lit_3, lit_4, lit_5, lit_6, lit_8, lit_9, lit_10, lit_12, lit_13, lit_21, lit_29, lit_30, lit_31, lit_37, lit_101, lit_120, lit_121, lit_127, lit_169, lit_64, lit_99, lit_999, lit_676, lit_845, lit_48, lit_57, lit_32, lit_59, e1, e2]
          refine ⟨_, rfl, Or.inl ⟨s, τ, st', rfl, hsn, ho, by omega, h2, h3, fun j hj => h4 j (by omega), fun j a c => h5 j (by omega) c⟩⟩
      · have h9 := p_on_f ho
        left
        simp (disch := omega) only [Nat.add_zero, Nat.zero_add, Nat.zero_mul, Nat.mul_zero, mc8, mc3, nU_f, nU_k, nU_e, xbd_some, xgd_true, xlet_eq, g_in, nI_clamp, nI_leI, nI_ltI, nI_eq, nI_add, pk_mul, pk_sub, rd_e, rd_k, rd_c, i10, i01, xsm_l, xsm_r, if_pos, if_neg, l_neg1, oI_e0, nI_e0, oI_nI, ne_eq, not_true_eq_false, not_false_eq_true, and_true, true_and, and_false, false_and, or_true, true_or, or_false, false_or, if_true, if_false, lit_0, lit_1, lit_2, lit_3, lit_4, lit_5, lit_6, lit_8, lit_9, lit_10, lit_12, lit_13, lit_21, lit_29, lit_30, lit_31, lit_37, lit_101, lit_120, lit_121, lit_127, lit_169, lit_64, lit_99, lit_999, lit_676, lit_845, lit_48, lit_57, lit_32, lit_59, e1, e2, nI_m0]
        refine ⟨_, rfl, rfl, h2, st', h3, fun j hj => h4 j (by omega), fun j a c => ?_⟩
        by_cases e : j = s
        · subst e
          exact ⟨fun z => (by rw [ho] at z; cases z), fun _ => h4 j (by omega)⟩
        · exact h5 j (by omega) c
    · intro ⟨v, τ⟩ ⟨h1, h2, st', h3, h4, h5⟩
      dsimp only at h1 h2 h3 h4 h5 ⊢
      subst h1
      rw [Nat.sub_self] at h5 ⊢
      unfold B_X11_nextSteps_7
      simp (disch := omega) only [Nat.add_zero, Nat.zero_add, Nat.zero_mul, Nat.mul_zero, mc8, mc3, nU_f, nU_k, nU_e, xbd_some, xgd_true, xlet_eq, g_in, nI_clamp, nI_leI, nI_ltI, nI_eq, nI_add, pk_mul, pk_sub, rd_e, rd_k, rd_c, i10, i01, xsm_l, xsm_r, if_pos, if_neg, l_neg1, oI_e0, nI_e0, oI_nI, ne_eq, not_true_eq_false, not_false_eq_true, and_true, true_and, and_false, false_and, or_true, true_or, or_false, false_or, if_true, if_false, lit_0, lit_1, lit_2, lit_3, lit_4, lit_5, lit_6, lit_8, lit_9, lit_10, lit_12, lit_13, lit_21, lit_29, lit_30, lit_31, lit_37, lit_101, lit_120, lit_121, lit_127, lit_169, lit_64, lit_99, lit_999, lit_676, lit_845, lit_48, lit_57, lit_32, lit_59, oI_lt0]
      exact ⟨_, rfl, Or.inr ⟨τ, st', rfl, h2, h3, fun j hj ho => ((h5 j (by omega) hj).1 ho).2⟩⟩
  obtain ⟨e, g1, g2⟩ := hL
  unfold F_X11_nextSteps
  rw [r1, show (1 : Int32) = nI 1 from rfl, nI_s1, xbd_s g1]
  rcases g2 with ⟨s, τ, st', rfl, hs, ho, h4, k2, k3, k4, k5⟩ | ⟨τ, st', rfl, k2, k3, k4⟩
  · have e2 := S_step hS k3 hs
    have p1 := puts_step (σ := τ) (s := s) (v := nI (st' s + 1)) (by omega)
    have hM := m_f8 (stN_bd b) k3 (k := s) (v := st' s + 1) (by omega)
    rw [stN_u] at hM
    rw [xsm_l]
    simp (disch := omega) only [Nat.add_zero, Nat.zero_add, Nat.zero_mul, Nat.mul_zero, mc8, mc3, nU_f, nU_k, nU_e, xbd_some, xgd_true, xlet_eq, g_in, nI_clamp, nI_leI, nI_ltI, nI_eq, nI_add, pk_mul, pk_sub, rd_e, rd_k, rd_c, i10, i01, xsm_l, xsm_r, if_pos, if_neg, l_neg1, oI_e0, nI_e0, oI_nI, ne_eq, not_true_eq_false, not_false_eq_true, and_true, true_and, and_false, false_and, or_true, true_or, or_false, false_or, if_true, if_false, lit_0, lit_1, lit_2, lit_3, lit_4, lit_5, lit_6, lit_8, lit_9, lit_10, lit_12, lit_13, lit_21, lit_29, lit_30, lit_31, lit_37, lit_101, lit_120, lit_121, lit_127, lit_169, lit_64, lit_99, lit_999, lit_676, lit_845, lit_48, lit_57, lit_32, lit_59, e2, p1]
    refine ⟨_, _, rfl, fun c hc => by simp (disch := omega) only [Nat.add_zero, Nat.zero_add, Nat.zero_mul, Nat.mul_zero, mc8, mc3, nU_f, nU_k, nU_e, xbd_some, xgd_true, xlet_eq, g_in, nI_clamp, nI_leI, nI_ltI, nI_eq, nI_add, pk_mul, pk_sub, rd_e, rd_k, rd_c, i10, i01, xsm_l, xsm_r, if_pos, if_neg, l_neg1, oI_e0, nI_e0, oI_nI, ne_eq, not_true_eq_false, not_false_eq_true, and_true, true_and, and_false, false_and, or_true, true_or, or_false, false_or, if_true, if_false, lit_0, lit_1, lit_2, lit_3, lit_4, lit_5, lit_6, lit_8, lit_9, lit_10, lit_12, lit_13, lit_21, lit_29, lit_30, lit_31, lit_37, lit_101, lit_120, lit_121, lit_127, lit_169, lit_64, lit_99, lit_999, lit_676, lit_845, lit_48, lit_57, lit_32, lit_59]; exact k2 c hc, Or.inl ⟨rfl, _, ?_, hM, ?_⟩⟩
    · intro j hj
      by_cases e : j = s
      · rw [tS_e e, k4 s (by omega), e]
        exact ⟨fun _ => by omega, fun z => (by rw [ho] at z; cases z)⟩
      · rw [tS_n e]
        by_cases e2 : j < s
        · rw [k4 j (by omega)]
          exact hv j hj
        · obtain ⟨q1, q2⟩ := k5 j (by omega) hj
          exact ⟨fun z => by have := (q1 z).1; omega, fun z => by rw [q2 z]; exact (hv j hj).2 z⟩
    · have a1 := p_cd_z (N := N) (st := tS st' s (st' s + 1)) (N 0 1 - (s + 1)) (s + 1) (by omega) (fun j a b c => by
        rw [tS_n (by omega)]
        exact ((k5 j (by omega) b).1 c).1)
      have a2 := p_cd_4 (N := N) (st := st) (N 0 1 - (s + 1)) (s + 1) (by omega) (fun j a b c => ((k5 j (by omega) b).1 c).2)
      rw [a1, a2, p_cd_t ho, p_cd_t ho, tS_e rfl, k4 s (by omega), p_cd_cg (st := tS st' s (st s + 1)) (st' := st) s (fun j hj => by rw [tS_n (by omega)]; exact k4 j (by omega)), Nat.add_assoc]
  · rw [xsm_r]
    refine ⟨_, _, rfl, k2, Or.inr ⟨rfl, ?_, st', k3⟩⟩
    have a2 := p_cd_4 (N := N) (st := st) (N 0 1) 0 (by omega) (fun j _ b c => k4 j b c)
    rw [a2, show p_cd N st 0 = 0 from rfl, Nat.zero_add, Nat.one_mul]
def p_0 (N : xN) : Nat → Nat := fun s => if p_on N s = true then 0 else N 8 s
theorem m_fp6 {σ : xM} {N : xN} (hw : s_wf N) (h : s_M (σ 142) N) : ∃ τ, L_X11_findsPlan_6 (-1) 0 σ = some τ ∧ (∀ c, c ≠ 142 → c ≠ 150 → τ c = σ c) ∧ s_M (τ 142) (stN N (p_0 N)) ∧ ∀ s, s < N 0 1 → τ 150 s = nI (N 8 s) := by
  have b := hw.1
  have hS := hw.1.2.1
  unfold L_X11_findsPlan_6
  refine xloop_for (f := fun x : Int32 × xM => B_X11_findsPlan_6 (-1) x.1 x.2) (fun k x => x.1 = nI k ∧ (∀ c, c ≠ 142 → c ≠ 150 → x.2 c = σ c) ∧ s_M (x.2 142) (stN N (fun s => if s < k then p_0 N s else N 8 s)) ∧ ∀ s, s < k → x.2 150 s = nI (N 8 s)) (fun τ => (∀ c, c ≠ 142 → c ≠ 150 → τ c = σ c) ∧ s_M (τ 142) (stN N (p_0 N)) ∧ ∀ s, s < N 0 1 → τ 150 s = nI (N 8 s)) (N 0 1) ?_ ?_ 6000 0 (0, σ) (by omega) (by omega) ⟨rfl, fun _ _ _ => rfl, M_st (st := N 8) (by rw [stN_s]; exact h) (fun s _ => by rw [if_neg (by omega)]), fun s hs => absurd hs (by omega)⟩
  · intro k ⟨v, τ⟩ hk ⟨h1, h2, h3, h4⟩
    dsimp only at h1 h2 h3 h4 ⊢
    subst h1
    left
    have r1 := S_1 h3
    have e1 : ∀ v, F_X11_stateOf (nI k) (xup τ 150 k v) = some (nI (N 9 k)) := fun v => S_state hS (M_cg (τ := xup τ 150 k v) (by simp (disch := omega) only [Nat.add_zero, Nat.zero_add, Nat.zero_mul, Nat.mul_zero, mc8, mc3, nU_f, nU_k, nU_e, xbd_some, xgd_true, xlet_eq, g_in, nI_clamp, nI_leI, nI_ltI, nI_eq, nI_add, pk_mul, pk_sub, rd_e, rd_k, rd_c, i10, i01, xsm_l, xsm_r, if_pos, if_neg, l_neg1, oI_e0, nI_e0, oI_nI, ne_eq, not_true_eq_false, not_false_eq_true, and_true, true_and, and_false, false_and, or_true, true_or, or_false, false_or, if_true, if_false, lit_0, lit_1, lit_2, lit_3, lit_4, lit_5, lit_6, lit_8, lit_9, lit_10, lit_12, lit_13, lit_21, lit_29, lit_30, lit_31, lit_37, lit_101, lit_120, lit_121, lit_127, lit_169, lit_64, lit_99, lit_999, lit_676, lit_845, lit_48, lit_57, lit_32, lit_59]) h3) hk
    have e2 := S_step hS h3 hk
    have e2' : ∀ v, F_X11_stepOf (nI k) (xup τ 150 k v) = some (nI (N 8 k)) := fun v => by
      have := S_step hS (M_cg (τ := xup τ 150 k v) (by simp (disch := omega) only [Nat.add_zero, Nat.zero_add, Nat.zero_mul, Nat.mul_zero, mc8, mc3, nU_f, nU_k, nU_e, xbd_some, xgd_true, xlet_eq, g_in, nI_clamp, nI_leI, nI_ltI, nI_eq, nI_add, pk_mul, pk_sub, rd_e, rd_k, rd_c, i10, i01, xsm_l, xsm_r, if_pos, if_neg, l_neg1, oI_e0, nI_e0, oI_nI, ne_eq, not_true_eq_false, not_false_eq_true, and_true, true_and, and_false, false_and, or_true, true_or, or_false, false_or, if_true, if_false, lit_0, lit_1, lit_2, lit_3, lit_4, lit_5, lit_6, lit_8, lit_9, lit_10, lit_12, lit_13, lit_21, lit_29, lit_30, lit_31, lit_37, lit_101, lit_120, lit_121, lit_127, lit_169, lit_64, lit_99, lit_999, lit_676, lit_845, lit_48, lit_57, lit_32, lit_59]) h3) hk
      rw [if_neg (by omega)] at this
      exact this
    rw [if_neg (by omega)] at e2
    have b9 := (hw.2.2.2.2.1 k hk).2.2.2
    have hM' : s_M (xup τ 150 k (nI (N 8 k)) 142) (stN N (fun s => if s < k then p_0 N s else N 8 s)) := M_cg (by simp (disch := omega) only [Nat.add_zero, Nat.zero_add, Nat.zero_mul, Nat.mul_zero, mc8, mc3, nU_f, nU_k, nU_e, xbd_some, xgd_true, xlet_eq, g_in, nI_clamp, nI_leI, nI_ltI, nI_eq, nI_add, pk_mul, pk_sub, rd_e, rd_k, rd_c, i10, i01, xsm_l, xsm_r, if_pos, if_neg, l_neg1, oI_e0, nI_e0, oI_nI, ne_eq, not_true_eq_false, not_false_eq_true, and_true, true_and, and_false, false_and, or_true, true_or, or_false, false_or, if_true, if_false, lit_0, lit_1, lit_2, lit_3, lit_4, lit_5, lit_6, lit_8, lit_9, lit_10, lit_12, lit_13, lit_21, lit_29, lit_30, lit_31, lit_37, lit_101, lit_120, lit_121, lit_127, lit_169, lit_64, lit_99, lit_999, lit_676, lit_845, lit_48, lit_57, lit_32, lit_59]) h3
    unfold B_X11_findsPlan_6
    have fin : ∀ v, p_0 N k = v → (∀ c, c ≠ 142 → c ≠ 150 → xup (xup τ 150 k (nI (N 8 k))) 142 (101 + 4 * k + 2) (nI v) c = σ c) ∧ s_M (xup (xup τ 150 k (nI (N 8 k))) 142 (101 + 4 * k + 2) (nI v) 142) (stN N (fun s => if s < k + 1 then p_0 N s else N 8 s)) ∧ ∀ s, s < k + 1 → xup (xup τ 150 k (nI (N 8 k))) 142 (101 + 4 * k + 2) (nI v) 150 s = nI (N 8 s) := by
      intro v hv
      refine ⟨fun c a d => by simp (disch := omega) only [Nat.add_zero, Nat.zero_add, Nat.zero_mul, Nat.mul_zero, mc8, mc3, nU_f, nU_k, nU_e, xbd_some, xgd_true, xlet_eq, g_in, nI_clamp, nI_leI, nI_ltI, nI_eq, nI_add, pk_mul, pk_sub, rd_e, rd_k, rd_c, i10, i01, xsm_l, xsm_r, if_pos, if_neg, l_neg1, oI_e0, nI_e0, oI_nI, ne_eq, not_true_eq_false, not_false_eq_true, and_true, true_and, and_false, false_and, or_true, true_or, or_false, false_or, if_true, if_false, lit_0, lit_1, lit_2, lit_3, lit_4, lit_5, lit_6, lit_8, lit_9, lit_10, lit_12, lit_13, lit_21, lit_29, lit_30, lit_31, lit_37, lit_101, lit_120, lit_121, lit_127, lit_169, lit_64, lit_99, lit_999, lit_676, lit_845, lit_48, lit_57, lit_32, lit_59]; exact h2 c a d, ?_, fun s hs => ?_⟩
      · have hM := m_f8 (stN_bd b) hM' (k := k) (v := v) (by omega)
        rw [stN_u] at hM
        refine M_st hM (fun s hs => ?_)
        by_cases e : s = k
        · rw [tS_e e, if_pos (by omega), e, hv]
        · rw [tS_n e]
          by_cases e2 : s < k
          · rw [if_pos e2, if_pos (by omega)]
          · rw [if_neg e2, if_neg (by omega)]
      · by_cases e : s = k
        · subst e; simp (disch := omega) only [Nat.add_zero, Nat.zero_add, Nat.zero_mul, Nat.mul_zero, mc8, mc3, nU_f, nU_k, nU_e, xbd_some, xgd_true, xlet_eq, g_in, nI_clamp, nI_leI, nI_ltI, nI_eq, nI_add, pk_mul, pk_sub, rd_e, rd_k, rd_c, i10, i01, xsm_l, xsm_r, if_pos, if_neg, l_neg1, oI_e0, nI_e0, oI_nI, ne_eq, not_true_eq_false, not_false_eq_true, and_true, true_and, and_false, false_and, or_true, true_or, or_false, false_or, if_true, if_false, lit_0, lit_1, lit_2, lit_3, lit_4, lit_5, lit_6, lit_8, lit_9, lit_10, lit_12, lit_13, lit_21, lit_29, lit_30, lit_31, lit_37, lit_101, lit_120, lit_121, lit_127, lit_169, lit_64, lit_99, lit_999, lit_676, lit_845, lit_48, lit_57, lit_32, lit_59]
        · simp (disch := omega) only [Nat.add_zero, Nat.zero_add, Nat.zero_mul, Nat.mul_zero, mc8, mc3, nU_f, nU_k, nU_e, xbd_some, xgd_true, xlet_eq, g_in, nI_clamp, nI_leI, nI_ltI, nI_eq, nI_add, pk_mul, pk_sub, rd_e, rd_k, rd_c, i10, i01, xsm_l, xsm_r, if_pos, if_neg, l_neg1, oI_e0, nI_e0, oI_nI, ne_eq, not_true_eq_false, not_false_eq_true, and_true, true_and, and_false, false_and, or_true, true_or, or_false, false_or, if_true, if_false, lit_0, lit_1, lit_2, lit_3, lit_4, lit_5, lit_6, lit_8, lit_9, lit_10, lit_12, lit_13, lit_21, lit_29, lit_30, lit_31, lit_37, lit_101, lit_120, lit_121, lit_127, lit_169, lit_64, lit_99, lit_999, lit_676, lit_845, lit_48, lit_57, lit_32, lit_59]
          exact h4 s (by omega)
    rcases p_on_c N k with ho | ho
    · have h9 := p_on_t ho
      simp (disch := omega) only [Nat.add_zero, Nat.zero_add, Nat.zero_mul, Nat.mul_zero, mc8, mc3, nU_f, nU_k, nU_e, xbd_some, xgd_true, xlet_eq, g_in, nI_clamp, nI_leI, nI_ltI, nI_eq, nI_add, pk_mul, pk_sub, rd_e, rd_k, rd_c, i10, i01, xsm_l, xsm_r, if_pos, if_neg, l_neg1, oI_e0, nI_e0, oI_nI, ne_eq, not_true_eq_false, not_false_eq_true, and_true, true_and, and_false, false_and, or_true, true_or, or_false, false_or, if_true, if_false, lit_0, lit_1, lit_2, lit_3, lit_4, lit_5, lit_6, lit_8, lit_9, lit_10, lit_12, lit_13, lit_21, lit_29, lit_30, lit_31, lit_37, lit_101, lit_120, lit_121, lit_127, lit_169, lit_64, lit_99, lit_999, lit_676, lit_845, lit_48, lit_57, lit_32, lit_59, r1, e1, e2, puts_step]
      exact ⟨_, rfl, rfl, fin 0 (by unfold p_0; rw [if_pos ho])⟩
    · have h9 := p_on_f ho
      simp (disch := omega) only [Nat.add_zero, Nat.zero_add, Nat.zero_mul, Nat.mul_zero, mc8, mc3, nU_f, nU_k, nU_e, xbd_some, xgd_true, xlet_eq, g_in, nI_clamp, nI_leI, nI_ltI, nI_eq, nI_add, pk_mul, pk_sub, rd_e, rd_k, rd_c, i10, i01, xsm_l, xsm_r, if_pos, if_neg, l_neg1, oI_e0, nI_e0, oI_nI, ne_eq, not_true_eq_false, not_false_eq_true, and_true, true_and, and_false, false_and, or_true, true_or, or_false, false_or, if_true, if_false, lit_0, lit_1, lit_2, lit_3, lit_4, lit_5, lit_6, lit_8, lit_9, lit_10, lit_12, lit_13, lit_21, lit_29, lit_30, lit_31, lit_37, lit_101, lit_120, lit_121, lit_127, lit_169, lit_64, lit_99, lit_999, lit_676, lit_845, lit_48, lit_57, lit_32, lit_59, r1, e1, e2, e2', puts_step]
      exact ⟨_, rfl, rfl, fin (N 8 k) (by unfold p_0; rw [if_neg (by simp [ho])])⟩
  · intro ⟨v, τ⟩ ⟨h1, h2, h3, h4⟩
    dsimp only at h1 h2 h3 h4 ⊢
    subst h1
    have r1 := S_1 h3
    unfold B_X11_findsPlan_6
    simp (disch := omega) only [Nat.add_zero, Nat.zero_add, Nat.zero_mul, Nat.mul_zero, mc8, mc3, nU_f, nU_k, nU_e, xbd_some, xgd_true, xlet_eq, g_in, nI_clamp, nI_leI, nI_ltI, nI_eq, nI_add, pk_mul, pk_sub, rd_e, rd_k, rd_c, i10, i01, xsm_l, xsm_r, if_pos, if_neg, l_neg1, oI_e0, nI_e0, oI_nI, ne_eq, not_true_eq_false, not_false_eq_true, and_true, true_and, and_false, false_and, or_true, true_or, or_false, false_or, if_true, if_false, lit_0, lit_1, lit_2, lit_3, lit_4, lit_5, lit_6, lit_8, lit_9, lit_10, lit_12, lit_13, lit_21, lit_29, lit_30, lit_31, lit_37, lit_101, lit_120, lit_121, lit_127, lit_169, lit_64, lit_99, lit_999, lit_676, lit_845, lit_48, lit_57, lit_32, lit_59, r1]
    exact ⟨_, rfl, h2, M_st h3 (fun s hs => by rw [if_pos hs]), h4⟩
theorem m_fp53 {σ : xM} {N : xN} {st : Nat → Nat} (hw : s_wf N) (h : s_M (σ 142) (stN N st)) (p : Int32) : ∃ τ, L_X11_findsPlan_53 p (nI 0) σ = some τ ∧ (∀ c, c ≠ 149 → τ c = σ c) ∧ ∀ s, s < N 0 1 → τ 149 s = nI (st s) := by
  have hS := hw.1.2.1
  unfold L_X11_findsPlan_53
  refine xloop_for (f := fun x : Int32 × xM => B_X11_findsPlan_53 p x.1 x.2) (fun k x => x.1 = nI k ∧ (∀ c, c ≠ 149 → x.2 c = σ c) ∧ ∀ s, s < k → x.2 149 s = nI (st s)) (fun τ => (∀ c, c ≠ 149 → τ c = σ c) ∧ ∀ s, s < N 0 1 → τ 149 s = nI (st s)) (N 0 1) ?_ ?_ 6000 0 (nI 0, σ) (by omega) (by omega) ⟨rfl, fun _ _ => rfl, fun s hs => absurd hs (by omega)⟩
  · intro k ⟨v, τ⟩ hk ⟨h1, h2, h3⟩
    dsimp only at h1 h2 h3 ⊢
    subst h1
    left
    have hM := M_cg (h2 142 (by omega)) h
    have r1 := S_1 hM
    have e2 := S_step hS hM hk
    unfold B_X11_findsPlan_53
    simp (disch := omega) only [Nat.add_zero, Nat.zero_add, Nat.zero_mul, Nat.mul_zero, mc8, mc3, nU_f, nU_k, nU_e, xbd_some, xgd_true, xlet_eq, g_in, nI_clamp, nI_leI, nI_ltI, nI_eq, nI_add, pk_mul, pk_sub, rd_e, rd_k, rd_c, i10, i01, xsm_l, xsm_r, if_pos, if_neg, l_neg1, oI_e0, nI_e0, oI_nI, ne_eq, not_true_eq_false, not_false_eq_true, and_true, true_and, and_false, false_and, or_true, true_or, or_false, false_or, if_true, if_false, lit_0, lit_1, lit_2, lit_3, lit_4, lit_5, lit_6, lit_8, lit_9, lit_10, lit_12, lit_13, lit_21, lit_29, lit_30, lit_31, lit_37, lit_101, lit_120, lit_121, lit_127, lit_169, lit_64, lit_99, lit_999, lit_676, lit_845, lit_48, lit_57, lit_32, lit_59, r1, e2]
    refine ⟨_, rfl, rfl, fun c hc => by simp (disch := omega) only [Nat.add_zero, Nat.zero_add, Nat.zero_mul, Nat.mul_zero, mc8, mc3, nU_f, nU_k, nU_e, xbd_some, xgd_true, xlet_eq, g_in, nI_clamp, nI_leI, nI_ltI, nI_eq, nI_add, pk_mul, pk_sub, rd_e, rd_k, rd_c, i10, i01, xsm_l, xsm_r, if_pos, if_neg, l_neg1, oI_e0, nI_e0, oI_nI, ne_eq, not_true_eq_false, not_false_eq_true, and_true, true_and, and_false, false_and, or_true, true_or, or_false, false_or, if_true, if_false, lit_0, lit_1, lit_2, lit_3, lit_4, lit_5, lit_6, lit_8, lit_9, lit_10, lit_12, lit_13, lit_21, lit_29, lit_30, lit_31, lit_37, lit_101, lit_120, lit_121, lit_127, lit_169, lit_64, lit_99, lit_999, lit_676, lit_845, lit_48, lit_57, lit_32, lit_59]; exact h2 c hc, fun s hs => ?_⟩
    by_cases e : s = k
    · subst e; simp (disch := omega) only [Nat.add_zero, Nat.zero_add, Nat.zero_mul, Nat.mul_zero, mc8, mc3, nU_f, nU_k, nU_e, xbd_some, xgd_true, xlet_eq, g_in, nI_clamp, nI_leI, nI_ltI, nI_eq, nI_add, pk_mul, pk_sub, rd_e, rd_k, rd_c, i10, i01, xsm_l, xsm_r, if_pos, if_neg, l_neg1, oI_e0, nI_e0, oI_nI, ne_eq, not_true_eq_false, not_false_eq_true, and_true, true_and, and_false, false_and, or_true, true_or, or_false, false_or, if_true, if_false, lit_0, lit_1, lit_2, lit_3, lit_4, lit_5, lit_6, lit_8, lit_9, lit_10, lit_12, lit_13, lit_21, lit_29, lit_30, lit_31, lit_37, lit_101, lit_120, lit_121, lit_127, lit_169, lit_64, lit_99, lit_999, lit_676, lit_845, lit_48, lit_57, lit_32, lit_59]
    · simp (disch := omega) only [Nat.add_zero, Nat.zero_add, Nat.zero_mul, Nat.mul_zero, mc8, mc3, nU_f, nU_k, nU_e, xbd_some, xgd_true, xlet_eq, g_in, nI_clamp, nI_leI, nI_ltI, nI_eq, nI_add, pk_mul, pk_sub, rd_e, rd_k, rd_c, i10, i01, xsm_l, xsm_r, if_pos, if_neg, l_neg1, oI_e0, nI_e0, oI_nI, ne_eq, not_true_eq_false, not_false_eq_true, and_true, true_and, and_false, false_and, or_true, true_or, or_false, false_or, if_true, if_false, lit_0, lit_1, lit_2, lit_3, lit_4, lit_5, lit_6, lit_8, lit_9, lit_10, lit_12, lit_13, lit_21, lit_29, lit_30, lit_31, lit_37, lit_101, lit_120, lit_121, lit_127, lit_169, lit_64, lit_99, lit_999, lit_676, lit_845, lit_48, lit_57, lit_32, lit_59]
      exact h3 s (by omega)
  · intro ⟨v, τ⟩ ⟨h1, h2, h3⟩
    dsimp only at h1 h2 h3 ⊢
    subst h1
    have r1 := S_1 (M_cg (h2 142 (by omega)) h)
    unfold B_X11_findsPlan_53
    simp (disch := omega) only [Nat.add_zero, Nat.zero_add, Nat.zero_mul, Nat.mul_zero, mc8, mc3, nU_f, nU_k, nU_e, xbd_some, xgd_true, xlet_eq, g_in, nI_clamp, nI_leI, nI_ltI, nI_eq, nI_add, pk_mul, pk_sub, rd_e, rd_k, rd_c, i10, i01, xsm_l, xsm_r, if_pos, if_neg, l_neg1, oI_e0, nI_e0, oI_nI, ne_eq, not_true_eq_false, not_false_eq_true, and_true, true_and, and_false, false_and, or_true, true_or, or_false, false_or, if_true, if_false, lit_0, lit_1, lit_2, lit_3, lit_4, lit_5, lit_6, lit_8, lit_9, lit_10, lit_12, lit_13, lit_21, lit_29, lit_30, lit_31, lit_37, lit_101, lit_120, lit_121, lit_127, lit_169, lit_64, lit_99, lit_999, lit_676, lit_845, lit_48, lit_57, lit_32, lit_59, r1]
    exact ⟨_, rfl, h2, h3⟩
theorem m_fp74 {σ : xM} {N : xN} {st : Nat → Nat} (hw : s_wf N) (h : s_M (σ 142) (stN N st)) (h150 : ∀ s, s < N 0 1 → σ 150 s = nI (N 8 s)) (p : Int32) : ∃ τ, L_X11_findsPlan_74 p 0 σ = some τ ∧ (∀ c, c ≠ 142 → τ c = σ c) ∧ s_M (τ 142) N := by
  have b := hw.1
  have hS := hw.1.2.1
  unfold L_X11_findsPlan_74
  refine xloop_for (f := fun x : Int32 × xM => B_X11_findsPlan_74 p x.1 x.2) (fun k x => x.1 = nI k ∧ (∀ c, c ≠ 142 → x.2 c = σ c) ∧ s_M (x.2 142) (stN N (fun s => if s < k then N 8 s else st s))) (fun τ => (∀ c, c ≠ 142 → τ c = σ c) ∧ s_M (τ 142) N) (N 0 1) ?_ ?_ 6000 0 (0, σ) (by omega) (by omega) ⟨rfl, fun _ _ => rfl, M_st h (fun s _ => by rw [if_neg (by omega)])⟩
  · intro k ⟨v, τ⟩ hk ⟨h1, h2, h3⟩
    dsimp only at h1 h2 h3 ⊢
    subst h1
    left
    have r1 := S_1 h3
    have t1 : τ 150 k = nI (N 8 k) := by rw [h2 150 (by omega), h150 k hk]
    unfold B_X11_findsPlan_74
    simp (disch := omega) only [Nat.add_zero, Nat.zero_add, Nat.zero_mul, Nat.mul_zero, mc8, mc3, nU_f, nU_k, nU_e, xbd_some, xgd_true, xlet_eq, g_in, nI_clamp, nI_leI, nI_ltI, nI_eq, nI_add, pk_mul, pk_sub, rd_e, rd_k, rd_c, i10, i01, xsm_l, xsm_r, if_pos, if_neg, l_neg1, oI_e0, nI_e0, oI_nI, ne_eq, not_true_eq_false, not_false_eq_true, and_true, true_and, and_false, false_and, or_true, true_or, or_false, false_or, if_true, if_false, lit_0, lit_1, lit_2, lit_3, lit_4, lit_5, lit_6, lit_8, lit_9, lit_10, lit_12, lit_13, lit_21, lit_29, lit_30, lit_31, lit_37, lit_101, lit_120, lit_121, lit_127, lit_169, lit_64, lit_99, lit_999, lit_676, lit_845, lit_48, lit_57, lit_32, lit_59, r1, t1, puts_step]
    refine ⟨_, rfl, rfl, fun c hc => by simp (disch := omega) only [Nat.add_zero, Nat.zero_add, Nat.zero_mul, Nat.mul_zero, mc8, mc3, nU_f, nU_k, nU_e, xbd_some, xgd_true, xlet_eq, g_in, nI_clamp, nI_leI, nI_ltI, nI_eq, nI_add, pk_mul, pk_sub, rd_e, rd_k, rd_c, i10, i01, xsm_l, xsm_r, if_pos, if_neg, l_neg1, oI_e0, nI_e0, oI_nI, ne_eq, not_true_eq_false, not_false_eq_true, and_true, true_and, and_false, false_and, or_true, true_or, or_false, false_or, if_true, if_false, lit_0, lit_1, lit_2, lit_3, lit_4, lit_5, lit_6, lit_8, lit_9, lit_10, lit_12, lit_13, lit_21, lit_29, lit_30, lit_31, lit_37, lit_101, lit_120, lit_121, lit_127, lit_169, lit_64, lit_99, lit_999, lit_676, lit_845, lit_48, lit_57, lit_32, lit_59]; exact h2 c hc, ?_⟩
    have hM := m_f8 (stN_bd b) h3 (k := k) (v := N 8 k) (by omega)
    rw [stN_u] at hM
    refine M_st hM (fun s hs => ?_)
    by_cases e : s = k
    · rw [tS_e e, if_pos (by omega), e]
    · rw [tS_n e]
      by_cases e2 : s < k
      · rw [if_pos e2, if_pos (by omega)]
      · rw [if_neg e2, if_neg (by omega)]
  · intro ⟨v, τ⟩ ⟨h1, h2, h3⟩
    dsimp only at h1 h2 h3 ⊢
    subst h1
    have r1 := S_1 h3
    unfold B_X11_findsPlan_74
    simp (disch := omega) only [Nat.add_zero, Nat.zero_add, Nat.zero_mul, Nat.mul_zero, mc8, mc3, nU_f, nU_k, nU_e, xbd_some, xgd_true, xlet_eq, g_in, nI_clamp, nI_leI, nI_ltI, nI_eq, nI_add, pk_mul, pk_sub, rd_e, rd_k, rd_c, i10, i01, xsm_l, xsm_r, if_pos, if_neg, l_neg1, oI_e0, nI_e0, oI_nI, ne_eq, not_true_eq_false, not_false_eq_true, and_true, true_and, and_false, false_and, or_true, true_or, or_false, false_or, if_true, if_false, lit_0, lit_1, lit_2, lit_3, lit_4, lit_5, lit_6, lit_8, lit_9, lit_10, lit_12, lit_13, lit_21, lit_29, lit_30, lit_31, lit_37, lit_101, lit_120, lit_121, lit_127, lit_169, lit_64, lit_99, lit_999, lit_676, lit_845, lit_48, lit_57, lit_32, lit_59, r1]
    refine ⟨_, rfl, h2, ?_⟩
    have := M_st (st' := N 8) h3 (fun s hs => by rw [if_pos hs])
    rw [stN_s] at this
    exact this
