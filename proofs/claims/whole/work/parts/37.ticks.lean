def l_k (N : xN) (n : Nat) : xN := fun f k => if f = 4 ∧ k < n then s_ct N (s_up N) (N 8) k else N f k
theorem lk_f {N : xN} {n f : Nat} (h : f ≠ 4) : l_k N n f = N f := by funext k; unfold l_k; rw [if_neg (by omega)]
theorem lk_l {N : xN} {n k : Nat} (h : k < n) : l_k N n 4 k = s_ct N (s_up N) (N 8) k := by unfold l_k; rw [if_pos ⟨rfl, h⟩]
theorem lk_g {N : xN} {n k : Nat} (h : n ≤ k) : l_k N n 4 k = N 4 k := by unfold l_k; rw [if_neg (by omega)]
def a_lst (N : xN) : xN := l_k N (N 0 0)
theorem lk_s {N : xN} {n : Nat} : nU (l_k N n) 4 n (s_ct N (s_up N) (N 8) n) = l_k N (n + 1) := by
  funext f k
  by_cases e : f = 4
  · subst e
    by_cases e2 : k = n
    · subst e2
      rw [nU_e rfl, lk_l (by omega)]
    · rw [nU_k e2]
      by_cases e3 : k < n
      · rw [lk_l e3, lk_l (by omega)]
      · rw [lk_g (by omega), lk_g (by omega)]
  · rw [nU_f e, lk_f e, lk_f e]
theorem lk_0 {N : xN} : l_k N 0 = N := by
  funext f k
  by_cases e : f = 4
  · subst e; rw [lk_g (by omega)]
  · rw [lk_f e]
theorem lk_up {N : xN} {n : Nat} : s_up (l_k N n) = s_up N := by
  unfold s_up
  rw [lk_f (by omega), lk_f (by omega)]
theorem au_rf (n u : Nat) (st : Nat → Nat) : s_au n u u st st := fun _ _ => ⟨rfl, fun _ => rfl⟩
theorem lk_ct {N : xN} {n a : Nat} (hw : s_wf N) (ha : a < N 0 0) (hn : n ≤ a) : s_ct (l_k N n) (s_up N) (N 8) a = s_ct N (s_up N) (N 8) a := s_ct_cg (by rw [lk_f (by omega)]) (by rw [lk_f (by omega)]) (lk_f (by omega)) (by rw [lk_f (by omega)]) (lk_g hn) (lk_f (by omega)) (au_rf _ _ _) (hw.2.1 a ha).2.2
theorem wf_lk {N : xN} (hw : s_wf N) : ∀ n, n ≤ N 0 0 → s_wf (l_k N n)
  | 0, _ => by rw [lk_0]; exact hw
  | n + 1, h => by
    rw [← lk_s]
    refine wf_f4 (wf_lk hw n (by omega)) ?_
    rw [lk_f (by omega)]
    exact s_ct_lt hw (by omega)
theorem wf_lst {N : xN} (hw : s_wf N) : s_wf (a_lst N) := wf_lk hw _ (Nat.le_refl _)
theorem c_last {σ : xM} {N : xN} (hw : s_wf N) (hC : s_C σ 1 N) : ∃ σ', F_X0_noteLastSites σ = some σ' ∧ s_C σ' 1 (a_lst N) ∧ ∀ c, c = 0 ∨ 19 ≤ c → σ' c = σ c := by
  have hA := hw.1.1
  have hL : ∃ σ', L_X0_noteLastSites_2 0 σ = some σ' ∧ s_C σ' 1 (a_lst N) ∧ ∀ c, c = 0 ∨ 19 ≤ c → σ' c = σ c := by
    unfold L_X0_noteLastSites_2 a_lst
    refine xloop_for (f := fun x : Int32 × xM => B_X0_noteLastSites_2 x.1 x.2) (fun k x => x.1 = nI k ∧ s_C x.2 1 (l_k N k) ∧ ∀ c, c = 0 ∨ 19 ≤ c → x.2 c = σ c) (fun τ => s_C τ 1 (l_k N (N 0 0)) ∧ ∀ c, c = 0 ∨ 19 ≤ c → τ c = σ c) (N 0 0) ?_ ?_ 6000 0 (0, σ) (by omega) (by omega) ⟨rfl, by rw [lk_0]; exact hC, fun _ _ => rfl⟩
    · intro k ⟨v, τ⟩ hk ⟨h1, h2, h3⟩
      dsimp only at h1 h2 h3 ⊢
      subst h1
      left
      have hwk := wf_lk hw k (by omega)
      have t2 : τ 2 0 = nI (N 0 0) := by
        have : τ 2 0 = nI (l_k N k 0 0) := (s_C_0 h2).1.1
        rw [this, lk_f (by omega)]
      have pc := f_pcatch hwk h2 (a := k) (by rw [lk_f (by omega)]; exact hk)
      rw [lk_up, lk_f (by omega), lk_ct hw hk (by omega)] at pc
      have hb := s_C_mk (c0_f4 (s_C_0 h2) k (s_ct N (s_up N) (N 8) k)) (s_D7_cg (by simp (disch := omega) only [Nat.add_zero, Nat.zero_add, Nat.zero_mul, Nat.mul_zero, mc8, mc3, nU_f, nU_k, nU_e, xbd_some, xgd_true, xlet_eq, g_in, nI_clamp, nI_leI, nI_ltI, nI_eq, nI_add, pk_mul, pk_sub, rd_e, rd_k, rd_c, i10, i01, xsm_l, xsm_r, if_pos, if_neg, l_neg1, oI_e0, nI_e0, oI_nI, ne_eq, not_true_eq_false, not_false_eq_true, and_true, true_and, and_false, false_and, or_true, true_or, or_false, false_or, if_true, if_false, lit_0, lit_1, lit_2, lit_3, lit_4, lit_5, lit_6, lit_8, lit_9, lit_10, lit_12, lit_13, lit_21, lit_29, lit_30, lit_31, lit_37, lit_101, lit_120, lit_121, lit_127, lit_169, lit_64, lit_99, lit_999, lit_676, lit_845, lit_48, lit_57, lit_32, lit_59]) (by simp (disch := omega) only [Nat.add_zero, Nat.zero_add, Nat.zero_mul, Nat.mul_zero, mc8, mc3, nU_f, nU_k, nU_e, xbd_some, xgd_true, xlet_eq, g_in, nI_clamp, nI_leI, nI_ltI, nI_eq, nI_add, pk_mul, pk_sub, rd_e, rd_k, rd_c, i10, i01, xsm_l, xsm_r, if_pos, if_neg, l_neg1, oI_e0, nI_e0, oI_nI, ne_eq, not_true_eq_false, not_false_eq_true, and_true, true_and, and_false, false_and, or_true, true_or, or_false, false_or, if_true, if_false, lit_0, lit_1, lit_2, lit_3, lit_4, lit_5, lit_6, lit_8, lit_9, lit_10, lit_12, lit_13, lit_21, lit_29, lit_30, lit_31, lit_37, lit_101, lit_120, lit_121, lit_127, lit_169, lit_64, lit_99, lit_999, lit_676, lit_845, lit_48, lit_57, lit_32, lit_59]) (by simp (disch := omega) only [Nat.add_zero, Nat.zero_add, Nat.zero_mul, Nat.mul_zero, mc8, mc3, nU_f, nU_k, nU_e, xbd_some, xgd_true, xlet_eq, g_in, nI_clamp, nI_leI, nI_ltI, nI_eq, nI_add, pk_mul, pk_sub, rd_e, rd_k, rd_c, i10, i01, xsm_l, xsm_r, if_pos, if_neg, l_neg1, oI_e0, nI_e0, oI_nI, ne_eq, not_true_eq_false, not_false_eq_true, and_true, true_and, and_false, false_and, or_true, true_or, or_false, false_or, if_true, if_false, lit_0, lit_1, lit_2, lit_3, lit_4, lit_5, lit_6, lit_8, lit_9, lit_10, lit_12, lit_13, lit_21, lit_29, lit_30, lit_31, lit_37, lit_101, lit_120, lit_121, lit_127, lit_169, lit_64, lit_99, lit_999, lit_676, lit_845, lit_48, lit_57, lit_32, lit_59]) (s_C_7 h2))
      rw [lk_s] at hb
      unfold B_X0_noteLastSites_2
      simp (disch := omega) only [Nat.add_zero, Nat.zero_add, Nat.zero_mul, Nat.mul_zero, mc8, mc3, nU_f, nU_k, nU_e, xbd_some, xgd_true, xlet_eq, g_in, nI_clamp, nI_leI, nI_ltI, nI_eq, nI_add, pk_mul, pk_sub, rd_e, rd_k, rd_c, i10, i01, xsm_l, xsm_r, if_pos, if_neg, l_neg1, oI_e0, nI_e0, oI_nI, ne_eq, not_true_eq_false, not_false_eq_true, and_true, true_and, and_false, false_and, or_true, true_or, or_false, false_or, if_true, if_false, lit_0, lit_1, lit_2, lit_3, lit_4, lit_5, lit_6, lit_8, lit_9, lit_10, lit_12, lit_13, lit_21, lit_29, lit_30, lit_31, lit_37, lit_101, lit_120, lit_121, lit_127, lit_169, lit_64, lit_99, lit_999, lit_676, lit_845, lit_48, lit_57, lit_32, lit_59, t2, pc]
      exact ⟨_, rfl, rfl, hb, fun c hc => by simp (disch := omega) only [Nat.add_zero, Nat.zero_add, Nat.zero_mul, Nat.mul_zero, mc8, mc3, nU_f, nU_k, nU_e, xbd_some, xgd_true, xlet_eq, g_in, nI_clamp, nI_leI, nI_ltI, nI_eq, nI_add, pk_mul, pk_sub, rd_e, rd_k, rd_c, i10, i01, xsm_l, xsm_r, if_pos, if_neg, l_neg1, oI_e0, nI_e0, oI_nI, ne_eq, not_true_eq_false, not_false_eq_true, and_true, true_and, and_false, false_and, or_true, true_or, or_false, false_or, if_true, if_false, lit_0, lit_1, lit_2, lit_3, lit_4, lit_5, lit_6, lit_8, lit_9, lit_10, lit_12, lit_13, lit_21, lit_29, lit_30, lit_31, lit_37, lit_101, lit_120, lit_121, lit_127, lit_169, lit_64, lit_99, lit_999, lit_676, lit_845, lit_48, lit_57, lit_32, lit_59]; exact h3 c hc⟩
    · intro ⟨v, τ⟩ ⟨h1, h2, h3⟩
      dsimp only at h1 h2 h3 ⊢
      subst h1
      have t2 : τ 2 0 = nI (N 0 0) := by
        have : τ 2 0 = nI (l_k N (N 0 0) 0 0) := (s_C_0 h2).1.1
        rw [this, lk_f (by omega)]
      unfold B_X0_noteLastSites_2
      simp (disch := omega) only [Nat.add_zero, Nat.zero_add, Nat.zero_mul, Nat.mul_zero, mc8, mc3, nU_f, nU_k, nU_e, xbd_some, xgd_true, xlet_eq, g_in, nI_clamp, nI_leI, nI_ltI, nI_eq, nI_add, pk_mul, pk_sub, rd_e, rd_k, rd_c, i10, i01, xsm_l, xsm_r, if_pos, if_neg, l_neg1, oI_e0, nI_e0, oI_nI, ne_eq, not_true_eq_false, not_false_eq_true, and_true, true_and, and_false, false_and, or_true, true_or, or_false, false_or, if_true, if_false, lit_0, lit_1, lit_2, lit_3, lit_4, lit_5, lit_6, lit_8, lit_9, lit_10, lit_12, lit_13, lit_21, lit_29, lit_30, lit_31, lit_37, lit_101, lit_120, lit_121, lit_127, lit_169, lit_64, lit_99, lit_999, lit_676, lit_845, lit_48, lit_57, lit_32, lit_59, t2]
      exact ⟨_, rfl, h2, h3⟩
  obtain ⟨σ', g1, g2⟩ := hL
  refine ⟨σ', ?_, g2⟩
  unfold F_X0_noteLastSites
  rw [xbd_s g1]
def a_tick (N : xN) : xN := nU (a_lst (a_dr (a_age N))) 0 3 (N 0 3 + 1)
def a_ticks (N : xN) : Nat → xN
  | 0 => N
  | n + 1 => a_tick (a_ticks N n)
theorem wf_tick {N : xN} (hw : s_wf N) : s_wf (a_tick N) := wf_sc (wf_lst (wf_dr (wf_age hw))) (by omega)
theorem wf_ticks {N : xN} (hw : s_wf N) : ∀ n, s_wf (a_ticks N n)
  | 0 => hw
  | n + 1 => wf_tick (wf_ticks hw n)
theorem dr_0 {N : xN} {k : Nat} (h6 : k ≠ 6) (h7 : k ≠ 7) : a_dr N 0 k = N 0 k := by
  unfold a_dr
  split
  · rfl
  · split
    · unfold d_nx
      split
      · exact off_0 h7
      · simp (disch := omega) only [Nat.add_zero, Nat.zero_add, Nat.zero_mul, Nat.mul_zero, mc8, mc3, nU_f, nU_k, nU_e, xbd_some, xgd_true, xlet_eq, g_in, nI_clamp, nI_leI, nI_ltI, nI_eq, nI_add, pk_mul, pk_sub, rd_e, rd_k, rd_c, i10, i01, xsm_l, xsm_r, if_pos, if_neg, l_neg1, oI_e0, nI_e0, oI_nI, ne_eq, not_true_eq_false, not_false_eq_true, and_true, true_and, and_false, false_and, or_true, true_or, or_false, false_or, if_true, if_false, lit_0, lit_1, lit_2, lit_3, lit_4, lit_5, lit_6, lit_8, lit_9, lit_10, lit_12, lit_13, lit_21, lit_29, lit_30, lit_31, lit_37, lit_101, lit_120, lit_121, lit_127, lit_169, lit_64, lit_99, lit_999, lit_676, lit_845, lit_48, lit_57, lit_32, lit_59]
    · simp (disch := omega) only [Nat.add_zero, Nat.zero_add, Nat.zero_mul, Nat.mul_zero, mc8, mc3, nU_f, nU_k, nU_e, xbd_some, xgd_true, xlet_eq, g_in, nI_clamp, nI_leI, nI_ltI, nI_eq, nI_add, pk_mul, pk_sub, rd_e, rd_k, rd_c, i10, i01, xsm_l, xsm_r, if_pos, if_neg, l_neg1, oI_e0, nI_e0, oI_nI, ne_eq, not_true_eq_false, not_false_eq_true, and_true, true_and, and_false, false_and, or_true, true_or, or_false, false_or, if_true, if_false, lit_0, lit_1, lit_2, lit_3, lit_4, lit_5, lit_6, lit_8, lit_9, lit_10, lit_12, lit_13, lit_21, lit_29, lit_30, lit_31, lit_37, lit_101, lit_120, lit_121, lit_127, lit_169, lit_64, lit_99, lit_999, lit_676, lit_845, lit_48, lit_57, lit_32, lit_59]
theorem age_0 {N : xN} {k : Nat} (h2 : k ≠ 2) (h4 : k ≠ 4) (h5 : k ≠ 5) : a_age N 0 k = N 0 k := by
  unfold a_age
  simp (disch := omega) only [Nat.add_zero, Nat.zero_add, Nat.zero_mul, Nat.mul_zero, mc8, mc3, nU_f, nU_k, nU_e, xbd_some, xgd_true, xlet_eq, g_in, nI_clamp, nI_leI, nI_ltI, nI_eq, nI_add, pk_mul, pk_sub, rd_e, rd_k, rd_c, i10, i01, xsm_l, xsm_r, if_pos, if_neg, l_neg1, oI_e0, nI_e0, oI_nI, ne_eq, not_true_eq_false, not_false_eq_true, and_true, true_and, and_false, false_and, or_true, true_or, or_false, false_or, if_true, if_false, lit_0, lit_1, lit_2, lit_3, lit_4, lit_5, lit_6, lit_8, lit_9, lit_10, lit_12, lit_13, lit_21, lit_29, lit_30, lit_31, lit_37, lit_101, lit_120, lit_121, lit_127, lit_169, lit_64, lit_99, lit_999, lit_676, lit_845, lit_48, lit_57, lit_32, lit_59, g_N_f]
theorem lst_0 {N : xN} {k : Nat} : a_lst N 0 k = N 0 k := by
  unfold a_lst
  rw [lk_f (by omega)]
theorem tick_e {N : xN} : a_tick N 0 4 + a_tick N 0 2 = N 0 4 + N 0 2 := by
  have hc := xct_le (g_liv N) (N 0 2)
  have e4 : a_tick N 0 4 = a_age N 0 4 := by
    unfold a_tick
    simp (disch := omega) only [Nat.add_zero, Nat.zero_add, Nat.zero_mul, Nat.mul_zero, mc8, mc3, nU_f, nU_k, nU_e, xbd_some, xgd_true, xlet_eq, g_in, nI_clamp, nI_leI, nI_ltI, nI_eq, nI_add, pk_mul, pk_sub, rd_e, rd_k, rd_c, i10, i01, xsm_l, xsm_r, if_pos, if_neg, l_neg1, oI_e0, nI_e0, oI_nI, ne_eq, not_true_eq_false, not_false_eq_true, and_true, true_and, and_false, false_and, or_true, true_or, or_false, false_or, if_true, if_false, lit_0, lit_1, lit_2, lit_3, lit_4, lit_5, lit_6, lit_8, lit_9, lit_10, lit_12, lit_13, lit_21, lit_29, lit_30, lit_31, lit_37, lit_101, lit_120, lit_121, lit_127, lit_169, lit_64, lit_99, lit_999, lit_676, lit_845, lit_48, lit_57, lit_32, lit_59, lst_0, dr_0]
  have e2 : a_tick N 0 2 = a_age N 0 2 := by
    unfold a_tick
    simp (disch := omega) only [Nat.add_zero, Nat.zero_add, Nat.zero_mul, Nat.mul_zero, mc8, mc3, nU_f, nU_k, nU_e, xbd_some, xgd_true, xlet_eq, g_in, nI_clamp, nI_leI, nI_ltI, nI_eq, nI_add, pk_mul, pk_sub, rd_e, rd_k, rd_c, i10, i01, xsm_l, xsm_r, if_pos, if_neg, l_neg1, oI_e0, nI_e0, oI_nI, ne_eq, not_true_eq_false, not_false_eq_true, and_true, true_and, and_false, false_and, or_true, true_or, or_false, false_or, if_true, if_false, lit_0, lit_1, lit_2, lit_3, lit_4, lit_5, lit_6, lit_8, lit_9, lit_10, lit_12, lit_13, lit_21, lit_29, lit_30, lit_31, lit_37, lit_101, lit_120, lit_121, lit_127, lit_169, lit_64, lit_99, lit_999, lit_676, lit_845, lit_48, lit_57, lit_32, lit_59, lst_0, dr_0]
  rw [e4, e2]
  unfold a_age
  simp (disch := omega) only [Nat.add_zero, Nat.zero_add, Nat.zero_mul, Nat.mul_zero, mc8, mc3, nU_f, nU_k, nU_e, xbd_some, xgd_true, xlet_eq, g_in, nI_clamp, nI_leI, nI_ltI, nI_eq, nI_add, pk_mul, pk_sub, rd_e, rd_k, rd_c, i10, i01, xsm_l, xsm_r, if_pos, if_neg, l_neg1, oI_e0, nI_e0, oI_nI, ne_eq, not_true_eq_false, not_false_eq_true, and_true, true_and, and_false, false_and, or_true, true_or, or_false, false_or, if_true, if_false, lit_0, lit_1, lit_2, lit_3, lit_4, lit_5, lit_6, lit_8, lit_9, lit_10, lit_12, lit_13, lit_21, lit_29, lit_30, lit_31, lit_37, lit_101, lit_120, lit_121, lit_127, lit_169, lit_64, lit_99, lit_999, lit_676, lit_845, lit_48, lit_57, lit_32, lit_59]
  omega
theorem ticks_e {N : xN} : ∀ n, a_ticks N n 0 4 + a_ticks N n 0 2 = N 0 4 + N 0 2 ∧ N 0 4 ≤ a_ticks N n 0 4
  | 0 => ⟨rfl, Nat.le_refl _⟩
  | n + 1 => by
    have ih := ticks_e (N := N) n
    have h := tick_e (N := a_ticks N n)
    have hc := xct_le (g_liv (a_ticks N n)) (a_ticks N n 0 2)
    have e2 : a_tick (a_ticks N n) 0 2 = xct (g_liv (a_ticks N n)) (a_ticks N n 0 2) := by
      unfold a_tick
      simp (disch := omega) only [Nat.add_zero, Nat.zero_add, Nat.zero_mul, Nat.mul_zero, mc8, mc3, nU_f, nU_k, nU_e, xbd_some, xgd_true, xlet_eq, g_in, nI_clamp, nI_leI, nI_ltI, nI_eq, nI_add, pk_mul, pk_sub, rd_e, rd_k, rd_c, i10, i01, xsm_l, xsm_r, if_pos, if_neg, l_neg1, oI_e0, nI_e0, oI_nI, ne_eq, not_true_eq_false, not_false_eq_true, and_true, true_and, and_false, false_and, or_true, true_or, or_false, false_or, if_true, if_false, lit_0, lit_1, lit_2, lit_3, lit_4, lit_5, lit_6, lit_8, lit_9, lit_10, lit_12, lit_13, lit_21, lit_29, lit_30, lit_31, lit_37, lit_101, lit_120, lit_121, lit_127, lit_169, lit_64, lit_99, lit_999, lit_676, lit_845, lit_48, lit_57, lit_32, lit_59, lst_0, dr_0]
      unfold a_age
      simp (disch := omega) only [Nat.add_zero, Nat.zero_add, Nat.zero_mul, Nat.mul_zero, mc8, mc3, nU_f, nU_k, nU_e, xbd_some, xgd_true, xlet_eq, g_in, nI_clamp, nI_leI, nI_ltI, nI_eq, nI_add, pk_mul, pk_sub, rd_e, rd_k, rd_c, i10, i01, xsm_l, xsm_r, if_pos, if_neg, l_neg1, oI_e0, nI_e0, oI_nI, ne_eq, not_true_eq_false, not_false_eq_true, and_true, true_and, and_false, false_and, or_true, true_or, or_false, false_or, if_true, if_false, lit_0, lit_1, lit_2, lit_3, lit_4, lit_5, lit_6, lit_8, lit_9, lit_10, lit_12, lit_13, lit_21, lit_29, lit_30, lit_31, lit_37, lit_101, lit_120, lit_121, lit_127, lit_169, lit_64, lit_99, lit_999, lit_676, lit_845, lit_48, lit_57, lit_32, lit_59]
    show a_tick (a_ticks N n) 0 4 + a_tick (a_ticks N n) 0 2 = _ ∧ _ ≤ a_tick (a_ticks N n) 0 4
    omega
theorem c_tick1 {σ : xM} {N : xN} (hw : s_wf N) (hC : s_C σ 1 N) : ∃ τ1 τ2 τ3, F_X0_ageSessions σ = some τ1 ∧ F_X0_advanceDrain τ1 = some τ2 ∧ F_X0_noteLastSites τ2 = some τ3 ∧ s_C (xup τ3 1 3 (τ3 1 3 + nI 1)) 1 (a_tick N) ∧ s_fr σ (xup τ3 1 3 (τ3 1 3 + nI 1)) := by
  obtain ⟨τ1, a1, a2, a3⟩ := c_age hw hC
  obtain ⟨τ2, b1, b2, b3⟩ := c_drain (wf_age hw) a2
  obtain ⟨τ3, d1, d2, d3⟩ := c_last (wf_dr (wf_age hw)) b2
  have e3 : τ3 1 3 = nI (N 0 3) := by
    have : τ3 1 3 = nI (a_lst (a_dr (a_age N)) 0 3) := (s_C_0 d2).1.2.2.2.2.1
    rw [this]
    simp (disch := omega) only [Nat.add_zero, Nat.zero_add, Nat.zero_mul, Nat.mul_zero, mc8, mc3, nU_f, nU_k, nU_e, xbd_some, xgd_true, xlet_eq, g_in, nI_clamp, nI_leI, nI_ltI, nI_eq, nI_add, pk_mul, pk_sub, rd_e, rd_k, rd_c, i10, i01, xsm_l, xsm_r, if_pos, if_neg, l_neg1, oI_e0, nI_e0, oI_nI, ne_eq, not_true_eq_false, not_false_eq_true, and_true, true_and, and_false, false_and, or_true, true_or, or_false, false_or, if_true, if_false, lit_0, lit_1, lit_2, lit_3, lit_4, lit_5, lit_6, lit_8, lit_9, lit_10, lit_12, lit_13, lit_21, lit_29, lit_30, lit_31, lit_37, lit_101, lit_120, lit_121, lit_127, lit_169, lit_64, lit_99, lit_999, lit_676, lit_845, lit_48, lit_57, lit_32, lit_59, lst_0, dr_0, age_0]
  refine ⟨τ1, τ2, τ3, a1, b1, d1, ?_, ?_⟩
  · rw [e3, nI_add]
    unfold a_tick
    exact s_C_mk (c0_s3 (s_C_0 d2) _) (s_D7_cg (by simp (disch := omega) only [Nat.add_zero, Nat.zero_add, Nat.zero_mul, Nat.mul_zero, mc8, mc3, nU_f, nU_k, nU_e, xbd_some, xgd_true, xlet_eq, g_in, nI_clamp, nI_leI, nI_ltI, nI_eq, nI_add, pk_mul, pk_sub, rd_e, rd_k, rd_c, i10, i01, xsm_l, xsm_r, if_pos, if_neg, l_neg1, oI_e0, nI_e0, oI_nI, ne_eq, not_true_eq_false, not_false_eq_true, and_true, true_and, and_false, false_and, or_true, true_or, or_false, false_or, if_true, if_false, lit_0, lit_1, lit_2, lit_3, lit_4, lit_5, lit_6, lit_8, lit_9, lit_10, lit_12, lit_13, lit_21, lit_29, lit_30, lit_31, lit_37, lit_101, lit_120, lit_121, lit_127, lit_169, lit_64, lit_99, lit_999, lit_676, lit_845, lit_48, lit_57, lit_32, lit_59]) (by simp (disch := omega) only [Nat.add_zero, Nat.zero_add, Nat.zero_mul, Nat.mul_zero, mc8, mc3, nU_f, nU_k, nU_e, xbd_some, xgd_true, xlet_eq, g_in, nI_clamp, nI_leI, nI_ltI, nI_eq, nI_add, pk_mul, pk_sub, rd_e, rd_k, rd_c, i10, i01, xsm_l, xsm_r, if_pos, if_neg, l_neg1, oI_e0, nI_e0, oI_nI, ne_eq, not_true_eq_false, not_false_eq_true, and_true, true_and, and_false, false_and, or_true, true_or, or_false, false_or, if_true, if_false, lit_0, lit_1, lit_2, lit_3, lit_4, lit_5, lit_6, lit_8, lit_9, lit_10, lit_12, lit_13, lit_21, lit_29, lit_30, lit_31, lit_37, lit_101, lit_120, lit_121, lit_127, lit_169, lit_64, lit_99, lit_999, lit_676, lit_845, lit_48, lit_57, lit_32, lit_59]) (by simp (disch := omega) only [Nat.add_zero, Nat.zero_add, Nat.zero_mul, Nat.mul_zero, mc8, mc3, nU_f, nU_k, nU_e, xbd_some, xgd_true, xlet_eq, g_in, nI_clamp, nI_leI, nI_ltI, nI_eq, nI_add, pk_mul, pk_sub, rd_e, rd_k, rd_c, i10, i01, xsm_l, xsm_r, if_pos, if_neg, l_neg1, oI_e0, nI_e0, oI_nI, ne_eq, not_true_eq_false, not_false_eq_true, and_true, true_and, and_false, false_and, or_true, true_or, or_false, false_or, if_true, if_false, lit_0, lit_1, lit_2, lit_3, lit_4, lit_5, lit_6, lit_8, lit_9, lit_10, lit_12, lit_13, lit_21, lit_29, lit_30, lit_31, lit_37, lit_101, lit_120, lit_121, lit_127, lit_169, lit_64, lit_99, lit_999, lit_676, lit_845, lit_48, lit_57, lit_32, lit_59]) (s_C_7 d2))
  · refine fr_up (fun c a b e => ?_) (by omega) _ _
    rw [d3 c a, b3 c a b e, a3 c a]
def sp_ticks (n : Int32) (N : xN) : Int32 × xN := if 1 ≤ n ∧ n ≤ 30 then (nI (a_ticks N n.toNatClampNeg 0 4 - N 0 4), a_ticks N n.toNatClampNeg) else (-2, N)
theorem c_ticks (n : Int32) {σ : xM} {N : xN} (hw : s_wf N) (hC : s_C σ 1 N) : ∃ σ', F_X0_passTicks n σ = some ((sp_ticks n N).1, σ') ∧ s_C σ' 1 (sp_ticks n N).2 ∧ s_fr σ σ' := by
  unfold F_X0_passTicks sp_ticks
  by_cases h : 1 ≤ n ∧ n ≤ 30
  case neg =>
    rw [xbd_s (wi_f h σ), if_pos rfl, if_neg h]
    exact ⟨σ, rfl, hC, fr_rf σ⟩
  rw [xbd_s (wi_t h σ), if_neg one0, if_pos h]
  obtain ⟨m, hm1, hm, rfl⟩ := (rg1_of (n := 30) rfl (by omega)).mp h
  have hL : ∃ σ', L_X0_passTicks_13 (nI m) (σ 1 4) 0 σ = some σ' ∧ s_C σ' 1 (a_ticks N m) ∧ s_fr σ σ' := by
    unfold L_X0_passTicks_13
    refine xloop_for (f := fun x : Int32 × xM => B_X0_passTicks_13 (nI m) (σ 1 4) x.1 x.2) (fun k x => x.1 = nI k ∧ s_C x.2 1 (a_ticks N k) ∧ s_fr σ x.2) (fun τ => s_C τ 1 (a_ticks N m) ∧ s_fr σ τ) m ?_ ?_ 6000 0 (0, σ) (by omega) (by omega) ⟨rfl, hC, fr_rf σ⟩
    · intro k ⟨v, τ⟩ hk ⟨h1, h2, h3⟩
      dsimp only at h1 h2 h3 ⊢
      subst h1
      left
      obtain ⟨τ1, τ2, τ3, a1, a2, a3, a4, a5⟩ := c_tick1 (wf_ticks hw k) h2
      unfold B_X0_passTicks_13
      simp (disch := omega) only [Nat.add_zero, Nat.zero_add, Nat.zero_mul, Nat.mul_zero, mc8, mc3, nU_f, nU_k, nU_e, xbd_some, xgd_true, xlet_eq, g_in, nI_clamp, nI_leI, nI_ltI, nI_eq, nI_add, pk_mul, pk_sub, rd_e, rd_k, rd_c, i10, i01, xsm_l, xsm_r, if_pos, if_neg, l_neg1, oI_e0, nI_e0, oI_nI, ne_eq, not_true_eq_false, not_false_eq_true, and_true, true_and, and_false, false_and, or_true, true_or, or_false, false_or, if_true, if_false, lit_0, lit_1, lit_2, lit_3, lit_4, lit_5, lit_6, lit_8, lit_9, lit_10, lit_12, lit_13, lit_21, lit_29, lit_30, lit_31, lit_37, lit_101, lit_120, lit_121, lit_127, lit_169, lit_64, lit_99, lit_999, lit_676, lit_845, lit_48, lit_57, lit_32, lit_59, a1, a2, a3]
      exact ⟨_, rfl, rfl, a4, fr_tr h3 a5⟩
    · intro ⟨v, τ⟩ ⟨h1, h2, h3⟩
      dsimp only at h1 h2 h3 ⊢
      subst h1
      unfold B_X0_passTicks_13
      simp (disch := omega) only [Nat.add_zero, Nat.zero_add, Nat.zero_mul, Nat.mul_zero, mc8, mc3, nU_f, nU_k, nU_e, xbd_some, xgd_true, xlet_eq, g_in, nI_clamp, nI_leI, nI_ltI, nI_eq, nI_add, pk_mul, pk_sub, rd_e, rd_k, rd_c, i10, i01, xsm_l, xsm_r, if_pos, if_neg, l_neg1, oI_e0, nI_e0, oI_nI, ne_eq, not_true_eq_false, not_false_eq_true, and_true, true_and, and_false, false_and, or_true, true_or, or_false, false_or, if_true, if_false, lit_0, lit_1, lit_2, lit_3, lit_4, lit_5, lit_6, lit_8, lit_9, lit_10, lit_12, lit_13, lit_21, lit_29, lit_30, lit_31, lit_37, lit_101, lit_120, lit_121, lit_127, lit_169, lit_64, lit_99, lit_999, lit_676, lit_845, lit_48, lit_57, lit_32, lit_59]
      exact ⟨_, rfl, h2, h3⟩
  obtain ⟨τ, g1, g2, g3⟩ := hL
  rw [xbd_s g1]
  have e1 : τ 1 4 = nI (a_ticks N m 0 4) := (s_C_0 g2).1.2.2.2.2.2.1
  have e2 : σ 1 4 = nI (N 0 4) := (s_C_0 hC).1.2.2.2.2.2.1
  have he := ticks_e (N := N) m
  refine ⟨τ, ?_, ?_, g3⟩
  · simp (disch := omega) only [Nat.add_zero, Nat.zero_add, Nat.zero_mul, Nat.mul_zero, mc8, mc3, nU_f, nU_k, nU_e, xbd_some, xgd_true, xlet_eq, g_in, nI_clamp, nI_leI, nI_ltI, nI_eq, nI_add, pk_mul, pk_sub, rd_e, rd_k, rd_c, i10, i01, xsm_l, xsm_r, if_pos, if_neg, l_neg1, oI_e0, nI_e0, oI_nI, ne_eq, not_true_eq_false, not_false_eq_true, and_true, true_and, and_false, false_and, or_true, true_or, or_false, false_or, if_true, if_false, lit_0, lit_1, lit_2, lit_3, lit_4, lit_5, lit_6, lit_8, lit_9, lit_10, lit_12, lit_13, lit_21, lit_29, lit_30, lit_31, lit_37, lit_101, lit_120, lit_121, lit_127, lit_169, lit_64, lit_99, lit_999, lit_676, lit_845, lit_48, lit_57, lit_32, lit_59, e1, e2]
  · simp (disch := omega) only [Nat.add_zero, Nat.zero_add, Nat.zero_mul, Nat.mul_zero, mc8, mc3, nU_f, nU_k, nU_e, xbd_some, xgd_true, xlet_eq, g_in, nI_clamp, nI_leI, nI_ltI, nI_eq, nI_add, pk_mul, pk_sub, rd_e, rd_k, rd_c, i10, i01, xsm_l, xsm_r, if_pos, if_neg, l_neg1, oI_e0, nI_e0, oI_nI, ne_eq, not_true_eq_false, not_false_eq_true, and_true, true_and, and_false, false_and, or_true, true_or, or_false, false_or, if_true, if_false, lit_0, lit_1, lit_2, lit_3, lit_4, lit_5, lit_6, lit_8, lit_9, lit_10, lit_12, lit_13, lit_21, lit_29, lit_30, lit_31, lit_37, lit_101, lit_120, lit_121, lit_127, lit_169, lit_64, lit_99, lit_999, lit_676, lit_845, lit_48, lit_57, lit_32, lit_59]
    exact g2
