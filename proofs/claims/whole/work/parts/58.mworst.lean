theorem m_areOn {σ : xM} {N : xN} {v : Nat} (hw : s_wf N) (h : s_M (σ 142) N) (hv : v < 32) : F_X11_areOn (nI v) σ = some (nI (if (∀ s, s < N 0 1 → v.testBit s = true → N 9 s ≠ 2) then 1 else 0)) := by
  have hS := hw.1.2.1
  have r1 := h.1 1 (by omega)
  have hL : L_X11_areOn_4 (nI v) (nI 1) (nI 0) σ = some (nI (if (∀ s, s < N 0 1 → v.testBit s = true → N 9 s ≠ 2) then 1 else 0)) := by
    unfold L_X11_areOn_4
    refine xfor (f := fun x : Int32 × Int32 => B_X11_areOn_4 (nI v) x.1 x.2 σ) (fun k => (nI (if (∀ s, s < k → v.testBit s = true → N 9 s ≠ 2) then 1 else 0), nI k)) (N 0 1) _ (fun k hk => ?_) ?_ 6000 0 (by omega) (by omega)
    · have st := M_state hS h hk
      have b9 := (hw.2.2.2.2.1 k hk).2.2.2
      have bv := bitv (u := v) (k := k) (by omega) (by omega)
      dsimp only
      unfold B_X11_areOn_4
      by_cases c : ∀ s, s < k → v.testBit s = true → N 9 s ≠ 2
      · rw [if_pos c]
        by_cases e2 : v.testBit k = true
        · rw [if_pos e2] at bv
          by_cases e3 : N 9 k = 2
          · rw [if_neg (show ¬ ∀ s, s < k + 1 → v.testBit s = true → N 9 s ≠ 2 from fun z => z k (by omega) e2 e3)]
            simp (disch := omega) only [Nat.add_zero, Nat.zero_add, Nat.zero_mul, Nat.mul_zero, mc8, mc3, nU_f, nU_k, nU_e, xbd_some, xgd_true, xlet_eq, g_in, nI_clamp, nI_leI, nI_ltI, nI_eq, nI_add, pk_mul, pk_sub, rd_e, rd_k, rd_c, i10, i01, xsm_l, xsm_r, if_pos, if_neg, l_neg1, oI_e0, nI_e0, oI_nI, ne_eq, not_true_eq_false, not_false_eq_true, and_true, true_and, and_false, false_and, or_true, true_or, or_false, false_or, if_true, if_false, lit_0, lit_1, lit_2, lit_3, lit_4, lit_5, lit_6, lit_8, lit_9, lit_10, lit_12, lit_13, lit_21, lit_29, lit_30, lit_31, lit_37, lit_101, lit_120, lit_121, lit_127, lit_169, lit_64, lit_99, lit_999, lit_676, lit_845, lit_48, lit_57, lit_32, lit_59, r1, bv, st]
          · rw [if_pos (show ∀ s, s < k + 1 → v.testBit s = true → N 9 s ≠ 2 from fun s hs hb => by
              by_cases e : s = k
              · rw [e]; exact e3
              · exact c s (by omega) hb)]
            simp (disch := omega) only [Nat.add_zero, Nat.zero_add, Nat.zero_mul, Nat.mul_zero, mc8, mc3, nU_f, nU_k, nU_e, xbd_some, xgd_true, xlet_eq, g_in, nI_clamp, nI_leI, nI_ltI, nI_eq, nI_add, pk_mul, pk_sub, rd_e, rd_k, rd_c, i10, i01, xsm_l, xsm_r, if_pos, if_neg, l_neg1, oI_e0, nI_e0, oI_nI, ne_eq, not_true_eq_false, not_false_eq_true, and_true, true_and, and_false, false_and, or_true, true_or, or_false, false_or, if_true, if_false, lit_0, lit_1, lit_2, lit_3, lit_4, lit_5, lit_6, lit_8, lit_9, lit_10, lit_12, lit_13, lit_21, lit_29, lit_30, lit_31, lit_37, lit_101, lit_120, lit_121, lit_127, lit_169, lit_64, lit_99, lit_999, lit_676, lit_845, lit_48, lit_57, lit_32, lit_59, r1, bv, st]
        · rw [if_neg e2] at bv
          rw [if_pos (show ∀ s, s < k + 1 → v.testBit s = true → N 9 s ≠ 2 from fun s hs hb => by
            by_cases e : s = k
            · rw [e] at hb; exact absurd hb e2
            · exact c s (by omega) hb)]
          simp (disch := omega) only [Nat.add_zero, Nat.zero_add, Nat.zero_mul, Nat.mul_zero, mc8, mc3, nU_f, nU_k, nU_e, xbd_some, xgd_true, xlet_eq, g_in, nI_clamp, nI_leI, nI_ltI, nI_eq, nI_add, pk_mul, pk_sub, rd_e, rd_k, rd_c, i10, i01, xsm_l, xsm_r, if_pos, if_neg, l_neg1, oI_e0, nI_e0, oI_nI, ne_eq, not_true_eq_false, not_false_eq_true, and_true, true_and, and_false, false_and, or_true, true_or, or_false, false_or, if_true, if_false, lit_0, lit_1, lit_2, lit_3, lit_4, lit_5, lit_6, lit_8, lit_9, lit_10, lit_12, lit_13, lit_21, lit_29, lit_30, lit_31, lit_37, lit_101, lit_120, lit_121, lit_127, lit_169, lit_64, lit_99, lit_999, lit_676, lit_845, lit_48, lit_57, lit_32, lit_59, r1, bv]
      · rw [if_neg c, if_neg (show ¬ ∀ s, s < k + 1 → v.testBit s = true → N 9 s ≠ 2 from fun z => c (fun s hs => z s (by omega)))]
        simp (disch := omega) only [Nat.add_zero, Nat.zero_add, Nat.zero_mul, Nat.mul_zero, mc8, mc3, nU_f, nU_k, nU_e, xbd_some, xgd_true, xlet_eq, g_in, nI_clamp, nI_leI, nI_ltI, nI_eq, nI_add, pk_mul, pk_sub, rd_e, rd_k, rd_c, i10, i01, xsm_l, xsm_r, if_pos, if_neg, l_neg1, oI_e0, nI_e0, oI_nI, ne_eq, not_true_eq_false, not_false_eq_true, and_true, true_and, and_false, false_and, or_true, true_or, or_false, false_or, if_true, if_false, lit_0, lit_1, lit_2, lit_3, lit_4, lit_5, lit_6, lit_8, lit_9, lit_10, lit_12, lit_13, lit_21, lit_29, lit_30, lit_31, lit_37, lit_101, lit_120, lit_121, lit_127, lit_169, lit_64, lit_99, lit_999, lit_676, lit_845, lit_48, lit_57, lit_32, lit_59, r1]
    · dsimp only
      unfold B_X11_areOn_4
      simp (disch := omega) only [Nat.add_zero, Nat.zero_add, Nat.zero_mul, Nat.mul_zero, mc8, mc3, nU_f, nU_k, nU_e, xbd_some, xgd_true, xlet_eq, g_in, nI_clamp, nI_leI, nI_ltI, nI_eq, nI_add, pk_mul, pk_sub, rd_e, rd_k, rd_c, i10, i01, xsm_l, xsm_r, if_pos, if_neg, l_neg1, oI_e0, nI_e0, oI_nI, ne_eq, not_true_eq_false, not_false_eq_true, and_true, true_and, and_false, false_and, or_true, true_or, or_false, false_or, if_true, if_false, lit_0, lit_1, lit_2, lit_3, lit_4, lit_5, lit_6, lit_8, lit_9, lit_10, lit_12, lit_13, lit_21, lit_29, lit_30, lit_31, lit_37, lit_101, lit_120, lit_121, lit_127, lit_169, lit_64, lit_99, lit_999, lit_676, lit_845, lit_48, lit_57, lit_32, lit_59, r1]
  have z : xzok true (nI (if (∀ s, s < N 0 1 → v.testBit s = true → N 9 s ≠ 2) then 1 else 0)) = true := by
    split <;> decide
  unfold F_X11_areOn
  simp (disch := omega) only [Nat.add_zero, Nat.zero_add, Nat.zero_mul, Nat.mul_zero, mc8, mc3, nU_f, nU_k, nU_e, xbd_some, xgd_true, xlet_eq, g_in, nI_clamp, nI_leI, nI_ltI, nI_eq, nI_add, pk_mul, pk_sub, rd_e, rd_k, rd_c, i10, i01, xsm_l, xsm_r, if_pos, if_neg, l_neg1, oI_e0, nI_e0, oI_nI, ne_eq, not_true_eq_false, not_false_eq_true, and_true, true_and, and_false, false_and, or_true, true_or, or_false, false_or, if_true, if_false, lit_0, lit_1, lit_2, lit_3, lit_4, lit_5, lit_6, lit_8, lit_9, lit_10, lit_12, lit_13, lit_21, lit_29, lit_30, lit_31, lit_37, lit_101, lit_120, lit_121, lit_127, lit_169, lit_64, lit_99, lit_999, lit_676, lit_845, lit_48, lit_57, lit_32, lit_59, hL, z]
theorem dif_up {N : xN} {v : Nat} (hS : N 0 1 ≤ 5) (hv : v < 2 ^ N 0 1) : dif v (s_up N) = 0 ↔ ∀ s, s < N 0 1 → v.testBit s = true → N 9 s ≠ 2 := by
  have hu := s_up_lt5 hS
  have hv32 : v < 32 := Nat.lt_of_lt_of_le hv (Nat.pow_le_pow_right (by omega) hS)
  constructor
  · intro h s hs hb e
    have := dif_bit (u := v) (g := s_up N) (k := s) hu (by omega)
    rw [h, Nat.zero_testBit, hb, s_up_bit hs, e] at this
    simp at this
  · intro h
    apply Nat.eq_of_testBit_eq
    intro i
    rw [Nat.zero_testBit]
    by_cases hi : i < N 0 1
    · rw [dif_bit hu (by omega), s_up_bit hi]
      by_cases hb : v.testBit i = true
      · have := h i hi hb
        simp [this]
      · simp [hb]
    · have hz : v.testBit i = false := Nat.testBit_lt_two_pow (Nat.lt_of_lt_of_le hv (Nat.pow_le_pow_right (by omega) (by omega)))
      unfold dif
      rw [Nat.testBit_and, hz]
      rfl
theorem m_worst {σ : xM} {N : xN} {n : Nat} (hw : s_wf N) (h : s_M (σ 142) N) (hn : 1 ≤ n ∧ n ≤ 2) (b : Int32) : ∃ τ, F_X11_worstNow (nI n) b σ = some ((if b = 0 then oI (w_st N n (s_up N + 1)).1 else oI (w_st N n (s_up N + 1)).2), τ) ∧ s_M (τ 142) N ∧ m_fr σ τ := by
  have hS := hw.1.2.1
  have hu := s_up_lt5 hS
  obtain ⟨τ1, a1, a2, a3, a4⟩ := m_lays hw h
  have p32 : 2 ^ N 0 1 ≤ 32 := Nat.pow_le_pow_right (n := 2) (j := 5) (by omega) hS
  have upl : s_up N < 2 ^ N 0 1 := xmk_lt _ _
  have w0 : w_st N n 1 = (0, 0) := by
    have : w_ok N n 0 = false := by
      unfold w_ok
      have : pop 0 = 0 := by decide
      rw [this]
      simp
      omega
    conv => lhs; unfold w_st
    rw [if_neg (by rw [this]; simp)]
    rfl
  have hend : w_st N n (2 ^ N 0 1) = w_st N n (s_up N + 1) := w_st_c _ (by omega) (fun v a c => dif_big (by omega) (by omega) hu)
  have sh : nI 1 <<< (nI (N 0 1) &&& nI 31) = nI (2 ^ N 0 1) := shl1 (by omega)
  have hL : ∃ e, L_X11_worstNow_8 (nI n) b (oI 0) (oI 0) (nI 1) τ1 = some e ∧ e.1 = oI (w_st N n (2 ^ N 0 1)).1 ∧ e.2.1 = oI (w_st N n (2 ^ N 0 1)).2 ∧ e.2.2 142 = τ1 142 ∧ ∀ c, c ≠ 142 → c ≠ 147 → c ≠ 152 → e.2.2 c = τ1 c := by
    unfold L_X11_worstNow_8
    refine xloop_for (f := fun x : Int32 × Int32 × Int32 × xM => B_X11_worstNow_8 (nI n) b x.1 x.2.1 x.2.2.1 x.2.2.2) (fun k x => 1 ≤ k ∧ x.1 = oI (w_st N n k).1 ∧ x.2.1 = oI (w_st N n k).2 ∧ x.2.2.1 = nI k ∧ x.2.2.2 142 = τ1 142 ∧ ∀ c, c ≠ 142 → c ≠ 147 → c ≠ 152 → x.2.2.2 c = τ1 c) (fun e => e.1 = oI (w_st N n (2 ^ N 0 1)).1 ∧ e.2.1 = oI (w_st N n (2 ^ N 0 1)).2 ∧ e.2.2 142 = τ1 142 ∧ ∀ c, c ≠ 142 → c ≠ 147 → c ≠ 152 → e.2.2 c = τ1 c) (2 ^ N 0 1) ?_ ?_ 6000 1 (oI 0, oI 0, nI 1, τ1) (by omega) (by omega) ⟨by omega, by rw [w0], by rw [w0], rfl, rfl, fun _ _ _ _ => rfl⟩
    · intro k ⟨v3, v4, v5, τ⟩ hk ⟨h0, h1, h2, h3, h4, h5⟩
      dsimp only at h0 h1 h2 h3 h4 h5 ⊢
      subst h1 h2 h3
      left
      have hM : s_M (τ 142) N := by rw [h4]; exact a4
      have r1 := hM.1 1 (by omega)
      have sz := m_size (v := k) (by omega) τ
      have ao := m_areOn (v := k) hw hM (by omega)
      have hMw : s_Mw τ N := Mw_cg rfl rfl (h5 146 (by omega) (by omega) (by omega)) a3.2.2.2
      have hp : pop k ≤ 5 := xct_le _ 5
      have wl := w_st_le (N := N) (n := n) hw k
      have e : w_st N n (k + 1) = if w_ok N n k = true ∧ (w_st N n k).1 < x_ex N k + 1 then (x_ex N k + 1, k + 1) else w_st N n k := rfl
      have du := dif_up hS hk
      unfold B_X11_worstNow_8
      by_cases c2 : pop k = n
      case neg =>
        rw [if_neg (by unfold w_ok; simp [c2])] at e
        rw [e]
        simp (disch := omega) only [Nat.add_zero, Nat.zero_add, Nat.zero_mul, Nat.mul_zero, mc8, mc3, nU_f, nU_k, nU_e, xbd_some, xgd_true, xlet_eq, g_in, nI_clamp, nI_leI, nI_ltI, nI_eq, nI_add, pk_mul, pk_sub, rd_e, rd_k, rd_c, i10, i01, xsm_l, xsm_r, if_pos, if_neg, l_neg1, oI_e0, nI_e0, oI_nI, ne_eq, not_true_eq_false, not_false_eq_true, and_true, true_and, and_false, false_and, or_true, true_or, or_false, false_or, if_true, if_false, lit_0, lit_1, lit_2, lit_3, lit_4, lit_5, lit_6, lit_8, lit_9, lit_10, lit_12, lit_13, lit_21, lit_29, lit_30, lit_31, lit_37, lit_101, lit_120, lit_121, lit_127, lit_169, lit_64, lit_99, lit_999, lit_676, lit_845, lit_48, lit_57, lit_32, lit_59, r1, sh, sz]
        exact ⟨_, rfl, by omega, rfl, rfl, rfl, h4, h5⟩
      by_cases c1 : dif k (s_up N) = 0
      case neg =>
        rw [if_neg (by unfold w_ok; simp [c1])] at e
        rw [e]
        rw [if_neg (fun z => c1 (du.mpr z))] at ao
        simp (disch := omega) only [Nat.add_zero, Nat.zero_add, Nat.zero_mul, Nat.mul_zero, mc8, mc3, nU_f, nU_k, nU_e, xbd_some, xgd_true, xlet_eq, g_in, nI_clamp, nI_leI, nI_ltI, nI_eq, nI_add, pk_mul, pk_sub, rd_e, rd_k, rd_c, i10, i01, xsm_l, xsm_r, if_pos, if_neg, l_neg1, oI_e0, nI_e0, oI_nI, ne_eq, not_true_eq_false, not_false_eq_true, and_true, true_and, and_false, false_and, or_true, true_or, or_false, false_or, if_true, if_false, lit_0, lit_1, lit_2, lit_3, lit_4, lit_5, lit_6, lit_8, lit_9, lit_10, lit_12, lit_13, lit_21, lit_29, lit_30, lit_31, lit_37, lit_101, lit_120, lit_121, lit_127, lit_169, lit_64, lit_99, lit_999, lit_676, lit_845, lit_48, lit_57, lit_32, lit_59, r1, sh, sz, ao]
        exact ⟨_, rfl, by omega, rfl, rfl, rfl, h4, h5⟩
      have hok : w_ok N n k = true := by unfold w_ok; simp [c1, c2]
      rw [if_pos (du.mp c1)] at ao
      obtain ⟨υ, x1, x2, x3⟩ := m_excess (v := k) hw hM hMw (by omega)
      have xl := x_sum_le (u := dif (s_up N) k) hw (N 0 1)
      have xl' : x_ex N k ≤ 5000 := by unfold x_ex; omega
      have e4 : υ 142 = τ1 142 := x2.trans h4
      have e5 : ∀ c, c ≠ 142 → c ≠ 147 → c ≠ 152 → υ c = τ1 c := fun c a b d => (x3 c a b d).trans (h5 c a b d)
      by_cases c3 : (w_st N n k).1 < x_ex N k + 1
      · rw [if_pos ⟨hok, c3⟩] at e
        rw [e]
        simp (disch := omega) only [Nat.add_zero, Nat.zero_add, Nat.zero_mul, Nat.mul_zero, mc8, mc3, nU_f, nU_k, nU_e, xbd_some, xgd_true, xlet_eq, g_in, nI_clamp, nI_leI, nI_ltI, nI_eq, nI_add, pk_mul, pk_sub, rd_e, rd_k, rd_c, i10, i01, xsm_l, xsm_r, if_pos, if_neg, l_neg1, oI_e0, nI_e0, oI_nI, ne_eq, not_true_eq_false, not_false_eq_true, and_true, true_and, and_false, false_and, or_true, true_or, or_false, false_or, if_true, if_false, lit_0, lit_1, lit_2, lit_3, lit_4, lit_5, lit_6, lit_8, lit_9, lit_10, lit_12, lit_13, lit_21, lit_29, lit_30, lit_31, lit_37, lit_101, lit_120, lit_121, lit_127, lit_169, lit_64, lit_99, lit_999, lit_676, lit_845, lit_48, lit_57, lit_32, lit_59, r1, sh, sz, ao, x1, oI_le]
        exact ⟨_, rfl, by omega, rfl, rfl, rfl, e4, e5⟩
      · rw [if_neg (fun z => c3 z.2)] at e
        rw [e]
        simp (disch := omega) only [Nat.add_zero, Nat.zero_add, Nat.zero_mul, Nat.mul_zero, mc8, mc3, nU_f, nU_k, nU_e, xbd_some, xgd_true, xlet_eq, g_in, nI_clamp, nI_leI, nI_ltI, nI_eq, nI_add, pk_mul, pk_sub, rd_e, rd_k, rd_c, i10, i01, xsm_l, xsm_r, if_pos, if_neg, l_neg1, oI_e0, nI_e0, oI_nI, ne_eq, not_true_eq_false, not_false_eq_true, and_true, true_and, and_false, false_and, or_true, true_or, or_false, false_or, if_true, if_false, lit_0, lit_1, lit_2, lit_3, lit_4, lit_5, lit_6, lit_8, lit_9, lit_10, lit_12, lit_13, lit_21, lit_29, lit_30, lit_31, lit_37, lit_101, lit_120, lit_121, lit_127, lit_169, lit_64, lit_99, lit_999, lit_676, lit_845, lit_48, lit_57, lit_32, lit_59, r1, sh, sz, ao, x1, oI_le]
        exact ⟨_, rfl, by omega, rfl, rfl, rfl, e4, e5⟩
    · intro ⟨v3, v4, v5, τ⟩ ⟨h0, h1, h2, h3, h4, h5⟩
      dsimp only at h0 h1 h2 h3 h4 h5 ⊢
      subst h3
      have r1 : τ 142 1 = nI (N 0 1) := by rw [h4]; exact a4.1 1 (by omega)
      unfold B_X11_worstNow_8
      simp (disch := omega) only [Nat.add_zero, Nat.zero_add, Nat.zero_mul, Nat.mul_zero, mc8, mc3, nU_f, nU_k, nU_e, xbd_some, xgd_true, xlet_eq, g_in, nI_clamp, nI_leI, nI_ltI, nI_eq, nI_add, pk_mul, pk_sub, rd_e, rd_k, rd_c, i10, i01, xsm_l, xsm_r, if_pos, if_neg, l_neg1, oI_e0, nI_e0, oI_nI, ne_eq, not_true_eq_false, not_false_eq_true, and_true, true_and, and_false, false_and, or_true, true_or, or_false, false_or, if_true, if_false, lit_0, lit_1, lit_2, lit_3, lit_4, lit_5, lit_6, lit_8, lit_9, lit_10, lit_12, lit_13, lit_21, lit_29, lit_30, lit_31, lit_37, lit_101, lit_120, lit_121, lit_127, lit_169, lit_64, lit_99, lit_999, lit_676, lit_845, lit_48, lit_57, lit_32, lit_59, r1, sh]
      exact ⟨_, rfl, h1, h2, h4, h5⟩
  obtain ⟨⟨r, r', τ⟩, g1, g2, g3, g4, g5⟩ := hL
  dsimp only at g2 g3 g4 g5
  rw [hend] at g2 g3
  refine ⟨τ, ?_, by rw [g4]; exact a4, fun c hc => by rw [g5 c (by omega) (by omega) (by omega), a2 c (by omega)]⟩
  have g1' : L_X11_worstNow_8 (nI n) b (-1) (-1) 1 τ1 = some (r, r', τ) := g1
  unfold F_X11_worstNow
  rw [xbd_s a1, xbd_s g1']
  by_cases hb : b = 0
  · rw [if_pos hb, if_pos hb, g2]
  · rw [if_neg hb, if_neg hb, g3]
theorem w_st_x {N : xN} {n : Nat} : ∀ k, ((w_st N n k).2 = 0 ∧ (w_st N n k).1 = 0) ∨ ((w_st N n k).2 ≠ 0 ∧ (w_st N n k).1 = x_ex N ((w_st N n k).2 - 1) + 1)
  | 0 => Or.inl ⟨rfl, rfl⟩
  | k + 1 => by
    have ih := w_st_x (N := N) (n := n) k
    unfold w_st
    split
    · right
      dsimp only
      exact ⟨by omega, by rw [Nat.add_sub_cancel]⟩
    · exact ih
