def er (r : Int32) : Int32 := if r < 0 then r else 0
theorem er_n {k : Nat} (h : k < 2 ^ 31) : er (nI k) = 0 := by unfold er; rw [if_neg (nI_pos h)]
theorem no2 : ¬ (0 : Int32) ≤ -2 := by decide
theorem no3 : ¬ (0 : Int32) ≤ -3 := by decide
theorem no4 : ¬ (0 : Int32) ≤ -4 := by decide
theorem bd_u {N : xN} {f k v : Nat} (b : s_bd N) (h : f ≠ 0) : s_bd (nU N f k v) := by
  unfold s_bd
  rw [nU_f (fun e => h e.symm)]
  exact b
theorem er_2 : er (-2) = -2 := rfl
theorem er_3 : er (-3) = -3 := rfl
theorem er_4 : er (-4) = -4 := rfl
theorem iA_t {a : Int32} {n : Nat} {σ : xM} (c : σ 142 0 = nI n) (h : 0 ≤ a ∧ a ≤ nI n - 1) : F_X11_isArea a σ = some 1 := by rw [m_isArea, c, if_pos h]
theorem iA_f {a : Int32} {n : Nat} {σ : xM} (c : σ 142 0 = nI n) (h : ¬ (0 ≤ a ∧ a ≤ nI n - 1)) : F_X11_isArea a σ = some 0 := by rw [m_isArea, c, if_neg h]
theorem iS_t {a : Int32} {n : Nat} {σ : xM} (c : σ 142 1 = nI n) (h : 0 ≤ a ∧ a ≤ nI n - 1) : F_X11_isSite a σ = some 1 := by rw [m_isSite, c, if_pos h]
theorem iS_f {a : Int32} {n : Nat} {σ : xM} (c : σ 142 1 = nI n) (h : ¬ (0 ≤ a ∧ a ≤ nI n - 1)) : F_X11_isSite a σ = some 0 := by rw [m_isSite, c, if_neg h]
theorem it_0_99 {a : Int32} (h : (0) ≤ a ∧ a ≤ (99)) (σ : xM) : F_X11_in (a.toInt64) (0) (99) σ = some 1 := by rw [m_in_0_99, if_pos h]
theorem if_0_99 {a : Int32} (h : ¬ ((0) ≤ a ∧ a ≤ (99))) (σ : xM) : F_X11_in (a.toInt64) (0) (99) σ = some 0 := by rw [m_in_0_99, if_neg h]
theorem it_0_2 {a : Int32} (h : (0) ≤ a ∧ a ≤ (2)) (σ : xM) : F_X11_in (a.toInt64) (0) (2) σ = some 1 := by rw [m_in_0_2, if_pos h]
theorem if_0_2 {a : Int32} (h : ¬ ((0) ≤ a ∧ a ≤ (2))) (σ : xM) : F_X11_in (a.toInt64) (0) (2) σ = some 0 := by rw [m_in_0_2, if_neg h]
theorem it_0_9 {a : Int32} (h : (0) ≤ a ∧ a ≤ (9)) (σ : xM) : F_X11_in (a.toInt64) (0) (9) σ = some 1 := by rw [m_in_0_9, if_pos h]
theorem if_0_9 {a : Int32} (h : ¬ ((0) ≤ a ∧ a ≤ (9))) (σ : xM) : F_X11_in (a.toInt64) (0) (9) σ = some 0 := by rw [m_in_0_9, if_neg h]
theorem it_0_999 {a : Int32} (h : (0) ≤ a ∧ a ≤ (999)) (σ : xM) : F_X11_in (a.toInt64) (0) (999) σ = some 1 := by rw [m_in_0_999, if_pos h]
theorem if_0_999 {a : Int32} (h : ¬ ((0) ≤ a ∧ a ≤ (999))) (σ : xM) : F_X11_in (a.toInt64) (0) (999) σ = some 0 := by rw [m_in_0_999, if_neg h]
theorem it_0_4 {a : Int32} (h : (0) ≤ a ∧ a ≤ (4)) (σ : xM) : F_X11_in (a.toInt64) (0) (4) σ = some 1 := by rw [m_in_0_4, if_pos h]
theorem if_0_4 {a : Int32} (h : ¬ ((0) ≤ a ∧ a ≤ (4))) (σ : xM) : F_X11_in (a.toInt64) (0) (4) σ = some 0 := by rw [m_in_0_4, if_neg h]
theorem it_0_5 {a : Int32} (h : (0) ≤ a ∧ a ≤ (5)) (σ : xM) : F_X11_in (a.toInt64) (0) (5) σ = some 1 := by rw [m_in_0_5, if_pos h]
theorem if_0_5 {a : Int32} (h : ¬ ((0) ≤ a ∧ a ≤ (5))) (σ : xM) : F_X11_in (a.toInt64) (0) (5) σ = some 0 := by rw [m_in_0_5, if_neg h]
theorem it_1_9 {a : Int32} (h : (1) ≤ a ∧ a ≤ (9)) (σ : xM) : F_X11_in (a.toInt64) (1) (9) σ = some 1 := by rw [m_in_1_9, if_pos h]
theorem if_1_9 {a : Int32} (h : ¬ ((1) ≤ a ∧ a ≤ (9))) (σ : xM) : F_X11_in (a.toInt64) (1) (9) σ = some 0 := by rw [m_in_1_9, if_neg h]
theorem it_1_30 {a : Int32} (h : (1) ≤ a ∧ a ≤ (30)) (σ : xM) : F_X11_in (a.toInt64) (1) (30) σ = some 1 := by rw [m_in_1_30, if_pos h]
theorem if_1_30 {a : Int32} (h : ¬ ((1) ≤ a ∧ a ≤ (30))) (σ : xM) : F_X11_in (a.toInt64) (1) (30) σ = some 0 := by rw [m_in_1_30, if_neg h]
theorem it_0_12 {a : Int32} (h : (0) ≤ a ∧ a ≤ (12)) (σ : xM) : F_X11_in (a.toInt64) (0) (12) σ = some 1 := by rw [m_in_0_12, if_pos h]
theorem if_0_12 {a : Int32} (h : ¬ ((0) ≤ a ∧ a ≤ (12))) (σ : xM) : F_X11_in (a.toInt64) (0) (12) σ = some 0 := by rw [m_in_0_12, if_neg h]
theorem it_0_127 {a : Int32} (h : (0) ≤ a ∧ a ≤ (127)) (σ : xM) : F_X11_in (a.toInt64) (0) (127) σ = some 1 := by rw [m_in_0_127, if_pos h]
theorem if_0_127 {a : Int32} (h : ¬ ((0) ≤ a ∧ a ≤ (127))) (σ : xM) : F_X11_in (a.toInt64) (0) (127) σ = some 0 := by rw [m_in_0_127, if_neg h]
theorem it_48_57 {a : Int32} (h : (48) ≤ a ∧ a ≤ (57)) (σ : xM) : F_X11_in (a.toInt64) (48) (57) σ = some 1 := by rw [m_in_48_57, if_pos h]
theorem if_48_57 {a : Int32} (h : ¬ ((48) ≤ a ∧ a ≤ (57))) (σ : xM) : F_X11_in (a.toInt64) (48) (57) σ = some 0 := by rw [m_in_48_57, if_neg h]
theorem it_1_2 {a : Int32} (h : (1) ≤ a ∧ a ≤ (2)) (σ : xM) : F_X11_in (a.toInt64) (1) (2) σ = some 1 := by rw [m_in_1_2, if_pos h]
theorem if_1_2 {a : Int32} (h : ¬ ((1) ≤ a ∧ a ≤ (2))) (σ : xM) : F_X11_in (a.toInt64) (1) (2) σ = some 0 := by rw [m_in_1_2, if_neg h]
theorem it_0_1 {a : Int32} (h : (0) ≤ a ∧ a ≤ (1)) (σ : xM) : F_X11_in (a.toInt64) (0) (1) σ = some 1 := by rw [m_in_0_1, if_pos h]
theorem if_0_1 {a : Int32} (h : ¬ ((0) ≤ a ∧ a ≤ (1))) (σ : xM) : F_X11_in (a.toInt64) (0) (1) σ = some 0 := by rw [m_in_0_1, if_neg h]
theorem m_canArea (w : Int32) {σ : xM} {N : xN} (hw : s_wf N) (h : s_M (σ 142) N) : F_X11_canArea w σ = some (er (sp_area w N).1) := by
  have hA := hw.1.1
  have r0 := h.1 0 (by omega)
  unfold F_X11_canArea sp_area
  by_cases h1 : 0 ≤ w ∧ w ≤ 99
  case neg => rw [xbd_s (if_0_99 h1 σ), if_pos rfl, if_neg h1]; rfl
  rw [xbd_s (it_0_99 h1 σ), if_neg one0, if_pos h1]
  by_cases h8 : N 0 0 < 8
  · rw [if_pos h8]
    dsimp only
    rw [er_n (by omega)]
    simp (disch := omega) only [Nat.add_zero, Nat.zero_add, Nat.zero_mul, Nat.mul_zero, mc8, mc3, nU_f, nU_k, nU_e, xbd_some, xgd_true, xlet_eq, g_in, nI_clamp, nI_leI, nI_ltI, nI_eq, nI_add, pk_mul, pk_sub, rd_e, rd_k, rd_c, i10, i01, xsm_l, xsm_r, if_pos, if_neg, l_neg1, oI_e0, nI_e0, oI_nI, ne_eq, not_true_eq_false, not_false_eq_true, and_true, true_and, and_false, false_and, or_true, true_or, or_false, false_or, if_true, if_false, lit_0, lit_1, lit_2, lit_3, lit_4, lit_5, lit_6, lit_8, lit_9, lit_10, lit_12, lit_13, lit_21, lit_29, lit_30, lit_31, lit_37, lit_101, lit_120, lit_121, lit_127, lit_169, lit_64, lit_99, lit_999, lit_676, lit_845, lit_48, lit_57, lit_32, lit_59, r0]
  · rw [if_neg h8]
    rw [r0, if_pos (show nI (N 0 0) = 8 from (nI_eq (a := N 0 0) (b := 8) (by omega) (by omega)).mpr (by omega))]
    rfl
theorem m_areaNow (w : Int32) {σ : xM} {N : xN} (hw : s_wf N) (h : s_M (σ 142) N) (ok : 0 ≤ (sp_area w N).1) : ∃ σ', F_X11_areaNow w σ = some ((sp_area w N).1, σ') ∧ s_M (σ' 142) (sp_area w N).2 ∧ m_fr σ σ' := by
  have b := hw.1
  have hA := hw.1.1
  have r0 := h.1 0 (by omega)
  unfold sp_area at ok ⊢
  by_cases h1 : 0 ≤ w ∧ w ≤ 99
  case neg => rw [if_neg h1] at ok; exact absurd ok (by first | exact no2 | exact no3 | exact no4)
  rw [if_pos h1] at ok ⊢
  by_cases h8 : N 0 0 < 8
  case neg => rw [if_neg h8] at ok; exact absurd ok (by first | exact no2 | exact no3 | exact no4)
  rw [if_pos h8]
  obtain ⟨k, hk, rfl⟩ := (rg_of (n := 99) rfl (by omega)).mp h1
  unfold F_X11_areaNow
  simp (disch := omega) only [Nat.add_zero, Nat.zero_add, Nat.zero_mul, Nat.mul_zero, mc8, mc3, nU_f, nU_k, nU_e, xbd_some, xgd_true, xlet_eq, g_in, nI_clamp, nI_leI, nI_ltI, nI_eq, nI_add, pk_mul, pk_sub, rd_e, rd_k, rd_c, i10, i01, xsm_l, xsm_r, if_pos, if_neg, l_neg1, oI_e0, nI_e0, oI_nI, ne_eq, not_true_eq_false, not_false_eq_true, and_true, true_and, and_false, false_and, or_true, true_or, or_false, false_or, if_true, if_false, lit_0, lit_1, lit_2, lit_3, lit_4, lit_5, lit_6, lit_8, lit_9, lit_10, lit_12, lit_13, lit_21, lit_29, lit_30, lit_31, lit_37, lit_101, lit_120, lit_121, lit_127, lit_169, lit_64, lit_99, lit_999, lit_676, lit_845, lit_48, lit_57, lit_32, lit_59, r0]
  refine ⟨_, rfl, ?_, mf_up (mf_up (mf_up (mf_up (mf_rf σ) (by omega) _ _) (by omega) _ _) (by omega) _ _) (by omega) _ _⟩
  have := m_gA (bd_u (bd_u (bd_u b (by omega)) (by omega)) (by omega)) (m_f4 (bd_u (bd_u b (by omega)) (by omega)) (m_f3 (bd_u b (by omega)) (m_f2 b h (k := N 0 0) (v := k) (by omega)) (k := N 0 0) (v := 0) (by omega)) (k := N 0 0) (v := 0) (by omega)) (by simp (disch := omega) only [Nat.add_zero, Nat.zero_add, Nat.zero_mul, Nat.mul_zero, mc8, mc3, nU_f, nU_k, nU_e, xbd_some, xgd_true, xlet_eq, g_in, nI_clamp, nI_leI, nI_ltI, nI_eq, nI_add, pk_mul, pk_sub, rd_e, rd_k, rd_c, i10, i01, xsm_l, xsm_r, if_pos, if_neg, l_neg1, oI_e0, nI_e0, oI_nI, ne_eq, not_true_eq_false, not_false_eq_true, and_true, true_and, and_false, false_and, or_true, true_or, or_false, false_or, if_true, if_false, lit_0, lit_1, lit_2, lit_3, lit_4, lit_5, lit_6, lit_8, lit_9, lit_10, lit_12, lit_13, lit_21, lit_29, lit_30, lit_31, lit_37, lit_101, lit_120, lit_121, lit_127, lit_169, lit_64, lit_99, lit_999, lit_676, lit_845, lit_48, lit_57, lit_32, lit_59]; omega) (by simp (disch := omega) only [Nat.add_zero, Nat.zero_add, Nat.zero_mul, Nat.mul_zero, mc8, mc3, nU_f, nU_k, nU_e, xbd_some, xgd_true, xlet_eq, g_in, nI_clamp, nI_leI, nI_ltI, nI_eq, nI_add, pk_mul, pk_sub, rd_e, rd_k, rd_c, i10, i01, xsm_l, xsm_r, if_pos, if_neg, l_neg1, oI_e0, nI_e0, oI_nI, ne_eq, not_true_eq_false, not_false_eq_true, and_true, true_and, and_false, false_and, or_true, true_or, or_false, false_or, if_true, if_false, lit_0, lit_1, lit_2, lit_3, lit_4, lit_5, lit_6, lit_8, lit_9, lit_10, lit_12, lit_13, lit_21, lit_29, lit_30, lit_31, lit_37, lit_101, lit_120, lit_121, lit_127, lit_169, lit_64, lit_99, lit_999, lit_676, lit_845, lit_48, lit_57, lit_32, lit_59]) (by simp (disch := omega) only [Nat.add_zero, Nat.zero_add, Nat.zero_mul, Nat.mul_zero, mc8, mc3, nU_f, nU_k, nU_e, xbd_some, xgd_true, xlet_eq, g_in, nI_clamp, nI_leI, nI_ltI, nI_eq, nI_add, pk_mul, pk_sub, rd_e, rd_k, rd_c, i10, i01, xsm_l, xsm_r, if_pos, if_neg, l_neg1, oI_e0, nI_e0, oI_nI, ne_eq, not_true_eq_false, not_false_eq_true, and_true, true_and, and_false, false_and, or_true, true_or, or_false, false_or, if_true, if_false, lit_0, lit_1, lit_2, lit_3, lit_4, lit_5, lit_6, lit_8, lit_9, lit_10, lit_12, lit_13, lit_21, lit_29, lit_30, lit_31, lit_37, lit_101, lit_120, lit_121, lit_127, lit_169, lit_64, lit_99, lit_999, lit_676, lit_845, lit_48, lit_57, lit_32, lit_59]) (by simp (disch := omega) only [Nat.add_zero, Nat.zero_add, Nat.zero_mul, Nat.mul_zero, mc8, mc3, nU_f, nU_k, nU_e, xbd_some, xgd_true, xlet_eq, g_in, nI_clamp, nI_leI, nI_ltI, nI_eq, nI_add, pk_mul, pk_sub, rd_e, rd_k, rd_c, i10, i01, xsm_l, xsm_r, if_pos, if_neg, l_neg1, oI_e0, nI_e0, oI_nI, ne_eq, not_true_eq_false, not_false_eq_true, and_true, true_and, and_false, false_and, or_true, true_or, or_false, false_or, if_true, if_false, lit_0, lit_1, lit_2, lit_3, lit_4, lit_5, lit_6, lit_8, lit_9, lit_10, lit_12, lit_13, lit_21, lit_29, lit_30, lit_31, lit_37, lit_101, lit_120, lit_121, lit_127, lit_169, lit_64, lit_99, lit_999, lit_676, lit_845, lit_48, lit_57, lit_32, lit_59])
  revert this
  unfold a_area
  simp (disch := omega) only [Nat.add_zero, Nat.zero_add, Nat.zero_mul, Nat.mul_zero, mc8, mc3, nU_f, nU_k, nU_e, xbd_some, xgd_true, xlet_eq, g_in, nI_clamp, nI_leI, nI_ltI, nI_eq, nI_add, pk_mul, pk_sub, rd_e, rd_k, rd_c, i10, i01, xsm_l, xsm_r, if_pos, if_neg, l_neg1, oI_e0, nI_e0, oI_nI, ne_eq, not_true_eq_false, not_false_eq_true, and_true, true_and, and_false, false_and, or_true, true_or, or_false, false_or, if_true, if_false, lit_0, lit_1, lit_2, lit_3, lit_4, lit_5, lit_6, lit_8, lit_9, lit_10, lit_12, lit_13, lit_21, lit_29, lit_30, lit_31, lit_37, lit_101, lit_120, lit_121, lit_127, lit_169, lit_64, lit_99, lit_999, lit_676, lit_845, lit_48, lit_57, lit_32, lit_59]
  exact id
theorem m_canLine (a c n : Int32) {σ : xM} {N : xN} (hw : s_wf N) (h : s_M (σ 142) N) : F_X11_canLine a c n σ = some (er (sp_line a c n N).1) := by
  have hA := hw.1.1
  have r0 := h.1 0 (by omega)
  unfold F_X11_canLine sp_line
  by_cases h1 : hsA a N
  case neg => rw [xbd_s (iA_f r0 h1), if_pos rfl, if_neg h1]; rfl
  rw [xbd_s (iA_t r0 h1), if_neg one0, if_pos h1]
  by_cases h2 : hsA c N
  case neg => rw [xbd_s (iA_f r0 h2), if_pos rfl, if_neg h2]; rfl
  rw [xbd_s (iA_t r0 h2), if_neg one0, if_pos h2]
  by_cases h3 : a = c
  · rw [if_pos h3, if_pos h3]; rfl
  rw [if_neg h3, if_neg h3]
  by_cases h4 : 0 ≤ n ∧ n ≤ 9
  case neg => rw [xbd_s (if_0_9 h4 σ), if_pos rfl, if_neg h4]; rfl
  rw [xbd_s (it_0_9 h4 σ), if_neg one0, if_pos h4]
  obtain ⟨x, hx, rfl⟩ := (hs_of (by omega)).mp h1
  obtain ⟨y, hy, rfl⟩ := (hs_of (by omega)).mp h2
  have := hw.2.2.1 (8 * x + y) (by omega)
  simp (disch := omega) only [Nat.add_zero, Nat.zero_add, Nat.zero_mul, Nat.mul_zero, mc8, mc3, nU_f, nU_k, nU_e, xbd_some, xgd_true, xlet_eq, g_in, nI_clamp, nI_leI, nI_ltI, nI_eq, nI_add, pk_mul, pk_sub, rd_e, rd_k, rd_c, i10, i01, xsm_l, xsm_r, if_pos, if_neg, l_neg1, oI_e0, nI_e0, oI_nI, ne_eq, not_true_eq_false, not_false_eq_true, and_true, true_and, and_false, false_and, or_true, true_or, or_false, false_or, if_true, if_false, lit_0, lit_1, lit_2, lit_3, lit_4, lit_5, lit_6, lit_8, lit_9, lit_10, lit_12, lit_13, lit_21, lit_29, lit_30, lit_31, lit_37, lit_101, lit_120, lit_121, lit_127, lit_169, lit_64, lit_99, lit_999, lit_676, lit_845, lit_48, lit_57, lit_32, lit_59]
  rw [er_n (by omega)]
  rfl
theorem m_lineNow (a c n : Int32) {σ : xM} {N : xN} (hw : s_wf N) (h : s_M (σ 142) N) (ok : 0 ≤ (sp_line a c n N).1) : ∃ σ', F_X11_lineNow a c n σ = some ((sp_line a c n N).1, σ') ∧ s_M (σ' 142) (sp_line a c n N).2 ∧ m_fr σ σ' := by
  have b := hw.1
  have hA := hw.1.1
  unfold sp_line at ok ⊢
  by_cases h1 : hsA a N
  case neg => rw [if_neg h1] at ok; exact absurd ok (by first | exact no2 | exact no3 | exact no4)
  rw [if_pos h1] at ok ⊢
  by_cases h2 : hsA c N
  case neg => rw [if_neg h2] at ok; exact absurd ok (by first | exact no2 | exact no3 | exact no4)
  rw [if_pos h2] at ok ⊢
  by_cases h3 : a = c
  · rw [if_pos h3] at ok; exact absurd ok (by first | exact no2 | exact no3 | exact no4)
  rw [if_neg h3] at ok ⊢
  by_cases h4 : 0 ≤ n ∧ n ≤ 9
  case neg => rw [if_neg h4] at ok; exact absurd ok (by first | exact no2 | exact no3 | exact no4)
  rw [if_pos h4]
  obtain ⟨x, hx, rfl⟩ := (hs_of (by omega)).mp h1
  obtain ⟨y, hy, rfl⟩ := (hs_of (by omega)).mp h2
  obtain ⟨v, hv, rfl⟩ := (rg_of (n := 9) rfl (by omega)).mp h4
  have r1 := h.2.2.2.1 (8 * x + y) (by omega)
  have p1 := m_f5 b h (k := 8 * x + y) (v := v) (by omega)
  have p2 := m_f5 (bd_u b (by omega)) p1 (k := 8 * y + x) (v := v) (by omega)
  unfold F_X11_lineNow
  simp (disch := omega) only [Nat.add_zero, Nat.zero_add, Nat.zero_mul, Nat.mul_zero, mc8, mc3, nU_f, nU_k, nU_e, xbd_some, xgd_true, xlet_eq, g_in, nI_clamp, nI_leI, nI_ltI, nI_eq, nI_add, pk_mul, pk_sub, rd_e, rd_k, rd_c, i10, i01, xsm_l, xsm_r, if_pos, if_neg, l_neg1, oI_e0, nI_e0, oI_nI, ne_eq, not_true_eq_false, not_false_eq_true, and_true, true_and, and_false, false_and, or_true, true_or, or_false, false_or, if_true, if_false, lit_0, lit_1, lit_2, lit_3, lit_4, lit_5, lit_6, lit_8, lit_9, lit_10, lit_12, lit_13, lit_21, lit_29, lit_30, lit_31, lit_37, lit_101, lit_120, lit_121, lit_127, lit_169, lit_64, lit_99, lit_999, lit_676, lit_845, lit_48, lit_57, lit_32, lit_59, Nat.add_assoc, r1]
  refine ⟨_, rfl, ?_, mf_up (mf_up (mf_rf σ) (by omega) _ _) (by omega) _ _⟩
  exact p2
theorem m_canMood (a k : Int32) {σ : xM} {N : xN} (hw : s_wf N) (h : s_M (σ 142) N) : F_X11_canMood a k σ = some (er (sp_mood a k N).1) := by
  have hA := hw.1.1
  have r0 := h.1 0 (by omega)
  unfold F_X11_canMood sp_mood
  by_cases h1 : hsA a N
  case neg => rw [xbd_s (iA_f r0 h1), if_pos rfl, if_neg h1]; rfl
  rw [xbd_s (iA_t r0 h1), if_neg one0, if_pos h1]
  by_cases h4 : 0 ≤ k ∧ k ≤ 2
  case neg => rw [xbd_s (if_0_2 h4 σ), if_pos rfl, if_neg h4]; rfl
  rw [xbd_s (it_0_2 h4 σ), if_neg one0, if_pos h4]
  obtain ⟨x, hx, rfl⟩ := (hs_of (by omega)).mp h1
  have := (hw.2.1 x hx).2.1
  simp (disch := omega) only [Nat.add_zero, Nat.zero_add, Nat.zero_mul, Nat.mul_zero, mc8, mc3, nU_f, nU_k, nU_e, xbd_some, xgd_true, xlet_eq, g_in, nI_clamp, nI_leI, nI_ltI, nI_eq, nI_add, pk_mul, pk_sub, rd_e, rd_k, rd_c, i10, i01, xsm_l, xsm_r, if_pos, if_neg, l_neg1, oI_e0, nI_e0, oI_nI, ne_eq, not_true_eq_false, not_false_eq_true, and_true, true_and, and_false, false_and, or_true, true_or, or_false, false_or, if_true, if_false, lit_0, lit_1, lit_2, lit_3, lit_4, lit_5, lit_6, lit_8, lit_9, lit_10, lit_12, lit_13, lit_21, lit_29, lit_30, lit_31, lit_37, lit_101, lit_120, lit_121, lit_127, lit_169, lit_64, lit_99, lit_999, lit_676, lit_845, lit_48, lit_57, lit_32, lit_59]
  rw [er_n (by omega)]
  rfl
theorem M_cg {σ τ : xM} {N : xN} (h : τ 142 = σ 142) (k : s_M (σ 142) N) : s_M (τ 142) N := by rw [h]; exact k
theorem m_lays {σ : xM} {N : xN} (hw : s_wf N) (h : s_M (σ 142) N) : ∃ τ, F_X11_laysWays σ = some τ ∧ e146 σ τ ∧ m_W τ N ∧ s_M (τ 142) N := by
  obtain ⟨τ, g1, g2, g3⟩ := m_ways hw h.2.2.2.1
  have hM := M_cg (g2 142 (by omega)) h
  exact ⟨τ, g1, g2, M_W hM g3, hM⟩
theorem m_moodNow (a k : Int32) {σ : xM} {N : xN} (hw : s_wf N) (h : s_M (σ 142) N) (ok : 0 ≤ (sp_mood a k N).1) : ∃ σ', F_X11_moodNow a k σ = some ((sp_mood a k N).1, σ') ∧ s_M (σ' 142) (sp_mood a k N).2 ∧ m_fr σ σ' := by
  have b := hw.1
  have hA := hw.1.1
  unfold sp_mood at ok ⊢
  by_cases h1 : hsA a N
  case neg => rw [if_neg h1] at ok; exact absurd ok (by first | exact no2 | exact no3 | exact no4)
  rw [if_pos h1] at ok ⊢
  by_cases h4 : 0 ≤ k ∧ k ≤ 2
  case neg => rw [if_neg h4] at ok; exact absurd ok (by first | exact no2 | exact no3 | exact no4)
  rw [if_pos h4]
  obtain ⟨x, hx, rfl⟩ := (hs_of (by omega)).mp h1
  obtain ⟨v, hv, rfl⟩ := (rg_of (n := 2) rfl (by omega)).mp h4
  obtain ⟨x1, x2, x3⟩ := h.2.2.1 x hx
  have w3 := (hw.2.1 x hx).2.1
  unfold F_X11_moodNow a_mood
  by_cases e : v = 2
  · by_cases e2 : N 3 x = 2
    · simp (disch := omega) only [Nat.add_zero, Nat.zero_add, Nat.zero_mul, Nat.mul_zero, mc8, mc3, nU_f, nU_k, nU_e, xbd_some, xgd_true, xlet_eq, g_in, nI_clamp, nI_leI, nI_ltI, nI_eq, nI_add, pk_mul, pk_sub, rd_e, rd_k, rd_c, i10, i01, xsm_l, xsm_r, if_pos, if_neg, l_neg1, oI_e0, nI_e0, oI_nI, ne_eq, not_true_eq_false, not_false_eq_true, and_true, true_and, and_false, false_and, or_true, true_or, or_false, false_or, if_true, if_false, lit_0, lit_1, lit_2, lit_3, lit_4, lit_5, lit_6, lit_8, lit_9, lit_10, lit_12, lit_13, lit_21, lit_29, lit_30, lit_31, lit_37, lit_101, lit_120, lit_121, lit_127, lit_169, lit_64, lit_99, lit_999, lit_676, lit_845, lit_48, lit_57, lit_32, lit_59, x2]
      refine ⟨_, rfl, m_f3 b h (by omega), mf_up (mf_rf σ) (by omega) _ _⟩
    · obtain ⟨τ, g1, g2, g3, g4⟩ := m_lays hw h
      have c := w_catch hw g3 hx
      simp (disch := omega) only [Nat.add_zero, Nat.zero_add, Nat.zero_mul, Nat.mul_zero, mc8, mc3, nU_f, nU_k, nU_e, xbd_some, xgd_true, xlet_eq, g_in, nI_clamp, nI_leI, nI_ltI, nI_eq, nI_add, pk_mul, pk_sub, rd_e, rd_k, rd_c, i10, i01, xsm_l, xsm_r, if_pos, if_neg, l_neg1, oI_e0, nI_e0, oI_nI, ne_eq, not_true_eq_false, not_false_eq_true, and_true, true_and, and_false, false_and, or_true, true_or, or_false, false_or, if_true, if_false, lit_0, lit_1, lit_2, lit_3, lit_4, lit_5, lit_6, lit_8, lit_9, lit_10, lit_12, lit_13, lit_21, lit_29, lit_30, lit_31, lit_37, lit_101, lit_120, lit_121, lit_127, lit_169, lit_64, lit_99, lit_999, lit_676, lit_845, lit_48, lit_57, lit_32, lit_59, x2, g1, c]
      refine ⟨_, rfl, m_f3 (bd_u b (by omega)) (m_f4 b g4 (by omega)) (by omega), mf_up (mf_up (mf_146 g2) (by omega) _ _) (by omega) _ _⟩
  · simp (disch := omega) only [Nat.add_zero, Nat.zero_add, Nat.zero_mul, Nat.mul_zero, mc8, mc3, nU_f, nU_k, nU_e, xbd_some, xgd_true, xlet_eq, g_in, nI_clamp, nI_leI, nI_ltI, nI_eq, nI_add, pk_mul, pk_sub, rd_e, rd_k, rd_c, i10, i01, xsm_l, xsm_r, if_pos, if_neg, l_neg1, oI_e0, nI_e0, oI_nI, ne_eq, not_true_eq_false, not_false_eq_true, and_true, true_and, and_false, false_and, or_true, true_or, or_false, false_or, if_true, if_false, lit_0, lit_1, lit_2, lit_3, lit_4, lit_5, lit_6, lit_8, lit_9, lit_10, lit_12, lit_13, lit_21, lit_29, lit_30, lit_31, lit_37, lit_101, lit_120, lit_121, lit_127, lit_169, lit_64, lit_99, lit_999, lit_676, lit_845, lit_48, lit_57, lit_32, lit_59, x2]
    refine ⟨_, rfl, m_f3 b h (by omega), mf_up (mf_rf σ) (by omega) _ _⟩
theorem m_canSite (a r : Int32) {σ : xM} {N : xN} (hw : s_wf N) (h : s_M (σ 142) N) : F_X11_canSite a r σ = some (er (sp_site a r N).1) := by
  have hA := hw.1.1
  have hS := hw.1.2.1
  have r0 := h.1 0 (by omega)
  have r1 := h.1 1 (by omega)
  unfold F_X11_canSite sp_site
  by_cases h1 : hsA a N
  case neg => rw [xbd_s (iA_f r0 h1), if_pos rfl, if_neg h1]; rfl
  rw [xbd_s (iA_t r0 h1), if_neg one0, if_pos h1]
  by_cases h4 : 0 ≤ r ∧ r ≤ 999
  case neg => rw [xbd_s (if_0_999 h4 σ), if_pos rfl, if_neg h4]; rfl
  rw [xbd_s (it_0_999 h4 σ), if_neg one0, if_pos h4]
  by_cases h8 : N 0 1 < 5
  · rw [if_pos h8]
    dsimp only
    rw [er_n (by omega)]
    simp (disch := omega) only [Nat.add_zero, Nat.zero_add, Nat.zero_mul, Nat.mul_zero, mc8, mc3, nU_f, nU_k, nU_e, xbd_some, xgd_true, xlet_eq, g_in, nI_clamp, nI_leI, nI_ltI, nI_eq, nI_add, pk_mul, pk_sub, rd_e, rd_k, rd_c, i10, i01, xsm_l, xsm_r, if_pos, if_neg, l_neg1, oI_e0, nI_e0, oI_nI, ne_eq, not_true_eq_false, not_false_eq_true, and_true, true_and, and_false, false_and, or_true, true_or, or_false, false_or, if_true, if_false, lit_0, lit_1, lit_2, lit_3, lit_4, lit_5, lit_6, lit_8, lit_9, lit_10, lit_12, lit_13, lit_21, lit_29, lit_30, lit_31, lit_37, lit_101, lit_120, lit_121, lit_127, lit_169, lit_64, lit_99, lit_999, lit_676, lit_845, lit_48, lit_57, lit_32, lit_59, r1]
  · rw [if_neg h8]
    rw [r1, if_pos (show nI (N 0 1) = 5 from (nI_eq (a := N 0 1) (b := 5) (by omega) (by omega)).mpr (by omega))]
    rfl
theorem m_siteNow (a r : Int32) {σ : xM} {N : xN} (hw : s_wf N) (h : s_M (σ 142) N) (ok : 0 ≤ (sp_site a r N).1) : ∃ σ', F_X11_siteNow a r σ = some ((sp_site a r N).1, σ') ∧ s_M (σ' 142) (sp_site a r N).2 ∧ m_fr σ σ' := by
  have b := hw.1
  have hA := hw.1.1
  have hS := hw.1.2.1
  have r1 := h.1 1 (by omega)
  unfold sp_site at ok ⊢
  by_cases h1 : hsA a N
  case neg => rw [if_neg h1] at ok; exact absurd ok (by first | exact no2 | exact no3 | exact no4)
  rw [if_pos h1] at ok ⊢
  by_cases h4 : 0 ≤ r ∧ r ≤ 999
  case neg => rw [if_neg h4] at ok; exact absurd ok (by first | exact no2 | exact no3 | exact no4)
  rw [if_pos h4] at ok ⊢
  by_cases h8 : N 0 1 < 5
  case neg => rw [if_neg h8] at ok; exact absurd ok (by first | exact no2 | exact no3 | exact no4)
  rw [if_pos h8]
  obtain ⟨x, hx, rfl⟩ := (hs_of (by omega)).mp h1
  obtain ⟨v, hv, rfl⟩ := (rg_of (n := 999) rfl (by omega)).mp h4
  unfold F_X11_siteNow F_X11_putsStep F_X11_putsState
  simp (disch := omega) only [Nat.add_zero, Nat.zero_add, Nat.zero_mul, Nat.mul_zero, mc8, mc3, nU_f, nU_k, nU_e, xbd_some, xgd_true, xlet_eq, g_in, nI_clamp, nI_leI, nI_ltI, nI_eq, nI_add, pk_mul, pk_sub, rd_e, rd_k, rd_c, i10, i01, xsm_l, xsm_r, if_pos, if_neg, l_neg1, oI_e0, nI_e0, oI_nI, ne_eq, not_true_eq_false, not_false_eq_true, and_true, true_and, and_false, false_and, or_true, true_or, or_false, false_or, if_true, if_false, lit_0, lit_1, lit_2, lit_3, lit_4, lit_5, lit_6, lit_8, lit_9, lit_10, lit_12, lit_13, lit_21, lit_29, lit_30, lit_31, lit_37, lit_101, lit_120, lit_121, lit_127, lit_169, lit_64, lit_99, lit_999, lit_676, lit_845, lit_48, lit_57, lit_32, lit_59, r1]
  refine ⟨_, rfl, ?_, mf_up (mf_up (mf_up (mf_up (mf_up (mf_rf σ) (by omega) _ _) (by omega) _ _) (by omega) _ _) (by omega) _ _) (by omega) _ _⟩
  have := m_gS (bd_u (bd_u (bd_u (bd_u b (by omega)) (by omega)) (by omega)) (by omega)) (m_f9 (bd_u (bd_u (bd_u b (by omega)) (by omega)) (by omega)) (m_f8 (bd_u (bd_u b (by omega)) (by omega)) (m_f7 (bd_u b (by omega)) (m_f6 b h (k := N 0 1) (v := x) (by omega)) (k := N 0 1) (v := v) (by omega)) (k := N 0 1) (v := 0) (by omega)) (k := N 0 1) (v := 0) (by omega)) (by simp (disch := omega) only [Nat.add_zero, Nat.zero_add, Nat.zero_mul, Nat.mul_zero, mc8, mc3, nU_f, nU_k, nU_e, xbd_some, xgd_true, xlet_eq, g_in, nI_clamp, nI_leI, nI_ltI, nI_eq, nI_add, pk_mul, pk_sub, rd_e, rd_k, rd_c, i10, i01, xsm_l, xsm_r, if_pos, if_neg, l_neg1, oI_e0, nI_e0, oI_nI, ne_eq, not_true_eq_false, not_false_eq_true, and_true, true_and, and_false, false_and, or_true, true_or, or_false, false_or, if_true, if_false, lit_0, lit_1, lit_2, lit_3, lit_4, lit_5, lit_6, lit_8, lit_9, lit_10, lit_12, lit_13, lit_21, lit_29, lit_30, lit_31, lit_37, lit_101, lit_120, lit_121, lit_127, lit_169, lit_64, lit_99, lit_999, lit_676, lit_845, lit_48, lit_57, lit_32, lit_59]; omega) (by simp (disch := omega) only [Nat.add_zero, Nat.zero_add, Nat.zero_mul, Nat.mul_zero, mc8, mc3, nU_f, nU_k, nU_e, xbd_some, xgd_true, xlet_eq, g_in, nI_clamp, nI_leI, nI_ltI, nI_eq, nI_add, pk_mul, pk_sub, rd_e, rd_k, rd_c, i10, i01, xsm_l, xsm_r, if_pos, if_neg, l_neg1, oI_e0, nI_e0, oI_nI, ne_eq, not_true_eq_false, not_false_eq_true, and_true, true_and, and_false, false_and, or_true, true_or, or_false, false_or, if_true, if_false, lit_0, lit_1, lit_2, lit_3, lit_4, lit_5, lit_6, lit_8, lit_9, lit_10, lit_12, lit_13, lit_21, lit_29, lit_30, lit_31, lit_37, lit_101, lit_120, lit_121, lit_127, lit_169, lit_64, lit_99, lit_999, lit_676, lit_845, lit_48, lit_57, lit_32, lit_59]) (by simp (disch := omega) only [Nat.add_zero, Nat.zero_add, Nat.zero_mul, Nat.mul_zero, mc8, mc3, nU_f, nU_k, nU_e, xbd_some, xgd_true, xlet_eq, g_in, nI_clamp, nI_leI, nI_ltI, nI_eq, nI_add, pk_mul, pk_sub, rd_e, rd_k, rd_c, i10, i01, xsm_l, xsm_r, if_pos, if_neg, l_neg1, oI_e0, nI_e0, oI_nI, ne_eq, not_true_eq_false, not_false_eq_true, and_true, true_and, and_false, false_and, or_true, true_or, or_false, false_or, if_true, if_false, lit_0, lit_1, lit_2, lit_3, lit_4, lit_5, lit_6, lit_8, lit_9, lit_10, lit_12, lit_13, lit_21, lit_29, lit_30, lit_31, lit_37, lit_101, lit_120, lit_121, lit_127, lit_169, lit_64, lit_99, lit_999, lit_676, lit_845, lit_48, lit_57, lit_32, lit_59]) (by simp (disch := omega) only [Nat.add_zero, Nat.zero_add, Nat.zero_mul, Nat.mul_zero, mc8, mc3, nU_f, nU_k, nU_e, xbd_some, xgd_true, xlet_eq, g_in, nI_clamp, nI_leI, nI_ltI, nI_eq, nI_add, pk_mul, pk_sub, rd_e, rd_k, rd_c, i10, i01, xsm_l, xsm_r, if_pos, if_neg, l_neg1, oI_e0, nI_e0, oI_nI, ne_eq, not_true_eq_false, not_false_eq_true, and_true, true_and, and_false, false_and, or_true, true_or, or_false, false_or, if_true, if_false, lit_0, lit_1, lit_2, lit_3, lit_4, lit_5, lit_6, lit_8, lit_9, lit_10, lit_12, lit_13, lit_21, lit_29, lit_30, lit_31, lit_37, lit_101, lit_120, lit_121, lit_127, lit_169, lit_64, lit_99, lit_999, lit_676, lit_845, lit_48, lit_57, lit_32, lit_59]) (by simp (disch := omega) only [Nat.add_zero, Nat.zero_add, Nat.zero_mul, Nat.mul_zero, mc8, mc3, nU_f, nU_k, nU_e, xbd_some, xgd_true, xlet_eq, g_in, nI_clamp, nI_leI, nI_ltI, nI_eq, nI_add, pk_mul, pk_sub, rd_e, rd_k, rd_c, i10, i01, xsm_l, xsm_r, if_pos, if_neg, l_neg1, oI_e0, nI_e0, oI_nI, ne_eq, not_true_eq_false, not_false_eq_true, and_true, true_and, and_false, false_and, or_true, true_or, or_false, false_or, if_true, if_false, lit_0, lit_1, lit_2, lit_3, lit_4, lit_5, lit_6, lit_8, lit_9, lit_10, lit_12, lit_13, lit_21, lit_29, lit_30, lit_31, lit_37, lit_101, lit_120, lit_121, lit_127, lit_169, lit_64, lit_99, lit_999, lit_676, lit_845, lit_48, lit_57, lit_32, lit_59])
  revert this
  unfold a_site
  simp (disch := omega) only [Nat.add_zero, Nat.zero_add, Nat.zero_mul, Nat.mul_zero, mc8, mc3, nU_f, nU_k, nU_e, xbd_some, xgd_true, xlet_eq, g_in, nI_clamp, nI_leI, nI_ltI, nI_eq, nI_add, pk_mul, pk_sub, rd_e, rd_k, rd_c, i10, i01, xsm_l, xsm_r, if_pos, if_neg, l_neg1, oI_e0, nI_e0, oI_nI, ne_eq, not_true_eq_false, not_false_eq_true, and_true, true_and, and_false, false_and, or_true, true_or, or_false, false_or, if_true, if_false, lit_0, lit_1, lit_2, lit_3, lit_4, lit_5, lit_6, lit_8, lit_9, lit_10, lit_12, lit_13, lit_21, lit_29, lit_30, lit_31, lit_37, lit_101, lit_120, lit_121, lit_127, lit_169, lit_64, lit_99, lit_999, lit_676, lit_845, lit_48, lit_57, lit_32, lit_59]
  exact id
theorem m_canStep (a k : Int32) {σ : xM} {N : xN} (hw : s_wf N) (h : s_M (σ 142) N) : F_X11_canStep a k σ = some (er (sp_steps a k N).1) := by
  have hS := hw.1.2.1
  have r1 := h.1 1 (by omega)
  unfold F_X11_canStep sp_steps
  by_cases h1 : hsS a N
  case neg => rw [xbd_s (iS_f r1 h1), if_pos rfl, if_neg h1]; rfl
  rw [xbd_s (iS_t r1 h1), if_neg one0, if_pos h1]
  by_cases h4 : 0 ≤ k ∧ k ≤ 4
  case neg => rw [xbd_s (if_0_4 h4 σ), if_pos rfl, if_neg h4]; rfl
  rw [xbd_s (it_0_4 h4 σ), if_neg one0, if_pos h4]
  obtain ⟨x, hx, rfl⟩ := (hs_of (by omega)).mp h1
  obtain ⟨x1, x2, x3, x4⟩ := h.2.2.2.2.1 x hx
  obtain ⟨b6, b7, b8, b9⟩ := hw.2.2.2.2.1 x hx
  unfold F_X11_stateOf
  by_cases h9 : N 9 x = 0
  · simp (disch := omega) only [Nat.add_zero, Nat.zero_add, Nat.zero_mul, Nat.mul_zero, mc8, mc3, nU_f, nU_k, nU_e, xbd_some, xgd_true, xlet_eq, g_in, nI_clamp, nI_leI, nI_ltI, nI_eq, nI_add, pk_mul, pk_sub, rd_e, rd_k, rd_c, i10, i01, xsm_l, xsm_r, if_pos, if_neg, l_neg1, oI_e0, nI_e0, oI_nI, ne_eq, not_true_eq_false, not_false_eq_true, and_true, true_and, and_false, false_and, or_true, true_or, or_false, false_or, if_true, if_false, lit_0, lit_1, lit_2, lit_3, lit_4, lit_5, lit_6, lit_8, lit_9, lit_10, lit_12, lit_13, lit_21, lit_29, lit_30, lit_31, lit_37, lit_101, lit_120, lit_121, lit_127, lit_169, lit_64, lit_99, lit_999, lit_676, lit_845, lit_48, lit_57, lit_32, lit_59, x4]
    rw [er_n (by omega)]
    rfl
  · simp (disch := omega) only [Nat.add_zero, Nat.zero_add, Nat.zero_mul, Nat.mul_zero, mc8, mc3, nU_f, nU_k, nU_e, xbd_some, xgd_true, xlet_eq, g_in, nI_clamp, nI_leI, nI_ltI, nI_eq, nI_add, pk_mul, pk_sub, rd_e, rd_k, rd_c, i10, i01, xsm_l, xsm_r, if_pos, if_neg, l_neg1, oI_e0, nI_e0, oI_nI, ne_eq, not_true_eq_false, not_false_eq_true, and_true, true_and, and_false, false_and, or_true, true_or, or_false, false_or, if_true, if_false, lit_0, lit_1, lit_2, lit_3, lit_4, lit_5, lit_6, lit_8, lit_9, lit_10, lit_12, lit_13, lit_21, lit_29, lit_30, lit_31, lit_37, lit_101, lit_120, lit_121, lit_127, lit_169, lit_64, lit_99, lit_999, lit_676, lit_845, lit_48, lit_57, lit_32, lit_59, x4]
    rfl
theorem m_stepNow (a k : Int32) {σ : xM} {N : xN} (hw : s_wf N) (h : s_M (σ 142) N) (ok : 0 ≤ (sp_steps a k N).1) : ∃ σ', F_X11_stepNow a k σ = some ((sp_steps a k N).1, σ') ∧ s_M (σ' 142) (sp_steps a k N).2 ∧ m_fr σ σ' := by
  have b := hw.1
  have hS := hw.1.2.1
  unfold sp_steps at ok ⊢
  by_cases h1 : hsS a N
  case neg => rw [if_neg h1] at ok; exact absurd ok (by first | exact no2 | exact no3 | exact no4)
  rw [if_pos h1] at ok ⊢
  by_cases h4 : 0 ≤ k ∧ k ≤ 4
  case neg => rw [if_neg h4] at ok; exact absurd ok (by first | exact no2 | exact no3 | exact no4)
  rw [if_pos h4] at ok ⊢
  obtain ⟨x, hx, rfl⟩ := (hs_of (by omega)).mp h1
  obtain ⟨v, hv, rfl⟩ := (rg_of (n := 4) rfl (by omega)).mp h4
  rw [nI_clamp (by omega)] at ok ⊢
  obtain ⟨x1, x2, x3, x4⟩ := h.2.2.2.2.1 x hx
  by_cases h9 : N 9 x = 0
  case neg => rw [if_neg h9] at ok; exact absurd ok (by first | exact no2 | exact no3 | exact no4)
  rw [if_pos h9]
  unfold F_X11_stepNow F_X11_stepOf F_X11_putsStep
  simp (disch := omega) only [Nat.add_zero, Nat.zero_add, Nat.zero_mul, Nat.mul_zero, mc8, mc3, nU_f, nU_k, nU_e, xbd_some, xgd_true, xlet_eq, g_in, nI_clamp, nI_leI, nI_ltI, nI_eq, nI_add, pk_mul, pk_sub, rd_e, rd_k, rd_c, i10, i01, xsm_l, xsm_r, if_pos, if_neg, l_neg1, oI_e0, nI_e0, oI_nI, ne_eq, not_true_eq_false, not_false_eq_true, and_true, true_and, and_false, false_and, or_true, true_or, or_false, false_or, if_true, if_false, lit_0, lit_1, lit_2, lit_3, lit_4, lit_5, lit_6, lit_8, lit_9, lit_10, lit_12, lit_13, lit_21, lit_29, lit_30, lit_31, lit_37, lit_101, lit_120, lit_121, lit_127, lit_169, lit_64, lit_99, lit_999, lit_676, lit_845, lit_48, lit_57, lit_32, lit_59, x3]
  exact ⟨_, rfl, m_f8 b h (by omega), mf_up (mf_rf σ) (by omega) _ _⟩
theorem m_canDrain (a : Int32) {σ : xM} {N : xN} (hw : s_wf N) (h : s_M (σ 142) N) : F_X11_canDrain a σ = some (er (sp_drains a N).1) := by
  have hS := hw.1.2.1
  have hQ := hw.1.2.2.2
  have r1 := h.1 1 (by omega)
  unfold F_X11_canDrain sp_drains
  by_cases h1 : hsS a N
  case neg => rw [xbd_s (iS_f r1 h1), if_pos rfl, if_neg h1]; rfl
  rw [xbd_s (iS_t r1 h1), if_neg one0, if_pos h1]
  obtain ⟨x, hx, rfl⟩ := (hs_of (by omega)).mp h1
  obtain ⟨x1, x2, x3, x4⟩ := h.2.2.2.2.1 x hx
  obtain ⟨b6, b7, b8, b9⟩ := hw.2.2.2.2.1 x hx
  unfold F_X11_stateOf
  by_cases h9 : N 9 x = 0
  · simp (disch := omega) only [Nat.add_zero, Nat.zero_add, Nat.zero_mul, Nat.mul_zero, mc8, mc3, nU_f, nU_k, nU_e, xbd_some, xgd_true, xlet_eq, g_in, nI_clamp, nI_leI, nI_ltI, nI_eq, nI_add, pk_mul, pk_sub, rd_e, rd_k, rd_c, i10, i01, xsm_l, xsm_r, if_pos, if_neg, l_neg1, oI_e0, nI_e0, oI_nI, ne_eq, not_true_eq_false, not_false_eq_true, and_true, true_and, and_false, false_and, or_true, true_or, or_false, false_or, if_true, if_false, lit_0, lit_1, lit_2, lit_3, lit_4, lit_5, lit_6, lit_8, lit_9, lit_10, lit_12, lit_13, lit_21, lit_29, lit_30, lit_31, lit_37, lit_101, lit_120, lit_121, lit_127, lit_169, lit_64, lit_99, lit_999, lit_676, lit_845, lit_48, lit_57, lit_32, lit_59, x4]
    rw [er_n (by omega)]
    rfl
  · simp (disch := omega) only [Nat.add_zero, Nat.zero_add, Nat.zero_mul, Nat.mul_zero, mc8, mc3, nU_f, nU_k, nU_e, xbd_some, xgd_true, xlet_eq, g_in, nI_clamp, nI_leI, nI_ltI, nI_eq, nI_add, pk_mul, pk_sub, rd_e, rd_k, rd_c, i10, i01, xsm_l, xsm_r, if_pos, if_neg, l_neg1, oI_e0, nI_e0, oI_nI, ne_eq, not_true_eq_false, not_false_eq_true, and_true, true_and, and_false, false_and, or_true, true_or, or_false, false_or, if_true, if_false, lit_0, lit_1, lit_2, lit_3, lit_4, lit_5, lit_6, lit_8, lit_9, lit_10, lit_12, lit_13, lit_21, lit_29, lit_30, lit_31, lit_37, lit_101, lit_120, lit_121, lit_127, lit_169, lit_64, lit_99, lit_999, lit_676, lit_845, lit_48, lit_57, lit_32, lit_59, x4]
    rfl
theorem m_drainNow (a : Int32) {σ : xM} {N : xN} (hw : s_wf N) (h : s_M (σ 142) N) (ok : 0 ≤ (sp_drains a N).1) : ∃ σ', F_X11_drainNow a σ = some ((sp_drains a N).1, σ') ∧ s_M (σ' 142) (sp_drains a N).2 ∧ m_fr σ σ' := by
  have b := hw.1
  have hS := hw.1.2.1
  have r7 := h.1 7 (by omega)
  unfold sp_drains at ok ⊢
  by_cases h1 : hsS a N
  case neg => rw [if_neg h1] at ok; exact absurd ok (by first | exact no2 | exact no3 | exact no4)
  rw [if_pos h1] at ok ⊢
  obtain ⟨x, hx, rfl⟩ := (hs_of (by omega)).mp h1
  rw [nI_clamp (by omega)] at ok ⊢
  by_cases h9 : N 9 x = 0
  case neg => rw [if_neg h9] at ok; exact absurd ok (by first | exact no2 | exact no3 | exact no4)
  rw [if_pos h9]
  have hq := q_lt hw hx (by omega)
  unfold F_X11_drainNow F_X11_putsState
  simp (disch := omega) only [Nat.add_zero, Nat.zero_add, Nat.zero_mul, Nat.mul_zero, mc8, mc3, nU_f, nU_k, nU_e, xbd_some, xgd_true, xlet_eq, g_in, nI_clamp, nI_leI, nI_ltI, nI_eq, nI_add, pk_mul, pk_sub, rd_e, rd_k, rd_c, i10, i01, xsm_l, xsm_r, if_pos, if_neg, l_neg1, oI_e0, nI_e0, oI_nI, ne_eq, not_true_eq_false, not_false_eq_true, and_true, true_and, and_false, false_and, or_true, true_or, or_false, false_or, if_true, if_false, lit_0, lit_1, lit_2, lit_3, lit_4, lit_5, lit_6, lit_8, lit_9, lit_10, lit_12, lit_13, lit_21, lit_29, lit_30, lit_31, lit_37, lit_101, lit_120, lit_121, lit_127, lit_169, lit_64, lit_99, lit_999, lit_676, lit_845, lit_48, lit_57, lit_32, lit_59, r7]
  refine ⟨_, rfl, ?_, mf_up (mf_up (mf_up (mf_rf σ) (by omega) _ _) (by omega) _ _) (by omega) _ _⟩
  have := m_gQ (bd_u (bd_u b (by omega)) (by omega)) (m_f1 (bd_u b (by omega)) (m_f9 b h (k := x) (v := 1) (by omega)) (k := N 0 7) (v := x) (by omega)) (by simp (disch := omega) only [Nat.add_zero, Nat.zero_add, Nat.zero_mul, Nat.mul_zero, mc8, mc3, nU_f, nU_k, nU_e, xbd_some, xgd_true, xlet_eq, g_in, nI_clamp, nI_leI, nI_ltI, nI_eq, nI_add, pk_mul, pk_sub, rd_e, rd_k, rd_c, i10, i01, xsm_l, xsm_r, if_pos, if_neg, l_neg1, oI_e0, nI_e0, oI_nI, ne_eq, not_true_eq_false, not_false_eq_true, and_true, true_and, and_false, false_and, or_true, true_or, or_false, false_or, if_true, if_false, lit_0, lit_1, lit_2, lit_3, lit_4, lit_5, lit_6, lit_8, lit_9, lit_10, lit_12, lit_13, lit_21, lit_29, lit_30, lit_31, lit_37, lit_101, lit_120, lit_121, lit_127, lit_169, lit_64, lit_99, lit_999, lit_676, lit_845, lit_48, lit_57, lit_32, lit_59]; omega) (by simp (disch := omega) only [Nat.add_zero, Nat.zero_add, Nat.zero_mul, Nat.mul_zero, mc8, mc3, nU_f, nU_k, nU_e, xbd_some, xgd_true, xlet_eq, g_in, nI_clamp, nI_leI, nI_ltI, nI_eq, nI_add, pk_mul, pk_sub, rd_e, rd_k, rd_c, i10, i01, xsm_l, xsm_r, if_pos, if_neg, l_neg1, oI_e0, nI_e0, oI_nI, ne_eq, not_true_eq_false, not_false_eq_true, and_true, true_and, and_false, false_and, or_true, true_or, or_false, false_or, if_true, if_false, lit_0, lit_1, lit_2, lit_3, lit_4, lit_5, lit_6, lit_8, lit_9, lit_10, lit_12, lit_13, lit_21, lit_29, lit_30, lit_31, lit_37, lit_101, lit_120, lit_121, lit_127, lit_169, lit_64, lit_99, lit_999, lit_676, lit_845, lit_48, lit_57, lit_32, lit_59])
  revert this
  unfold a_drain
  simp (disch := omega) only [Nat.add_zero, Nat.zero_add, Nat.zero_mul, Nat.mul_zero, mc8, mc3, nU_f, nU_k, nU_e, xbd_some, xgd_true, xlet_eq, g_in, nI_clamp, nI_leI, nI_ltI, nI_eq, nI_add, pk_mul, pk_sub, rd_e, rd_k, rd_c, i10, i01, xsm_l, xsm_r, if_pos, if_neg, l_neg1, oI_e0, nI_e0, oI_nI, ne_eq, not_true_eq_false, not_false_eq_true, and_true, true_and, and_false, false_and, or_true, true_or, or_false, false_or, if_true, if_false, lit_0, lit_1, lit_2, lit_3, lit_4, lit_5, lit_6, lit_8, lit_9, lit_10, lit_12, lit_13, lit_21, lit_29, lit_30, lit_31, lit_37, lit_101, lit_120, lit_121, lit_127, lit_169, lit_64, lit_99, lit_999, lit_676, lit_845, lit_48, lit_57, lit_32, lit_59]
  exact id
