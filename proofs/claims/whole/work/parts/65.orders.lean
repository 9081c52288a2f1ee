theorem sy_cg {N N' : xN} (h : N' 5 = N 5) (k : s_sy N) : s_sy N' := by
  intro a b ha hb
  rw [h]
  exact k a b ha hb
def okW (sp : xN → Int32 × xN) : Prop := ∀ N, s_wf N → s_sy N → s_wf (sp N).2 ∧ s_sy (sp N).2 ∧ (0 ≤ (sp N).1 ∨ (((sp N).1 = -2 ∨ (sp N).1 = -3 ∨ (sp N).1 = -4) ∧ (sp N).2 = N))
theorem ok_2 {N : xN} (hw : s_wf N) (hy : s_sy N) : s_wf ((-2 : Int32), N).2 ∧ s_sy ((-2 : Int32), N).2 ∧ (0 ≤ ((-2 : Int32), N).1 ∨ ((((-2 : Int32), N).1 = -2 ∨ ((-2 : Int32), N).1 = -3 ∨ ((-2 : Int32), N).1 = -4) ∧ ((-2 : Int32), N).2 = N)) := ⟨hw, hy, Or.inr ⟨Or.inl rfl, rfl⟩⟩
theorem ok_3 {N : xN} (hw : s_wf N) (hy : s_sy N) : s_wf ((-3 : Int32), N).2 ∧ s_sy ((-3 : Int32), N).2 ∧ (0 ≤ ((-3 : Int32), N).1 ∨ ((((-3 : Int32), N).1 = -2 ∨ ((-3 : Int32), N).1 = -3 ∨ ((-3 : Int32), N).1 = -4) ∧ ((-3 : Int32), N).2 = N)) := ⟨hw, hy, Or.inr ⟨Or.inr (Or.inl rfl), rfl⟩⟩
theorem ok_4 {N : xN} (hw : s_wf N) (hy : s_sy N) : s_wf ((-4 : Int32), N).2 ∧ s_sy ((-4 : Int32), N).2 ∧ (0 ≤ ((-4 : Int32), N).1 ∨ ((((-4 : Int32), N).1 = -2 ∨ ((-4 : Int32), N).1 = -3 ∨ ((-4 : Int32), N).1 = -4) ∧ ((-4 : Int32), N).2 = N)) := ⟨hw, hy, Or.inr ⟨Or.inr (Or.inr rfl), rfl⟩⟩
theorem ok_n {N M : xN} {k : Nat} (hk : k < 2 ^ 31) (hw : s_wf M) (hy : s_sy M) : s_wf (nI k, M).2 ∧ s_sy (nI k, M).2 ∧ (0 ≤ (nI k, M).1 ∨ (((nI k, M).1 = -2 ∨ (nI k, M).1 = -3 ∨ (nI k, M).1 = -4) ∧ (nI k, M).2 = N)) := ⟨hw, hy, Or.inl (nI_pos' hk)⟩
theorem w_area (w : Int32) : okW (sp_area w) := by
  intro N hw hy
  have hA := hw.1.1
  unfold sp_area
  by_cases h : 0 ≤ w ∧ w ≤ 99
  case neg => rw [if_neg h]; exact ok_2 hw hy
  rw [if_pos h]
  obtain ⟨k, hk, rfl⟩ := (rg_of (n := 99) rfl (by omega)).mp h
  by_cases h8 : N 0 0 < 8
  case neg => rw [if_neg h8]; exact ok_4 hw hy
  rw [if_pos h8, nI_clamp (by omega)]
  exact ok_n (by omega) (wf_area hw h8 hk) (sy_cg (by unfold a_area; simp (disch := omega) only [Nat.add_zero, Nat.zero_add, Nat.zero_mul, Nat.mul_zero, mc8, mc3, nU_f, nU_k, nU_e, xbd_some, xgd_true, xlet_eq, g_in, nI_clamp, nI_leI, nI_ltI, nI_eq, nI_add, pk_mul, pk_sub, rd_e, rd_k, rd_c, i10, i01, xsm_l, xsm_r, if_pos, if_neg, l_neg1, oI_e0, nI_e0, oI_nI, ne_eq, not_true_eq_false, not_false_eq_true, and_true, true_and, and_false, false_and, or_true, true_or, or_false, false_or, if_true, if_false, lit_0, lit_1, lit_2, lit_3, lit_4, lit_5, lit_6, lit_8, lit_9, lit_10, lit_12, lit_13, lit_21, lit_29, lit_30, lit_31, lit_37, lit_101, lit_120, lit_121, lit_127, lit_169, lit_64, lit_99, lit_999, lit_676, lit_845, lit_48, lit_57, lit_32, lit_59]) hy)
theorem w_wants (a w : Int32) : okW (sp_wants a w) := by
  intro N hw hy
  have hA := hw.1.1
  unfold sp_wants
  by_cases h1 : hsA a N
  case neg => rw [if_neg h1]; exact ok_2 hw hy
  rw [if_pos h1]
  by_cases h : 0 ≤ w ∧ w ≤ 99
  case neg => rw [if_neg h]; exact ok_2 hw hy
  rw [if_pos h]
  obtain ⟨x, hx, rfl⟩ := (hs_of (by omega)).mp h1
  obtain ⟨k, hk, rfl⟩ := (rg_of (n := 99) rfl (by omega)).mp h
  have := (hw.2.1 x hx).1
  rw [nI_clamp (by omega), nI_clamp (by omega)]
  exact ok_n (by omega) (wf_f2 hw hk) (sy_cg (by simp (disch := omega) only [Nat.add_zero, Nat.zero_add, Nat.zero_mul, Nat.mul_zero, mc8, mc3, nU_f, nU_k, nU_e, xbd_some, xgd_true, xlet_eq, g_in, nI_clamp, nI_leI, nI_ltI, nI_eq, nI_add, pk_mul, pk_sub, rd_e, rd_k, rd_c, i10, i01, xsm_l, xsm_r, if_pos, if_neg, l_neg1, oI_e0, nI_e0, oI_nI, ne_eq, not_true_eq_false, not_false_eq_true, and_true, true_and, and_false, false_and, or_true, true_or, or_false, false_or, if_true, if_false, lit_0, lit_1, lit_2, lit_3, lit_4, lit_5, lit_6, lit_8, lit_9, lit_10, lit_12, lit_13, lit_21, lit_29, lit_30, lit_31, lit_37, lit_101, lit_120, lit_121, lit_127, lit_169, lit_64, lit_99, lit_999, lit_676, lit_845, lit_48, lit_57, lit_32, lit_59]) hy)
theorem w_line (a b n : Int32) : okW (sp_line a b n) := by
  intro N hw hy
  have hA := hw.1.1
  unfold sp_line
  by_cases h1 : hsA a N
  case neg => rw [if_neg h1]; exact ok_2 hw hy
  rw [if_pos h1]
  by_cases h2 : hsA b N
  case neg => rw [if_neg h2]; exact ok_2 hw hy
  rw [if_pos h2]
  by_cases h3 : a = b
  · rw [if_pos h3]; exact ok_2 hw hy
  rw [if_neg h3]
  by_cases h : 0 ≤ n ∧ n ≤ 9
  case neg => rw [if_neg h]; exact ok_2 hw hy
  rw [if_pos h]
  obtain ⟨x, hx, rfl⟩ := (hs_of (by omega)).mp h1
  obtain ⟨y, hy2, rfl⟩ := (hs_of (by omega)).mp h2
  obtain ⟨k, hk, rfl⟩ := (rg_of (n := 9) rfl (by omega)).mp h
  have := hw.2.2.1 (8 * x + y) (by omega)
  rw [nI_clamp (by omega), nI_clamp (by omega), nI_clamp (by omega)]
  exact ok_n (by omega) (wf_line hw hx hy2 hk) (sy_line hy (by omega) (by omega))
theorem w_mood (a k : Int32) : okW (sp_mood a k) := by
  intro N hw hy
  have hA := hw.1.1
  unfold sp_mood
  by_cases h1 : hsA a N
  case neg => rw [if_neg h1]; exact ok_2 hw hy
  rw [if_pos h1]
  by_cases h : 0 ≤ k ∧ k ≤ 2
  case neg => rw [if_neg h]; exact ok_2 hw hy
  rw [if_pos h]
  obtain ⟨x, hx, rfl⟩ := (hs_of (by omega)).mp h1
  obtain ⟨v, hv, rfl⟩ := (rg_of (n := 2) rfl (by omega)).mp h
  have := (hw.2.1 x hx).2.1
  rw [nI_clamp (by omega), nI_clamp (by omega)]
  refine ok_n (by omega) (wf_mood hw hx hv) (sy_cg ?_ hy)
  unfold a_mood
  split
  · simp (disch := omega) only [Nat.add_zero, Nat.zero_add, Nat.zero_mul, Nat.mul_zero, mc8, mc3, nU_f, nU_k, nU_e, xbd_some, xgd_true, xlet_eq, g_in, nI_clamp, nI_leI, nI_ltI, nI_eq, nI_add, pk_mul, pk_sub, rd_e, rd_k, rd_c, i10, i01, xsm_l, xsm_r, if_pos, if_neg, l_neg1, oI_e0, nI_e0, oI_nI, ne_eq, not_true_eq_false, not_false_eq_true, and_true, true_and, and_false, false_and, or_true, true_or, or_false, false_or, if_true, if_false, lit_0, lit_1, lit_2, lit_3, lit_4, lit_5, lit_6, lit_8, lit_9, lit_10, lit_12, lit_13, lit_21, lit_29, lit_30, lit_31, lit_37, lit_101, lit_120, lit_121, lit_127, lit_169, lit_64, lit_99, lit_999, lit_676, lit_845, lit_48, lit_57, lit_32, lit_59]
  · simp (disch := omega) only [Nat.add_zero, Nat.zero_add, Nat.zero_mul, Nat.mul_zero, mc8, mc3, nU_f, nU_k, nU_e, xbd_some, xgd_true, xlet_eq, g_in, nI_clamp, nI_leI, nI_ltI, nI_eq, nI_add, pk_mul, pk_sub, rd_e, rd_k, rd_c, i10, i01, xsm_l, xsm_r, if_pos, if_neg, l_neg1, oI_e0, nI_e0, oI_nI, ne_eq, not_true_eq_false, not_false_eq_true, and_true, true_and, and_false, false_and, or_true, true_or, or_false, false_or, if_true, if_false, lit_0, lit_1, lit_2, lit_3, lit_4, lit_5, lit_6, lit_8, lit_9, lit_10, lit_12, lit_13, lit_21, lit_29, lit_30, lit_31, lit_37, lit_101, lit_120, lit_121, lit_127, lit_169, lit_64, lit_99, lit_999, lit_676, lit_845, lit_48, lit_57, lit_32, lit_59]
theorem w_site (a r : Int32) : okW (sp_site a r) := by
  intro N hw hy
  have hA := hw.1.1
  unfold sp_site
  by_cases h1 : hsA a N
  case neg => rw [if_neg h1]; exact ok_2 hw hy
  rw [if_pos h1]
  by_cases h : 0 ≤ r ∧ r ≤ 999
  case neg => rw [if_neg h]; exact ok_2 hw hy
  rw [if_pos h]
  by_cases h5 : N 0 1 < 5
  case neg => rw [if_neg h5]; exact ok_4 hw hy
  rw [if_pos h5]
  obtain ⟨x, hx, rfl⟩ := (hs_of (by omega)).mp h1
  obtain ⟨v, hv, rfl⟩ := (rg_of (n := 999) rfl (by omega)).mp h
  rw [nI_clamp (by omega), nI_clamp (by omega)]
  exact ok_n (by omega) (wf_site hw h5 hx hv) (sy_cg (by unfold a_site; simp (disch := omega) only [Nat.add_zero, Nat.zero_add, Nat.zero_mul, Nat.mul_zero, mc8, mc3, nU_f, nU_k, nU_e, xbd_some, xgd_true, xlet_eq, g_in, nI_clamp, nI_leI, nI_ltI, nI_eq, nI_add, pk_mul, pk_sub, rd_e, rd_k, rd_c, i10, i01, xsm_l, xsm_r, if_pos, if_neg, l_neg1, oI_e0, nI_e0, oI_nI, ne_eq, not_true_eq_false, not_false_eq_true, and_true, true_and, and_false, false_and, or_true, true_or, or_false, false_or, if_true, if_false, lit_0, lit_1, lit_2, lit_3, lit_4, lit_5, lit_6, lit_8, lit_9, lit_10, lit_12, lit_13, lit_21, lit_29, lit_30, lit_31, lit_37, lit_101, lit_120, lit_121, lit_127, lit_169, lit_64, lit_99, lit_999, lit_676, lit_845, lit_48, lit_57, lit_32, lit_59]) hy)
theorem w_rooms (a r : Int32) : okW (sp_rooms a r) := by
  intro N hw hy
  have hS := hw.1.2.1
  unfold sp_rooms
  by_cases h1 : hsS a N
  case neg => rw [if_neg h1]; exact ok_2 hw hy
  rw [if_pos h1]
  by_cases h : 0 ≤ r ∧ r ≤ 999
  case neg => rw [if_neg h]; exact ok_2 hw hy
  rw [if_pos h]
  obtain ⟨x, hx, rfl⟩ := (hs_of (by omega)).mp h1
  obtain ⟨v, hv, rfl⟩ := (rg_of (n := 999) rfl (by omega)).mp h
  have := (hw.2.2.2.2.1 x hx).2.1
  rw [nI_clamp (by omega), nI_clamp (by omega)]
  exact ok_n (by omega) (wf_f7 hw hv) (sy_cg (by simp (disch := omega) only [Nat.add_zero, Nat.zero_add, Nat.zero_mul, Nat.mul_zero, mc8, mc3, nU_f, nU_k, nU_e, xbd_some, xgd_true, xlet_eq, g_in, nI_clamp, nI_leI, nI_ltI, nI_eq, nI_add, pk_mul, pk_sub, rd_e, rd_k, rd_c, i10, i01, xsm_l, xsm_r, if_pos, if_neg, l_neg1, oI_e0, nI_e0, oI_nI, ne_eq, not_true_eq_false, not_false_eq_true, and_true, true_and, and_false, false_and, or_true, true_or, or_false, false_or, if_true, if_false, lit_0, lit_1, lit_2, lit_3, lit_4, lit_5, lit_6, lit_8, lit_9, lit_10, lit_12, lit_13, lit_21, lit_29, lit_30, lit_31, lit_37, lit_101, lit_120, lit_121, lit_127, lit_169, lit_64, lit_99, lit_999, lit_676, lit_845, lit_48, lit_57, lit_32, lit_59]) hy)
theorem w_steps (a r : Int32) : okW (sp_steps a r) := by
  intro N hw hy
  have hS := hw.1.2.1
  unfold sp_steps
  by_cases h1 : hsS a N
  case neg => rw [if_neg h1]; exact ok_2 hw hy
  rw [if_pos h1]
  by_cases h : 0 ≤ r ∧ r ≤ 4
  case neg => rw [if_neg h]; exact ok_2 hw hy
  rw [if_pos h]
  obtain ⟨x, hx, rfl⟩ := (hs_of (by omega)).mp h1
  obtain ⟨v, hv, rfl⟩ := (rg_of (n := 4) rfl (by omega)).mp h
  have := (hw.2.2.2.2.1 x hx).2.2.1
  rw [nI_clamp (by omega), nI_clamp (by omega)]
  by_cases h9 : N 9 x = 0
  case neg => rw [if_neg h9]; exact ok_3 hw hy
  rw [if_pos h9]
  exact ok_n (by omega) (wf_f8 hw hv) (sy_cg (by simp (disch := omega) only [Nat.add_zero, Nat.zero_add, Nat.zero_mul, Nat.mul_zero, mc8, mc3, nU_f, nU_k, nU_e, xbd_some, xgd_true, xlet_eq, g_in, nI_clamp, nI_leI, nI_ltI, nI_eq, nI_add, pk_mul, pk_sub, rd_e, rd_k, rd_c, i10, i01, xsm_l, xsm_r, if_pos, if_neg, l_neg1, oI_e0, nI_e0, oI_nI, ne_eq, not_true_eq_false, not_false_eq_true, and_true, true_and, and_false, false_and, or_true, true_or, or_false, false_or, if_true, if_false, lit_0, lit_1, lit_2, lit_3, lit_4, lit_5, lit_6, lit_8, lit_9, lit_10, lit_12, lit_13, lit_21, lit_29, lit_30, lit_31, lit_37, lit_101, lit_120, lit_121, lit_127, lit_169, lit_64, lit_99, lit_999, lit_676, lit_845, lit_48, lit_57, lit_32, lit_59]) hy)
theorem w_drains (a : Int32) : okW (sp_drains a) := by
  intro N hw hy
  have hS := hw.1.2.1
  have hQ := hw.1.2.2.2
  unfold sp_drains
  by_cases h1 : hsS a N
  case neg => rw [if_neg h1]; exact ok_2 hw hy
  rw [if_pos h1]
  obtain ⟨x, hx, rfl⟩ := (hs_of (by omega)).mp h1
  rw [nI_clamp (by omega)]
  by_cases h9 : N 9 x = 0
  case neg => rw [if_neg h9]; exact ok_3 hw hy
  rw [if_pos h9]
  exact ok_n (by omega) (wf_drain hw hx h9) (sy_cg (by unfold a_drain; simp (disch := omega) only [Nat.add_zero, Nat.zero_add, Nat.zero_mul, Nat.mul_zero, mc8, mc3, nU_f, nU_k, nU_e, xbd_some, xgd_true, xlet_eq, g_in, nI_clamp, nI_leI, nI_ltI, nI_eq, nI_add, pk_mul, pk_sub, rd_e, rd_k, rd_c, i10, i01, xsm_l, xsm_r, if_pos, if_neg, l_neg1, oI_e0, nI_e0, oI_nI, ne_eq, not_true_eq_false, not_false_eq_true, and_true, true_and, and_false, false_and, or_true, true_or, or_false, false_or, if_true, if_false, lit_0, lit_1, lit_2, lit_3, lit_4, lit_5, lit_6, lit_8, lit_9, lit_10, lit_12, lit_13, lit_21, lit_29, lit_30, lit_31, lit_37, lit_101, lit_120, lit_121, lit_127, lit_169, lit_64, lit_99, lit_999, lit_676, lit_845, lit_48, lit_57, lit_32, lit_59]) hy)
theorem w_cuts (a : Int32) : okW (sp_cuts a) := by
  intro N hw hy
  have hS := hw.1.2.1
  unfold sp_cuts
  by_cases h1 : hsS a N
  case neg => rw [if_neg h1]; exact ok_2 hw hy
  rw [if_pos h1]
  obtain ⟨x, hx, rfl⟩ := (hs_of (by omega)).mp h1
  rw [nI_clamp (by omega)]
  by_cases h9 : N 9 x = 2
  · rw [if_pos h9]
    exact ok_n (by omega) (wf_on hw hx h9) (sy_cg (by unfold a_on; simp (disch := omega) only [Nat.add_zero, Nat.zero_add, Nat.zero_mul, Nat.mul_zero, mc8, mc3, nU_f, nU_k, nU_e, xbd_some, xgd_true, xlet_eq, g_in, nI_clamp, nI_leI, nI_ltI, nI_eq, nI_add, pk_mul, pk_sub, rd_e, rd_k, rd_c, i10, i01, xsm_l, xsm_r, if_pos, if_neg, l_neg1, oI_e0, nI_e0, oI_nI, ne_eq, not_true_eq_false, not_false_eq_true, and_true, true_and, and_false, false_and, or_true, true_or, or_false, false_or, if_true, if_false, lit_0, lit_1, lit_2, lit_3, lit_4, lit_5, lit_6, lit_8, lit_9, lit_10, lit_12, lit_13, lit_21, lit_29, lit_30, lit_31, lit_37, lit_101, lit_120, lit_121, lit_127, lit_169, lit_64, lit_99, lit_999, lit_676, lit_845, lit_48, lit_57, lit_32, lit_59]) hy)
  · rw [if_neg h9]
    exact ok_n (by omega) (wf_off hw hx) (sy_cg (off_f (by omega) (by omega) (by omega) (by omega)) hy)
theorem w_opens (a w n : Int32) : okW (sp_opens a w n) := by
  intro N hw hy
  have hA := hw.1.1
  unfold sp_opens
  by_cases h1 : hsA a N
  case neg => rw [if_neg h1]; exact ok_2 hw hy
  rw [if_pos h1]
  by_cases h2 : 1 ≤ w ∧ w ≤ 9
  case neg => rw [if_neg h2]; exact ok_2 hw hy
  rw [if_pos h2]
  by_cases h3 : 1 ≤ n ∧ n ≤ 30
  case neg => rw [if_neg h3]; exact ok_2 hw hy
  rw [if_pos h3]
  obtain ⟨x, hx, rfl⟩ := (hs_of (by omega)).mp h1
  obtain ⟨v, hv1, hv, rfl⟩ := (rg1_of (n := 9) rfl (by omega)).mp h2
  obtain ⟨z, hz1, hz, rfl⟩ := (rg1_of (n := 30) rfl (by omega)).mp h3
  rw [nI_clamp (by omega), nI_clamp (by omega), nI_clamp (by omega)]
  have hc := s_ct_lt hw (u := s_up N) (st := N 8) hx
  by_cases hc0 : s_ct N (s_up N) (N 8) x = 0
  · rw [if_pos hc0]; exact ok_3 hw hy
  rw [if_neg hc0]
  by_cases h12 : N 0 2 < 12
  case neg => rw [if_neg h12]; exact ok_4 hw hy
  rw [if_pos h12]
  exact ok_n (by omega) (wf_open hw h12 hx (by omega) ⟨hv1, hv⟩ ⟨hz1, hz⟩) (sy_cg (by unfold a_open; simp (disch := omega) only [Nat.add_zero, Nat.zero_add, Nat.zero_mul, Nat.mul_zero, mc8, mc3, nU_f, nU_k, nU_e, xbd_some, xgd_true, xlet_eq, g_in, nI_clamp, nI_leI, nI_ltI, nI_eq, nI_add, pk_mul, pk_sub, rd_e, rd_k, rd_c, i10, i01, xsm_l, xsm_r, if_pos, if_neg, l_neg1, oI_e0, nI_e0, oI_nI, ne_eq, not_true_eq_false, not_false_eq_true, and_true, true_and, and_false, false_and, or_true, true_or, or_false, false_or, if_true, if_false, lit_0, lit_1, lit_2, lit_3, lit_4, lit_5, lit_6, lit_8, lit_9, lit_10, lit_12, lit_13, lit_21, lit_29, lit_30, lit_31, lit_37, lit_101, lit_120, lit_121, lit_127, lit_169, lit_64, lit_99, lit_999, lit_676, lit_845, lit_48, lit_57, lit_32, lit_59]) hy)
theorem w_ends (a : Int32) : okW (sp_ends a) := by
  intro N hw hy
  have hT := hw.1.2.2.1
  unfold sp_ends
  by_cases h1 : hsT a N
  case neg => rw [if_neg h1]; exact ok_2 hw hy
  rw [if_pos h1]
  obtain ⟨x, hx, rfl⟩ := (hs_of (by omega)).mp h1
  rw [nI_clamp (by omega)]
  exact ok_n (by omega) (wf_end hw hx) (sy_cg (by unfold a_end a_rem; simp (disch := omega) only [Nat.add_zero, Nat.zero_add, Nat.zero_mul, Nat.mul_zero, mc8, mc3, nU_f, nU_k, nU_e, xbd_some, xgd_true, xlet_eq, g_in, nI_clamp, nI_leI, nI_ltI, nI_eq, nI_add, pk_mul, pk_sub, rd_e, rd_k, rd_c, i10, i01, xsm_l, xsm_r, if_pos, if_neg, l_neg1, oI_e0, nI_e0, oI_nI, ne_eq, not_true_eq_false, not_false_eq_true, and_true, true_and, and_false, false_and, or_true, true_or, or_false, false_or, if_true, if_false, lit_0, lit_1, lit_2, lit_3, lit_4, lit_5, lit_6, lit_8, lit_9, lit_10, lit_12, lit_13, lit_21, lit_29, lit_30, lit_31, lit_37, lit_101, lit_120, lit_121, lit_127, lit_169, lit_64, lit_99, lit_999, lit_676, lit_845, lit_48, lit_57, lit_32, lit_59, shT_f]) hy)
theorem tick_5 {N : xN} : a_tick N 5 = N 5 := by
  unfold a_tick
  simp (disch := omega) only [Nat.add_zero, Nat.zero_add, Nat.zero_mul, Nat.mul_zero, mc8, mc3, nU_f, nU_k, nU_e, xbd_some, xgd_true, xlet_eq, g_in, nI_clamp, nI_leI, nI_ltI, nI_eq, nI_add, pk_mul, pk_sub, rd_e, rd_k, rd_c, i10, i01, xsm_l, xsm_r, if_pos, if_neg, l_neg1, oI_e0, nI_e0, oI_nI, ne_eq, not_true_eq_false, not_false_eq_true, and_true, true_and, and_false, false_and, or_true, true_or, or_false, false_or, if_true, if_false, lit_0, lit_1, lit_2, lit_3, lit_4, lit_5, lit_6, lit_8, lit_9, lit_10, lit_12, lit_13, lit_21, lit_29, lit_30, lit_31, lit_37, lit_101, lit_120, lit_121, lit_127, lit_169, lit_64, lit_99, lit_999, lit_676, lit_845, lit_48, lit_57, lit_32, lit_59]
  unfold a_lst
  rw [lk_f (by omega), dr_f5, age_5]
theorem ticks_5 {N : xN} : ∀ n, a_ticks N n 5 = N 5
  | 0 => rfl
  | n + 1 => by
    show a_tick (a_ticks N n) 5 = _
    rw [tick_5, ticks_5 n]
theorem w_ticks (n : Int32) : okW (sp_ticks n) := by
  intro N hw hy
  have hT := hw.1.2.2.1
  unfold sp_ticks
  by_cases h1 : 1 ≤ n ∧ n ≤ 30
  case neg => rw [if_neg h1]; exact ok_2 hw hy
  rw [if_pos h1]
  obtain ⟨m, hm1, hm, rfl⟩ := (rg1_of (n := 30) rfl (by omega)).mp h1
  have := ticks_e (N := N) m
  rw [nI_clamp (by omega)]
  exact ok_n (by omega) (wf_ticks hw m) (sy_cg (ticks_5 m) hy)
def sp_ord (c : Nat) (x y z : Int32) (N : xN) : Int32 × xN := if c = 97 then sp_area x N else if c = 100 then sp_drains x N else if c = 108 then sp_line x y z N else if c = 109 then sp_mood x y N else if c = 111 then sp_opens x y z N else if c = 112 then sp_steps x y N else if c = 115 then sp_site x y N else if c = 116 then sp_ticks x N else sp_cuts x N
theorem nb_c {c : Nat} (h : nb c ≠ 0) : c = 97 ∨ c = 100 ∨ c = 108 ∨ c = 109 ∨ c = 111 ∨ c = 112 ∨ c = 115 ∨ c = 116 ∨ c = 120 := by
  unfold nb at h
  repeat' (split at h)
  all_goals omega
theorem w_ord (c : Nat) (x y z : Int32) : okW (sp_ord c x y z) := by
  intro N hw hy
  unfold sp_ord
  repeat' split
  · exact w_area x N hw hy
  · exact w_drains x N hw hy
  · exact w_line x y z N hw hy
  · exact w_mood x y N hw hy
  · exact w_opens x y z N hw hy
  · exact w_steps x y N hw hy
  · exact w_site x y N hw hy
  · exact w_ticks x N hw hy
  · exact w_cuts x N hw hy
theorem ord_cg {c : Nat} {x y z y' z' : Int32} {N : xN} (h : nb c ≠ 0) (h2 : 2 ≤ nb c → y = y') (h3 : 3 ≤ nb c → z = z') : sp_ord c x y z N = sp_ord c x y' z' N := by
  rcases nb_c h with rfl | rfl | rfl | rfl | rfl | rfl | rfl | rfl | rfl
  · simp [sp_ord]
  · simp [sp_ord]
  · rw [h2 (by decide), h3 (by decide)]
  · rw [h2 (by decide)]; simp [sp_ord]
  · rw [h2 (by decide), h3 (by decide)]
  · rw [h2 (by decide)]; simp [sp_ord]
  · rw [h2 (by decide)]; simp [sp_ord]
  · simp [sp_ord]
  · simp [sp_ord]
theorem c_carry {σ : xM} {N : xN} {c : Nat} (x y z : Int32) (hn : nb c ≠ 0) (hw : s_wf N) (hC : s_C σ 1 N) : ∃ σ', F_X0_carryOut (nI c) x y z σ = some ((sp_ord c x y z N).1, σ') ∧ s_C σ' 1 (sp_ord c x y z N).2 ∧ s_fr σ σ' := by
  rcases nb_c hn with rfl | rfl | rfl | rfl | rfl | rfl | rfl | rfl | rfl
  · obtain ⟨σ', g1, g2⟩ := c_area x hw hC
    refine ⟨σ', ?_, g2⟩
    show xbd (F_X0_addArea x σ) _ = _
    rw [xbd_s g1]
    rfl
  · obtain ⟨σ', g1, g2⟩ := c_drains x hw hC
    refine ⟨σ', ?_, g2⟩
    show xbd (F_X0_startDrain x σ) _ = _
    rw [xbd_s g1]
    rfl
  · obtain ⟨σ', g1, g2⟩ := c_line x y z hw hC
    refine ⟨σ', ?_, g2⟩
    show xbd (F_X0_setLine x y z σ) _ = _
    rw [xbd_s g1]
    rfl
  · obtain ⟨σ', g1, g2⟩ := c_mood x y hw hC
    refine ⟨σ', ?_, g2⟩
    show xbd (F_X0_setMood x y σ) _ = _
    rw [xbd_s g1]
    rfl
  · obtain ⟨σ', g1, g2⟩ := c_opens x y z hw hC
    refine ⟨σ', ?_, g2⟩
    show xbd (F_X0_openSession x y z σ) _ = _
    rw [xbd_s g1]
    rfl
  · obtain ⟨σ', g1, g2⟩ := c_steps x y hw hC
    refine ⟨σ', ?_, g2⟩
    show xbd (F_X0_setStep x y σ) _ = _
    rw [xbd_s g1]
    rfl
  · obtain ⟨σ', g1, g2⟩ := c_site x y hw hC
    refine ⟨σ', ?_, g2⟩
    show xbd (F_X0_addSite x y σ) _ = _
    rw [xbd_s g1]
    rfl
  · obtain ⟨σ', g1, g2⟩ := c_ticks x hw hC
    refine ⟨σ', ?_, g2⟩
    show xbd (F_X0_passTicks x σ) _ = _
    rw [xbd_s g1]
    rfl
  · obtain ⟨σ', g1, g2⟩ := c_cuts x hw hC
    refine ⟨σ', ?_, g2⟩
    show xbd (F_X0_switchSite x σ) _ = _
    rw [xbd_s g1]
    rfl
theorem m_can {σ : xM} {N : xN} {c : Nat} (hn : nb c ≠ 0) (hw : s_wf N) (hy : s_sy N) (h : s_M (σ 142) N) : ∃ τ, F_X11_can (nI c) σ = some (er (sp_ord c (σ 154 0) (σ 154 1) (σ 154 2) N).1, τ) ∧ s_M (τ 142) N ∧ m_fr σ τ := by
  have hS := hw.1.2.1
  have r1 := h.1 1 (by omega)
  rcases nb_c hn with rfl | rfl | rfl | rfl | rfl | rfl | rfl | rfl | rfl
  · refine ⟨σ, ?_, h, mf_rf σ⟩
    show xbd (F_X11_canArea (σ 154 0) σ) _ = _
    rw [xbd_s (m_canArea _ hw h)]
    rfl
  · refine ⟨σ, ?_, h, mf_rf σ⟩
    show xbd (F_X11_canDrain (σ 154 0) σ) _ = _
    rw [xbd_s (m_canDrain _ hw h)]
    rfl
  · refine ⟨σ, ?_, h, mf_rf σ⟩
    show xbd (F_X11_canLine (σ 154 0) (σ 154 1) (σ 154 2) σ) _ = _
    rw [xbd_s (m_canLine _ _ _ hw h)]
    rfl
  · refine ⟨σ, ?_, h, mf_rf σ⟩
    show xbd (F_X11_canMood (σ 154 0) (σ 154 1) σ) _ = _
    rw [xbd_s (m_canMood _ _ hw h)]
    rfl
  · obtain ⟨τ, g1, g2, g3⟩ := m_canOpen (σ 154 0) (σ 154 1) (σ 154 2) hw h
    refine ⟨τ, ?_, g2, g3⟩
    show xbd (F_X11_canOpen (σ 154 0) (σ 154 1) (σ 154 2) σ) _ = _
    rw [xbd_s g1]
    rfl
  · refine ⟨σ, ?_, h, mf_rf σ⟩
    show xbd (F_X11_canStep (σ 154 0) (σ 154 1) σ) _ = _
    rw [xbd_s (m_canStep _ _ hw h)]
    rfl
  · refine ⟨σ, ?_, h, mf_rf σ⟩
    show xbd (F_X11_canSite (σ 154 0) (σ 154 1) σ) _ = _
    rw [xbd_s (m_canSite _ _ hw h)]
    rfl
  · refine ⟨σ, ?_, h, mf_rf σ⟩
    show xbd (F_X11_in ((σ 154 0).toInt64) 1 30 σ) _ = some (er (sp_ticks (σ 154 0) N).1, σ)
    have hk := w_ticks (σ 154 0) N hw hy
    by_cases h1 : 1 ≤ σ 154 0 ∧ σ 154 0 ≤ 30
    · rw [xbd_s (it_1_30 h1 σ), if_neg one0]
      unfold sp_ticks at hk ⊢
      rw [if_pos h1] at hk ⊢
      obtain ⟨m, hm1, hm, e⟩ := (rg1_of (n := 30) rfl (by omega)).mp h1
      rw [e, nI_clamp (by omega)]
      have := ticks_e (N := N) m
      have := hw.1.2.2.1
      rw [er_n (by omega)]
    · rw [xbd_s (if_1_30 h1 σ), if_pos rfl]
      unfold sp_ticks
      rw [if_neg h1]
      rfl
  · refine ⟨σ, ?_, h, mf_rf σ⟩
    show xbd (F_X11_isSite (σ 154 0) σ) _ = some (er (sp_cuts (σ 154 0) N).1, σ)
    by_cases h1 : hsS (σ 154 0) N
    · rw [xbd_s (iS_t r1 h1), if_neg one0]
      unfold sp_cuts
      rw [if_pos h1]
      split <;> rfl
    · rw [xbd_s (iS_f r1 h1), if_pos rfl]
      unfold sp_cuts
      rw [if_neg h1]
      rfl
theorem m_does {σ : xM} {N : xN} {c : Nat} (hn : nb c ≠ 0) (hw : s_wf N) (h : s_M (σ 142) N) (ok : 0 ≤ (sp_ord c (σ 154 0) (σ 154 1) (σ 154 2) N).1) : ∃ τ, F_X11_does (nI c) σ = some ((sp_ord c (σ 154 0) (σ 154 1) (σ 154 2) N).1, τ) ∧ s_M (τ 142) (sp_ord c (σ 154 0) (σ 154 1) (σ 154 2) N).2 ∧ m_fr σ τ := by
  rcases nb_c hn with rfl | rfl | rfl | rfl | rfl | rfl | rfl | rfl | rfl
  · obtain ⟨τ, g1, g2⟩ := m_areaNow _ hw h ok
    refine ⟨τ, ?_, g2⟩
    show xbd (F_X11_areaNow (σ 154 0) σ) _ = _
    rw [xbd_s g1]
    rfl
  · obtain ⟨τ, g1, g2⟩ := m_drainNow _ hw h ok
    refine ⟨τ, ?_, g2⟩
    show xbd (F_X11_drainNow (σ 154 0) σ) _ = _
    rw [xbd_s g1]
    rfl
  · obtain ⟨τ, g1, g2⟩ := m_lineNow _ _ _ hw h ok
    refine ⟨τ, ?_, g2⟩
    show xbd (F_X11_lineNow (σ 154 0) (σ 154 1) (σ 154 2) σ) _ = _
    rw [xbd_s g1]
    rfl
  · obtain ⟨τ, g1, g2⟩ := m_moodNow _ _ hw h ok
    refine ⟨τ, ?_, g2⟩
    show xbd (F_X11_moodNow (σ 154 0) (σ 154 1) σ) _ = _
    rw [xbd_s g1]
    rfl
  · obtain ⟨τ, g1, g2⟩ := m_openNow _ _ _ hw h ok
    refine ⟨τ, ?_, g2⟩
    show xbd (F_X11_openNow (σ 154 0) (σ 154 1) (σ 154 2) σ) _ = _
    rw [xbd_s g1]
    rfl
  · obtain ⟨τ, g1, g2⟩ := m_stepNow _ _ hw h ok
    refine ⟨τ, ?_, g2⟩
    show xbd (F_X11_stepNow (σ 154 0) (σ 154 1) σ) _ = _
    rw [xbd_s g1]
    rfl
  · obtain ⟨τ, g1, g2⟩ := m_siteNow _ _ hw h ok
    refine ⟨τ, ?_, g2⟩
    show xbd (F_X11_siteNow (σ 154 0) (σ 154 1) σ) _ = _
    rw [xbd_s g1]
    rfl
  · obtain ⟨τ, g1, g2⟩ := m_tickNow _ hw h ok
    refine ⟨τ, ?_, g2⟩
    show xbd (F_X11_tickNow (σ 154 0) σ) _ = _
    rw [xbd_s g1]
    rfl
  · obtain ⟨τ, g1, g2⟩ := m_cutNow _ hw h ok
    refine ⟨τ, ?_, g2⟩
    show xbd (F_X11_cutNow (σ 154 0) σ) _ = _
    rw [xbd_s g1]
    rfl
