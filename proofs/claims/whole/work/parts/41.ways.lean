theorem md8 (k : Nat) : k - 8 * (k / 8) = k % 8 := by omega
theorem md6 (k : Nat) : k - 6 * (k / 6) = k % 6 := by omega
theorem md10 (k : Nat) : k - 10 * (k / 10) = k % 10 := by omega
theorem md5 (k : Nat) : k - 5 * (k / 5) = k % 5 := by omega
theorem mc6 (a : Nat) : a * 6 = 6 * a := Nat.mul_comm a 6
theorem mc10 (a : Nat) : a * 10 = 10 * a := Nat.mul_comm a 10
theorem mc5 (a : Nat) : a * 5 = 5 * a := Nat.mul_comm a 5
def fwk (N : xN) (m j k : Nat) : Nat := if k < j then s_fw N (m + 1) (k / 8) (k % 8) else s_fw N m (k / 8) (k % 8)
theorem fwk_am {N : xN} {m j k : Nat} (h : k % 8 = m) : fwk N m j k = s_fw N m (k / 8) m := by
  unfold fwk
  rw [h]
  split
  · exact s_fs_col (s_fw_diag N m m) _
  · rfl
theorem fwk_mb {N : xN} {m j k : Nat} (h : k / 8 = m) : fwk N m j k = s_fw N m m (k % 8) := by
  unfold fwk
  rw [h]
  split
  · exact s_fs_row (s_fw_diag N m m) _
  · rfl
def e146 (σ τ : xM) : Prop := ∀ c, c ≠ 146 → τ c = σ c
theorem m_lw2 {σ : xM} {N : xN} (h5 : ∀ j, j < 64 → N 5 j ≤ 9) (r : ∀ j, j < 64 → σ 142 (37 + j) = nI (N 5 j)) : ∃ τ, L_X11_laysWays_2 0 σ = some τ ∧ e146 σ τ ∧ ∀ k, k < 64 → τ 146 k = oI (s_d0 N (k / 8) (k % 8)) := by
  unfold L_X11_laysWays_2
  refine xloop_for (f := fun x : Int32 × xM => B_X11_laysWays_2 x.1 x.2) (fun j x => x.1 = nI j ∧ e146 σ x.2 ∧ ∀ k, k < j → x.2 146 k = oI (s_d0 N (k / 8) (k % 8))) (fun τ => e146 σ τ ∧ ∀ k, k < 64 → τ 146 k = oI (s_d0 N (k / 8) (k % 8))) 64 ?_ ?_ 6000 0 (0, σ) (by omega) (by omega) ⟨rfl, fun _ _ => rfl, fun k hk => absurd hk (by omega)⟩
  · intro j ⟨v, τ⟩ hj ⟨h1, h2, h3⟩
    dsimp only at h1 h2 h3 ⊢
    subst h1
    left
    have b5 := h5 j hj
    have r1 : τ 142 (37 + j) = nI (N 5 j) := by rw [h2 142 (by omega), r j hj]
    have hd : s_d0 N (j / 8) (j % 8) = if j / 8 = j % 8 then 1 else if N 5 j = 0 then 0 else N 5 j + 1 := by
      unfold s_d0
      rw [show 8 * (j / 8) + j % 8 = j by omega]
    have fin : ∀ v, oI (s_d0 N (j / 8) (j % 8)) = v → e146 σ (xup τ 146 j v) ∧ ∀ k, k < j + 1 → xup τ 146 j v 146 k = oI (s_d0 N (k / 8) (k % 8)) := by
      intro v hv
      refine ⟨fun c hc => by rw [rd_c hc]; exact h2 c hc, fun k hk => ?_⟩
      by_cases e : k = j
      · rw [rd_e e, e, hv]
      · rw [rd_k e]
        exact h3 k (by omega)
    unfold B_X11_laysWays_2
    by_cases e1 : j / 8 = j % 8
    · rw [if_pos e1] at hd
      simp (disch := omega) only [Nat.add_zero, Nat.zero_add, Nat.zero_mul, Nat.mul_zero, mc8, mc3, nU_f, nU_k, nU_e, xbd_some, xgd_true, xlet_eq, g_in, nI_clamp, nI_leI, nI_ltI, nI_eq, nI_add, pk_mul, pk_sub, rd_e, rd_k, rd_c, i10, i01, xsm_l, xsm_r, if_pos, if_neg, l_neg1, oI_e0, nI_e0, oI_nI, ne_eq, not_true_eq_false, not_false_eq_true, and_true, true_and, and_false, false_and, or_true, true_or, or_false, false_or, if_true, if_false, lit_0, lit_1, lit_2, lit_3, lit_4, lit_5, lit_6, lit_8, lit_9, lit_10, lit_12, lit_13, lit_21, lit_29, lit_30, lit_31, lit_37, lit_101, lit_120, lit_121, lit_127, lit_169, lit_64, lit_99, lit_999, lit_676, lit_845, lit_48, lit_57, lit_32, lit_59, pk_div, md8, r1]
      exact ⟨_, rfl, rfl, fin _ (by rw [hd]; rfl)⟩
    · rw [if_neg e1] at hd
      by_cases e2 : N 5 j = 0
      · rw [if_pos e2] at hd
        simp (disch := omega) only [Nat.add_zero, Nat.zero_add, Nat.zero_mul, Nat.mul_zero, mc8, mc3, nU_f, nU_k, nU_e, xbd_some, xgd_true, xlet_eq, g_in, nI_clamp, nI_leI, nI_ltI, nI_eq, nI_add, pk_mul, pk_sub, rd_e, rd_k, rd_c, i10, i01, xsm_l, xsm_r, if_pos, if_neg, l_neg1, oI_e0, nI_e0, oI_nI, ne_eq, not_true_eq_false, not_false_eq_true, and_true, true_and, and_false, false_and, or_true, true_or, or_false, false_or, if_true, if_false, lit_0, lit_1, lit_2, lit_3, lit_4, lit_5, lit_6, lit_8, lit_9, lit_10, lit_12, lit_13, lit_21, lit_29, lit_30, lit_31, lit_37, lit_101, lit_120, lit_121, lit_127, lit_169, lit_64, lit_99, lit_999, lit_676, lit_845, lit_48, lit_57, lit_32, lit_59, pk_div, md8, r1]
        exact ⟨_, rfl, rfl, fin _ (by rw [hd])⟩
      · rw [if_neg e2] at hd
        simp (disch := omega) only [Nat.add_zero, Nat.zero_add, Nat.zero_mul, Nat.mul_zero, mc8, mc3, nU_f, nU_k, nU_e, xbd_some, xgd_true, xlet_eq, g_in, nI_clamp, nI_leI, nI_ltI, nI_eq, nI_add, pk_mul, pk_sub, rd_e, rd_k, rd_c, i10, i01, xsm_l, xsm_r, if_pos, if_neg, l_neg1, oI_e0, nI_e0, oI_nI, ne_eq, not_true_eq_false, not_false_eq_true, and_true, true_and, and_false, false_and, or_true, true_or, or_false, false_or, if_true, if_false, lit_0, lit_1, lit_2, lit_3, lit_4, lit_5, lit_6, lit_8, lit_9, lit_10, lit_12, lit_13, lit_21, lit_29, lit_30, lit_31, lit_37, lit_101, lit_120, lit_121, lit_127, lit_169, lit_64, lit_99, lit_999, lit_676, lit_845, lit_48, lit_57, lit_32, lit_59, pk_div, md8, r1]
        exact ⟨_, rfl, rfl, fin _ (by rw [hd]; rfl)⟩
  · intro ⟨v, τ⟩ ⟨h1, h2, h3⟩
    dsimp only at h1 h2 h3 ⊢
    subst h1
    unfold B_X11_laysWays_2
    simp (disch := omega) only [Nat.add_zero, Nat.zero_add, Nat.zero_mul, Nat.mul_zero, mc8, mc3, nU_f, nU_k, nU_e, xbd_some, xgd_true, xlet_eq, g_in, nI_clamp, nI_leI, nI_ltI, nI_eq, nI_add, pk_mul, pk_sub, rd_e, rd_k, rd_c, i10, i01, xsm_l, xsm_r, if_pos, if_neg, l_neg1, oI_e0, nI_e0, oI_nI, ne_eq, not_true_eq_false, not_false_eq_true, and_true, true_and, and_false, false_and, or_true, true_or, or_false, false_or, if_true, if_false, lit_0, lit_1, lit_2, lit_3, lit_4, lit_5, lit_6, lit_8, lit_9, lit_10, lit_12, lit_13, lit_21, lit_29, lit_30, lit_31, lit_37, lit_101, lit_120, lit_121, lit_127, lit_169, lit_64, lit_99, lit_999, lit_676, lit_845, lit_48, lit_57, lit_32, lit_59]
    exact ⟨_, rfl, h2, h3⟩
theorem m_lw42 {σ τ : xM} {N : xN} {m : Nat} (h5 : ∀ j, j < 64 → N 5 j ≤ 9) (hm : m < 8) (e : e146 σ τ) (h : ∀ k, k < 64 → τ 146 k = oI (s_fw N m (k / 8) (k % 8))) : ∃ τ', L_X11_laysWays_42 (nI m) 0 τ = some τ' ∧ e146 σ τ' ∧ ∀ k, k < 64 → τ' 146 k = oI (s_fw N (m + 1) (k / 8) (k % 8)) := by
  unfold L_X11_laysWays_42
  refine xloop_for (f := fun x : Int32 × xM => B_X11_laysWays_42 (nI m) x.1 x.2) (fun j x => x.1 = nI j ∧ e146 σ x.2 ∧ ∀ k, k < 64 → x.2 146 k = oI (fwk N m j k)) (fun τ => e146 σ τ ∧ ∀ k, k < 64 → τ 146 k = oI (s_fw N (m + 1) (k / 8) (k % 8))) 64 ?_ ?_ 6000 0 (0, τ) (by omega) (by omega) ⟨rfl, e, fun k hk => by
      show τ 146 k = _
      rw [h k hk]
      unfold fwk
      rw [if_neg (by omega)]⟩
  · intro j ⟨v, τ⟩ hj ⟨h1, h2, h3⟩
    dsimp only at h1 h2 h3 ⊢
    subst h1
    left
    have p1 := h3 (8 * (j / 8) + m) (by omega)
    have q1 := h3 (8 * m + j % 8) (by omega)
    have r1 := h3 j hj
    rw [fwk_am (by omega), show (8 * (j / 8) + m) / 8 = j / 8 by omega] at p1
    rw [fwk_mb (by omega), show (8 * m + j % 8) % 8 = j % 8 by omega] at q1
    have r2 : fwk N m j j = s_fw N m (j / 8) (j % 8) := by unfold fwk; rw [if_neg (by omega)]
    rw [r2] at r1
    have hn : fwk N m (j + 1) j = s_fs (s_fw N m) m (j / 8) (j % 8) := by unfold fwk; rw [if_pos (by omega)]; rfl
    have l1 := s_fw_le h5 m (j / 8) m (by omega) (by omega) (by omega)
    have l2 := s_fw_le h5 m m (j % 8) (by omega) (by omega) (by omega)
    have l3 := s_fw_le h5 m (j / 8) (j % 8) (by omega) (by omega) (by omega)
    have p2 : 2 ^ m ≤ 2 ^ 8 := Nat.pow_le_pow_right (by omega) (by omega)
    have fin : ∀ v, oI (fwk N m (j + 1) j) = v → e146 σ (xup τ 146 j v) ∧ ∀ k, k < 64 → xup τ 146 j v 146 k = oI (fwk N m (j + 1) k) := by
      intro v hv
      refine ⟨fun c hc => by rw [rd_c hc]; exact h2 c hc, fun k hk => ?_⟩
      by_cases e : k = j
      · rw [rd_e e, e, hv]
      · rw [rd_k e, h3 k hk]
        unfold fwk
        by_cases e2 : k < j
        · rw [if_pos e2, if_pos (by omega)]
        · rw [if_neg e2, if_neg (by omega)]
    rw [hn] at fin
    unfold s_fs at fin
    generalize s_fw N m (j / 8) m = p at *
    generalize s_fw N m m (j % 8) = q at *
    generalize s_fw N m (j / 8) (j % 8) = r at *
    generalize 2 ^ m = z at *
    unfold B_X11_laysWays_42
    by_cases z1 : p = 0
    · subst z1
      simp (disch := omega) only [Nat.add_zero, Nat.zero_add, Nat.zero_mul, Nat.mul_zero, mc8, mc3, nU_f, nU_k, nU_e, xbd_some, xgd_true, xlet_eq, g_in, nI_clamp, nI_leI, nI_ltI, nI_eq, nI_add, pk_mul, pk_sub, rd_e, rd_k, rd_c, i10, i01, xsm_l, xsm_r, if_pos, if_neg, l_neg1, oI_e0, nI_e0, oI_nI, ne_eq, not_true_eq_false, not_false_eq_true, and_true, true_and, and_false, false_and, or_true, true_or, or_false, false_or, if_true, if_false, lit_0, lit_1, lit_2, lit_3, lit_4, lit_5, lit_6, lit_8, lit_9, lit_10, lit_12, lit_13, lit_21, lit_29, lit_30, lit_31, lit_37, lit_101, lit_120, lit_121, lit_127, lit_169, lit_64, lit_99, lit_999, lit_676, lit_845, lit_48, lit_57, lit_32, lit_59, pk_div, md8, p1, q1, r1]
      exact ⟨_, rfl, rfl, fin _ (by rw [if_neg (by omega)])⟩
    by_cases z2 : q = 0
    · subst z2
      simp (disch := omega) only [Nat.add_zero, Nat.zero_add, Nat.zero_mul, Nat.mul_zero, mc8, mc3, nU_f, nU_k, nU_e, xbd_some, xgd_true, xlet_eq, g_in, nI_clamp, nI_leI, nI_ltI, nI_eq, nI_add, pk_mul, pk_sub, rd_e, rd_k, rd_c, i10, i01, xsm_l, xsm_r, if_pos, if_neg, l_neg1, oI_e0, nI_e0, oI_nI, ne_eq, not_true_eq_false, not_false_eq_true, and_true, true_and, and_false, false_and, or_true, true_or, or_false, false_or, if_true, if_false, lit_0, lit_1, lit_2, lit_3, lit_4, lit_5, lit_6, lit_8, lit_9, lit_10, lit_12, lit_13, lit_21, lit_29, lit_30, lit_31, lit_37, lit_101, lit_120, lit_121, lit_127, lit_169, lit_64, lit_99, lit_999, lit_676, lit_845, lit_48, lit_57, lit_32, lit_59, pk_div, md8, p1, q1, r1]
      exact ⟨_, rfl, rfl, fin _ (by rw [if_neg (by omega)])⟩
    obtain ⟨p', rfl⟩ : ∃ p', p = p' + 1 := ⟨p - 1, by omega⟩
    obtain ⟨q', rfl⟩ : ∃ q', q = q' + 1 := ⟨q - 1, by omega⟩
    rw [oI_s] at p1 q1
    by_cases z3 : r = 0
    · subst z3
      simp (disch := omega) only [Nat.add_zero, Nat.zero_add, Nat.zero_mul, Nat.mul_zero, mc8, mc3, nU_f, nU_k, nU_e, xbd_some, xgd_true, xlet_eq, g_in, nI_clamp, nI_leI, nI_ltI, nI_eq, nI_add, pk_mul, pk_sub, rd_e, rd_k, rd_c, i10, i01, xsm_l, xsm_r, if_pos, if_neg, l_neg1, oI_e0, nI_e0, oI_nI, ne_eq, not_true_eq_false, not_false_eq_true, and_true, true_and, and_false, false_and, or_true, true_or, or_false, false_or, if_true, if_false, lit_0, lit_1, lit_2, lit_3, lit_4, lit_5, lit_6, lit_8, lit_9, lit_10, lit_12, lit_13, lit_21, lit_29, lit_30, lit_31, lit_37, lit_101, lit_120, lit_121, lit_127, lit_169, lit_64, lit_99, lit_999, lit_676, lit_845, lit_48, lit_57, lit_32, lit_59, pk_div, md8, p1, q1, r1]
      exact ⟨_, rfl, rfl, fin _ (by rw [if_pos (by omega), show p' + 1 + (q' + 1) - 1 = p' + q' + 1 by omega, oI_s])⟩
    obtain ⟨r', rfl⟩ : ∃ r', r = r' + 1 := ⟨r - 1, by omega⟩
    rw [oI_s] at r1
    by_cases z4 : r' ≤ p' + q'
    · simp (disch := omega) only [Nat.add_zero, Nat.zero_add, Nat.zero_mul, Nat.mul_zero, mc8, mc3, nU_f, nU_k, nU_e, xbd_some, xgd_true, xlet_eq, g_in, nI_clamp, nI_leI, nI_ltI, nI_eq, nI_add, pk_mul, pk_sub, rd_e, rd_k, rd_c, i10, i01, xsm_l, xsm_r, if_pos, if_neg, l_neg1, oI_e0, nI_e0, oI_nI, ne_eq, not_true_eq_false, not_false_eq_true, and_true, true_and, and_false, false_and, or_true, true_or, or_false, false_or, if_true, if_false, lit_0, lit_1, lit_2, lit_3, lit_4, lit_5, lit_6, lit_8, lit_9, lit_10, lit_12, lit_13, lit_21, lit_29, lit_30, lit_31, lit_37, lit_101, lit_120, lit_121, lit_127, lit_169, lit_64, lit_99, lit_999, lit_676, lit_845, lit_48, lit_57, lit_32, lit_59, pk_div, md8, p1, q1, r1]
      exact ⟨_, rfl, rfl, fin _ (by rw [if_neg (by omega), oI_s])⟩
    · simp (disch := omega) only [Nat.add_zero, Nat.zero_add, Nat.zero_mul, Nat.mul_zero, mc8, mc3, nU_f, nU_k, nU_e, xbd_some, xgd_true, xlet_eq, g_in, nI_clamp, nI_leI, nI_ltI, nI_eq, nI_add, pk_mul, pk_sub, rd_e, rd_k, rd_c, i10, i01, xsm_l, xsm_r, if_pos, if_neg, l_neg1, oI_e0, nI_e0, oI_nI, ne_eq, not_true_eq_false, not_false_eq_true, and_true, true_and, and_false, false_and, or_true, true_or, or_false, false_or, if_true, if_false, lit_0, lit_1, lit_2, lit_3, lit_4, lit_5, lit_6, lit_8, lit_9, lit_10, lit_12, lit_13, lit_21, lit_29, lit_30, lit_31, lit_37, lit_101, lit_120, lit_121, lit_127, lit_169, lit_64, lit_99, lit_999, lit_676, lit_845, lit_48, lit_57, lit_32, lit_59, pk_div, md8, p1, q1, r1]
      exact ⟨_, rfl, rfl, fin _ (by rw [if_pos (by omega), show p' + 1 + (q' + 1) - 1 = p' + q' + 1 by omega, oI_s])⟩
  · intro ⟨v, τ⟩ ⟨h1, h2, h3⟩
    dsimp only at h1 h2 h3 ⊢
    subst h1
    unfold B_X11_laysWays_42
    simp (disch := omega) only [Nat.add_zero, Nat.zero_add, Nat.zero_mul, Nat.mul_zero, mc8, mc3, nU_f, nU_k, nU_e, xbd_some, xgd_true, xlet_eq, g_in, nI_clamp, nI_leI, nI_ltI, nI_eq, nI_add, pk_mul, pk_sub, rd_e, rd_k, rd_c, i10, i01, xsm_l, xsm_r, if_pos, if_neg, l_neg1, oI_e0, nI_e0, oI_nI, ne_eq, not_true_eq_false, not_false_eq_true, and_true, true_and, and_false, false_and, or_true, true_or, or_false, false_or, if_true, if_false, lit_0, lit_1, lit_2, lit_3, lit_4, lit_5, lit_6, lit_8, lit_9, lit_10, lit_12, lit_13, lit_21, lit_29, lit_30, lit_31, lit_37, lit_101, lit_120, lit_121, lit_127, lit_169, lit_64, lit_99, lit_999, lit_676, lit_845, lit_48, lit_57, lit_32, lit_59]
    refine ⟨_, rfl, h2, fun k hk => ?_⟩
    rw [h3 k hk]
    unfold fwk
    rw [if_pos hk]
theorem fw_out {N : xN} (hA : N 0 0 ≤ 8) (w0 : ∀ a b, a < 8 → b < 8 → N 0 0 ≤ a ∨ N 0 0 ≤ b → N 5 (8 * a + b) = 0) : ∀ m, m ≤ 8 → ∀ x y, x < 8 → y < 8 → x ≠ y → N 0 0 ≤ x ∨ N 0 0 ≤ y → s_fw N m x y = 0
  | 0, _, x, y, hx, hy, hn, ho => by
    show s_d0 N x y = 0
    unfold s_d0
    rw [if_neg hn, if_pos (w0 x y hx hy ho)]
  | m + 1, hm, x, y, hx, hy, hn, ho => by
    have ih := fw_out hA w0 m (by omega)
    have e := ih x y hx hy hn ho
    show s_fs (s_fw N m) m x y = 0
    unfold s_fs
    rw [e, if_neg]
    intro ⟨h1, h2, _⟩
    rcases ho with h | h
    · by_cases em : m = x
      · subst em; exact h2 e
      · exact h1 (ih x m hx (by omega) (by omega) (Or.inl h))
    · by_cases em : m = y
      · subst em; exact h1 e
      · exact h2 (ih m y (by omega) hy (by omega) (Or.inr h))
theorem fw_in {N : xN} (hA : N 0 0 ≤ 8) (w0 : ∀ a b, a < 8 → b < 8 → N 0 0 ≤ a ∨ N 0 0 ≤ b → N 5 (8 * a + b) = 0) {a b : Nat} (ha : a < N 0 0) (hb : b < N 0 0) : ∀ m, N 0 0 ≤ m → m ≤ 8 → s_fw N m a b = s_di N a b
  | 0, h, _ => by omega
  | m + 1, h, h8 => by
    by_cases e : N 0 0 = m + 1
    · unfold s_di; rw [e]
    · have ih := fw_in hA w0 ha hb m (by omega) (by omega)
      have z := fw_out hA w0 m (by omega) a m (by omega) (by omega) (by omega) (Or.inr (by omega))
      show s_fs (s_fw N m) m a b = _
      unfold s_fs
      rw [if_neg (by rw [z]; omega), ih]
theorem m_ways {σ : xM} {N : xN} (hw : s_wf N) (r : ∀ j, j < 64 → σ 142 (37 + j) = nI (N 5 j)) : ∃ τ, F_X11_laysWays σ = some τ ∧ e146 σ τ ∧ s_Mw τ N := by
  obtain ⟨⟨hA, hS, hT, hQ⟩, w2, w5, w0, w6, w10, w1, w1d⟩ := id hw
  obtain ⟨τ, g1, g2, g3⟩ := m_lw2 w5 r
  have hL : ∃ τ', L_X11_laysWays_37 0 τ = some τ' ∧ e146 σ τ' ∧ ∀ k, k < 64 → τ' 146 k = oI (s_fw N 8 (k / 8) (k % 8)) := by
    unfold L_X11_laysWays_37
    refine xloop_for (f := fun x : Int32 × xM => B_X11_laysWays_37 x.1 x.2) (fun j x => x.1 = nI j ∧ e146 σ x.2 ∧ ∀ k, k < 64 → x.2 146 k = oI (s_fw N j (k / 8) (k % 8))) (fun τ => e146 σ τ ∧ ∀ k, k < 64 → τ 146 k = oI (s_fw N 8 (k / 8) (k % 8))) 8 ?_ ?_ 6000 0 (0, τ) (by omega) (by omega) ⟨rfl, g2, g3⟩
    · intro j ⟨v, τ⟩ hj ⟨h1, h2, h3⟩
      dsimp only at h1 h2 h3 ⊢
      subst h1
      left
      obtain ⟨τ', a1, a2, a3⟩ := m_lw42 w5 hj h2 h3
      rw [show (0 : Int32) = nI 0 from rfl] at a1
      unfold B_X11_laysWays_37
      simp (disch := omega) only [Nat.add_zero, Nat.zero_add, Nat.zero_mul, Nat.mul_zero, mc8, mc3, nU_f, nU_k, nU_e, xbd_some, xgd_true, xlet_eq, g_in, nI_clamp, nI_leI, nI_ltI, nI_eq, nI_add, pk_mul, pk_sub, rd_e, rd_k, rd_c, i10, i01, xsm_l, xsm_r, if_pos, if_neg, l_neg1, oI_e0, nI_e0, oI_nI, ne_eq, not_true_eq_false, not_false_eq_true, and_true, true_and, and_false, false_and, or_true, true_or, or_false, false_or, if_true, if_false, lit_0, lit_1, lit_2, lit_3, lit_4, lit_5, lit_6, lit_8, lit_9, lit_10, lit_12, lit_13, lit_21, lit_29, lit_30, lit_31, lit_37, lit_101, lit_120, lit_121, lit_127, lit_169, lit_64, lit_99, lit_999, lit_676, lit_845, lit_48, lit_57, lit_32, lit_59, a1]
      exact ⟨_, rfl, rfl, a2, a3⟩
    · intro ⟨v, τ⟩ ⟨h1, h2, h3⟩
      dsimp only at h1 h2 h3 ⊢
      subst h1
      unfold B_X11_laysWays_37
      simp (disch := omega) only [Nat.add_zero, Nat.zero_add, Nat.zero_mul, Nat.mul_zero, mc8, mc3, nU_f, nU_k, nU_e, xbd_some, xgd_true, xlet_eq, g_in, nI_clamp, nI_leI, nI_ltI, nI_eq, nI_add, pk_mul, pk_sub, rd_e, rd_k, rd_c, i10, i01, xsm_l, xsm_r, if_pos, if_neg, l_neg1, oI_e0, nI_e0, oI_nI, ne_eq, not_true_eq_false, not_false_eq_true, and_true, true_and, and_false, false_and, or_true, true_or, or_false, false_or, if_true, if_false, lit_0, lit_1, lit_2, lit_3, lit_4, lit_5, lit_6, lit_8, lit_9, lit_10, lit_12, lit_13, lit_21, lit_29, lit_30, lit_31, lit_37, lit_101, lit_120, lit_121, lit_127, lit_169, lit_64, lit_99, lit_999, lit_676, lit_845, lit_48, lit_57, lit_32, lit_59]
      exact ⟨_, rfl, h2, h3⟩
  obtain ⟨τ', k1, k2, k3⟩ := hL
  refine ⟨τ', ?_, k2, fun a c ha hc => ?_⟩
  · unfold F_X11_laysWays
    rw [xbd_s g1, xbd_s k1]
  · rw [k3 (8 * a + c) (by omega), show (8 * a + c) / 8 = a by omega, show (8 * a + c) % 8 = c by omega, fw_in hA w0 ha hc 8 (by omega) (by omega)]
