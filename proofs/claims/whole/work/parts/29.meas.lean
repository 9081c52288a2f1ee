def d7 (n : Nat) (τ : xM) (D : Nat → Nat → Nat) (P : Nat → Nat → Prop) : Prop := ∀ x y, x < n → y < n → P x y → τ 7 (8 * x + y) = oI (D x y)
def e7 (σ τ : xM) : Prop := ∀ c, c ≠ 7 → τ c = σ c
theorem d7_up {n : Nat} {τ : xM} {D D' : Nat → Nat → Nat} {P P' : Nat → Nat → Prop} {a b v : Nat} (h : d7 n τ D P) (hn : n ≤ 8) (ha : a < n) (hb : b < n) (hv : D' a b = v) (hD : ∀ x y, x < n → y < n → ¬ (x = a ∧ y = b) → P' x y → P x y ∧ D' x y = D x y) : d7 n (xup τ 7 (8 * a + b) (oI v)) D' P' := by
  intro x y hx hy hp
  by_cases e : x = a ∧ y = b
  · rw [rd_e (by omega), e.1, e.2, hv]
  · obtain ⟨h1, h2⟩ := hD x y hx hy e hp
    rw [rd_k (by omega), h x y hx hy h1, h2]
theorem e7_up {σ τ : xM} (h : e7 σ τ) (k : Nat) (v : Int32) : e7 σ (xup τ 7 k v) := fun c hc => by rw [rd_c hc]; exact h c hc
theorem f_line {σ : xM} {a b : Nat} (ha : a < 8) (hb : b < 8) : F_X1_lineLength (nI a) (nI b) σ = some (σ 6 (8 * a + b)) := by
  unfold F_X1_lineLength
  simp (disch := omega) only [mc8, mc3, nU_f, nU_k, nU_e, xbd_some, xgd_true, xlet_eq, g_in, nI_clamp, nI_leI, nI_ltI, nI_eq, nI_add, pk_mul, pk_sub, rd_e, rd_k, rd_c, i10, i01, xsm_l, xsm_r, if_pos, if_neg, l_neg1, oI_e0, nI_e0, oI_nI, ne_eq, not_true_eq_false, not_false_eq_true, and_true, true_and, and_false, false_and, or_true, true_or, or_false, false_or, if_true, if_false, lit_0, lit_1, lit_2, lit_3, lit_4, lit_5, lit_6, lit_8, lit_9, lit_10, lit_12, lit_13, lit_21, lit_29, lit_30, lit_31, lit_37, lit_101, lit_120, lit_121, lit_127, lit_169, lit_64, lit_99, lit_999, lit_676, lit_845, lit_48, lit_57, lit_32, lit_59]
theorem f_dist {σ : xM} {a b : Nat} (ha : a < 8) (hb : b < 8) : F_X1_distance (nI a) (nI b) σ = some (σ 7 (8 * a + b)) := by
  unfold F_X1_distance
  simp (disch := omega) only [mc8, mc3, nU_f, nU_k, nU_e, xbd_some, xgd_true, xlet_eq, g_in, nI_clamp, nI_leI, nI_ltI, nI_eq, nI_add, pk_mul, pk_sub, rd_e, rd_k, rd_c, i10, i01, xsm_l, xsm_r, if_pos, if_neg, l_neg1, oI_e0, nI_e0, oI_nI, ne_eq, not_true_eq_false, not_false_eq_true, and_true, true_and, and_false, false_and, or_true, true_or, or_false, false_or, if_true, if_false, lit_0, lit_1, lit_2, lit_3, lit_4, lit_5, lit_6, lit_8, lit_9, lit_10, lit_12, lit_13, lit_21, lit_29, lit_30, lit_31, lit_37, lit_101, lit_120, lit_121, lit_127, lit_169, lit_64, lit_99, lit_999, lit_676, lit_845, lit_48, lit_57, lit_32, lit_59]
theorem f_meas8 {σ τ : xM} {N : xN} {a : Nat} (hA : N 0 0 ≤ 8) (h5 : ∀ j, j < 64 → N 5 j ≤ 9) (c2 : σ 2 0 = nI (N 0 0)) (c6 : ∀ j, j < 64 → σ 6 j = nI (N 5 j)) (ha : a < N 0 0) (e : e7 σ τ) (i0 : d7 (N 0 0) τ (s_d0 N) (fun x _ => x < a)) : ∃ τ', L_X1_measure_8 (nI a) 0 τ = some τ' ∧ e7 σ τ' ∧ d7 (N 0 0) τ' (s_d0 N) (fun x _ => x < a + 1) := by
  unfold L_X1_measure_8
  exact xloop_for (f := fun s : Int32 × xM => B_X1_measure_8 (nI a) s.1 s.2) (fun k s => s.1 = nI k ∧ e7 σ s.2 ∧ d7 (N 0 0) s.2 (s_d0 N) (fun x y => x < a ∨ x = a ∧ y < k)) (fun τ' => e7 σ τ' ∧ d7 (N 0 0) τ' (s_d0 N) (fun x _ => x < a + 1)) (N 0 0)
    (by
      intro k ⟨v, τ⟩ hk ⟨h1, h2, h3⟩
      dsimp only at h1 h2 h3 ⊢
      subst h1
      left
      have t2 : τ 2 0 = nI (N 0 0) := by rw [h2 2 (by omega), c2]
      have t6 : τ 6 (8 * a + k) = nI (N 5 (8 * a + k)) := by rw [h2 6 (by omega), c6 _ (by omega)]
      have b5 := h5 (8 * a + k) (by omega)
      have hd : s_d0 N a k = if a = k then 1 else if N 5 (8 * a + k) = 0 then 0 else N 5 (8 * a + k) + 1 := rfl
      have hD : ∀ x y, x < N 0 0 → y < N 0 0 → ¬ (x = a ∧ y = k) → (x < a ∨ x = a ∧ y < k + 1) → (x < a ∨ x = a ∧ y < k) ∧ s_d0 N x y = s_d0 N x y := fun x y _ _ _ _ => ⟨by omega, rfl⟩
      unfold B_X1_measure_8
      by_cases e1 : a = k
      · have hd1 : s_d0 N a k = 1 := by rw [hd, if_pos e1]
        simp (disch := omega) only [mc8, mc3, nU_f, nU_k, nU_e, xbd_some, xgd_true, xlet_eq, g_in, nI_clamp, nI_leI, nI_ltI, nI_eq, nI_add, pk_mul, pk_sub, rd_e, rd_k, rd_c, i10, i01, xsm_l, xsm_r, if_pos, if_neg, l_neg1, oI_e0, nI_e0, oI_nI, ne_eq, not_true_eq_false, not_false_eq_true, and_true, true_and, and_false, false_and, or_true, true_or, or_false, false_or, if_true, if_false, lit_0, lit_1, lit_2, lit_3, lit_4, lit_5, lit_6, lit_8, lit_9, lit_10, lit_12, lit_13, lit_21, lit_29, lit_30, lit_31, lit_37, lit_101, lit_120, lit_121, lit_127, lit_169, lit_64, lit_99, lit_999, lit_676, lit_845, lit_48, lit_57, lit_32, lit_59, t2, f_line, t6]
        exact ⟨_, rfl, rfl, e7_up h2 _ _, d7_up h3 hA ha hk hd1 hD⟩
      · by_cases e2 : N 5 (8 * a + k) = 0
        · have hd1 : s_d0 N a k = 0 := by rw [hd, if_neg e1, if_pos e2]
          simp (disch := omega) only [mc8, mc3, nU_f, nU_k, nU_e, xbd_some, xgd_true, xlet_eq, g_in, nI_clamp, nI_leI, nI_ltI, nI_eq, nI_add, pk_mul, pk_sub, rd_e, rd_k, rd_c, i10, i01, xsm_l, xsm_r, if_pos, if_neg, l_neg1, oI_e0, nI_e0, oI_nI, ne_eq, not_true_eq_false, not_false_eq_true, and_true, true_and, and_false, false_and, or_true, true_or, or_false, false_or, if_true, if_false, lit_0, lit_1, lit_2, lit_3, lit_4, lit_5, lit_6, lit_8, lit_9, lit_10, lit_12, lit_13, lit_21, lit_29, lit_30, lit_31, lit_37, lit_101, lit_120, lit_121, lit_127, lit_169, lit_64, lit_99, lit_999, lit_676, lit_845, lit_48, lit_57, lit_32, lit_59, t2, f_line, t6]
          exact ⟨_, rfl, rfl, e7_up h2 _ _, d7_up h3 hA ha hk hd1 hD⟩
        · have hd1 : s_d0 N a k = N 5 (8 * a + k) + 1 := by rw [hd, if_neg e1, if_neg e2]
          simp (disch := omega) only [mc8, mc3, nU_f, nU_k, nU_e, xbd_some, xgd_true, xlet_eq, g_in, nI_clamp, nI_leI, nI_ltI, nI_eq, nI_add, pk_mul, pk_sub, rd_e, rd_k, rd_c, i10, i01, xsm_l, xsm_r, if_pos, if_neg, l_neg1, oI_e0, nI_e0, oI_nI, ne_eq, not_true_eq_false, not_false_eq_true, and_true, true_and, and_false, false_and, or_true, true_or, or_false, false_or, if_true, if_false, lit_0, lit_1, lit_2, lit_3, lit_4, lit_5, lit_6, lit_8, lit_9, lit_10, lit_12, lit_13, lit_21, lit_29, lit_30, lit_31, lit_37, lit_101, lit_120, lit_121, lit_127, lit_169, lit_64, lit_99, lit_999, lit_676, lit_845, lit_48, lit_57, lit_32, lit_59, t2, f_line, t6]
          exact ⟨_, rfl, rfl, e7_up h2 _ _, d7_up h3 hA ha hk hd1 hD⟩)
    (by
      intro ⟨v, τ⟩ ⟨h1, h2, h3⟩
      dsimp only at h1 h2 h3 ⊢
      subst h1
      have t2 : τ 2 0 = nI (N 0 0) := by rw [h2 2 (by omega), c2]
      unfold B_X1_measure_8
      simp (disch := omega) only [mc8, mc3, nU_f, nU_k, nU_e, xbd_some, xgd_true, xlet_eq, g_in, nI_clamp, nI_leI, nI_ltI, nI_eq, nI_add, pk_mul, pk_sub, rd_e, rd_k, rd_c, i10, i01, xsm_l, xsm_r, if_pos, if_neg, l_neg1, oI_e0, nI_e0, oI_nI, ne_eq, not_true_eq_false, not_false_eq_true, and_true, true_and, and_false, false_and, or_true, true_or, or_false, false_or, if_true, if_false, lit_0, lit_1, lit_2, lit_3, lit_4, lit_5, lit_6, lit_8, lit_9, lit_10, lit_12, lit_13, lit_21, lit_29, lit_30, lit_31, lit_37, lit_101, lit_120, lit_121, lit_127, lit_169, lit_64, lit_99, lit_999, lit_676, lit_845, lit_48, lit_57, lit_32, lit_59, t2]
      exact ⟨_, rfl, h2, fun x y hx hy hp => h3 x y hx hy (by omega)⟩) 6000 0 (0, τ) (by omega) (by omega) ⟨rfl, e, fun x y hx hy hp => i0 x y hx hy (by omega)⟩
theorem f_meas2 {σ : xM} {N : xN} (hA : N 0 0 ≤ 8) (h5 : ∀ j, j < 64 → N 5 j ≤ 9) (c2 : σ 2 0 = nI (N 0 0)) (c6 : ∀ j, j < 64 → σ 6 j = nI (N 5 j)) : ∃ τ', L_X1_measure_2 0 σ = some τ' ∧ e7 σ τ' ∧ d7 (N 0 0) τ' (s_d0 N) (fun _ _ => True) := by
  unfold L_X1_measure_2
  exact xloop_for (f := fun s : Int32 × xM => B_X1_measure_2 s.1 s.2) (fun k s => s.1 = nI k ∧ e7 σ s.2 ∧ d7 (N 0 0) s.2 (s_d0 N) (fun x _ => x < k)) (fun τ' => e7 σ τ' ∧ d7 (N 0 0) τ' (s_d0 N) (fun _ _ => True)) (N 0 0)
    (by
      intro k ⟨v, τ⟩ hk ⟨h1, h2, h3⟩
      dsimp only at h1 h2 h3 ⊢
      subst h1
      left
      have t2 : τ 2 0 = nI (N 0 0) := by rw [h2 2 (by omega), c2]
      obtain ⟨τ', g1, g2, g3⟩ := f_meas8 hA h5 c2 c6 hk h2 h3
      unfold B_X1_measure_2
      rw [show (0 : Int32) = nI 0 from rfl] at g1
      simp (disch := omega) only [mc8, mc3, nU_f, nU_k, nU_e, xbd_some, xgd_true, xlet_eq, g_in, nI_clamp, nI_leI, nI_ltI, nI_eq, nI_add, pk_mul, pk_sub, rd_e, rd_k, rd_c, i10, i01, xsm_l, xsm_r, if_pos, if_neg, l_neg1, oI_e0, nI_e0, oI_nI, ne_eq, not_true_eq_false, not_false_eq_true, and_true, true_and, and_false, false_and, or_true, true_or, or_false, false_or, if_true, if_false, lit_0, lit_1, lit_2, lit_3, lit_4, lit_5, lit_6, lit_8, lit_9, lit_10, lit_12, lit_13, lit_21, lit_29, lit_30, lit_31, lit_37, lit_101, lit_120, lit_121, lit_127, lit_169, lit_64, lit_99, lit_999, lit_676, lit_845, lit_48, lit_57, lit_32, lit_59, t2, g1]
      exact ⟨_, rfl, rfl, g2, g3⟩)
    (by
      intro ⟨v, τ⟩ ⟨h1, h2, h3⟩
      dsimp only at h1 h2 h3 ⊢
      subst h1
      have t2 : τ 2 0 = nI (N 0 0) := by rw [h2 2 (by omega), c2]
      unfold B_X1_measure_2
      simp (disch := omega) only [mc8, mc3, nU_f, nU_k, nU_e, xbd_some, xgd_true, xlet_eq, g_in, nI_clamp, nI_leI, nI_ltI, nI_eq, nI_add, pk_mul, pk_sub, rd_e, rd_k, rd_c, i10, i01, xsm_l, xsm_r, if_pos, if_neg, l_neg1, oI_e0, nI_e0, oI_nI, ne_eq, not_true_eq_false, not_false_eq_true, and_true, true_and, and_false, false_and, or_true, true_or, or_false, false_or, if_true, if_false, lit_0, lit_1, lit_2, lit_3, lit_4, lit_5, lit_6, lit_8, lit_9, lit_10, lit_12, lit_13, lit_21, lit_29, lit_30, lit_31, lit_37, lit_101, lit_120, lit_121, lit_127, lit_169, lit_64, lit_99, lit_999, lit_676, lit_845, lit_48, lit_57, lit_32, lit_59, t2]
      exact ⟨_, rfl, h2, fun x y hx hy hp => h3 x y hx hy hx⟩) 6000 0 (0, σ) (by omega) (by omega) ⟨rfl, fun _ _ => rfl, fun x y hx hy hp => absurd hp (by omega)⟩
/-- the matrix in the middle of round m, at row a and column b -/
def fwx (N : xN) (m a b x y : Nat) : Nat := if x < a ∨ x = a ∧ y < b then s_fw N (m + 1) x y else s_fw N m x y
theorem fwx_am {N : xN} {m a b x : Nat} : fwx N m a b x m = s_fw N m x m := by
  unfold fwx
  split
  · exact s_fs_col (s_fw_diag N m m) x
  · rfl
theorem fwx_mb {N : xN} {m a b y : Nat} : fwx N m a b m y = s_fw N m m y := by
  unfold fwx
  split
  · exact s_fs_row (s_fw_diag N m m) y
  · rfl
theorem f_short {σ τ : xM} {N : xN} {m a b : Nat} (hA : N 0 0 ≤ 8) (h5 : ∀ j, j < 64 → N 5 j ≤ 9) (hm : m < N 0 0) (ha : a < N 0 0) (hb : b < N 0 0) (e : e7 σ τ) (h : d7 (N 0 0) τ (fwx N m a b) (fun _ _ => True)) : ∃ τ', F_X1_shorten (nI a) (nI m) (nI b) τ = some τ' ∧ e7 σ τ' ∧ d7 (N 0 0) τ' (fwx N m a (b + 1)) (fun _ _ => True) := by
  have h1 := h a m ha hm trivial
  have h2 := h m b hm hb trivial
  have h3 := h a b ha hb trivial
  rw [fwx_am] at h1
  rw [fwx_mb] at h2
  have h3e : fwx N m a b a b = s_fw N m a b := by unfold fwx; rw [if_neg (by omega)]
  rw [h3e] at h3
  have hn : fwx N m a (b + 1) a b = s_fs (s_fw N m) m a b := by unfold fwx; rw [if_pos (by omega)]; rfl
  have l1 := s_fw_le h5 m a m (by omega) (by omega) (by omega)
  have l2 := s_fw_le h5 m m b (by omega) (by omega) (by omega)
  have l3 := s_fw_le h5 m a b (by omega) (by omega) (by omega)
  have p2 : 2 ^ m ≤ 2 ^ 8 := Nat.pow_le_pow_right (by omega) (by omega)
  have hD : ∀ x y, x < N 0 0 → y < N 0 0 → ¬ (x = a ∧ y = b) → True → True ∧ fwx N m a (b + 1) x y = fwx N m a b x y := by
    intro x y hx hy hn _
    refine ⟨trivial, ?_⟩
    unfold fwx
    by_cases hc : x < a ∨ x = a ∧ y < b
    · rw [if_pos hc, if_pos (by omega)]
    · rw [if_neg hc, if_neg (by omega)]
  have same : s_fs (s_fw N m) m a b = s_fw N m a b → d7 (N 0 0) τ (fwx N m a (b + 1)) (fun _ _ => True) := by
    intro hs x y hx hy _
    by_cases e : x = a ∧ y = b
    · rw [e.1, e.2, hn, hs, h3]
    · rw [(hD x y hx hy e trivial).2]
      exact h x y hx hy trivial
  unfold s_fs at hn same
  generalize s_fw N m a m = p at *
  generalize s_fw N m m b = q at *
  generalize s_fw N m a b = r at *
  generalize 2 ^ m = z at *
  unfold F_X1_shorten
  by_cases z1 : p = 0
  · subst z1
    refine ⟨τ, ?_, e, same (by rw [if_neg (by omega)])⟩
    simp (disch := omega) only [mc8, mc3, nU_f, nU_k, nU_e, xbd_some, xgd_true, xlet_eq, g_in, nI_clamp, nI_leI, nI_ltI, nI_eq, nI_add, pk_mul, pk_sub, rd_e, rd_k, rd_c, i10, i01, xsm_l, xsm_r, if_pos, if_neg, l_neg1, oI_e0, nI_e0, oI_nI, ne_eq, not_true_eq_false, not_false_eq_true, and_true, true_and, and_false, false_and, or_true, true_or, or_false, false_or, if_true, if_false, lit_0, lit_1, lit_2, lit_3, lit_4, lit_5, lit_6, lit_8, lit_9, lit_10, lit_12, lit_13, lit_21, lit_29, lit_30, lit_31, lit_37, lit_101, lit_120, lit_121, lit_127, lit_169, lit_64, lit_99, lit_999, lit_676, lit_845, lit_48, lit_57, lit_32, lit_59, f_dist, h1, h2, h3]
  by_cases z2 : q = 0
  · subst z2
    refine ⟨τ, ?_, e, same (by rw [if_neg (by omega)])⟩
    simp (disch := omega) only [mc8, mc3, nU_f, nU_k, nU_e, xbd_some, xgd_true, xlet_eq, g_in, nI_clamp, nI_leI, nI_ltI, nI_eq, nI_add, pk_mul, pk_sub, rd_e, rd_k, rd_c, i10, i01, xsm_l, xsm_r, if_pos, if_neg, l_neg1, oI_e0, nI_e0, oI_nI, ne_eq, not_true_eq_false, not_false_eq_true, and_true, true_and, and_false, false_and, or_true, true_or, or_false, false_or, if_true, if_false, lit_0, lit_1, lit_2, lit_3, lit_4, lit_5, lit_6, lit_8, lit_9, lit_10, lit_12, lit_13, lit_21, lit_29, lit_30, lit_31, lit_37, lit_101, lit_120, lit_121, lit_127, lit_169, lit_64, lit_99, lit_999, lit_676, lit_845, lit_48, lit_57, lit_32, lit_59, f_dist, h1, h2, h3]
  obtain ⟨p', rfl⟩ : ∃ p', p = p' + 1 := ⟨p - 1, by omega⟩
  obtain ⟨q', rfl⟩ : ∃ q', q = q' + 1 := ⟨q - 1, by omega⟩
  rw [oI_s] at h1 h2
  by_cases z3 : r = 0
  · subst z3
    rw [if_pos (by omega)] at hn
    refine ⟨xup τ 7 (8 * a + b) (oI (p' + q' + 1)), ?_, e7_up e _ _, d7_up h hA ha hb (by rw [hn]; omega) hD⟩
    simp (disch := omega) only [mc8, mc3, nU_f, nU_k, nU_e, xbd_some, xgd_true, xlet_eq, g_in, nI_clamp, nI_leI, nI_ltI, nI_eq, nI_add, pk_mul, pk_sub, rd_e, rd_k, rd_c, i10, i01, xsm_l, xsm_r, if_pos, if_neg, l_neg1, oI_e0, nI_e0, oI_nI, ne_eq, not_true_eq_false, not_false_eq_true, and_true, true_and, and_false, false_and, or_true, true_or, or_false, false_or, if_true, if_false, lit_0, lit_1, lit_2, lit_3, lit_4, lit_5, lit_6, lit_8, lit_9, lit_10, lit_12, lit_13, lit_21, lit_29, lit_30, lit_31, lit_37, lit_101, lit_120, lit_121, lit_127, lit_169, lit_64, lit_99, lit_999, lit_676, lit_845, lit_48, lit_57, lit_32, lit_59, f_dist, h1, h2, h3, oI_s]
  obtain ⟨r', rfl⟩ : ∃ r', r = r' + 1 := ⟨r - 1, by omega⟩
  rw [oI_s] at h3
  by_cases z4 : r' ≤ p' + q'
  · refine ⟨τ, ?_, e, same (by rw [if_neg (by omega)])⟩
    simp (disch := omega) only [mc8, mc3, nU_f, nU_k, nU_e, xbd_some, xgd_true, xlet_eq, g_in, nI_clamp, nI_leI, nI_ltI, nI_eq, nI_add, pk_mul, pk_sub, rd_e, rd_k, rd_c, i10, i01, xsm_l, xsm_r, if_pos, if_neg, l_neg1, oI_e0, nI_e0, oI_nI, ne_eq, not_true_eq_false, not_false_eq_true, and_true, true_and, and_false, false_and, or_true, true_or, or_false, false_or, if_true, if_false, lit_0, lit_1, lit_2, lit_3, lit_4, lit_5, lit_6, lit_8, lit_9, lit_10, lit_12, lit_13, lit_21, lit_29, lit_30, lit_31, lit_37, lit_101, lit_120, lit_121, lit_127, lit_169, lit_64, lit_99, lit_999, lit_676, lit_845, lit_48, lit_57, lit_32, lit_59, f_dist, h1, h2, h3]
  · rw [if_pos (by omega)] at hn
    refine ⟨xup τ 7 (8 * a + b) (oI (p' + q' + 1)), ?_, e7_up e _ _, d7_up h hA ha hb (by rw [hn]; omega) hD⟩
    simp (disch := omega) only [mc8, mc3, nU_f, nU_k, nU_e, xbd_some, xgd_true, xlet_eq, g_in, nI_clamp, nI_leI, nI_ltI, nI_eq, nI_add, pk_mul, pk_sub, rd_e, rd_k, rd_c, i10, i01, xsm_l, xsm_r, if_pos, if_neg, l_neg1, oI_e0, nI_e0, oI_nI, ne_eq, not_true_eq_false, not_false_eq_true, and_true, true_and, and_false, false_and, or_true, true_or, or_false, false_or, if_true, if_false, lit_0, lit_1, lit_2, lit_3, lit_4, lit_5, lit_6, lit_8, lit_9, lit_10, lit_12, lit_13, lit_21, lit_29, lit_30, lit_31, lit_37, lit_101, lit_120, lit_121, lit_127, lit_169, lit_64, lit_99, lit_999, lit_676, lit_845, lit_48, lit_57, lit_32, lit_59, f_dist, h1, h2, h3, oI_s]
theorem f_meas53 {σ τ : xM} {N : xN} {m a : Nat} (hA : N 0 0 ≤ 8) (h5 : ∀ j, j < 64 → N 5 j ≤ 9) (c2 : σ 2 0 = nI (N 0 0)) (hm : m < N 0 0) (ha : a < N 0 0) (e : e7 σ τ) (h : d7 (N 0 0) τ (fwx N m a 0) (fun _ _ => True)) : ∃ τ', L_X1_measure_53 (nI m) (nI a) 0 τ = some τ' ∧ e7 σ τ' ∧ d7 (N 0 0) τ' (fwx N m (a + 1) 0) (fun _ _ => True) := by
  unfold L_X1_measure_53
  exact xloop_for (f := fun s : Int32 × xM => B_X1_measure_53 (nI m) (nI a) s.1 s.2) (fun k s => s.1 = nI k ∧ e7 σ s.2 ∧ d7 (N 0 0) s.2 (fwx N m a k) (fun _ _ => True)) (fun τ' => e7 σ τ' ∧ d7 (N 0 0) τ' (fwx N m (a + 1) 0) (fun _ _ => True)) (N 0 0)
    (by
      intro k ⟨v, τ⟩ hk ⟨h1, h2, h3⟩
      dsimp only at h1 h2 h3 ⊢
      subst h1
      left
      have t2 : τ 2 0 = nI (N 0 0) := by rw [h2 2 (by omega), c2]
      obtain ⟨τ', g1, g2, g3⟩ := f_short hA h5 hm ha hk h2 h3
      unfold B_X1_measure_53
      simp (disch := omega) only [mc8, mc3, nU_f, nU_k, nU_e, xbd_some, xgd_true, xlet_eq, g_in, nI_clamp, nI_leI, nI_ltI, nI_eq, nI_add, pk_mul, pk_sub, rd_e, rd_k, rd_c, i10, i01, xsm_l, xsm_r, if_pos, if_neg, l_neg1, oI_e0, nI_e0, oI_nI, ne_eq, not_true_eq_false, not_false_eq_true, and_true, true_and, and_false, false_and, or_true, true_or, or_false, false_or, if_true, if_false, lit_0, lit_1, lit_2, lit_3, lit_4, lit_5, lit_6, lit_8, lit_9, lit_10, lit_12, lit_13, lit_21, lit_29, lit_30, lit_31, lit_37, lit_101, lit_120, lit_121, lit_127, lit_169, lit_64, lit_99, lit_999, lit_676, lit_845, lit_48, lit_57, lit_32, lit_59, t2, g1]
      exact ⟨_, rfl, rfl, g2, g3⟩)
    (by
      intro ⟨v, τ⟩ ⟨h1, h2, h3⟩
      dsimp only at h1 h2 h3 ⊢
      subst h1
      have t2 : τ 2 0 = nI (N 0 0) := by rw [h2 2 (by omega), c2]
      unfold B_X1_measure_53
      simp (disch := omega) only [mc8, mc3, nU_f, nU_k, nU_e, xbd_some, xgd_true, xlet_eq, g_in, nI_clamp, nI_leI, nI_ltI, nI_eq, nI_add, pk_mul, pk_sub, rd_e, rd_k, rd_c, i10, i01, xsm_l, xsm_r, if_pos, if_neg, l_neg1, oI_e0, nI_e0, oI_nI, ne_eq, not_true_eq_false, not_false_eq_true, and_true, true_and, and_false, false_and, or_true, true_or, or_false, false_or, if_true, if_false, lit_0, lit_1, lit_2, lit_3, lit_4, lit_5, lit_6, lit_8, lit_9, lit_10, lit_12, lit_13, lit_21, lit_29, lit_30, lit_31, lit_37, lit_101, lit_120, lit_121, lit_127, lit_169, lit_64, lit_99, lit_999, lit_676, lit_845, lit_48, lit_57, lit_32, lit_59, t2]
      refine ⟨_, rfl, h2, fun x y hx hy hp => ?_⟩
      rw [h3 x y hx hy trivial]
      unfold fwx
      by_cases hc : x < a ∨ x = a ∧ y < N 0 0
      · rw [if_pos hc, if_pos (by omega)]
      · rw [if_neg hc, if_neg (by omega)]) 6000 0 (0, τ) (by omega) (by omega) ⟨rfl, e, h⟩
theorem f_meas47 {σ τ : xM} {N : xN} {m : Nat} (hA : N 0 0 ≤ 8) (h5 : ∀ j, j < 64 → N 5 j ≤ 9) (c2 : σ 2 0 = nI (N 0 0)) (hm : m < N 0 0) (e : e7 σ τ) (h : d7 (N 0 0) τ (s_fw N m) (fun _ _ => True)) : ∃ τ', L_X1_measure_47 (nI m) 0 τ = some τ' ∧ e7 σ τ' ∧ d7 (N 0 0) τ' (s_fw N (m + 1)) (fun _ _ => True) := by
  unfold L_X1_measure_47
  exact xloop_for (f := fun s : Int32 × xM => B_X1_measure_47 (nI m) s.1 s.2) (fun k s => s.1 = nI k ∧ e7 σ s.2 ∧ d7 (N 0 0) s.2 (fwx N m k 0) (fun _ _ => True)) (fun τ' => e7 σ τ' ∧ d7 (N 0 0) τ' (s_fw N (m + 1)) (fun _ _ => True)) (N 0 0)
    (by
      intro k ⟨v, τ⟩ hk ⟨h1, h2, h3⟩
      dsimp only at h1 h2 h3 ⊢
      subst h1
      left
      have t2 : τ 2 0 = nI (N 0 0) := by rw [h2 2 (by omega), c2]
      obtain ⟨τ', g1, g2, g3⟩ := f_meas53 hA h5 c2 hm hk h2 h3
      rw [show (0 : Int32) = nI 0 from rfl] at g1
      unfold B_X1_measure_47
      simp (disch := omega) only [mc8, mc3, nU_f, nU_k, nU_e, xbd_some, xgd_true, xlet_eq, g_in, nI_clamp, nI_leI, nI_ltI, nI_eq, nI_add, pk_mul, pk_sub, rd_e, rd_k, rd_c, i10, i01, xsm_l, xsm_r, if_pos, if_neg, l_neg1, oI_e0, nI_e0, oI_nI, ne_eq, not_true_eq_false, not_false_eq_true, and_true, true_and, and_false, false_and, or_true, true_or, or_false, false_or, if_true, if_false, lit_0, lit_1, lit_2, lit_3, lit_4, lit_5, lit_6, lit_8, lit_9, lit_10, lit_12, lit_13, lit_21, lit_29, lit_30, lit_31, lit_37, lit_101, lit_120, lit_121, lit_127, lit_169, lit_64, lit_99, lit_999, lit_676, lit_845, lit_48, lit_57, lit_32, lit_59, t2, g1]
      exact ⟨_, rfl, rfl, g2, g3⟩)
    (by
      intro ⟨v, τ⟩ ⟨h1, h2, h3⟩
      dsimp only at h1 h2 h3 ⊢
      subst h1
      have t2 : τ 2 0 = nI (N 0 0) := by rw [h2 2 (by omega), c2]
      unfold B_X1_measure_47
      simp (disch := omega) only [mc8, mc3, nU_f, nU_k, nU_e, xbd_some, xgd_true, xlet_eq, g_in, nI_clamp, nI_leI, nI_ltI, nI_eq, nI_add, pk_mul, pk_sub, rd_e, rd_k, rd_c, i10, i01, xsm_l, xsm_r, if_pos, if_neg, l_neg1, oI_e0, nI_e0, oI_nI, ne_eq, not_true_eq_false, not_false_eq_true, and_true, true_and, and_false, false_and, or_true, true_or, or_false, false_or, if_true, if_false, lit_0, lit_1, lit_2, lit_3, lit_4, lit_5, lit_6, lit_8, lit_9, lit_10, lit_12, lit_13, lit_21, lit_29, lit_30, lit_31, lit_37, lit_101, lit_120, lit_121, lit_127, lit_169, lit_64, lit_99, lit_999, lit_676, lit_845, lit_48, lit_57, lit_32, lit_59, t2]
      refine ⟨_, rfl, h2, fun x y hx hy hp => ?_⟩
      rw [h3 x y hx hy trivial]
      unfold fwx
      rw [if_pos (by omega)]) 6000 0 (0, τ) (by omega) (by omega) ⟨rfl, e, fun x y hx hy hp => by
        show τ 7 (8 * x + y) = _
        rw [h x y hx hy trivial]
        unfold fwx
        rw [if_neg (by omega)]⟩
theorem f_measure {σ : xM} {N : xN} (hA : N 0 0 ≤ 8) (h5 : ∀ j, j < 64 → N 5 j ≤ 9) (c2 : σ 2 0 = nI (N 0 0)) (c6 : ∀ j, j < 64 → σ 6 j = nI (N 5 j)) : ∃ τ', F_X1_measure σ = some τ' ∧ e7 σ τ' ∧ ∀ x y, x < N 0 0 → y < N 0 0 → τ' 7 (8 * x + y) = oI (s_di N x y) := by
  obtain ⟨τ, g1, g2, g3⟩ := f_meas2 hA h5 c2 c6
  have hL : ∃ τ', L_X1_measure_41 0 τ = some τ' ∧ e7 σ τ' ∧ d7 (N 0 0) τ' (s_di N) (fun _ _ => True) := by
    unfold L_X1_measure_41
    exact xloop_for (f := fun s : Int32 × xM => B_X1_measure_41 s.1 s.2) (fun k s => s.1 = nI k ∧ e7 σ s.2 ∧ d7 (N 0 0) s.2 (s_fw N k) (fun _ _ => True)) (fun τ' => e7 σ τ' ∧ d7 (N 0 0) τ' (s_di N) (fun _ _ => True)) (N 0 0)
      (by
        intro k ⟨v, τ⟩ hk ⟨h1, h2, h3⟩
        dsimp only at h1 h2 h3 ⊢
        subst h1
        left
        have t2 : τ 2 0 = nI (N 0 0) := by rw [h2 2 (by omega), c2]
        obtain ⟨τ', g1, g2, g3⟩ := f_meas47 hA h5 c2 hk h2 h3
        rw [show (0 : Int32) = nI 0 from rfl] at g1
        unfold B_X1_measure_41
        simp (disch := omega) only [mc8, mc3, nU_f, nU_k, nU_e, xbd_some, xgd_true, xlet_eq, g_in, nI_clamp, nI_leI, nI_ltI, nI_eq, nI_add, pk_mul, pk_sub, rd_e, rd_k, rd_c, i10, i01, xsm_l, xsm_r, if_pos, if_neg, l_neg1, oI_e0, nI_e0, oI_nI, ne_eq, not_true_eq_false, not_false_eq_true, and_true, true_and, and_false, false_and, or_true, true_or, or_false, false_or, if_true, if_false, lit_0, lit_1, lit_2, lit_3, lit_4, lit_5, lit_6, lit_8, lit_9, lit_10, lit_12, lit_13, lit_21, lit_29, lit_30, lit_31, lit_37, lit_101, lit_120, lit_121, lit_127, lit_169, lit_64, lit_99, lit_999, lit_676, lit_845, lit_48, lit_57, lit_32, lit_59, t2, g1]
        exact ⟨_, rfl, rfl, g2, g3⟩)
      (by
        intro ⟨v, τ⟩ ⟨h1, h2, h3⟩
        dsimp only at h1 h2 h3 ⊢
        subst h1
        have t2 : τ 2 0 = nI (N 0 0) := by rw [h2 2 (by omega), c2]
        unfold B_X1_measure_41
        simp (disch := omega) only [mc8, mc3, nU_f, nU_k, nU_e, xbd_some, xgd_true, xlet_eq, g_in, nI_clamp, nI_leI, nI_ltI, nI_eq, nI_add, pk_mul, pk_sub, rd_e, rd_k, rd_c, i10, i01, xsm_l, xsm_r, if_pos, if_neg, l_neg1, oI_e0, nI_e0, oI_nI, ne_eq, not_true_eq_false, not_false_eq_true, and_true, true_and, and_false, false_and, or_true, true_or, or_false, false_or, if_true, if_false, lit_0, lit_1, lit_2, lit_3, lit_4, lit_5, lit_6, lit_8, lit_9, lit_10, lit_12, lit_13, lit_21, lit_29, lit_30, lit_31, lit_37, lit_101, lit_120, lit_121, lit_127, lit_169, lit_64, lit_99, lit_999, lit_676, lit_845, lit_48, lit_57, lit_32, lit_59, t2]
        exact ⟨_, rfl, h2, h3⟩) 6000 0 (0, τ) (by omega) (by omega) ⟨rfl, g2, g3⟩
  obtain ⟨τ', k1, k2, k3⟩ := hL
  refine ⟨τ', ?_, k2, fun x y hx hy => k3 x y hx hy trivial⟩
  unfold F_X1_measure
  rw [xbd_s g1, xbd_s k1]
