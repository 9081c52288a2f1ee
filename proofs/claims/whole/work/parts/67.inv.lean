def push (N : xN) (H : Nat → xN) : Nat → xN := fun j => if j = 0 then N else H (j - 1)
def k_up (k : Nat) : Nat := if k < 5 then k + 1 else 5
def bump (b : Nat → Int32) (r : Int32) : Nat → Int32 := fun i => if (r = -2 ∧ i = 0) ∨ (r = -3 ∧ i = 1) ∨ (r = -4 ∧ i = 2) then b i + 1 else b i
def I_h (σ : xM) (k : Nat) (H : Nat → xN) (m : Nat) : Prop := m < 6 ∧ k ≤ 5 ∧ σ 19 0 = nI k ∧ σ 19 1 = nI m ∧ ∀ j, j < k → s_C σ (21 + 18 * ((m + 5 - j) % 6)) (H j)
def I_b (σ : xM) (b : Nat → Int32) : Prop := σ 0 7 = b 0 ∧ σ 0 8 = b 1 ∧ σ 0 9 = b 2
def I_t (σ : xM) (L : Nat) (T : Nat → Nat) : Prop := L ≤ 120 ∧ σ 137 0 = nI L ∧ ∀ i, i < L → σ 138 i = nI (T i)
def IC (σ : xM) (N : xN) (k : Nat) (H : Nat → xN) (L : Nat) (T : Nat → Nat) (b : Nat → Int32) : Prop := s_C σ 1 N ∧ (∃ m, I_h σ k H m) ∧ I_b σ b ∧ I_t σ L T ∧ (σ 132 3 = nI 0 ∨ (σ 132 3 = nI 1 ∧ PK σ N))
/-- after mark: the slot m holds N0 -/
def IK (σ : xM) (N0 N : xN) (k : Nat) (H : Nat → xN) (L : Nat) (T : Nat → Nat) (b : Nat → Int32) : Prop := s_C σ 1 N ∧ (∃ m, I_h σ k H m ∧ s_C σ (21 + 18 * m) N0) ∧ I_b σ b ∧ I_t σ L T
def IW (N : xN) (k : Nat) (H : Nat → xN) (L : Nat) (T : Nat → Nat) : Prop := s_wf N ∧ s_sy N ∧ (∀ j, j < k → s_wf (H j) ∧ s_sy (H j)) ∧ ∀ i, i < L → T i < 128
theorem Ih_cg {σ τ : xM} {k : Nat} {H : Nat → xN} {m : Nat} (h : I_h σ k H m) (e : ∀ c, 19 ≤ c → c < 129 → τ c = σ c) : I_h τ k H m := by
  obtain ⟨h1, h2, h3, h4, h5⟩ := h
  refine ⟨h1, h2, by rw [e 19 (by omega) (by omega)]; exact h3, by rw [e 19 (by omega) (by omega)]; exact h4, fun j hj => C_blk (fun c a b => e c (by omega) (by omega)) (h5 j hj)⟩
theorem Ib_cg {σ τ : xM} {b : Nat → Int32} (h : I_b σ b) (e : τ 0 = σ 0) : I_b τ b := by
  unfold I_b at h ⊢
  rw [e]
  exact h
theorem It_cg {σ τ : xM} {L : Nat} {T : Nat → Nat} (h : I_t σ L T) (e : τ 137 = σ 137) (e2 : τ 138 = σ 138) : I_t τ L T := by
  unfold I_t at h ⊢
  rw [e, e2]
  exact h
theorem PK_cg {σ τ : xM} {N : xN} (h : PK σ N) (e : τ 132 = σ 132) (e2 : τ 133 = σ 133) : PK τ N := by
  unfold PK at h ⊢
  rw [e, e2]
  exact h
theorem IC_cg {σ τ : xM} {N : xN} {k : Nat} {H : Nat → xN} {L : Nat} {T : Nat → Nat} {b : Nat → Int32} (h : IC σ N k H L T b) (e : ∀ c, c < 141 → c ≠ 130 → c ≠ 131 → c ≠ 135 → τ c = σ c) : IC τ N k H L T b := by
  obtain ⟨h1, ⟨m, h2⟩, h3, h4, h5⟩ := h
  refine ⟨s_C_eq (fun c hc => e c (by omega) (by omega) (by omega) (by omega)) h1, ⟨m, Ih_cg h2 (fun c a b => e c (by omega) (by omega) (by omega) (by omega))⟩, Ib_cg h3 (e 0 (by omega) (by omega) (by omega) (by omega)), It_cg h4 (e 137 (by omega) (by omega) (by omega) (by omega)) (e 138 (by omega) (by omega) (by omega) (by omega)), ?_⟩
  rw [e 132 (by omega) (by omega) (by omega) (by omega)]
  rcases h5 with h5 | ⟨h5, h6⟩
  · exact Or.inl h5
  · exact Or.inr ⟨h5, PK_cg h6 (e 132 (by omega) (by omega) (by omega) (by omega)) (e 133 (by omega) (by omega) (by omega) (by omega))⟩
theorem bump_2 {b : Nat → Int32} : bump b (-2) 0 = b 0 + 1 ∧ bump b (-2) 1 = b 1 ∧ bump b (-2) 2 = b 2 := by
  unfold bump
  refine ⟨if_pos (by decide), if_neg (by decide), if_neg (by decide)⟩
theorem bump_3 {b : Nat → Int32} : bump b (-3) 0 = b 0 ∧ bump b (-3) 1 = b 1 + 1 ∧ bump b (-3) 2 = b 2 := by
  unfold bump
  refine ⟨if_neg (by decide), if_pos (by decide), if_neg (by decide)⟩
theorem bump_4 {b : Nat → Int32} : bump b (-4) 0 = b 0 ∧ bump b (-4) 1 = b 1 ∧ bump b (-4) 2 = b 2 + 1 := by
  unfold bump
  refine ⟨if_neg (by decide), if_neg (by decide), if_pos (by decide)⟩
/-- an error is counted -/
theorem f_cnt {σ : xM} {b : Nat → Int32} {r : Int32} (h : I_b σ b) (hr : r = -2 ∨ r = -3 ∨ r = -4) : ∃ τ, F_X10_counted r σ = some (r, τ) ∧ I_b τ (bump b r) ∧ ∀ c, c ≠ 0 → τ c = σ c := by
  obtain ⟨h7, h8, h9⟩ := h
  rcases hr with rfl | rfl | rfl
  · refine ⟨xup σ 0 7 (σ 0 7 + 1), rfl, ?_, fun c hc => rd_c hc⟩
    obtain ⟨q0, q1, q2⟩ := bump_2 (b := b)
    refine ⟨?_, ?_, ?_⟩
    · rw [rd_e rfl, h7, q0]
    · rw [rd_k (by omega), h8, q1]
    · rw [rd_k (by omega), h9, q2]
  · refine ⟨xup σ 0 8 (σ 0 8 + 1), rfl, ?_, fun c hc => rd_c hc⟩
    obtain ⟨q0, q1, q2⟩ := bump_3 (b := b)
    refine ⟨?_, ?_, ?_⟩
    · rw [rd_k (by omega), h7, q0]
    · rw [rd_e rfl, h8, q1]
    · rw [rd_k (by omega), h9, q2]
  · refine ⟨xup σ 0 9 (σ 0 9 + 1), rfl, ?_, fun c hc => rd_c hc⟩
    obtain ⟨q0, q1, q2⟩ := bump_4 (b := b)
    refine ⟨?_, ?_, ?_⟩
    · rw [rd_k (by omega), h7, q0]
    · rw [rd_k (by omega), h8, q1]
    · rw [rd_e rfl, h9, q2]
theorem f_cnt0 {σ : xM} {r : Int32} (h : 0 ≤ r) : F_X10_counted r σ = some (r, σ) := by
  unfold F_X10_counted
  rw [if_neg (fun e => by rw [e] at h; exact no2 h), if_neg (fun e => by rw [e] at h; exact no3 h), if_neg (fun e => by rw [e] at h; exact no4 h)]
theorem IC_cnt {σ : xM} {N : xN} {k : Nat} {H : Nat → xN} {L : Nat} {T : Nat → Nat} {b : Nat → Int32} {r : Int32} (h : IC σ N k H L T b) (hr : r = -2 ∨ r = -3 ∨ r = -4) : ∃ τ, F_X10_counted r σ = some (r, τ) ∧ IC τ N k H L T (bump b r) ∧ ∀ c, 141 ≤ c → τ c = σ c := by
  obtain ⟨h1, ⟨m, h2⟩, h3, h4, h5⟩ := h
  obtain ⟨τ, g1, g2, g3⟩ := f_cnt h3 hr
  refine ⟨τ, g1, ⟨C_blk (fun c a b => g3 c (by omega)) h1, ⟨m, Ih_cg h2 (fun c a b => g3 c (by omega))⟩, g2, It_cg h4 (g3 137 (by omega)) (g3 138 (by omega)), ?_⟩, fun c hc => g3 c (by omega)⟩
  rw [g3 132 (by omega)]
  rcases h5 with h5 | ⟨h5, h6⟩
  · exact Or.inl h5
  · exact Or.inr ⟨h5, PK_cg h6 (g3 132 (by omega)) (g3 133 (by omega))⟩
theorem f_mark {σ : xM} {N : xN} {k : Nat} {H : Nat → xN} {L : Nat} {T : Nat → Nat} {b : Nat → Int32} (hw : s_wf N) (h : IC σ N k H L T b) : ∃ τ, F_X10_mark σ = some τ ∧ IK τ N N k H L T b ∧ τ 132 3 = nI 0 ∧ ∀ c, 141 ≤ c → τ c = σ c := by
  obtain ⟨h1, ⟨m, h2⟩, h3, h4, h5⟩ := h
  obtain ⟨m6, k5, e0, e1, hj⟩ := id h2
  obtain ⟨τ, g1, g2⟩ := mark_h m6 e1
  have fr := g2.1
  refine ⟨xup τ 132 3 (nI 0), ?_, ⟨?_, ⟨m, ⟨m6, k5, ?_, ?_, fun j hjk => ?_⟩, ?_⟩, ?_, ?_⟩, by simp (disch := omega) only [Nat.add_zero, Nat.zero_add, Nat.zero_mul, Nat.mul_zero, mc8, mc3, nU_f, nU_k, nU_e, xbd_some, xgd_true, xlet_eq, g_in, nI_clamp, nI_leI, nI_ltI, nI_eq, nI_add, pk_mul, pk_sub, rd_e, rd_k, rd_c, i10, i01, xsm_l, xsm_r, if_pos, if_neg, l_neg1, oI_e0, nI_e0, oI_nI, ne_eq, not_true_eq_false, not_false_eq_true, and_true, true_and, and_false, false_and, or_true, true_or, or_false, false_or, if_true, if_false, lit_0, lit_1, lit_2, lit_3, lit_4, lit_5, lit_6, lit_8, lit_9, lit_10, lit_12, lit_13, lit_21, lit_29, lit_30, lit_31, lit_37, lit_101, lit_120, lit_121, lit_127, lit_169, lit_64, lit_99, lit_999, lit_676, lit_845, lit_48, lit_57, lit_32, lit_59], fun c hc => ?_⟩
  · unfold F_X10_mark F_X5_forget
    simp (disch := omega) only [Nat.add_zero, Nat.zero_add, Nat.zero_mul, Nat.mul_zero, mc8, mc3, nU_f, nU_k, nU_e, xbd_some, xgd_true, xlet_eq, g_in, nI_clamp, nI_leI, nI_ltI, nI_eq, nI_add, pk_mul, pk_sub, rd_e, rd_k, rd_c, i10, i01, xsm_l, xsm_r, if_pos, if_neg, l_neg1, oI_e0, nI_e0, oI_nI, ne_eq, not_true_eq_false, not_false_eq_true, and_true, true_and, and_false, false_and, or_true, true_or, or_false, false_or, if_true, if_false, lit_0, lit_1, lit_2, lit_3, lit_4, lit_5, lit_6, lit_8, lit_9, lit_10, lit_12, lit_13, lit_21, lit_29, lit_30, lit_31, lit_37, lit_101, lit_120, lit_121, lit_127, lit_169, lit_64, lit_99, lit_999, lit_676, lit_845, lit_48, lit_57, lit_32, lit_59, g1]
  · refine C_blk (fun c a b => ?_) h1
    simp (disch := omega) only [Nat.add_zero, Nat.zero_add, Nat.zero_mul, Nat.mul_zero, mc8, mc3, nU_f, nU_k, nU_e, xbd_some, xgd_true, xlet_eq, g_in, nI_clamp, nI_leI, nI_ltI, nI_eq, nI_add, pk_mul, pk_sub, rd_e, rd_k, rd_c, i10, i01, xsm_l, xsm_r, if_pos, if_neg, l_neg1, oI_e0, nI_e0, oI_nI, ne_eq, not_true_eq_false, not_false_eq_true, and_true, true_and, and_false, false_and, or_true, true_or, or_false, false_or, if_true, if_false, lit_0, lit_1, lit_2, lit_3, lit_4, lit_5, lit_6, lit_8, lit_9, lit_10, lit_12, lit_13, lit_21, lit_29, lit_30, lit_31, lit_37, lit_101, lit_120, lit_121, lit_127, lit_169, lit_64, lit_99, lit_999, lit_676, lit_845, lit_48, lit_57, lit_32, lit_59]
    exact fr c (by omega)
  · simp (disch := omega) only [Nat.add_zero, Nat.zero_add, Nat.zero_mul, Nat.mul_zero, mc8, mc3, nU_f, nU_k, nU_e, xbd_some, xgd_true, xlet_eq, g_in, nI_clamp, nI_leI, nI_ltI, nI_eq, nI_add, pk_mul, pk_sub, rd_e, rd_k, rd_c, i10, i01, xsm_l, xsm_r, if_pos, if_neg, l_neg1, oI_e0, nI_e0, oI_nI, ne_eq, not_true_eq_false, not_false_eq_true, and_true, true_and, and_false, false_and, or_true, true_or, or_false, false_or, if_true, if_false, lit_0, lit_1, lit_2, lit_3, lit_4, lit_5, lit_6, lit_8, lit_9, lit_10, lit_12, lit_13, lit_21, lit_29, lit_30, lit_31, lit_37, lit_101, lit_120, lit_121, lit_127, lit_169, lit_64, lit_99, lit_999, lit_676, lit_845, lit_48, lit_57, lit_32, lit_59]
    rw [fr 19 (by omega)]
    exact e0
  · simp (disch := omega) only [Nat.add_zero, Nat.zero_add, Nat.zero_mul, Nat.mul_zero, mc8, mc3, nU_f, nU_k, nU_e, xbd_some, xgd_true, xlet_eq, g_in, nI_clamp, nI_leI, nI_ltI, nI_eq, nI_add, pk_mul, pk_sub, rd_e, rd_k, rd_c, i10, i01, xsm_l, xsm_r, if_pos, if_neg, l_neg1, oI_e0, nI_e0, oI_nI, ne_eq, not_true_eq_false, not_false_eq_true, and_true, true_and, and_false, false_and, or_true, true_or, or_false, false_or, if_true, if_false, lit_0, lit_1, lit_2, lit_3, lit_4, lit_5, lit_6, lit_8, lit_9, lit_10, lit_12, lit_13, lit_21, lit_29, lit_30, lit_31, lit_37, lit_101, lit_120, lit_121, lit_127, lit_169, lit_64, lit_99, lit_999, lit_676, lit_845, lit_48, lit_57, lit_32, lit_59]
    rw [fr 19 (by omega)]
    exact e1
  · refine C_blk (fun c a b => ?_) (hj j hjk)
    simp (disch := omega) only [Nat.add_zero, Nat.zero_add, Nat.zero_mul, Nat.mul_zero, mc8, mc3, nU_f, nU_k, nU_e, xbd_some, xgd_true, xlet_eq, g_in, nI_clamp, nI_leI, nI_ltI, nI_eq, nI_add, pk_mul, pk_sub, rd_e, rd_k, rd_c, i10, i01, xsm_l, xsm_r, if_pos, if_neg, l_neg1, oI_e0, nI_e0, oI_nI, ne_eq, not_true_eq_false, not_false_eq_true, and_true, true_and, and_false, false_and, or_true, true_or, or_false, false_or, if_true, if_false, lit_0, lit_1, lit_2, lit_3, lit_4, lit_5, lit_6, lit_8, lit_9, lit_10, lit_12, lit_13, lit_21, lit_29, lit_30, lit_31, lit_37, lit_101, lit_120, lit_121, lit_127, lit_169, lit_64, lit_99, lit_999, lit_676, lit_845, lit_48, lit_57, lit_32, lit_59]
    exact fr c (by omega)
  · refine C_blk (fun c a b => ?_) (bc_C hw g2 h1)
    simp (disch := omega) only [Nat.add_zero, Nat.zero_add, Nat.zero_mul, Nat.mul_zero, mc8, mc3, nU_f, nU_k, nU_e, xbd_some, xgd_true, xlet_eq, g_in, nI_clamp, nI_leI, nI_ltI, nI_eq, nI_add, pk_mul, pk_sub, rd_e, rd_k, rd_c, i10, i01, xsm_l, xsm_r, if_pos, if_neg, l_neg1, oI_e0, nI_e0, oI_nI, ne_eq, not_true_eq_false, not_false_eq_true, and_true, true_and, and_false, false_and, or_true, true_or, or_false, false_or, if_true, if_false, lit_0, lit_1, lit_2, lit_3, lit_4, lit_5, lit_6, lit_8, lit_9, lit_10, lit_12, lit_13, lit_21, lit_29, lit_30, lit_31, lit_37, lit_101, lit_120, lit_121, lit_127, lit_169, lit_64, lit_99, lit_999, lit_676, lit_845, lit_48, lit_57, lit_32, lit_59]
  · refine Ib_cg h3 ?_
    simp (disch := omega) only [Nat.add_zero, Nat.zero_add, Nat.zero_mul, Nat.mul_zero, mc8, mc3, nU_f, nU_k, nU_e, xbd_some, xgd_true, xlet_eq, g_in, nI_clamp, nI_leI, nI_ltI, nI_eq, nI_add, pk_mul, pk_sub, rd_e, rd_k, rd_c, i10, i01, xsm_l, xsm_r, if_pos, if_neg, l_neg1, oI_e0, nI_e0, oI_nI, ne_eq, not_true_eq_false, not_false_eq_true, and_true, true_and, and_false, false_and, or_true, true_or, or_false, false_or, if_true, if_false, lit_0, lit_1, lit_2, lit_3, lit_4, lit_5, lit_6, lit_8, lit_9, lit_10, lit_12, lit_13, lit_21, lit_29, lit_30, lit_31, lit_37, lit_101, lit_120, lit_121, lit_127, lit_169, lit_64, lit_99, lit_999, lit_676, lit_845, lit_48, lit_57, lit_32, lit_59]
    exact fr 0 (by omega)
  · refine It_cg h4 ?_ ?_
    · simp (disch := omega) only [Nat.add_zero, Nat.zero_add, Nat.zero_mul, Nat.mul_zero, mc8, mc3, nU_f, nU_k, nU_e, xbd_some, xgd_true, xlet_eq, g_in, nI_clamp, nI_leI, nI_ltI, nI_eq, nI_add, pk_mul, pk_sub, rd_e, rd_k, rd_c, i10, i01, xsm_l, xsm_r, if_pos, if_neg, l_neg1, oI_e0, nI_e0, oI_nI, ne_eq, not_true_eq_false, not_false_eq_true, and_true, true_and, and_false, false_and, or_true, true_or, or_false, false_or, if_true, if_false, lit_0, lit_1, lit_2, lit_3, lit_4, lit_5, lit_6, lit_8, lit_9, lit_10, lit_12, lit_13, lit_21, lit_29, lit_30, lit_31, lit_37, lit_101, lit_120, lit_121, lit_127, lit_169, lit_64, lit_99, lit_999, lit_676, lit_845, lit_48, lit_57, lit_32, lit_59]
      exact fr 137 (by omega)
    · simp (disch := omega) only [Nat.add_zero, Nat.zero_add, Nat.zero_mul, Nat.mul_zero, mc8, mc3, nU_f, nU_k, nU_e, xbd_some, xgd_true, xlet_eq, g_in, nI_clamp, nI_leI, nI_ltI, nI_eq, nI_add, pk_mul, pk_sub, rd_e, rd_k, rd_c, i10, i01, xsm_l, xsm_r, if_pos, if_neg, l_neg1, oI_e0, nI_e0, oI_nI, ne_eq, not_true_eq_false, not_false_eq_true, and_true, true_and, and_false, false_and, or_true, true_or, or_false, false_or, if_true, if_false, lit_0, lit_1, lit_2, lit_3, lit_4, lit_5, lit_6, lit_8, lit_9, lit_10, lit_12, lit_13, lit_21, lit_29, lit_30, lit_31, lit_37, lit_101, lit_120, lit_121, lit_127, lit_169, lit_64, lit_99, lit_999, lit_676, lit_845, lit_48, lit_57, lit_32, lit_59]
      exact fr 138 (by omega)
  · simp (disch := omega) only [Nat.add_zero, Nat.zero_add, Nat.zero_mul, Nat.mul_zero, mc8, mc3, nU_f, nU_k, nU_e, xbd_some, xgd_true, xlet_eq, g_in, nI_clamp, nI_leI, nI_ltI, nI_eq, nI_add, pk_mul, pk_sub, rd_e, rd_k, rd_c, i10, i01, xsm_l, xsm_r, if_pos, if_neg, l_neg1, oI_e0, nI_e0, oI_nI, ne_eq, not_true_eq_false, not_false_eq_true, and_true, true_and, and_false, false_and, or_true, true_or, or_false, false_or, if_true, if_false, lit_0, lit_1, lit_2, lit_3, lit_4, lit_5, lit_6, lit_8, lit_9, lit_10, lit_12, lit_13, lit_21, lit_29, lit_30, lit_31, lit_37, lit_101, lit_120, lit_121, lit_127, lit_169, lit_64, lit_99, lit_999, lit_676, lit_845, lit_48, lit_57, lit_32, lit_59]
    exact fr c (by omega)
theorem IK_fr {σ τ : xM} {N0 N M : xN} {k : Nat} {H : Nat → xN} {L : Nat} {T : Nat → Nat} {b : Nat → Int32} (h : IK σ N0 N k H L T b) (e : s_fr σ τ) (hC : s_C τ 1 M) : IK τ N0 M k H L T b := by
  obtain ⟨h1, ⟨m, h2, h2'⟩, h3, h4⟩ := h
  have m6 := h2.1
  refine ⟨hC, ⟨m, Ih_cg h2 (fun c a b => e c (by omega) (by omega) (by omega)), C_blk (fun c a b => e c (by omega) (by omega) (by omega)) h2'⟩, Ib_cg h3 (e 0 (by omega) (by omega) (by omega)), It_cg h4 (e 137 (by omega) (by omega) (by omega)) (e 138 (by omega) (by omega) (by omega))⟩
theorem f_keepM {σ : xM} {N0 N : xN} {k : Nat} {H : Nat → xN} {L : Nat} {T : Nat → Nat} {b : Nat → Int32} (h : IK σ N0 N k H L T b) : ∃ τ, F_X3_keepMarked σ = some τ ∧ (s_C τ 1 N ∧ (∃ m, I_h τ (k_up k) (push N0 H) m) ∧ I_b τ b ∧ I_t τ L T) ∧ ∀ c, c ≠ 19 → τ c = σ c := by
  obtain ⟨h1, ⟨m, ⟨m6, k5, e0, e1, hj⟩, h2'⟩, h3, h4⟩ := h
  have kv : (if 5 < k + 1 then nI 5 else nI (k + 1)) = nI (k_up k) := by
    unfold k_up
    by_cases c : k < 5
    · rw [if_pos c, if_neg (by omega)]
    · rw [if_neg c, if_pos (by omega)]
  have fin : ∀ m', m' < 6 → (m' + 5) % 6 = m → ∃ τ, some (xup (xup σ 19 1 (nI m')) 19 0 (nI (k_up k))) = some τ ∧ (s_C τ 1 N ∧ (∃ m, I_h τ (k_up k) (push N0 H) m) ∧ I_b τ b ∧ I_t τ L T) ∧ ∀ c, c ≠ 19 → τ c = σ c := by
    intro m' hm' hmm
    refine ⟨_, rfl, ⟨C_blk (fun c a b => by simp (disch := omega) only [Nat.add_zero, Nat.zero_add, Nat.zero_mul, Nat.mul_zero, mc8, mc3, nU_f, nU_k, nU_e, xbd_some, xgd_true, xlet_eq, g_in, nI_clamp, nI_leI, nI_ltI, nI_eq, nI_add, pk_mul, pk_sub, rd_e, rd_k, rd_c, i10, i01, xsm_l, xsm_r, if_pos, if_neg, l_neg1, oI_e0, nI_e0, oI_nI, ne_eq, not_true_eq_false, not_false_eq_true, and_true, true_and, and_false, false_and, or_true, true_or, or_false, false_or, if_true, if_false, lit_0, lit_1, lit_2, lit_3, lit_4, lit_5, lit_6, lit_8, lit_9, lit_10, lit_12, lit_13, lit_21, lit_29, lit_30, lit_31, lit_37, lit_101, lit_120, lit_121, lit_127, lit_169, lit_64, lit_99, lit_999, lit_676, lit_845, lit_48, lit_57, lit_32, lit_59]) h1, ⟨m', hm', by unfold k_up; split <;> omega, by simp (disch := omega) only [Nat.add_zero, Nat.zero_add, Nat.zero_mul, Nat.mul_zero, mc8, mc3, nU_f, nU_k, nU_e, xbd_some, xgd_true, xlet_eq, g_in, nI_clamp, nI_leI, nI_ltI, nI_eq, nI_add, pk_mul, pk_sub, rd_e, rd_k, rd_c, i10, i01, xsm_l, xsm_r, if_pos, if_neg, l_neg1, oI_e0, nI_e0, oI_nI, ne_eq, not_true_eq_false, not_false_eq_true, and_true, true_and, and_false, false_and, or_true, true_or, or_false, false_or, if_true, if_false, lit_0, lit_1, lit_2, lit_3, lit_4, lit_5, lit_6, lit_8, lit_9, lit_10, lit_12, lit_13, lit_21, lit_29, lit_30, lit_31, lit_37, lit_101, lit_120, lit_121, lit_127, lit_169, lit_64, lit_99, lit_999, lit_676, lit_845, lit_48, lit_57, lit_32, lit_59], by simp (disch := omega) only [Nat.add_zero, Nat.zero_add, Nat.zero_mul, Nat.mul_zero, mc8, mc3, nU_f, nU_k, nU_e, xbd_some, xgd_true, xlet_eq, g_in, nI_clamp, nI_leI, nI_ltI, nI_eq, nI_add, pk_mul, pk_sub, rd_e, rd_k, rd_c, i10, i01, xsm_l, xsm_r, if_pos, if_neg, l_neg1, oI_e0, nI_e0, oI_nI, ne_eq, not_true_eq_false, not_false_eq_true, and_true, true_and, and_false, false_and, or_true, true_or, or_false, false_or, if_true, if_false, lit_0, lit_1, lit_2, lit_3, lit_4, lit_5, lit_6, lit_8, lit_9, lit_10, lit_12, lit_13, lit_21, lit_29, lit_30, lit_31, lit_37, lit_101, lit_120, lit_121, lit_127, lit_169, lit_64, lit_99, lit_999, lit_676, lit_845, lit_48, lit_57, lit_32, lit_59], fun j hjk => ?_⟩, Ib_cg h3 (by simp (disch := omega) only [Nat.add_zero, Nat.zero_add, Nat.zero_mul, Nat.mul_zero, mc8, mc3, nU_f, nU_k, nU_e, xbd_some, xgd_true, xlet_eq, g_in, nI_clamp, nI_leI, nI_ltI, nI_eq, nI_add, pk_mul, pk_sub, rd_e, rd_k, rd_c, i10, i01, xsm_l, xsm_r, if_pos, if_neg, l_neg1, oI_e0, nI_e0, oI_nI, ne_eq, not_true_eq_false, not_false_eq_true, and_true, true_and, and_false, false_and, or_true, true_or, or_false, false_or, if_true, if_false, lit_0, lit_1, lit_2, lit_3, lit_4, lit_5, lit_6, lit_8, lit_9, lit_10, lit_12, lit_13, lit_21, lit_29, lit_30, lit_31, lit_37, lit_101, lit_120, lit_121, lit_127, lit_169, lit_64, lit_99, lit_999, lit_676, lit_845, lit_48, lit_57, lit_32, lit_59]), It_cg h4 (by simp (disch := omega) only [Nat.add_zero, Nat.zero_add, Nat.zero_mul, Nat.mul_zero, mc8, mc3, nU_f, nU_k, nU_e, xbd_some, xgd_true, xlet_eq, g_in, nI_clamp, nI_leI, nI_ltI, nI_eq, nI_add, pk_mul, pk_sub, rd_e, rd_k, rd_c, i10, i01, xsm_l, xsm_r, if_pos, if_neg, l_neg1, oI_e0, nI_e0, oI_nI, ne_eq, not_true_eq_false, not_false_eq_true, and_true, true_and, and_false, false_and, or_true, true_or, or_false, false_or, if_true, if_false, lit_0, lit_1, lit_2, lit_3, lit_4, lit_5, lit_6, lit_8, lit_9, lit_10, lit_12, lit_13, lit_21, lit_29, lit_30, lit_31, lit_37, lit_101, lit_120, lit_121, lit_127, lit_169, lit_64, lit_99, lit_999, lit_676, lit_845, lit_48, lit_57, lit_32, lit_59]) (by simp (disch := omega) only [Nat.add_zero, Nat.zero_add, Nat.zero_mul, Nat.mul_zero, mc8, mc3, nU_f, nU_k, nU_e, xbd_some, xgd_true, xlet_eq, g_in, nI_clamp, nI_leI, nI_ltI, nI_eq, nI_add, pk_mul, pk_sub, rd_e, rd_k, rd_c, i10, i01, xsm_l, xsm_r, if_pos, if_neg, l_neg1, oI_e0, nI_e0, oI_nI, ne_eq, not_true_eq_false, not_false_eq_true, and_true, true_and, and_false, false_and, or_true, true_or, or_false, false_or, if_true, if_false, lit_0, lit_1, lit_2, lit_3, lit_4, lit_5, lit_6, lit_8, lit_9, lit_10, lit_12, lit_13, lit_21, lit_29, lit_30, lit_31, lit_37, lit_101, lit_120, lit_121, lit_127, lit_169, lit_64, lit_99, lit_999, lit_676, lit_845, lit_48, lit_57, lit_32, lit_59])⟩, fun c hc => by simp (disch := omega) only [Nat.add_zero, Nat.zero_add, Nat.zero_mul, Nat.mul_zero, mc8, mc3, nU_f, nU_k, nU_e, xbd_some, xgd_true, xlet_eq, g_in, nI_clamp, nI_leI, nI_ltI, nI_eq, nI_add, pk_mul, pk_sub, rd_e, rd_k, rd_c, i10, i01, xsm_l, xsm_r, if_pos, if_neg, l_neg1, oI_e0, nI_e0, oI_nI, ne_eq, not_true_eq_false, not_false_eq_true, and_true, true_and, and_false, false_and, or_true, true_or, or_false, false_or, if_true, if_false, lit_0, lit_1, lit_2, lit_3, lit_4, lit_5, lit_6, lit_8, lit_9, lit_10, lit_12, lit_13, lit_21, lit_29, lit_30, lit_31, lit_37, lit_101, lit_120, lit_121, lit_127, lit_169, lit_64, lit_99, lit_999, lit_676, lit_845, lit_48, lit_57, lit_32, lit_59]⟩
    unfold push
    by_cases e : j = 0
    · rw [if_pos e, e, Nat.sub_zero, hmm]
      exact C_blk (fun c a b => by simp (disch := omega) only [Nat.add_zero, Nat.zero_add, Nat.zero_mul, Nat.mul_zero, mc8, mc3, nU_f, nU_k, nU_e, xbd_some, xgd_true, xlet_eq, g_in, nI_clamp, nI_leI, nI_ltI, nI_eq, nI_add, pk_mul, pk_sub, rd_e, rd_k, rd_c, i10, i01, xsm_l, xsm_r, if_pos, if_neg, l_neg1, oI_e0, nI_e0, oI_nI, ne_eq, not_true_eq_false, not_false_eq_true, and_true, true_and, and_false, false_and, or_true, true_or, or_false, false_or, if_true, if_false, lit_0, lit_1, lit_2, lit_3, lit_4, lit_5, lit_6, lit_8, lit_9, lit_10, lit_12, lit_13, lit_21, lit_29, lit_30, lit_31, lit_37, lit_101, lit_120, lit_121, lit_127, lit_169, lit_64, lit_99, lit_999, lit_676, lit_845, lit_48, lit_57, lit_32, lit_59]) h2'
    · rw [if_neg e]
      have hk : j - 1 < k := by
        unfold k_up at hjk
        split at hjk <;> omega
      have := hj (j - 1) hk
      rw [show (m + 5 - (j - 1)) % 6 = (m' + 5 - j) % 6 by omega] at this
      exact C_blk (fun c a b => by simp (disch := omega) only [Nat.add_zero, Nat.zero_add, Nat.zero_mul, Nat.mul_zero, mc8, mc3, nU_f, nU_k, nU_e, xbd_some, xgd_true, xlet_eq, g_in, nI_clamp, nI_leI, nI_ltI, nI_eq, nI_add, pk_mul, pk_sub, rd_e, rd_k, rd_c, i10, i01, xsm_l, xsm_r, if_pos, if_neg, l_neg1, oI_e0, nI_e0, oI_nI, ne_eq, not_true_eq_false, not_false_eq_true, and_true, true_and, and_false, false_and, or_true, true_or, or_false, false_or, if_true, if_false, lit_0, lit_1, lit_2, lit_3, lit_4, lit_5, lit_6, lit_8, lit_9, lit_10, lit_12, lit_13, lit_21, lit_29, lit_30, lit_31, lit_37, lit_101, lit_120, lit_121, lit_127, lit_169, lit_64, lit_99, lit_999, lit_676, lit_845, lit_48, lit_57, lit_32, lit_59]) this
  unfold F_X3_keepMarked
  by_cases c : m = 5
  · subst c
    simp (disch := omega) only [Nat.add_zero, Nat.zero_add, Nat.zero_mul, Nat.mul_zero, mc8, mc3, nU_f, nU_k, nU_e, xbd_some, xgd_true, xlet_eq, g_in, nI_clamp, nI_leI, nI_ltI, nI_eq, nI_add, pk_mul, pk_sub, rd_e, rd_k, rd_c, i10, i01, xsm_l, xsm_r, if_pos, if_neg, l_neg1, oI_e0, nI_e0, oI_nI, ne_eq, not_true_eq_false, not_false_eq_true, and_true, true_and, and_false, false_and, or_true, true_or, or_false, false_or, if_true, if_false, lit_0, lit_1, lit_2, lit_3, lit_4, lit_5, lit_6, lit_8, lit_9, lit_10, lit_12, lit_13, lit_21, lit_29, lit_30, lit_31, lit_37, lit_101, lit_120, lit_121, lit_127, lit_169, lit_64, lit_99, lit_999, lit_676, lit_845, lit_48, lit_57, lit_32, lit_59, e1, e0, kv]
    exact fin 0 (by omega) (by omega)
  · simp (disch := omega) only [Nat.add_zero, Nat.zero_add, Nat.zero_mul, Nat.mul_zero, mc8, mc3, nU_f, nU_k, nU_e, xbd_some, xgd_true, xlet_eq, g_in, nI_clamp, nI_leI, nI_ltI, nI_eq, nI_add, pk_mul, pk_sub, rd_e, rd_k, rd_c, i10, i01, xsm_l, xsm_r, if_pos, if_neg, l_neg1, oI_e0, nI_e0, oI_nI, ne_eq, not_true_eq_false, not_false_eq_true, and_true, true_and, and_false, false_and, or_true, true_or, or_false, false_or, if_true, if_false, lit_0, lit_1, lit_2, lit_3, lit_4, lit_5, lit_6, lit_8, lit_9, lit_10, lit_12, lit_13, lit_21, lit_29, lit_30, lit_31, lit_37, lit_101, lit_120, lit_121, lit_127, lit_169, lit_64, lit_99, lit_999, lit_676, lit_845, lit_48, lit_57, lit_32, lit_59, e1, e0, kv]
    exact fin (m + 1) (by omega) (by omega)
/-- an act of the class -/
theorem c_act {F : xM → Option (Int32 × xM)} {sp : xN → Int32 × xN} (hF : ∀ σ N, s_wf N → s_C σ 1 N → ∃ σ', F σ = some ((sp N).1, σ') ∧ s_C σ' 1 (sp N).2 ∧ s_fr σ σ') (hO : okW sp) {σ : xM} {N : xN} {k : Nat} {H : Nat → xN} {L : Nat} {T : Nat → Nat} {b : Nat → Int32} (hW : IW N k H L T) (h : IC σ N k H L T b) : ∃ τ, (xbd (F_X10_mark σ) fun r1 => xbd (F r1) fun r2 => xbd (F_X10_settled r2.1 r2.2) fun r3 => some (r3.1, r3.2)) = some ((sp N).1, τ) ∧ ((0 ≤ (sp N).1 ∧ IC τ (sp N).2 (k_up k) (push N H) L T b) ∨ (((sp N).1 = -2 ∨ (sp N).1 = -3 ∨ (sp N).1 = -4) ∧ (sp N).2 = N ∧ IC τ N k H L T (bump b (sp N).1))) ∧ ∀ c, 141 ≤ c → τ c = σ c := by
  obtain ⟨τ1, a1, a2, a3, a4⟩ := f_mark hW.1 h
  obtain ⟨τ2, b1, b2, b3⟩ := hF τ1 N hW.1 a2.1
  have hK := IK_fr a2 b3 b2
  have e132 : τ2 132 3 = nI 0 := by rw [b3 132 (by omega) (by omega) (by omega)]; exact a3
  have e141 : ∀ c, 141 ≤ c → τ2 c = σ c := fun c hc => (b3 c (by omega) (by omega) (by omega)).trans (a4 c hc)
  rw [xbd_s a1, xbd_s b1]
  dsimp only
  rcases (hO N hW.1 hW.2.1).2.2 with hp | ⟨hn, hs⟩
  · obtain ⟨τ3, k1, k2, k3⟩ := f_keepM hK
    refine ⟨τ3, ?_, Or.inl ⟨hp, k2.1, k2.2.1, k2.2.2.1, k2.2.2.2, Or.inl (by rw [k3 132 (by omega)]; exact e132)⟩, fun c hc => (k3 c (by omega)).trans (e141 c hc)⟩
    unfold F_X10_settled
    have hnl : ¬ (sp N).1 < 0 := by
      rw [Int32.lt_iff_toInt_lt]
      rw [Int32.le_iff_toInt_le] at hp
      omega
    rw [if_neg hnl, xbd_s k1, xbd_s (f_cnt0 hp)]
    rfl
  · obtain ⟨h1, ⟨m, h2, h2'⟩, h3, h4⟩ := hK
    obtain ⟨τ3, k1, k2, k3⟩ := f_cnt (r := (sp N).1) h3 hn
    rw [hs] at h1
    refine ⟨τ3, ?_, Or.inr ⟨hn, hs, C_blk (fun c a b => k3 c (by omega)) h1, ⟨m, Ih_cg h2 (fun c a b => k3 c (by omega))⟩, k2, It_cg h4 (k3 137 (by omega)) (k3 138 (by omega)), Or.inl (by rw [k3 132 (by omega)]; exact e132)⟩, fun c hc => (k3 c (by omega)).trans (e141 c hc)⟩
    unfold F_X10_settled
    have hl : (sp N).1 < 0 := by
      rcases hn with e | e | e <;> rw [e] <;> decide
    rw [if_pos hl, xbd_s k1]
    rfl
