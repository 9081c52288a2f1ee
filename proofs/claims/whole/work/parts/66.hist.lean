theorem cp0 {α : Type} {f g : Nat → α} {n k : Nat} (h : k < n) : va_cpy f g 0 0 n k = f k := by
  rw [pk_cpy_in (by omega) (by omega), Nat.zero_add, Nat.sub_zero]
def s_bc (σ τ : xM) (D S : Nat) : Prop := (∀ c, c < D ∨ D + 18 ≤ c → τ c = σ c) ∧ (τ (D + 1) 0 = σ (S + 1) 0 ∧ τ (D + 7) 0 = σ (S + 7) 0 ∧ τ (D + 7) 1 = σ (S + 7) 1 ∧ τ (D + 13) 0 = σ (S + 13) 0 ∧ τ D 3 = σ S 3 ∧ τ D 4 = σ S 4 ∧ τ D 5 = σ S 5 ∧ τ D 6 = σ S 6) ∧ (∀ k, k < 8 → τ (D + 2) k = σ (S + 2) k ∧ τ (D + 3) k = σ (S + 3) k ∧ τ (D + 4) k = σ (S + 4) k) ∧ (∀ k, k < 64 → τ (D + 5) k = σ (S + 5) k ∧ τ (D + 6) k = σ (S + 6) k) ∧ (∀ k, k < 5 → τ (D + 8) k = σ (S + 8) k ∧ τ (D + 9) k = σ (S + 9) k ∧ τ (D + 10) k = σ (S + 10) k ∧ τ (D + 11) k = σ (S + 11) k ∧ τ (D + 12) k = σ (S + 12) k) ∧ ∀ k, k < 12 → τ (D + 14) k = σ (S + 14) k ∧ τ (D + 15) k = σ (S + 15) k ∧ τ (D + 16) k = σ (S + 16) k ∧ τ (D + 17) k = σ (S + 17) k
theorem bc_C {σ τ : xM} {D S : Nat} {N : xN} (hw : s_wf N) (h : s_bc σ τ D S) (k : s_C σ S N) : s_C τ D N := by
  obtain ⟨hA, hS, hT, hQ⟩ := hw.1
  obtain ⟨-, ⟨b1, b2, b3, b4, b5, b6, b7, b8⟩, bA, bL, bS, bT⟩ := h
  obtain ⟨⟨c2, c8, c8q, c14, t3, t4, t5, t6⟩, cA, c6, c7, cS, cQ, cT⟩ := k
  refine ⟨⟨by rw [b1, c2], by rw [b2, c8], by rw [b3, c8q], by rw [b4, c14], by rw [b5, t3], by rw [b6, t4], by rw [b7, t5], by rw [b8, t6]⟩, fun a ha => ?_, fun j hj => ?_, fun a c ha hc => ?_, fun s hs => ?_, fun i hi => ?_, fun i hi => ?_⟩
  · obtain ⟨x1, x2, x3⟩ := bA a (by omega)
    rw [x1, x2, x3]
    exact cA a ha
  · rw [(bL j hj).1]
    exact c6 j hj
  · rw [(bL (8 * a + c) (by omega)).2]
    exact c7 a c ha hc
  · obtain ⟨x1, x2, x3, x4, x5⟩ := bS s (by omega)
    rw [x1, x2, x3, x4]
    exact cS s hs
  · obtain ⟨x1, x2, x3, x4, x5⟩ := bS i (by omega)
    rw [x5]
    exact cQ i hi
  · obtain ⟨x1, x2, x3, x4⟩ := bT i (by omega)
    rw [x1, x2, x3, x4]
    exact cT i hi
theorem C_blk {σ τ : xM} {D : Nat} {N : xN} (e : ∀ c, D ≤ c → c < D + 18 → τ c = σ c) (k : s_C σ D N) : s_C τ D N := by
  unfold s_C at k ⊢
  rw [e D (by omega) (by omega), e (D + 1) (by omega) (by omega), e (D + 2) (by omega) (by omega), e (D + 3) (by omega) (by omega), e (D + 4) (by omega) (by omega), e (D + 5) (by omega) (by omega), e (D + 6) (by omega) (by omega), e (D + 7) (by omega) (by omega), e (D + 8) (by omega) (by omega), e (D + 9) (by omega) (by omega), e (D + 10) (by omega) (by omega), e (D + 11) (by omega) (by omega), e (D + 12) (by omega) (by omega), e (D + 13) (by omega) (by omega), e (D + 14) (by omega) (by omega), e (D + 15) (by omega) (by omega), e (D + 16) (by omega) (by omega), e (D + 17) (by omega) (by omega)]
  exact k
def cpa (d s n : Nat) (τ : xM) : xM := xset τ d (va_cpy (τ s) (τ d) 0 0 n)
def cpf (d s k : Nat) (τ : xM) : xM := xup τ d k (τ s k)
theorem cpa_e {d s n k : Nat} {τ : xM} (h : k < n) : cpa d s n τ d k = τ s k := by
  unfold cpa
  rw [xset_s, cp0 h]
theorem cpa_n {d s n c : Nat} {τ : xM} (h : c ≠ d) : cpa d s n τ c = τ c := xset_n _ _ h
theorem cpf_e {d s k : Nat} {τ : xM} : cpf d s k τ d k = τ s k := rd_e rfl
theorem cpf_k {d s k j : Nat} {τ : xM} (h : j ≠ k) : cpf d s k τ d j = τ d j := rd_k h
theorem cpf_n {d s k c : Nat} {τ : xM} (h : c ≠ d) : cpf d s k τ c = τ c := rd_c h
def cpA (D S : Nat) (σ : xM) : xM := cpa (D + 6) (S + 6) 64 (cpa (D + 5) (S + 5) 64 (cpa (D + 4) (S + 4) 8 (cpa (D + 3) (S + 3) 8 (cpa (D + 2) (S + 2) 8 (cpf (D + 1) (S + 1) 0 σ)))))
def cpS (D S : Nat) (σ : xM) : xM := cpa (D + 12) (S + 12) 5 (cpa (D + 11) (S + 11) 5 (cpa (D + 10) (S + 10) 5 (cpa (D + 9) (S + 9) 5 (cpa (D + 8) (S + 8) 5 (cpf (D + 7) (S + 7) 1 (cpf (D + 7) (S + 7) 0 σ))))))
def cpT (D S : Nat) (σ : xM) : xM := cpa (D + 17) (S + 17) 12 (cpa (D + 16) (S + 16) 12 (cpa (D + 15) (S + 15) 12 (cpa (D + 14) (S + 14) 12 (cpf (D + 13) (S + 13) 0 σ))))
def cpX (D S : Nat) (σ : xM) : xM := cpf D S 6 (cpf D S 5 (cpf D S 4 (cpf D S 3 (cpT D S (cpS D S (cpA D S σ))))))
theorem bc_X {D S : Nat} (h : D + 18 ≤ S ∨ S + 18 ≤ D) (σ : xM) : s_bc σ (cpX D S σ) D S := by
  unfold cpX cpT cpS cpA
  refine ⟨fun c hc => ?_, ⟨?_, ?_, ?_, ?_, ?_, ?_, ?_, ?_⟩, fun k hk => ⟨?_, ?_, ?_⟩, fun k hk => ⟨?_, ?_⟩, fun k hk => ⟨?_, ?_, ?_, ?_, ?_⟩, fun k hk => ⟨?_, ?_, ?_, ?_⟩⟩
  all_goals simp (disch := omega) only [cpa_n, cpf_n, cpa_e, cpf_e, cpf_k]
theorem bA_21_1 (σ : xM) : F_X1_copyFrom_22_2 σ = some (cpA 21 1 σ) := rfl
theorem bS_21_1 (σ : xM) : F_X8_copyFrom_28_8 σ = some (cpS 21 1 σ) := rfl
theorem bT_21_1 (σ : xM) : F_X7_copyFrom_34_14 σ = some (cpT 21 1 σ) := rfl
theorem bc_21_1 (σ : xM) : ∃ τ, F_X9_copyFrom_21_1 σ = some τ ∧ s_bc σ τ 21 1 := by
  refine ⟨cpX 21 1 σ, ?_, bc_X (by omega) σ⟩
  unfold F_X9_copyFrom_21_1
  rw [xbd_s (bA_21_1 σ), xbd_s (bS_21_1 _), xbd_s (bT_21_1 _)]
  rfl
theorem bA_1_21 (σ : xM) : F_X1_copyFrom_2_22 σ = some (cpA 1 21 σ) := rfl
theorem bS_1_21 (σ : xM) : F_X8_copyFrom_8_28 σ = some (cpS 1 21 σ) := rfl
theorem bT_1_21 (σ : xM) : F_X7_copyFrom_14_34 σ = some (cpT 1 21 σ) := rfl
theorem bc_1_21 (σ : xM) : ∃ τ, F_X9_copyFrom_1_21 σ = some τ ∧ s_bc σ τ 1 21 := by
  refine ⟨cpX 1 21 σ, ?_, bc_X (by omega) σ⟩
  unfold F_X9_copyFrom_1_21
  rw [xbd_s (bA_1_21 σ), xbd_s (bS_1_21 _), xbd_s (bT_1_21 _)]
  rfl
theorem bA_39_1 (σ : xM) : F_X1_copyFrom_40_2 σ = some (cpA 39 1 σ) := rfl
theorem bS_39_1 (σ : xM) : F_X8_copyFrom_46_8 σ = some (cpS 39 1 σ) := rfl
theorem bT_39_1 (σ : xM) : F_X7_copyFrom_52_14 σ = some (cpT 39 1 σ) := rfl
theorem bc_39_1 (σ : xM) : ∃ τ, F_X9_copyFrom_39_1 σ = some τ ∧ s_bc σ τ 39 1 := by
  refine ⟨cpX 39 1 σ, ?_, bc_X (by omega) σ⟩
  unfold F_X9_copyFrom_39_1
  rw [xbd_s (bA_39_1 σ), xbd_s (bS_39_1 _), xbd_s (bT_39_1 _)]
  rfl
theorem bA_1_39 (σ : xM) : F_X1_copyFrom_2_40 σ = some (cpA 1 39 σ) := rfl
theorem bS_1_39 (σ : xM) : F_X8_copyFrom_8_46 σ = some (cpS 1 39 σ) := rfl
theorem bT_1_39 (σ : xM) : F_X7_copyFrom_14_52 σ = some (cpT 1 39 σ) := rfl
theorem bc_1_39 (σ : xM) : ∃ τ, F_X9_copyFrom_1_39 σ = some τ ∧ s_bc σ τ 1 39 := by
  refine ⟨cpX 1 39 σ, ?_, bc_X (by omega) σ⟩
  unfold F_X9_copyFrom_1_39
  rw [xbd_s (bA_1_39 σ), xbd_s (bS_1_39 _), xbd_s (bT_1_39 _)]
  rfl
theorem bA_57_1 (σ : xM) : F_X1_copyFrom_58_2 σ = some (cpA 57 1 σ) := rfl
theorem bS_57_1 (σ : xM) : F_X8_copyFrom_64_8 σ = some (cpS 57 1 σ) := rfl
theorem bT_57_1 (σ : xM) : F_X7_copyFrom_70_14 σ = some (cpT 57 1 σ) := rfl
theorem bc_57_1 (σ : xM) : ∃ τ, F_X9_copyFrom_57_1 σ = some τ ∧ s_bc σ τ 57 1 := by
  refine ⟨cpX 57 1 σ, ?_, bc_X (by omega) σ⟩
  unfold F_X9_copyFrom_57_1
  rw [xbd_s (bA_57_1 σ), xbd_s (bS_57_1 _), xbd_s (bT_57_1 _)]
  rfl
theorem bA_1_57 (σ : xM) : F_X1_copyFrom_2_58 σ = some (cpA 1 57 σ) := rfl
theorem bS_1_57 (σ : xM) : F_X8_copyFrom_8_64 σ = some (cpS 1 57 σ) := rfl
theorem bT_1_57 (σ : xM) : F_X7_copyFrom_14_70 σ = some (cpT 1 57 σ) := rfl
theorem bc_1_57 (σ : xM) : ∃ τ, F_X9_copyFrom_1_57 σ = some τ ∧ s_bc σ τ 1 57 := by
  refine ⟨cpX 1 57 σ, ?_, bc_X (by omega) σ⟩
  unfold F_X9_copyFrom_1_57
  rw [xbd_s (bA_1_57 σ), xbd_s (bS_1_57 _), xbd_s (bT_1_57 _)]
  rfl
theorem bA_75_1 (σ : xM) : F_X1_copyFrom_76_2 σ = some (cpA 75 1 σ) := rfl
theorem bS_75_1 (σ : xM) : F_X8_copyFrom_82_8 σ = some (cpS 75 1 σ) := rfl
theorem bT_75_1 (σ : xM) : F_X7_copyFrom_88_14 σ = some (cpT 75 1 σ) := rfl
theorem bc_75_1 (σ : xM) : ∃ τ, F_X9_copyFrom_75_1 σ = some τ ∧ s_bc σ τ 75 1 := by
  refine ⟨cpX 75 1 σ, ?_, bc_X (by omega) σ⟩
  unfold F_X9_copyFrom_75_1
  rw [xbd_s (bA_75_1 σ), xbd_s (bS_75_1 _), xbd_s (bT_75_1 _)]
  rfl
theorem bA_1_75 (σ : xM) : F_X1_copyFrom_2_76 σ = some (cpA 1 75 σ) := rfl
theorem bS_1_75 (σ : xM) : F_X8_copyFrom_8_82 σ = some (cpS 1 75 σ) := rfl
theorem bT_1_75 (σ : xM) : F_X7_copyFrom_14_88 σ = some (cpT 1 75 σ) := rfl
theorem bc_1_75 (σ : xM) : ∃ τ, F_X9_copyFrom_1_75 σ = some τ ∧ s_bc σ τ 1 75 := by
  refine ⟨cpX 1 75 σ, ?_, bc_X (by omega) σ⟩
  unfold F_X9_copyFrom_1_75
  rw [xbd_s (bA_1_75 σ), xbd_s (bS_1_75 _), xbd_s (bT_1_75 _)]
  rfl
theorem bA_93_1 (σ : xM) : F_X1_copyFrom_94_2 σ = some (cpA 93 1 σ) := rfl
theorem bS_93_1 (σ : xM) : F_X8_copyFrom_100_8 σ = some (cpS 93 1 σ) := rfl
theorem bT_93_1 (σ : xM) : F_X7_copyFrom_106_14 σ = some (cpT 93 1 σ) := rfl
theorem bc_93_1 (σ : xM) : ∃ τ, F_X9_copyFrom_93_1 σ = some τ ∧ s_bc σ τ 93 1 := by
  refine ⟨cpX 93 1 σ, ?_, bc_X (by omega) σ⟩
  unfold F_X9_copyFrom_93_1
  rw [xbd_s (bA_93_1 σ), xbd_s (bS_93_1 _), xbd_s (bT_93_1 _)]
  rfl
theorem bA_1_93 (σ : xM) : F_X1_copyFrom_2_94 σ = some (cpA 1 93 σ) := rfl
theorem bS_1_93 (σ : xM) : F_X8_copyFrom_8_100 σ = some (cpS 1 93 σ) := rfl
theorem bT_1_93 (σ : xM) : F_X7_copyFrom_14_106 σ = some (cpT 1 93 σ) := rfl
theorem bc_1_93 (σ : xM) : ∃ τ, F_X9_copyFrom_1_93 σ = some τ ∧ s_bc σ τ 1 93 := by
  refine ⟨cpX 1 93 σ, ?_, bc_X (by omega) σ⟩
  unfold F_X9_copyFrom_1_93
  rw [xbd_s (bA_1_93 σ), xbd_s (bS_1_93 _), xbd_s (bT_1_93 _)]
  rfl
theorem bA_111_1 (σ : xM) : F_X1_copyFrom_112_2 σ = some (cpA 111 1 σ) := rfl
theorem bS_111_1 (σ : xM) : F_X8_copyFrom_118_8 σ = some (cpS 111 1 σ) := rfl
theorem bT_111_1 (σ : xM) : F_X7_copyFrom_124_14 σ = some (cpT 111 1 σ) := rfl
theorem bc_111_1 (σ : xM) : ∃ τ, F_X9_copyFrom_111_1 σ = some τ ∧ s_bc σ τ 111 1 := by
  refine ⟨cpX 111 1 σ, ?_, bc_X (by omega) σ⟩
  unfold F_X9_copyFrom_111_1
  rw [xbd_s (bA_111_1 σ), xbd_s (bS_111_1 _), xbd_s (bT_111_1 _)]
  rfl
theorem bA_1_111 (σ : xM) : F_X1_copyFrom_2_112 σ = some (cpA 1 111 σ) := rfl
theorem bS_1_111 (σ : xM) : F_X8_copyFrom_8_118 σ = some (cpS 1 111 σ) := rfl
theorem bT_1_111 (σ : xM) : F_X7_copyFrom_14_124 σ = some (cpT 1 111 σ) := rfl
theorem bc_1_111 (σ : xM) : ∃ τ, F_X9_copyFrom_1_111 σ = some τ ∧ s_bc σ τ 1 111 := by
  refine ⟨cpX 1 111 σ, ?_, bc_X (by omega) σ⟩
  unfold F_X9_copyFrom_1_111
  rw [xbd_s (bA_1_111 σ), xbd_s (bS_1_111 _), xbd_s (bT_1_111 _)]
  rfl
theorem mark_h {σ : xM} {m : Nat} (hm : m < 6) (h : σ 19 1 = nI m) : ∃ τ, F_X3_markState_1 σ = some τ ∧ s_bc σ τ (21 + 18 * m) 1 := by
  have hc : m = 0 ∨ m = 1 ∨ m = 2 ∨ m = 3 ∨ m = 4 ∨ m = 5 := by omega
  unfold F_X3_markState_1
  rcases hc with rfl | rfl | rfl | rfl | rfl | rfl
  · obtain ⟨τ, g1, g2⟩ := bc_21_1 σ
    simp (disch := omega) only [Nat.add_zero, Nat.zero_add, Nat.zero_mul, Nat.mul_zero, mc8, mc3, nU_f, nU_k, nU_e, xbd_some, xgd_true, xlet_eq, g_in, nI_clamp, nI_leI, nI_ltI, nI_eq, nI_add, pk_mul, pk_sub, rd_e, rd_k, rd_c, i10, i01, xsm_l, xsm_r, if_pos, if_neg, l_neg1, oI_e0, nI_e0, oI_nI, ne_eq, not_true_eq_false, not_false_eq_true, and_true, true_and, and_false, false_and, or_true, true_or, or_false, false_or, if_true, if_false, lit_0, lit_1, lit_2, lit_3, lit_4, lit_5, lit_6, lit_8, lit_9, lit_10, lit_12, lit_13, lit_21, lit_29, lit_30, lit_31, lit_37, lit_101, lit_120, lit_121, lit_127, lit_169, lit_64, lit_99, lit_999, lit_676, lit_845, lit_48, lit_57, lit_32, lit_59, h, g1]
    exact ⟨τ, rfl, g2⟩
  · obtain ⟨τ, g1, g2⟩ := bc_39_1 σ
    simp (disch := omega) only [Nat.add_zero, Nat.zero_add, Nat.zero_mul, Nat.mul_zero, mc8, mc3, nU_f, nU_k, nU_e, xbd_some, xgd_true, xlet_eq, g_in, nI_clamp, nI_leI, nI_ltI, nI_eq, nI_add, pk_mul, pk_sub, rd_e, rd_k, rd_c, i10, i01, xsm_l, xsm_r, if_pos, if_neg, l_neg1, oI_e0, nI_e0, oI_nI, ne_eq, not_true_eq_false, not_false_eq_true, and_true, true_and, and_false, false_and, or_true, true_or, or_false, false_or, if_true, if_false, lit_0, lit_1, lit_2, lit_3, lit_4, lit_5, lit_6, lit_8, lit_9, lit_10, lit_12, lit_13, lit_21, lit_29, lit_30, lit_31, lit_37, lit_101, lit_120, lit_121, lit_127, lit_169, lit_64, lit_99, lit_999, lit_676, lit_845, lit_48, lit_57, lit_32, lit_59, h, g1]
    exact ⟨τ, rfl, g2⟩
  · obtain ⟨τ, g1, g2⟩ := bc_57_1 σ
    simp (disch := omega) only [Nat.add_zero, Nat.zero_add, Nat.zero_mul, Nat.mul_zero, mc8, mc3, nU_f, nU_k, nU_e, xbd_some, xgd_true, xlet_eq, g_in, nI_clamp, nI_leI, nI_ltI, nI_eq, nI_add, pk_mul, pk_sub, rd_e, rd_k, rd_c, i10, i01, xsm_l, xsm_r, if_pos, if_neg, l_neg1, oI_e0, nI_e0, oI_nI, ne_eq, not_true_eq_false, not_false_eq_true, and_true, true_and, and_false, false_and, or_true, true_or, or_false, false_or, if_true, if_false, lit_0, lit_1, lit_2, lit_3, lit_4, lit_5, lit_6, lit_8, lit_9, lit_10, lit_12, lit_13, lit_21, lit_29, lit_30, lit_31, lit_37, lit_101, lit_120, lit_121, lit_127, lit_169, lit_64, lit_99, lit_999, lit_676, lit_845, lit_48, lit_57, lit_32, lit_59, h, g1]
    exact ⟨τ, rfl, g2⟩
  · obtain ⟨τ, g1, g2⟩ := bc_75_1 σ
    simp (disch := omega) only [Nat.add_zero, Nat.zero_add, Nat.zero_mul, Nat.mul_zero, mc8, mc3, nU_f, nU_k, nU_e, xbd_some, xgd_true, xlet_eq, g_in, nI_clamp, nI_leI, nI_ltI, nI_eq, nI_add, pk_mul, pk_sub, rd_e, rd_k, rd_c, i10, i01, xsm_l, xsm_r, if_pos, if_neg, l_neg1, oI_e0, nI_e0, oI_nI, ne_eq, not_true_eq_false, not_false_eq_true, and_true, true_and, and_false, false_and, or_true, true_or, or_false, false_or, if_true, if_false, lit_0, lit_1, lit_2, lit_3, lit_4, lit_5, lit_6, lit_8, lit_9, lit_10, lit_12, lit_13, lit_21, lit_29, lit_30, lit_31, lit_37, lit_101, lit_120, lit_121, lit_127, lit_169, lit_64, lit_99, lit_999, lit_676, lit_845, lit_48, lit_57, lit_32, lit_59, h, g1]
    exact ⟨τ, rfl, g2⟩
  · obtain ⟨τ, g1, g2⟩ := bc_93_1 σ
    simp (disch := omega) only [Nat.add_zero, Nat.zero_add, Nat.zero_mul, Nat.mul_zero, mc8, mc3, nU_f, nU_k, nU_e, xbd_some, xgd_true, xlet_eq, g_in, nI_clamp, nI_leI, nI_ltI, nI_eq, nI_add, pk_mul, pk_sub, rd_e, rd_k, rd_c, i10, i01, xsm_l, xsm_r, if_pos, if_neg, l_neg1, oI_e0, nI_e0, oI_nI, ne_eq, not_true_eq_false, not_false_eq_true, and_true, true_and, and_false, false_and, or_true, true_or, or_false, false_or, if_true, if_false, lit_0, lit_1, lit_2, lit_3, lit_4, lit_5, lit_6, lit_8, lit_9, lit_10, lit_12, lit_13, lit_21, lit_29, lit_30, lit_31, lit_37, lit_101, lit_120, lit_121, lit_127, lit_169, lit_64, lit_99, lit_999, lit_676, lit_845, lit_48, lit_57, lit_32, lit_59, h, g1]
    exact ⟨τ, rfl, g2⟩
  · obtain ⟨τ, g1, g2⟩ := bc_111_1 σ
    simp (disch := omega) only [Nat.add_zero, Nat.zero_add, Nat.zero_mul, Nat.mul_zero, mc8, mc3, nU_f, nU_k, nU_e, xbd_some, xgd_true, xlet_eq, g_in, nI_clamp, nI_leI, nI_ltI, nI_eq, nI_add, pk_mul, pk_sub, rd_e, rd_k, rd_c, i10, i01, xsm_l, xsm_r, if_pos, if_neg, l_neg1, oI_e0, nI_e0, oI_nI, ne_eq, not_true_eq_false, not_false_eq_true, and_true, true_and, and_false, false_and, or_true, true_or, or_false, false_or, if_true, if_false, lit_0, lit_1, lit_2, lit_3, lit_4, lit_5, lit_6, lit_8, lit_9, lit_10, lit_12, lit_13, lit_21, lit_29, lit_30, lit_31, lit_37, lit_101, lit_120, lit_121, lit_127, lit_169, lit_64, lit_99, lit_999, lit_676, lit_845, lit_48, lit_57, lit_32, lit_59, h, g1]
    exact ⟨τ, rfl, g2⟩
theorem rest_h {σ : xM} {m : Nat} (hm : m < 6) (h : σ 19 1 = nI m) : ∃ τ, F_X3_restoreMarked_1 σ = some τ ∧ s_bc σ τ 1 (21 + 18 * m) := by
  have hc : m = 0 ∨ m = 1 ∨ m = 2 ∨ m = 3 ∨ m = 4 ∨ m = 5 := by omega
  unfold F_X3_restoreMarked_1
  rcases hc with rfl | rfl | rfl | rfl | rfl | rfl
  · obtain ⟨τ, g1, g2⟩ := bc_1_21 σ
    simp (disch := omega) only [Nat.add_zero, Nat.zero_add, Nat.zero_mul, Nat.mul_zero, mc8, mc3, nU_f, nU_k, nU_e, xbd_some, xgd_true, xlet_eq, g_in, nI_clamp, nI_leI, nI_ltI, nI_eq, nI_add, pk_mul, pk_sub, rd_e, rd_k, rd_c, i10, i01, xsm_l, xsm_r, if_pos, if_neg, l_neg1, oI_e0, nI_e0, oI_nI, ne_eq, not_true_eq_false, not_false_eq_true, and_true, true_and, and_false, false_and, or_true, true_or, or_false, false_or, if_true, if_false, lit_0, lit_1, lit_2, lit_3, lit_4, lit_5, lit_6, lit_8, lit_9, lit_10, lit_12, lit_13, lit_21, lit_29, lit_30, lit_31, lit_37, lit_101, lit_120, lit_121, lit_127, lit_169, lit_64, lit_99, lit_999, lit_676, lit_845, lit_48, lit_57, lit_32, lit_59, h, g1]
    exact ⟨τ, rfl, g2⟩
  · obtain ⟨τ, g1, g2⟩ := bc_1_39 σ
    simp (disch := omega) only [Nat.add_zero, Nat.zero_add, Nat.zero_mul, Nat.mul_zero, mc8, mc3, nU_f, nU_k, nU_e, xbd_some, xgd_true, xlet_eq, g_in, nI_clamp, nI_leI, nI_ltI, nI_eq, nI_add, pk_mul, pk_sub, rd_e, rd_k, rd_c, i10, i01, xsm_l, xsm_r, if_pos, if_neg, l_neg1, oI_e0, nI_e0, oI_nI, ne_eq, not_true_eq_false, not_false_eq_true, and_true, true_and, and_false, false_and, or_true, true_or, or_false, false_or, if_true, if_false, lit_0, lit_1, lit_2, lit_3, lit_4, lit_5, lit_6, lit_8, lit_9, lit_10, lit_12, lit_13, lit_21, lit_29, lit_30, lit_31, lit_37, lit_101, lit_120, lit_121, lit_127, lit_169, lit_64, lit_99, lit_999, lit_676, lit_845, lit_48, lit_57, lit_32, lit_59, h, g1]
    exact ⟨τ, rfl, g2⟩
  · obtain ⟨τ, g1, g2⟩ := bc_1_57 σ
    simp (disch := omega) only [Nat.add_zero, Nat.zero_add, Nat.zero_mul, Nat.mul_zero, mc8, mc3, nU_f, nU_k, nU_e, xbd_some, xgd_true, xlet_eq, g_in, nI_clamp, nI_leI, nI_ltI, nI_eq, nI_add, pk_mul, pk_sub, rd_e, rd_k, rd_c, i10, i01, xsm_l, xsm_r, if_pos, if_neg, l_neg1, oI_e0, nI_e0, oI_nI, ne_eq, not_true_eq_false, not_false_eq_true, and_true, true_and, and_false, false_and, or_true, true_or, or_false, false_or, if_true, if_false, lit_0, lit_1, lit_2, lit_3, lit_4, lit_5, lit_6, lit_8, lit_9, lit_10, lit_12, lit_13, lit_21, lit_29, lit_30, lit_31, lit_37, lit_101, lit_120, lit_121, lit_127, lit_169, lit_64, lit_99, lit_999, lit_676, lit_845, lit_48, lit_57, lit_32, lit_59, h, g1]
    exact ⟨τ, rfl, g2⟩
  · obtain ⟨τ, g1, g2⟩ := bc_1_75 σ
    simp (disch := omega) only [Nat.add_zero, Nat.zero_add, Nat.zero_mul, Nat.mul_zero, mc8, mc3, nU_f, nU_k, nU_e, xbd_some, xgd_true, xlet_eq, g_in, nI_clamp, nI_leI, nI_ltI, nI_eq, nI_add, pk_mul, pk_sub, rd_e, rd_k, rd_c, i10, i01, xsm_l, xsm_r, if_pos, if_neg, l_neg1, oI_e0, nI_e0, oI_nI, ne_eq, not_true_eq_false, not_false_eq_true, and_true, true_and, and_false, false_and, or_true, true_or, or_false, false_or, if_true, if_false, lit_0, lit_1, lit_2, lit_3, lit_4, lit_5, lit_6, lit_8, lit_9, lit_10, lit_12, lit_13, lit_21, lit_29, lit_30, lit_31, lit_37, lit_101, lit_120, lit_121, lit_127, lit_169, lit_64, lit_99, lit_999, lit_676, lit_845, lit_48, lit_57, lit_32, lit_59, h, g1]
    exact ⟨τ, rfl, g2⟩
  · obtain ⟨τ, g1, g2⟩ := bc_1_93 σ
    simp (disch := omega) only [Nat.add_zero, Nat.zero_add, Nat.zero_mul, Nat.mul_zero, mc8, mc3, nU_f, nU_k, nU_e, xbd_some, xgd_true, xlet_eq, g_in, nI_clamp, nI_leI, nI_ltI, nI_eq, nI_add, pk_mul, pk_sub, rd_e, rd_k, rd_c, i10, i01, xsm_l, xsm_r, if_pos, if_neg, l_neg1, oI_e0, nI_e0, oI_nI, ne_eq, not_true_eq_false, not_false_eq_true, and_true, true_and, and_false, false_and, or_true, true_or, or_false, false_or, if_true, if_false, lit_0, lit_1, lit_2, lit_3, lit_4, lit_5, lit_6, lit_8, lit_9, lit_10, lit_12, lit_13, lit_21, lit_29, lit_30, lit_31, lit_37, lit_101, lit_120, lit_121, lit_127, lit_169, lit_64, lit_99, lit_999, lit_676, lit_845, lit_48, lit_57, lit_32, lit_59, h, g1]
    exact ⟨τ, rfl, g2⟩
  · obtain ⟨τ, g1, g2⟩ := bc_1_111 σ
    simp (disch := omega) only [Nat.add_zero, Nat.zero_add, Nat.zero_mul, Nat.mul_zero, mc8, mc3, nU_f, nU_k, nU_e, xbd_some, xgd_true, xlet_eq, g_in, nI_clamp, nI_leI, nI_ltI, nI_eq, nI_add, pk_mul, pk_sub, rd_e, rd_k, rd_c, i10, i01, xsm_l, xsm_r, if_pos, if_neg, l_neg1, oI_e0, nI_e0, oI_nI, ne_eq, not_true_eq_false, not_false_eq_true, and_true, true_and, and_false, false_and, or_true, true_or, or_false, false_or, if_true, if_false, lit_0, lit_1, lit_2, lit_3, lit_4, lit_5, lit_6, lit_8, lit_9, lit_10, lit_12, lit_13, lit_21, lit_29, lit_30, lit_31, lit_37, lit_101, lit_120, lit_121, lit_127, lit_169, lit_64, lit_99, lit_999, lit_676, lit_845, lit_48, lit_57, lit_32, lit_59, h, g1]
    exact ⟨τ, rfl, g2⟩
