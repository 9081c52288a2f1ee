theorem m_nb {c : Nat} (hc : c < 1000) (σ : xM) : F_X11_numbersOf (nI c) σ = some (if nb c = 0 then oI 0 else nI (nb c)) := by
  unfold F_X11_numbersOf nb
  by_cases h1 : c = 97
  · subst h1; rfl
  by_cases h2 : c = 100
  · subst h2; rfl
  by_cases h3 : c = 108
  · subst h3; rfl
  by_cases h4 : c = 109
  · subst h4; rfl
  by_cases h5 : c = 111
  · subst h5; rfl
  by_cases h6 : c = 112
  · subst h6; rfl
  by_cases h7 : c = 115
  · subst h7; rfl
  by_cases h8 : c = 116
  · subst h8; rfl
  by_cases h9 : c = 120
  · subst h9; rfl
  have n : ∀ x : Nat, x < 1000 → c ≠ x → ¬ nI c = nI x := fun x hx hn e => hn ((nI_eq (by omega) (by omega)).mp e)
  rw [if_neg (show ¬ nI c = 97 from n 97 (by omega) h1), if_neg (show ¬ nI c = 100 from n 100 (by omega) h2), if_neg (show ¬ nI c = 108 from n 108 (by omega) h3), if_neg (show ¬ nI c = 109 from n 109 (by omega) h4), if_neg (show ¬ nI c = 111 from n 111 (by omega) h5), if_neg (show ¬ nI c = 112 from n 112 (by omega) h6), if_neg (show ¬ nI c = 115 from n 115 (by omega) h7), if_neg (show ¬ nI c = 116 from n 116 (by omega) h8), if_neg (show ¬ nI c = 120 from n 120 (by omega) h9), if_neg h1, if_neg h2, if_neg h3, if_neg h4, if_neg h5, if_neg h6, if_neg h7, if_neg h8, if_neg h9]
  rfl
theorem m_nb0 (σ : xM) : F_X11_numbersOf (oI 0) σ = some (oI 0) := rfl
/-- what an order does, once it is read -/
def ro_k (a : Int32) (c : Nat) (τ : xM) : Option (Int32 × xM) := if a = 0 then some (1, τ) else xbd (F_X11_can (nI c) τ) fun r11 => xlet (xup r11.2 141 16 r11.1) fun σ12 => if (σ12 141 16) = 0 then xbd (F_X11_does (nI c) σ12) fun r14 => some (1, r14.2) else some (1, σ12)
theorem m_ro {σ : xM} {T : Nat → Nat} {L p o : Nat} (a : Int32) (h : mT σ T L p) (h0 : p_s T p 0 0 = 0) (h1 : p_s T p 0 1 = 0) (h4 : p_s T p 0 4 = o) (ho : o = 0 ∨ (p < L ∧ T p ≠ 32)) : (∃ τ f, F_X11_readsOrder a σ = some (nI 0, τ) ∧ eT σ τ ∧ mT τ T L f ∧ p_r T L = f + 1) ∨ (∃ τ c p', F_X11_readsOrder a σ = ro_k a c τ ∧ eT σ τ ∧ mT τ T L p' ∧ p < p' ∧ p_s T p' 0 0 = 0 ∧ p_s T p' 0 1 = 0 ∧ p_s T p' 0 4 = o + 1 ∧ p_s T p' 1 o = c ∧ nb c ≠ 0 ∧ c < 128 ∧ ∀ k, k < nb c → τ 154 k = nI (p_s T p' 2 (3 * o + k))) := by
  obtain ⟨p1, τ1, a1, a2, a3, a4, a5, a6, a7⟩ := m_here h
  have sk := ps_skip h0 p1 a5 a6
  have e1 : eT σ τ1 := ⟨fun c x _ => a3 c x, a4⟩
  have s0 : p_s T p1 0 0 = 0 ∧ p_s T p1 0 1 = 0 ∧ p_s T p1 0 4 = o := by
    rw [sk]
    by_cases e : p1 = p
    · rw [if_pos e]; exact ⟨h0, h1, h4⟩
    · rw [if_neg e]
      simp (disch := omega) only [Nat.add_zero, Nat.zero_add, Nat.zero_mul, Nat.mul_zero, mc8, mc3, nU_f, nU_k, nU_e, xbd_some, xgd_true, xlet_eq, g_in, nI_clamp, nI_leI, nI_ltI, nI_eq, nI_add, pk_mul, pk_sub, rd_e, rd_k, rd_c, i10, i01, xsm_l, xsm_r, if_pos, if_neg, l_neg1, oI_e0, nI_e0, oI_nI, ne_eq, not_true_eq_false, not_false_eq_true, and_true, true_and, and_false, false_and, or_true, true_or, or_false, false_or, if_true, if_false, lit_0, lit_1, lit_2, lit_3, lit_4, lit_5, lit_6, lit_8, lit_9, lit_10, lit_12, lit_13, lit_21, lit_29, lit_30, lit_31, lit_37, lit_101, lit_120, lit_121, lit_127, lit_169, lit_64, lit_99, lit_999, lit_676, lit_845, lit_48, lit_57, lit_32, lit_59]
      exact ⟨h0, h1, h4⟩
  obtain ⟨s1, s2, s3⟩ := s0
  unfold F_X11_readsOrder
  rw [xbd_s a1]
  dsimp only
  by_cases hpL : p1 < L
  case neg =>
    left
    rw [if_neg hpL, xbd_s (m_nb0 τ1), if_pos oI_0]
    have pL : p1 = L := by have := a2.2.2.1; omega
    have o0 : o = 0 := by
      rcases ho with ho | ⟨ho1, ho2⟩
      · exact ho
      · by_cases e : p1 = p
        · omega
        · exact absurd (a6 p (Nat.le_refl _) (by omega)) ho2
    refine ⟨τ1, p1, rfl, e1, a2, ?_⟩
    unfold p_r
    rw [← pL, if_neg (by omega), if_pos (by omega)]
  rw [if_pos hpL]
  have tp := (a2.2.2.2.2 p1 hpL).2
  have t32 := a7 hpL
  have eS : p_s T (p1 + 1) = p_st (p_s T p1) p1 (T p1) := rfl
  have nbv := m_nb (c := T p1) (by omega) τ1
  by_cases hn : nb (T p1) = 0
  · left
    rw [if_pos hn] at nbv
    rw [xbd_s nbv, if_pos oI_0]
    refine ⟨τ1, p1, rfl, e1, a2, p_r_f hpL ?_⟩
    rw [eS, ps_l0 s1 t32 s2 hn]
    simp (disch := omega) only [Nat.add_zero, Nat.zero_add, Nat.zero_mul, Nat.mul_zero, mc8, mc3, nU_f, nU_k, nU_e, xbd_some, xgd_true, xlet_eq, g_in, nI_clamp, nI_leI, nI_ltI, nI_eq, nI_add, pk_mul, pk_sub, rd_e, rd_k, rd_c, i10, i01, xsm_l, xsm_r, if_pos, if_neg, l_neg1, oI_e0, nI_e0, oI_nI, ne_eq, not_true_eq_false, not_false_eq_true, and_true, true_and, and_false, false_and, or_true, true_or, or_false, false_or, if_true, if_false, lit_0, lit_1, lit_2, lit_3, lit_4, lit_5, lit_6, lit_8, lit_9, lit_10, lit_12, lit_13, lit_21, lit_29, lit_30, lit_31, lit_37, lit_101, lit_120, lit_121, lit_127, lit_169, lit_64, lit_99, lit_999, lit_676, lit_845, lit_48, lit_57, lit_32, lit_59]
  rw [if_neg hn] at nbv
  have nbl := nb_le (T p1)
  rw [ps_l1 s1 t32 s2 hn, s3] at eS
  generalize hc : T p1 = c at *
  rw [xbd_s nbv, if_neg (nI_m1 (by omega))]
  have m14 := a2.2.1
  have a2' : mT (xup τ1 141 14 (nI (p1 + 1))) T L (p1 + 1) := by
    obtain ⟨m1, m2, m3, m4, m5⟩ := a2
    exact ⟨by simp (disch := omega) only [Nat.add_zero, Nat.zero_add, Nat.zero_mul, Nat.mul_zero, mc8, mc3, nU_f, nU_k, nU_e, xbd_some, xgd_true, xlet_eq, g_in, nI_clamp, nI_leI, nI_ltI, nI_eq, nI_add, pk_mul, pk_sub, rd_e, rd_k, rd_c, i10, i01, xsm_l, xsm_r, if_pos, if_neg, l_neg1, oI_e0, nI_e0, oI_nI, ne_eq, not_true_eq_false, not_false_eq_true, and_true, true_and, and_false, false_and, or_true, true_or, or_false, false_or, if_true, if_false, lit_0, lit_1, lit_2, lit_3, lit_4, lit_5, lit_6, lit_8, lit_9, lit_10, lit_12, lit_13, lit_21, lit_29, lit_30, lit_31, lit_37, lit_101, lit_120, lit_121, lit_127, lit_169, lit_64, lit_99, lit_999, lit_676, lit_845, lit_48, lit_57, lit_32, lit_59, m1], by simp (disch := omega) only [Nat.add_zero, Nat.zero_add, Nat.zero_mul, Nat.mul_zero, mc8, mc3, nU_f, nU_k, nU_e, xbd_some, xgd_true, xlet_eq, g_in, nI_clamp, nI_leI, nI_ltI, nI_eq, nI_add, pk_mul, pk_sub, rd_e, rd_k, rd_c, i10, i01, xsm_l, xsm_r, if_pos, if_neg, l_neg1, oI_e0, nI_e0, oI_nI, ne_eq, not_true_eq_false, not_false_eq_true, and_true, true_and, and_false, false_and, or_true, true_or, or_false, false_or, if_true, if_false, lit_0, lit_1, lit_2, lit_3, lit_4, lit_5, lit_6, lit_8, lit_9, lit_10, lit_12, lit_13, lit_21, lit_29, lit_30, lit_31, lit_37, lit_101, lit_120, lit_121, lit_127, lit_169, lit_64, lit_99, lit_999, lit_676, lit_845, lit_48, lit_57, lit_32, lit_59], by omega, m4, fun i hi => by simp (disch := omega) only [Nat.add_zero, Nat.zero_add, Nat.zero_mul, Nat.mul_zero, mc8, mc3, nU_f, nU_k, nU_e, xbd_some, xgd_true, xlet_eq, g_in, nI_clamp, nI_leI, nI_ltI, nI_eq, nI_add, pk_mul, pk_sub, rd_e, rd_k, rd_c, i10, i01, xsm_l, xsm_r, if_pos, if_neg, l_neg1, oI_e0, nI_e0, oI_nI, ne_eq, not_true_eq_false, not_false_eq_true, and_true, true_and, and_false, false_and, or_true, true_or, or_false, false_or, if_true, if_false, lit_0, lit_1, lit_2, lit_3, lit_4, lit_5, lit_6, lit_8, lit_9, lit_10, lit_12, lit_13, lit_21, lit_29, lit_30, lit_31, lit_37, lit_101, lit_120, lit_121, lit_127, lit_169, lit_64, lit_99, lit_999, lit_676, lit_845, lit_48, lit_57, lit_32, lit_59]; exact m5 i hi⟩
  have e1' : eT σ (xup τ1 141 14 (nI (p1 + 1))) := ⟨fun d x y => by simp (disch := omega) only [Nat.add_zero, Nat.zero_add, Nat.zero_mul, Nat.mul_zero, mc8, mc3, nU_f, nU_k, nU_e, xbd_some, xgd_true, xlet_eq, g_in, nI_clamp, nI_leI, nI_ltI, nI_eq, nI_add, pk_mul, pk_sub, rd_e, rd_k, rd_c, i10, i01, xsm_l, xsm_r, if_pos, if_neg, l_neg1, oI_e0, nI_e0, oI_nI, ne_eq, not_true_eq_false, not_false_eq_true, and_true, true_and, and_false, false_and, or_true, true_or, or_false, false_or, if_true, if_false, lit_0, lit_1, lit_2, lit_3, lit_4, lit_5, lit_6, lit_8, lit_9, lit_10, lit_12, lit_13, lit_21, lit_29, lit_30, lit_31, lit_37, lit_101, lit_120, lit_121, lit_127, lit_169, lit_64, lit_99, lit_999, lit_676, lit_845, lit_48, lit_57, lit_32, lit_59]; exact a3 d x, fun j hj => by simp (disch := omega) only [Nat.add_zero, Nat.zero_add, Nat.zero_mul, Nat.mul_zero, mc8, mc3, nU_f, nU_k, nU_e, xbd_some, xgd_true, xlet_eq, g_in, nI_clamp, nI_leI, nI_ltI, nI_eq, nI_add, pk_mul, pk_sub, rd_e, rd_k, rd_c, i10, i01, xsm_l, xsm_r, if_pos, if_neg, l_neg1, oI_e0, nI_e0, oI_nI, ne_eq, not_true_eq_false, not_false_eq_true, and_true, true_and, and_false, false_and, or_true, true_or, or_false, false_or, if_true, if_false, lit_0, lit_1, lit_2, lit_3, lit_4, lit_5, lit_6, lit_8, lit_9, lit_10, lit_12, lit_13, lit_21, lit_29, lit_30, lit_31, lit_37, lit_101, lit_120, lit_121, lit_127, lit_169, lit_64, lit_99, lit_999, lit_676, lit_845, lit_48, lit_57, lit_32, lit_59]; exact a4 j hj⟩
  have hoS : oS T (p1 + 1) o (nb c) 0 := by
    unfold oS
    rw [eS]
    simp (disch := omega) only [Nat.add_zero, Nat.zero_add, Nat.zero_mul, Nat.mul_zero, mc8, mc3, nU_f, nU_k, nU_e, xbd_some, xgd_true, xlet_eq, g_in, nI_clamp, nI_leI, nI_ltI, nI_eq, nI_add, pk_mul, pk_sub, rd_e, rd_k, rd_c, i10, i01, xsm_l, xsm_r, if_pos, if_neg, l_neg1, oI_e0, nI_e0, oI_nI, ne_eq, not_true_eq_false, not_false_eq_true, and_true, true_and, and_false, false_and, or_true, true_or, or_false, false_or, if_true, if_false, lit_0, lit_1, lit_2, lit_3, lit_4, lit_5, lit_6, lit_8, lit_9, lit_10, lit_12, lit_13, lit_21, lit_29, lit_30, lit_31, lit_37, lit_101, lit_120, lit_121, lit_127, lit_169, lit_64, lit_99, lit_999, lit_676, lit_845, lit_48, lit_57, lit_32, lit_59]
    exact ⟨s1, s3⟩
  have hg : p_s T (p1 + 1) 0 3 = 0 := by
    rw [eS]
    simp (disch := omega) only [Nat.add_zero, Nat.zero_add, Nat.zero_mul, Nat.mul_zero, mc8, mc3, nU_f, nU_k, nU_e, xbd_some, xgd_true, xlet_eq, g_in, nI_clamp, nI_leI, nI_ltI, nI_eq, nI_add, pk_mul, pk_sub, rd_e, rd_k, rd_c, i10, i01, xsm_l, xsm_r, if_pos, if_neg, l_neg1, oI_e0, nI_e0, oI_nI, ne_eq, not_true_eq_false, not_false_eq_true, and_true, true_and, and_false, false_and, or_true, true_or, or_false, false_or, if_true, if_false, lit_0, lit_1, lit_2, lit_3, lit_4, lit_5, lit_6, lit_8, lit_9, lit_10, lit_12, lit_13, lit_21, lit_29, lit_30, lit_31, lit_37, lit_101, lit_120, lit_121, lit_127, lit_169, lit_64, lit_99, lit_999, lit_676, lit_845, lit_48, lit_57, lit_32, lit_59]
  have hlet : p_s T (p1 + 1) 1 o = c := by
    rw [eS]
    simp (disch := omega) only [Nat.add_zero, Nat.zero_add, Nat.zero_mul, Nat.mul_zero, mc8, mc3, nU_f, nU_k, nU_e, xbd_some, xgd_true, xlet_eq, g_in, nI_clamp, nI_leI, nI_ltI, nI_eq, nI_add, pk_mul, pk_sub, rd_e, rd_k, rd_c, i10, i01, xsm_l, xsm_r, if_pos, if_neg, l_neg1, oI_e0, nI_e0, oI_nI, ne_eq, not_true_eq_false, not_false_eq_true, and_true, true_and, and_false, false_and, or_true, true_or, or_false, false_or, if_true, if_false, lit_0, lit_1, lit_2, lit_3, lit_4, lit_5, lit_6, lit_8, lit_9, lit_10, lit_12, lit_13, lit_21, lit_29, lit_30, lit_31, lit_37, lit_101, lit_120, lit_121, lit_127, lit_169, lit_64, lit_99, lit_999, lit_676, lit_845, lit_48, lit_57, lit_32, lit_59]
  obtain ⟨r, τ2, b1, b2, f, b3, b4⟩ := m_takes a2' hn nbl hoS hg
  have e2 : eT σ τ2 := eT_tr e1' b2
  have mv : τ1 141 14 + 1 = nI (p1 + 1) := by rw [m14]; exact nI_add p1 1
  dsimp only [xlet]
  rw [mv, xbd_s b1]
  rcases b4 with ⟨rfl, b4⟩ | ⟨rfl, c0, c1, c2, c3, c4, c5⟩
  · left
    exact ⟨τ2, f, rfl, e2, b3, bad_r b4⟩
  obtain ⟨p3, τ3, d1, d2, d3, d4, d5, d6, d7⟩ := m_here b3
  have e3 : eT σ τ3 := eT_tr e2 ⟨fun c x _ => d3 c x, d4⟩
  have sk3 := ps_skip c1.1 p3 d5 d6
  have hoS3 : oS T p3 o (nb c) (nb c) ∧ p_s T p3 1 = p_s T f 1 ∧ p_s T p3 2 = p_s T f 2 := by
    unfold oS
    obtain ⟨w1, w2, w3, w4⟩ := c1
    rw [sk3]
    by_cases e : p3 = f
    · rw [if_pos e]; exact ⟨⟨w1, w2, w3, w4⟩, rfl, rfl⟩
    · rw [if_neg e]
      simp (disch := omega) only [Nat.add_zero, Nat.zero_add, Nat.zero_mul, Nat.mul_zero, mc8, mc3, nU_f, nU_k, nU_e, xbd_some, xgd_true, xlet_eq, g_in, nI_clamp, nI_leI, nI_ltI, nI_eq, nI_add, pk_mul, pk_sub, rd_e, rd_k, rd_c, i10, i01, xsm_l, xsm_r, if_pos, if_neg, l_neg1, oI_e0, nI_e0, oI_nI, ne_eq, not_true_eq_false, not_false_eq_true, and_true, true_and, and_false, false_and, or_true, true_or, or_false, false_or, if_true, if_false, lit_0, lit_1, lit_2, lit_3, lit_4, lit_5, lit_6, lit_8, lit_9, lit_10, lit_12, lit_13, lit_21, lit_29, lit_30, lit_31, lit_37, lit_101, lit_120, lit_121, lit_127, lit_169, lit_64, lit_99, lit_999, lit_676, lit_845, lit_48, lit_57, lit_32, lit_59]
      exact ⟨w1, w2, w3, w4⟩
  obtain ⟨⟨w1, w2, w3, w4⟩, w5, w6⟩ := hoS3
  dsimp only
  rw [if_neg (show ¬ (nI 1 = 0) from one0), xbd_s d1]
  dsimp only
  by_cases hp3 : p3 < L
  case neg =>
    left
    have pL : p3 = L := by have := d2.2.2.1; omega
    rw [if_neg hp3, if_neg (by decide)]
    refine ⟨τ3, p3, rfl, e3, d2, bad_r (Or.inl ⟨pL, by rw [← pL]; exact w1, by rw [← pL, w2]; exact hn⟩)⟩
  rw [if_pos hp3]
  have tp3 := (d2.2.2.2.2 p3 hp3).2
  have eS3 : p_s T (p3 + 1) = p_st (p_s T p3) p3 (T p3) := rfl
  by_cases h59 : T p3 = 59
  · right
    rw [if_pos (show nI (T p3) = 59 by rw [h59]; rfl)]
    rw [ps_e w1 (by omega) h59 (by omega), w4] at eS3
    have mv3 : τ3 141 14 + 1 = nI (p3 + 1) := by rw [d2.2.1]; exact nI_add p3 1
    rw [mv3]
    refine ⟨xup τ3 141 14 (nI (p3 + 1)), c, p3 + 1, rfl, ⟨fun d x y => by simp (disch := omega) only [Nat.add_zero, Nat.zero_add, Nat.zero_mul, Nat.mul_zero, mc8, mc3, nU_f, nU_k, nU_e, xbd_some, xgd_true, xlet_eq, g_in, nI_clamp, nI_leI, nI_ltI, nI_eq, nI_add, pk_mul, pk_sub, rd_e, rd_k, rd_c, i10, i01, xsm_l, xsm_r, if_pos, if_neg, l_neg1, oI_e0, nI_e0, oI_nI, ne_eq, not_true_eq_false, not_false_eq_true, and_true, true_and, and_false, false_and, or_true, true_or, or_false, false_or, if_true, if_false, lit_0, lit_1, lit_2, lit_3, lit_4, lit_5, lit_6, lit_8, lit_9, lit_10, lit_12, lit_13, lit_21, lit_29, lit_30, lit_31, lit_37, lit_101, lit_120, lit_121, lit_127, lit_169, lit_64, lit_99, lit_999, lit_676, lit_845, lit_48, lit_57, lit_32, lit_59]; exact e3.1 d x y, fun j hj => by simp (disch := omega) only [Nat.add_zero, Nat.zero_add, Nat.zero_mul, Nat.mul_zero, mc8, mc3, nU_f, nU_k, nU_e, xbd_some, xgd_true, xlet_eq, g_in, nI_clamp, nI_leI, nI_ltI, nI_eq, nI_add, pk_mul, pk_sub, rd_e, rd_k, rd_c, i10, i01, xsm_l, xsm_r, if_pos, if_neg, l_neg1, oI_e0, nI_e0, oI_nI, ne_eq, not_true_eq_false, not_false_eq_true, and_true, true_and, and_false, false_and, or_true, true_or, or_false, false_or, if_true, if_false, lit_0, lit_1, lit_2, lit_3, lit_4, lit_5, lit_6, lit_8, lit_9, lit_10, lit_12, lit_13, lit_21, lit_29, lit_30, lit_31, lit_37, lit_101, lit_120, lit_121, lit_127, lit_169, lit_64, lit_99, lit_999, lit_676, lit_845, lit_48, lit_57, lit_32, lit_59]; exact e3.2 j hj⟩, ?_, by omega, by rw [eS3]; simp (disch := omega) only [Nat.add_zero, Nat.zero_add, Nat.zero_mul, Nat.mul_zero, mc8, mc3, nU_f, nU_k, nU_e, xbd_some, xgd_true, xlet_eq, g_in, nI_clamp, nI_leI, nI_ltI, nI_eq, nI_add, pk_mul, pk_sub, rd_e, rd_k, rd_c, i10, i01, xsm_l, xsm_r, if_pos, if_neg, l_neg1, oI_e0, nI_e0, oI_nI, ne_eq, not_true_eq_false, not_false_eq_true, and_true, true_and, and_false, false_and, or_true, true_or, or_false, false_or, if_true, if_false, lit_0, lit_1, lit_2, lit_3, lit_4, lit_5, lit_6, lit_8, lit_9, lit_10, lit_12, lit_13, lit_21, lit_29, lit_30, lit_31, lit_37, lit_101, lit_120, lit_121, lit_127, lit_169, lit_64, lit_99, lit_999, lit_676, lit_845, lit_48, lit_57, lit_32, lit_59]; exact w1, by rw [eS3]; simp (disch := omega) only [Nat.add_zero, Nat.zero_add, Nat.zero_mul, Nat.mul_zero, mc8, mc3, nU_f, nU_k, nU_e, xbd_some, xgd_true, xlet_eq, g_in, nI_clamp, nI_leI, nI_ltI, nI_eq, nI_add, pk_mul, pk_sub, rd_e, rd_k, rd_c, i10, i01, xsm_l, xsm_r, if_pos, if_neg, l_neg1, oI_e0, nI_e0, oI_nI, ne_eq, not_true_eq_false, not_false_eq_true, and_true, true_and, and_false, false_and, or_true, true_or, or_false, false_or, if_true, if_false, lit_0, lit_1, lit_2, lit_3, lit_4, lit_5, lit_6, lit_8, lit_9, lit_10, lit_12, lit_13, lit_21, lit_29, lit_30, lit_31, lit_37, lit_101, lit_120, lit_121, lit_127, lit_169, lit_64, lit_99, lit_999, lit_676, lit_845, lit_48, lit_57, lit_32, lit_59], by rw [eS3]; simp (disch := omega) only [Nat.add_zero, Nat.zero_add, Nat.zero_mul, Nat.mul_zero, mc8, mc3, nU_f, nU_k, nU_e, xbd_some, xgd_true, xlet_eq, g_in, nI_clamp, nI_leI, nI_ltI, nI_eq, nI_add, pk_mul, pk_sub, rd_e, rd_k, rd_c, i10, i01, xsm_l, xsm_r, if_pos, if_neg, l_neg1, oI_e0, nI_e0, oI_nI, ne_eq, not_true_eq_false, not_false_eq_true, and_true, true_and, and_false, false_and, or_true, true_or, or_false, false_or, if_true, if_false, lit_0, lit_1, lit_2, lit_3, lit_4, lit_5, lit_6, lit_8, lit_9, lit_10, lit_12, lit_13, lit_21, lit_29, lit_30, lit_31, lit_37, lit_101, lit_120, lit_121, lit_127, lit_169, lit_64, lit_99, lit_999, lit_676, lit_845, lit_48, lit_57, lit_32, lit_59], ?_, hn, tp, fun k hk => ?_⟩
    · obtain ⟨m1, m2, m3, m4, m5⟩ := d2
      exact ⟨by simp (disch := omega) only [Nat.add_zero, Nat.zero_add, Nat.zero_mul, Nat.mul_zero, mc8, mc3, nU_f, nU_k, nU_e, xbd_some, xgd_true, xlet_eq, g_in, nI_clamp, nI_leI, nI_ltI, nI_eq, nI_add, pk_mul, pk_sub, rd_e, rd_k, rd_c, i10, i01, xsm_l, xsm_r, if_pos, if_neg, l_neg1, oI_e0, nI_e0, oI_nI, ne_eq, not_true_eq_false, not_false_eq_true, and_true, true_and, and_false, false_and, or_true, true_or, or_false, false_or, if_true, if_false, lit_0, lit_1, lit_2, lit_3, lit_4, lit_5, lit_6, lit_8, lit_9, lit_10, lit_12, lit_13, lit_21, lit_29, lit_30, lit_31, lit_37, lit_101, lit_120, lit_121, lit_127, lit_169, lit_64, lit_99, lit_999, lit_676, lit_845, lit_48, lit_57, lit_32, lit_59, m1], by simp (disch := omega) only [Nat.add_zero, Nat.zero_add, Nat.zero_mul, Nat.mul_zero, mc8, mc3, nU_f, nU_k, nU_e, xbd_some, xgd_true, xlet_eq, g_in, nI_clamp, nI_leI, nI_ltI, nI_eq, nI_add, pk_mul, pk_sub, rd_e, rd_k, rd_c, i10, i01, xsm_l, xsm_r, if_pos, if_neg, l_neg1, oI_e0, nI_e0, oI_nI, ne_eq, not_true_eq_false, not_false_eq_true, and_true, true_and, and_false, false_and, or_true, true_or, or_false, false_or, if_true, if_false, lit_0, lit_1, lit_2, lit_3, lit_4, lit_5, lit_6, lit_8, lit_9, lit_10, lit_12, lit_13, lit_21, lit_29, lit_30, lit_31, lit_37, lit_101, lit_120, lit_121, lit_127, lit_169, lit_64, lit_99, lit_999, lit_676, lit_845, lit_48, lit_57, lit_32, lit_59], by omega, m4, fun i hi => by simp (disch := omega) only [Nat.add_zero, Nat.zero_add, Nat.zero_mul, Nat.mul_zero, mc8, mc3, nU_f, nU_k, nU_e, xbd_some, xgd_true, xlet_eq, g_in, nI_clamp, nI_leI, nI_ltI, nI_eq, nI_add, pk_mul, pk_sub, rd_e, rd_k, rd_c, i10, i01, xsm_l, xsm_r, if_pos, if_neg, l_neg1, oI_e0, nI_e0, oI_nI, ne_eq, not_true_eq_false, not_false_eq_true, and_true, true_and, and_false, false_and, or_true, true_or, or_false, false_or, if_true, if_false, lit_0, lit_1, lit_2, lit_3, lit_4, lit_5, lit_6, lit_8, lit_9, lit_10, lit_12, lit_13, lit_21, lit_29, lit_30, lit_31, lit_37, lit_101, lit_120, lit_121, lit_127, lit_169, lit_64, lit_99, lit_999, lit_676, lit_845, lit_48, lit_57, lit_32, lit_59]; exact m5 i hi⟩
    · rw [eS3]
      simp (disch := omega) only [Nat.add_zero, Nat.zero_add, Nat.zero_mul, Nat.mul_zero, mc8, mc3, nU_f, nU_k, nU_e, xbd_some, xgd_true, xlet_eq, g_in, nI_clamp, nI_leI, nI_ltI, nI_eq, nI_add, pk_mul, pk_sub, rd_e, rd_k, rd_c, i10, i01, xsm_l, xsm_r, if_pos, if_neg, l_neg1, oI_e0, nI_e0, oI_nI, ne_eq, not_true_eq_false, not_false_eq_true, and_true, true_and, and_false, false_and, or_true, true_or, or_false, false_or, if_true, if_false, lit_0, lit_1, lit_2, lit_3, lit_4, lit_5, lit_6, lit_8, lit_9, lit_10, lit_12, lit_13, lit_21, lit_29, lit_30, lit_31, lit_37, lit_101, lit_120, lit_121, lit_127, lit_169, lit_64, lit_99, lit_999, lit_676, lit_845, lit_48, lit_57, lit_32, lit_59]
      rw [w5, c5, hlet]
    · rw [eS3]
      simp (disch := omega) only [Nat.add_zero, Nat.zero_add, Nat.zero_mul, Nat.mul_zero, mc8, mc3, nU_f, nU_k, nU_e, xbd_some, xgd_true, xlet_eq, g_in, nI_clamp, nI_leI, nI_ltI, nI_eq, nI_add, pk_mul, pk_sub, rd_e, rd_k, rd_c, i10, i01, xsm_l, xsm_r, if_pos, if_neg, l_neg1, oI_e0, nI_e0, oI_nI, ne_eq, not_true_eq_false, not_false_eq_true, and_true, true_and, and_false, false_and, or_true, true_or, or_false, false_or, if_true, if_false, lit_0, lit_1, lit_2, lit_3, lit_4, lit_5, lit_6, lit_8, lit_9, lit_10, lit_12, lit_13, lit_21, lit_29, lit_30, lit_31, lit_37, lit_101, lit_120, lit_121, lit_127, lit_169, lit_64, lit_99, lit_999, lit_676, lit_845, lit_48, lit_57, lit_32, lit_59]
      rw [d3 154 (by omega), w6]
      exact c4 k hk
  · left
    rw [if_neg (show ¬ nI (T p3) = 59 from fun e => h59 ((nI_eq (b := 59) (by omega) (by omega)).mp e))]
    refine ⟨τ3, p3, rfl, e3, d2, bad_r (Or.inr ⟨hp3, ?_⟩)⟩
    rw [eS3, ps_x w1 (d7 hp3) (by omega) (fun z => h59 z.1) ?_]
    · simp (disch := omega) only [Nat.add_zero, Nat.zero_add, Nat.zero_mul, Nat.mul_zero, mc8, mc3, nU_f, nU_k, nU_e, xbd_some, xgd_true, xlet_eq, g_in, nI_clamp, nI_leI, nI_ltI, nI_eq, nI_add, pk_mul, pk_sub, rd_e, rd_k, rd_c, i10, i01, xsm_l, xsm_r, if_pos, if_neg, l_neg1, oI_e0, nI_e0, oI_nI, ne_eq, not_true_eq_false, not_false_eq_true, and_true, true_and, and_false, false_and, or_true, true_or, or_false, false_or, if_true, if_false, lit_0, lit_1, lit_2, lit_3, lit_4, lit_5, lit_6, lit_8, lit_9, lit_10, lit_12, lit_13, lit_21, lit_29, lit_30, lit_31, lit_37, lit_101, lit_120, lit_121, lit_127, lit_169, lit_64, lit_99, lit_999, lit_676, lit_845, lit_48, lit_57, lit_32, lit_59]
    · intro ⟨z1, z2, z3⟩
      by_cases e : p3 = f
      · rw [e] at z1 hp3
        exact c3 ⟨hp3, z1⟩
      · have : p_s T p3 0 3 = 0 := by
          rw [sk3, if_neg e]
          simp (disch := omega) only [Nat.add_zero, Nat.zero_add, Nat.zero_mul, Nat.mul_zero, mc8, mc3, nU_f, nU_k, nU_e, xbd_some, xgd_true, xlet_eq, g_in, nI_clamp, nI_leI, nI_ltI, nI_eq, nI_add, pk_mul, pk_sub, rd_e, rd_k, rd_c, i10, i01, xsm_l, xsm_r, if_pos, if_neg, l_neg1, oI_e0, nI_e0, oI_nI, ne_eq, not_true_eq_false, not_false_eq_true, and_true, true_and, and_false, false_and, or_true, true_or, or_false, false_or, if_true, if_false, lit_0, lit_1, lit_2, lit_3, lit_4, lit_5, lit_6, lit_8, lit_9, lit_10, lit_12, lit_13, lit_21, lit_29, lit_30, lit_31, lit_37, lit_101, lit_120, lit_121, lit_127, lit_169, lit_64, lit_99, lit_999, lit_676, lit_845, lit_48, lit_57, lit_32, lit_59]
        omega
theorem m_pass1 {σ : xM} {T : Nat → Nat} {L : Nat} (h : mT σ T L 0) : ∃ r τ e, F_X11_readsOrder 0 σ = some (r, τ) ∧ L_X11_reads_7 r τ = some e ∧ eT σ e.2 ∧ ((e.1 = nI 0 ∧ ∃ f, mT e.2 T L f ∧ p_r T L = f + 1) ∨ (e.1 = nI 1 ∧ (∃ f, mT e.2 T L f) ∧ p_r T L = 0)) := by
  have hl := h.2.2.2.1
  have loop : ∀ r τ, eT σ τ → ((r = nI 0 ∧ ∃ f, mT τ T L f ∧ p_r T L = f + 1) ∨ (r = nI 1 ∧ ∃ p, mT τ T L p ∧ p_s T p 0 0 = 0 ∧ p_s T p 0 1 = 0 ∧ p_s T p 0 4 ≠ 0)) → ∃ e, L_X11_reads_7 r τ = some e ∧ eT σ e.2 ∧ ((e.1 = nI 0 ∧ ∃ f, mT e.2 T L f ∧ p_r T L = f + 1) ∨ (e.1 = nI 1 ∧ (∃ f, mT e.2 T L f) ∧ p_r T L = 0)) := by
    intro r τ he hs
    unfold L_X11_reads_7
    refine xloop_for (f := fun x : Int32 × xM => B_X11_reads_7 x.1 x.2) (fun k x => eT σ x.2 ∧ ((x.1 = nI 0 ∧ ∃ f, mT x.2 T L f ∧ p_r T L = f + 1) ∨ (x.1 = nI 1 ∧ ∃ p, k ≤ p ∧ mT x.2 T L p ∧ p_s T p 0 0 = 0 ∧ p_s T p 0 1 = 0 ∧ p_s T p 0 4 ≠ 0))) (fun e => eT σ e.2 ∧ ((e.1 = nI 0 ∧ ∃ f, mT e.2 T L f ∧ p_r T L = f + 1) ∨ (e.1 = nI 1 ∧ (∃ f, mT e.2 T L f) ∧ p_r T L = 0))) (L + 1) ?_ ?_ 6000 0 (r, τ) (by omega) (by omega) ⟨he, ?_⟩
    · intro k ⟨v, υ⟩ hk ⟨h1, h2⟩
      dsimp only at h1 h2 ⊢
      unfold B_X11_reads_7
      rcases h2 with ⟨rfl, h2⟩ | ⟨rfl, p, hp, h2, h3, h4, h5⟩
      · right
        simp (disch := omega) only [Nat.add_zero, Nat.zero_add, Nat.zero_mul, Nat.mul_zero, mc8, mc3, nU_f, nU_k, nU_e, xbd_some, xgd_true, xlet_eq, g_in, nI_clamp, nI_leI, nI_ltI, nI_eq, nI_add, pk_mul, pk_sub, rd_e, rd_k, rd_c, i10, i01, xsm_l, xsm_r, if_pos, if_neg, l_neg1, oI_e0, nI_e0, oI_nI, ne_eq, not_true_eq_false, not_false_eq_true, and_true, true_and, and_false, false_and, or_true, true_or, or_false, false_or, if_true, if_false, lit_0, lit_1, lit_2, lit_3, lit_4, lit_5, lit_6, lit_8, lit_9, lit_10, lit_12, lit_13, lit_21, lit_29, lit_30, lit_31, lit_37, lit_101, lit_120, lit_121, lit_127, lit_169, lit_64, lit_99, lit_999, lit_676, lit_845, lit_48, lit_57, lit_32, lit_59]
        exact ⟨_, rfl, h1, Or.inl ⟨rfl, h2⟩⟩
      · obtain ⟨q, ω, a1, a2, a3, a4, a5, a6, a7⟩ := m_here h2
        have e1 : eT σ ω := eT_tr h1 ⟨fun c x _ => a3 c x, a4⟩
        have sk := ps_skip h3 q a5 a6
        have s0 : p_s T q 0 0 = 0 ∧ p_s T q 0 1 = 0 ∧ p_s T q 0 4 = p_s T p 0 4 := by
          rw [sk]
          by_cases e : q = p
          · rw [if_pos e]; exact ⟨h3, h4, rfl⟩
          · rw [if_neg e]
            simp (disch := omega) only [Nat.add_zero, Nat.zero_add, Nat.zero_mul, Nat.mul_zero, mc8, mc3, nU_f, nU_k, nU_e, xbd_some, xgd_true, xlet_eq, g_in, nI_clamp, nI_leI, nI_ltI, nI_eq, nI_add, pk_mul, pk_sub, rd_e, rd_k, rd_c, i10, i01, xsm_l, xsm_r, if_pos, if_neg, l_neg1, oI_e0, nI_e0, oI_nI, ne_eq, not_true_eq_false, not_false_eq_true, and_true, true_and, and_false, false_and, or_true, true_or, or_false, false_or, if_true, if_false, lit_0, lit_1, lit_2, lit_3, lit_4, lit_5, lit_6, lit_8, lit_9, lit_10, lit_12, lit_13, lit_21, lit_29, lit_30, lit_31, lit_37, lit_101, lit_120, lit_121, lit_127, lit_169, lit_64, lit_99, lit_999, lit_676, lit_845, lit_48, lit_57, lit_32, lit_59]
            exact ⟨h3, h4⟩
        by_cases hq : q < L
        · left
          have tq := (a2.2.2.2.2 q hq).2
          rw [if_pos hq] at a1
          rcases m_ro 0 a2 s0.1 s0.2.1 rfl (Or.inr ⟨hq, a7 hq⟩) with ⟨ω2, f, b1, b2, b3, b4⟩ | ⟨ω2, c, p', b1, b2, b3, b4, b5, b6, b7, -⟩
          · rw [show (0 : Int32) = nI 0 from rfl] at b1
            simp (disch := omega) only [Nat.add_zero, Nat.zero_add, Nat.zero_mul, Nat.mul_zero, mc8, mc3, nU_f, nU_k, nU_e, xbd_some, xgd_true, xlet_eq, g_in, nI_clamp, nI_leI, nI_ltI, nI_eq, nI_add, pk_mul, pk_sub, rd_e, rd_k, rd_c, i10, i01, xsm_l, xsm_r, if_pos, if_neg, l_neg1, oI_e0, nI_e0, oI_nI, ne_eq, not_true_eq_false, not_false_eq_true, and_true, true_and, and_false, false_and, or_true, true_or, or_false, false_or, if_true, if_false, lit_0, lit_1, lit_2, lit_3, lit_4, lit_5, lit_6, lit_8, lit_9, lit_10, lit_12, lit_13, lit_21, lit_29, lit_30, lit_31, lit_37, lit_101, lit_120, lit_121, lit_127, lit_169, lit_64, lit_99, lit_999, lit_676, lit_845, lit_48, lit_57, lit_32, lit_59, a1, b1]
            exact ⟨_, rfl, eT_tr e1 b2, Or.inl ⟨rfl, f, b3, b4⟩⟩
          · have b1' : F_X11_readsOrder (nI 0) ω = some (nI 1, ω2) := b1
            simp (disch := omega) only [Nat.add_zero, Nat.zero_add, Nat.zero_mul, Nat.mul_zero, mc8, mc3, nU_f, nU_k, nU_e, xbd_some, xgd_true, xlet_eq, g_in, nI_clamp, nI_leI, nI_ltI, nI_eq, nI_add, pk_mul, pk_sub, rd_e, rd_k, rd_c, i10, i01, xsm_l, xsm_r, if_pos, if_neg, l_neg1, oI_e0, nI_e0, oI_nI, ne_eq, not_true_eq_false, not_false_eq_true, and_true, true_and, and_false, false_and, or_true, true_or, or_false, false_or, if_true, if_false, lit_0, lit_1, lit_2, lit_3, lit_4, lit_5, lit_6, lit_8, lit_9, lit_10, lit_12, lit_13, lit_21, lit_29, lit_30, lit_31, lit_37, lit_101, lit_120, lit_121, lit_127, lit_169, lit_64, lit_99, lit_999, lit_676, lit_845, lit_48, lit_57, lit_32, lit_59, a1, b1']
            exact ⟨_, rfl, eT_tr e1 b2, Or.inr ⟨rfl, p', by omega, b3, b5, b6, by omega⟩⟩
        · right
          rw [if_neg hq] at a1
          have qL : q = L := by have := a2.2.2.1; omega
          simp (disch := omega) only [Nat.add_zero, Nat.zero_add, Nat.zero_mul, Nat.mul_zero, mc8, mc3, nU_f, nU_k, nU_e, xbd_some, xgd_true, xlet_eq, g_in, nI_clamp, nI_leI, nI_ltI, nI_eq, nI_add, pk_mul, pk_sub, rd_e, rd_k, rd_c, i10, i01, xsm_l, xsm_r, if_pos, if_neg, l_neg1, oI_e0, nI_e0, oI_nI, ne_eq, not_true_eq_false, not_false_eq_true, and_true, true_and, and_false, false_and, or_true, true_or, or_false, false_or, if_true, if_false, lit_0, lit_1, lit_2, lit_3, lit_4, lit_5, lit_6, lit_8, lit_9, lit_10, lit_12, lit_13, lit_21, lit_29, lit_30, lit_31, lit_37, lit_101, lit_120, lit_121, lit_127, lit_169, lit_64, lit_99, lit_999, lit_676, lit_845, lit_48, lit_57, lit_32, lit_59, a1]
          refine ⟨_, rfl, e1, Or.inr ⟨rfl, ⟨q, a2⟩, ?_⟩⟩
          unfold p_r
          rw [← qL, if_neg (by omega), if_neg (by omega)]
    · intro ⟨v, υ⟩ ⟨h1, h2⟩
      dsimp only at h1 h2 ⊢
      rcases h2 with ⟨rfl, h2⟩ | ⟨rfl, p, hp, h2, h3⟩
      · unfold B_X11_reads_7
        simp (disch := omega) only [Nat.add_zero, Nat.zero_add, Nat.zero_mul, Nat.mul_zero, mc8, mc3, nU_f, nU_k, nU_e, xbd_some, xgd_true, xlet_eq, g_in, nI_clamp, nI_leI, nI_ltI, nI_eq, nI_add, pk_mul, pk_sub, rd_e, rd_k, rd_c, i10, i01, xsm_l, xsm_r, if_pos, if_neg, l_neg1, oI_e0, nI_e0, oI_nI, ne_eq, not_true_eq_false, not_false_eq_true, and_true, true_and, and_false, false_and, or_true, true_or, or_false, false_or, if_true, if_false, lit_0, lit_1, lit_2, lit_3, lit_4, lit_5, lit_6, lit_8, lit_9, lit_10, lit_12, lit_13, lit_21, lit_29, lit_30, lit_31, lit_37, lit_101, lit_120, lit_121, lit_127, lit_169, lit_64, lit_99, lit_999, lit_676, lit_845, lit_48, lit_57, lit_32, lit_59]
        exact ⟨_, rfl, h1, Or.inl ⟨rfl, h2⟩⟩
      · have := h2.2.2.1
        omega
    · rcases hs with hs | ⟨hs, p, hp⟩
      · exact Or.inl hs
      · exact Or.inr ⟨hs, p, by omega, hp⟩
  rcases m_ro 0 h rfl rfl rfl (Or.inl rfl) with ⟨τ, f, b1, b2, b3, b4⟩ | ⟨τ, c, p', b1, b2, b3, b4, b5, b6, b7, -⟩
  · obtain ⟨e, k1, k2, k3⟩ := loop (nI 0) τ b2 (Or.inl ⟨rfl, f, b3, b4⟩)
    exact ⟨_, τ, e, b1, k1, k2, k3⟩
  · obtain ⟨e, k1, k2, k3⟩ := loop (nI 1) τ b2 (Or.inr ⟨rfl, p', b3, b5, b6, by omega⟩)
    exact ⟨nI 1, τ, e, b1, k1, k2, k3⟩
