def s_ag (N N' : xN) : Prop := (N' 0 0 = N 0 0 ∧ N' 0 1 = N 0 1 ∧ N' 0 2 = N 0 2) ∧ N' 2 = N 2 ∧ N' 3 = N 3 ∧ N' 4 = N 4 ∧ N' 5 = N 5 ∧ N' 6 = N 6 ∧ N' 7 = N 7 ∧ N' 10 = N 10 ∧ N' 11 = N 11 ∧ N' 12 = N 12
def s_au (n u u' : Nat) (st st' : Nat → Nat) : Prop := ∀ s, s < n → u'.testBit s = u.testBit s ∧ (u.testBit s = true → st' s = st s)
theorem s_sm_cg {N N' : xN} {u u' : Nat} {st st' : Nat → Nat} {n a s : Nat} (h0 : N' 0 0 = N 0 0) (h5 : N' 5 = N 5) (h3 : N' 3 a = N 3 a) (h6 : N' 6 = N 6) (hu : s_au n u u' st st') (hs : s < n) : s_sm N' u' st' a s = s_sm N u st a s := by
  obtain ⟨e1, e2⟩ := hu s hs
  unfold s_sm
  rw [s_di_cg h5 h0, h6, h3, e1]
  by_cases hb : u.testBit s = true
  · rw [e2 hb]
  · have hb2 : u.testBit s = false := by simpa using hb
    rw [hb2]
    simp
theorem s_sm_bit {N : xN} {u : Nat} {st : Nat → Nat} {a s : Nat} (h : s_sm N u st a s ≠ 0) : u.testBit s = true := by
  unfold s_sm at h
  by_cases hb : u.testBit s = true
  · exact hb
  · rw [if_pos (Or.inr (by simpa using hb))] at h
    exact absurd rfl h
theorem s_cb_cg {N N' : xN} {u u' : Nat} {st st' : Nat → Nat} {n a : Nat} (h0 : N' 0 0 = N 0 0) (h5 : N' 5 = N 5) (h3 : N' 3 a = N 3 a) (h6 : N' 6 = N 6) (hu : s_au n u u' st st') : ∀ k, k ≤ n → s_cb N' u' st' a k = s_cb N u st a k
  | 0, _ => rfl
  | k + 1, hk => by
    have ih := s_cb_cg h0 h5 h3 h6 hu k (by omega)
    have hle := s_cb_le N u st a k
    have es := s_sm_cg h0 h5 h3 h6 hu (show k < n by omega) (a := a)
    unfold s_cb
    rw [ih, es]
    by_cases z : s_sm N u st a k = 0
    · rw [if_neg (by omega), if_neg (by omega)]
    · have e1 := (hu k (by omega)).2 (s_sm_bit z)
      rw [e1]
      by_cases z2 : s_cb N u st a k = 0
      · rw [if_pos ⟨z, Or.inl z2⟩, if_pos ⟨z, Or.inl z2⟩]
      · obtain ⟨c, hc⟩ : ∃ c, s_cb N u st a k = c + 1 := ⟨s_cb N u st a k - 1, by omega⟩
        have hp := s_cb_pos N u st a k c hc
        have e2 := (hu c (by omega)).2 (s_sm_bit hp)
        rw [hc, Nat.add_sub_cancel, s_sm_cg h0 h5 h3 h6 hu (show c < n by omega) (a := a), e2]
theorem s_ct_cg {N N' : xN} {u u' : Nat} {st st' : Nat → Nat} {a : Nat} (h0 : N' 0 0 = N 0 0) (h1 : N' 0 1 = N 0 1) (h5 : N' 5 = N 5) (h3 : N' 3 a = N 3 a) (h4 : N' 4 a = N 4 a) (h6 : N' 6 = N 6) (hu : s_au (N 0 1) u u' st st') (hl : N 4 a ≤ N 0 1) : s_ct N' u' st' a = s_ct N u st a := by
  unfold s_ct
  rw [h1, s_cb_cg h0 h5 h3 h6 hu (N 0 1) (Nat.le_refl _), h3, h4]
  by_cases z : N 4 a = 0
  · rw [if_neg (by omega), if_neg (by omega)]
  · rw [s_sm_cg h0 h5 h3 h6 hu (show N 4 a - 1 < N 0 1 by omega) (a := a)]
theorem s_la_cg {N N' : xN} {u u' : Nat} {st st' : Nat → Nat} (h : s_ag N N') (hw : s_wf N) (hu : s_au (N 0 1) u u' st st') (s : Nat) : ∀ k, k ≤ N 0 0 → s_la N' u' st' s k = s_la N u st s k
  | 0, _ => rfl
  | k + 1, hk => by
    obtain ⟨⟨h0, h1, h2⟩, g2, g3, g4, g5, g6, g7, g10, g11, g12⟩ := id h
    unfold s_la
    rw [s_la_cg h hw hu s k (by omega), s_ct_cg h0 h1 g5 (by rw [g3]) (by rw [g4]) g6 hu (hw.2.1 k (by omega)).2.2, g2]
theorem s_ls_cg {N N' : xN} {u u' : Nat} {st st' : Nat → Nat} (h : s_ag N N') (hw : s_wf N) (hu : s_au (N 0 1) u u' st st') (s : Nat) : ∀ k, k ≤ N 0 2 → s_ls N' u' st' s k = s_ls N u st s k
  | 0, _ => rfl
  | k + 1, hk => by
    obtain ⟨⟨h0, h1, h2⟩, g2, g3, g4, g5, g6, g7, g10, g11, g12⟩ := id h
    unfold s_ls
    rw [s_ls_cg h hw hu s k (by omega), g10, g11, g12, s_ct_cg h0 h1 g5 (by rw [g3]) (by rw [g4]) g6 hu (hw.2.1 _ (hw.2.2.2.2.2.1 k (by omega)).1).2.2]
theorem s_ld_cg {N N' : xN} {u u' : Nat} {st st' : Nat → Nat} (h : s_ag N N') (hw : s_wf N) (hu : s_au (N 0 1) u u' st st') (s : Nat) : s_ld N' u' st' s = s_ld N u st s := by
  unfold s_ld
  rw [h.1.1, h.1.2.2, s_la_cg h hw hu s _ (Nat.le_refl _), s_ls_cg h hw hu s _ (Nat.le_refl _)]
theorem s_om_cg {N N' : xN} {u u' : Nat} {st st' : Nat → Nat} (h : s_ag N N') (hw : s_wf N) (hu : s_au (N 0 1) u u' st st') : s_om N' u' st' = s_om N u st := by
  unfold s_om
  rw [h.1.2.1]
  refine xmk_congr (fun s hs => ?_)
  unfold s_ov
  rw [s_ld_cg h hw hu s, h.2.2.2.2.2.2.1, (hu s hs).1]
theorem ag_off (N : xN) (s : Nat) : s_ag N (a_off N s) := ⟨⟨off_0 (by omega), off_0 (by omega), off_0 (by omega)⟩, off_f (by omega) (by omega) (by omega) (by omega), off_f (by omega) (by omega) (by omega) (by omega), off_f (by omega) (by omega) (by omega) (by omega), off_f (by omega) (by omega) (by omega) (by omega), off_f (by omega) (by omega) (by omega) (by omega), off_f (by omega) (by omega) (by omega) (by omega), off_f (by omega) (by omega) (by omega) (by omega), off_f (by omega) (by omega) (by omega) (by omega), off_f (by omega) (by omega) (by omega) (by omega)⟩
theorem au_off {N : xN} {s : Nat} (hw : s_wf N) (hs : s < N 0 1) : s_au (N 0 1) (dif (s_up N) (2 ^ s)) (s_up (a_off N s)) (N 8) (a_off N s 8) := by
  have hS := hw.1.2.1
  intro t ht
  have e : (s_up (a_off N s)).testBit t = !decide (a_off N s 9 t = 2) := s_up_bit (by rw [off_0 (by omega)]; exact ht)
  rw [e, off_9, off_8, dif_bit (p2_lt (by omega)) (by omega), s_up_bit ht, p2_bit]
  by_cases ts : t = s
  · subst ts
    simp (disch := omega) only [Nat.add_zero, Nat.zero_add, Nat.zero_mul, Nat.mul_zero, mc8, mc3, nU_f, nU_k, nU_e, xbd_some, xgd_true, xlet_eq, g_in, nI_clamp, nI_leI, nI_ltI, nI_eq, nI_add, pk_mul, pk_sub, rd_e, rd_k, rd_c, i10, i01, xsm_l, xsm_r, if_pos, if_neg, l_neg1, oI_e0, nI_e0, oI_nI, ne_eq, not_true_eq_false, not_false_eq_true, and_true, true_and, and_false, false_and, or_true, true_or, or_false, false_or, if_true, if_false, lit_0, lit_1, lit_2, lit_3, lit_4, lit_5, lit_6, lit_8, lit_9, lit_10, lit_12, lit_13, lit_21, lit_29, lit_30, lit_31, lit_37, lit_101, lit_120, lit_121, lit_127, lit_169, lit_64, lit_99, lit_999, lit_676, lit_845, lit_48, lit_57, lit_32, lit_59]
    simp
  · simp (disch := omega) only [Nat.add_zero, Nat.zero_add, Nat.zero_mul, Nat.mul_zero, mc8, mc3, nU_f, nU_k, nU_e, xbd_some, xgd_true, xlet_eq, g_in, nI_clamp, nI_leI, nI_ltI, nI_eq, nI_add, pk_mul, pk_sub, rd_e, rd_k, rd_c, i10, i01, xsm_l, xsm_r, if_pos, if_neg, l_neg1, oI_e0, nI_e0, oI_nI, ne_eq, not_true_eq_false, not_false_eq_true, and_true, true_and, and_false, false_and, or_true, true_or, or_false, false_or, if_true, if_false, lit_0, lit_1, lit_2, lit_3, lit_4, lit_5, lit_6, lit_8, lit_9, lit_10, lit_12, lit_13, lit_21, lit_29, lit_30, lit_31, lit_37, lit_101, lit_120, lit_121, lit_127, lit_169, lit_64, lit_99, lit_999, lit_676, lit_845, lit_48, lit_57, lit_32, lit_59]
    simp
    intro _
    omega
theorem om_off {N : xN} {s : Nat} (hw : s_wf N) (hs : s < N 0 1) : s_om (a_off N s) (s_up (a_off N s)) (a_off N s 8) = s_om N (dif (s_up N) (2 ^ s)) (N 8) := s_om_cg (ag_off N s) hw (au_off hw hs)
theorem wf_age {N : xN} (hw : s_wf N) : s_wf (a_age N) := by
  obtain ⟨⟨hA, hS, hT, hQ⟩, w2, w5, w0, w6, w10, w1, w1d⟩ := id hw
  have hc := xct_le (g_liv N) (N 0 2)
  have gf : ∀ f, f < 10 ∨ 13 < f → g_N N (N 0 2) f = N f := fun f hf => g_N_f hf _
  have key : ∀ i, i ≤ N 0 2 → ∀ j, j < xct (g_liv N) i → g_N N i 10 j < N 0 0 ∧ g_N N i 11 j < N 0 1 ∧ 1 ≤ g_N N i 12 j ∧ g_N N i 12 j ≤ 9 ∧ 1 ≤ g_N N i 13 j ∧ g_N N i 13 j ≤ 30 := by
    intro i
    induction i with
    | zero => intro _ j hj; simp [xct] at hj
    | succ i ih =>
      intro hi j hj
      have ih := ih (by omega)
      obtain ⟨b1, b2, b3, b4, b5, b6⟩ := w10 i (by omega)
      by_cases hl : g_liv N i = true
      · have e : g_N N (i + 1) = g_set (g_N N i) (xct (g_liv N) i) (N 10 i) (g_at N i) (N 12 i) (N 13 i - 1) := by
          conv => lhs; unfold g_N
          rw [if_pos hl]
        rw [e]
        unfold g_set
        rw [xct_t hl] at hj
        by_cases ej : j = xct (g_liv N) i
        · have hct := s_ct_lt hw (u := s_up N) (st := N 8) b1
          have hat : g_at N i < N 0 1 := by
            unfold g_at g_ct
            split
            · next ho =>
              have : g_ct N i ≠ 0 := by
                intro z
                simp [g_liv, ho, z] at hl
              unfold g_ct at this
              omega
            · exact b2
          have h13 : N 13 i ≠ 1 := by
            intro z
            simp [g_liv, z] at hl
          simp (disch := omega) only [Nat.add_zero, Nat.zero_add, Nat.zero_mul, Nat.mul_zero, mc8, mc3, nU_f, nU_k, nU_e, xbd_some, xgd_true, xlet_eq, g_in, nI_clamp, nI_leI, nI_ltI, nI_eq, nI_add, pk_mul, pk_sub, rd_e, rd_k, rd_c, i10, i01, xsm_l, xsm_r, if_pos, if_neg, l_neg1, oI_e0, nI_e0, oI_nI, ne_eq, not_true_eq_false, not_false_eq_true, and_true, true_and, and_false, false_and, or_true, true_or, or_false, false_or, if_true, if_false, lit_0, lit_1, lit_2, lit_3, lit_4, lit_5, lit_6, lit_8, lit_9, lit_10, lit_12, lit_13, lit_21, lit_29, lit_30, lit_31, lit_37, lit_101, lit_120, lit_121, lit_127, lit_169, lit_64, lit_99, lit_999, lit_676, lit_845, lit_48, lit_57, lit_32, lit_59]
          omega
        · simp (disch := omega) only [Nat.add_zero, Nat.zero_add, Nat.zero_mul, Nat.mul_zero, mc8, mc3, nU_f, nU_k, nU_e, xbd_some, xgd_true, xlet_eq, g_in, nI_clamp, nI_leI, nI_ltI, nI_eq, nI_add, pk_mul, pk_sub, rd_e, rd_k, rd_c, i10, i01, xsm_l, xsm_r, if_pos, if_neg, l_neg1, oI_e0, nI_e0, oI_nI, ne_eq, not_true_eq_false, not_false_eq_true, and_true, true_and, and_false, false_and, or_true, true_or, or_false, false_or, if_true, if_false, lit_0, lit_1, lit_2, lit_3, lit_4, lit_5, lit_6, lit_8, lit_9, lit_10, lit_12, lit_13, lit_21, lit_29, lit_30, lit_31, lit_37, lit_101, lit_120, lit_121, lit_127, lit_169, lit_64, lit_99, lit_999, lit_676, lit_845, lit_48, lit_57, lit_32, lit_59]
          exact ih j (by omega)
      · have e : g_N N (i + 1) = g_N N i := by
          conv => lhs; unfold g_N
          rw [if_neg hl]
        rw [e]
        rw [xct_f (by simpa using hl)] at hj
        exact ih j hj
  unfold a_age
  refine ⟨⟨?_, ?_, ?_, ?_⟩, fun b hb => ?_, fun j hj => ?_, fun a b ha hb hh => ?_, fun t ht => ?_, fun j hj => ?_, fun i hi => ?_, fun i j hi hj => ?_⟩
  · simp (disch := omega) only [Nat.add_zero, Nat.zero_add, Nat.zero_mul, Nat.mul_zero, mc8, mc3, nU_f, nU_k, nU_e, xbd_some, xgd_true, xlet_eq, g_in, nI_clamp, nI_leI, nI_ltI, nI_eq, nI_add, pk_mul, pk_sub, rd_e, rd_k, rd_c, i10, i01, xsm_l, xsm_r, if_pos, if_neg, l_neg1, oI_e0, nI_e0, oI_nI, ne_eq, not_true_eq_false, not_false_eq_true, and_true, true_and, and_false, false_and, or_true, true_or, or_false, false_or, if_true, if_false, lit_0, lit_1, lit_2, lit_3, lit_4, lit_5, lit_6, lit_8, lit_9, lit_10, lit_12, lit_13, lit_21, lit_29, lit_30, lit_31, lit_37, lit_101, lit_120, lit_121, lit_127, lit_169, lit_64, lit_99, lit_999, lit_676, lit_845, lit_48, lit_57, lit_32, lit_59, gf]; omega
  · simp (disch := omega) only [Nat.add_zero, Nat.zero_add, Nat.zero_mul, Nat.mul_zero, mc8, mc3, nU_f, nU_k, nU_e, xbd_some, xgd_true, xlet_eq, g_in, nI_clamp, nI_leI, nI_ltI, nI_eq, nI_add, pk_mul, pk_sub, rd_e, rd_k, rd_c, i10, i01, xsm_l, xsm_r, if_pos, if_neg, l_neg1, oI_e0, nI_e0, oI_nI, ne_eq, not_true_eq_false, not_false_eq_true, and_true, true_and, and_false, false_and, or_true, true_or, or_false, false_or, if_true, if_false, lit_0, lit_1, lit_2, lit_3, lit_4, lit_5, lit_6, lit_8, lit_9, lit_10, lit_12, lit_13, lit_21, lit_29, lit_30, lit_31, lit_37, lit_101, lit_120, lit_121, lit_127, lit_169, lit_64, lit_99, lit_999, lit_676, lit_845, lit_48, lit_57, lit_32, lit_59, gf]; omega
  · simp (disch := omega) only [Nat.add_zero, Nat.zero_add, Nat.zero_mul, Nat.mul_zero, mc8, mc3, nU_f, nU_k, nU_e, xbd_some, xgd_true, xlet_eq, g_in, nI_clamp, nI_leI, nI_ltI, nI_eq, nI_add, pk_mul, pk_sub, rd_e, rd_k, rd_c, i10, i01, xsm_l, xsm_r, if_pos, if_neg, l_neg1, oI_e0, nI_e0, oI_nI, ne_eq, not_true_eq_false, not_false_eq_true, and_true, true_and, and_false, false_and, or_true, true_or, or_false, false_or, if_true, if_false, lit_0, lit_1, lit_2, lit_3, lit_4, lit_5, lit_6, lit_8, lit_9, lit_10, lit_12, lit_13, lit_21, lit_29, lit_30, lit_31, lit_37, lit_101, lit_120, lit_121, lit_127, lit_169, lit_64, lit_99, lit_999, lit_676, lit_845, lit_48, lit_57, lit_32, lit_59, gf]; omega
  · simp (disch := omega) only [Nat.add_zero, Nat.zero_add, Nat.zero_mul, Nat.mul_zero, mc8, mc3, nU_f, nU_k, nU_e, xbd_some, xgd_true, xlet_eq, g_in, nI_clamp, nI_leI, nI_ltI, nI_eq, nI_add, pk_mul, pk_sub, rd_e, rd_k, rd_c, i10, i01, xsm_l, xsm_r, if_pos, if_neg, l_neg1, oI_e0, nI_e0, oI_nI, ne_eq, not_true_eq_false, not_false_eq_true, and_true, true_and, and_false, false_and, or_true, true_or, or_false, false_or, if_true, if_false, lit_0, lit_1, lit_2, lit_3, lit_4, lit_5, lit_6, lit_8, lit_9, lit_10, lit_12, lit_13, lit_21, lit_29, lit_30, lit_31, lit_37, lit_101, lit_120, lit_121, lit_127, lit_169, lit_64, lit_99, lit_999, lit_676, lit_845, lit_48, lit_57, lit_32, lit_59, gf]; omega
  · try simp (disch := omega) only [Nat.add_zero, Nat.zero_add, Nat.zero_mul, Nat.mul_zero, mc8, mc3, nU_f, nU_k, nU_e, xbd_some, xgd_true, xlet_eq, g_in, nI_clamp, nI_leI, nI_ltI, nI_eq, nI_add, pk_mul, pk_sub, rd_e, rd_k, rd_c, i10, i01, xsm_l, xsm_r, if_pos, if_neg, l_neg1, oI_e0, nI_e0, oI_nI, ne_eq, not_true_eq_false, not_false_eq_true, and_true, true_and, and_false, false_and, or_true, true_or, or_false, false_or, if_true, if_false, lit_0, lit_1, lit_2, lit_3, lit_4, lit_5, lit_6, lit_8, lit_9, lit_10, lit_12, lit_13, lit_21, lit_29, lit_30, lit_31, lit_37, lit_101, lit_120, lit_121, lit_127, lit_169, lit_64, lit_99, lit_999, lit_676, lit_845, lit_48, lit_57, lit_32, lit_59, gf] at hb
    simp (disch := omega) only [Nat.add_zero, Nat.zero_add, Nat.zero_mul, Nat.mul_zero, mc8, mc3, nU_f, nU_k, nU_e, xbd_some, xgd_true, xlet_eq, g_in, nI_clamp, nI_leI, nI_ltI, nI_eq, nI_add, pk_mul, pk_sub, rd_e, rd_k, rd_c, i10, i01, xsm_l, xsm_r, if_pos, if_neg, l_neg1, oI_e0, nI_e0, oI_nI, ne_eq, not_true_eq_false, not_false_eq_true, and_true, true_and, and_false, false_and, or_true, true_or, or_false, false_or, if_true, if_false, lit_0, lit_1, lit_2, lit_3, lit_4, lit_5, lit_6, lit_8, lit_9, lit_10, lit_12, lit_13, lit_21, lit_29, lit_30, lit_31, lit_37, lit_101, lit_120, lit_121, lit_127, lit_169, lit_64, lit_99, lit_999, lit_676, lit_845, lit_48, lit_57, lit_32, lit_59, gf]; exact w2 b hb
  · simp (disch := omega) only [Nat.add_zero, Nat.zero_add, Nat.zero_mul, Nat.mul_zero, mc8, mc3, nU_f, nU_k, nU_e, xbd_some, xgd_true, xlet_eq, g_in, nI_clamp, nI_leI, nI_ltI, nI_eq, nI_add, pk_mul, pk_sub, rd_e, rd_k, rd_c, i10, i01, xsm_l, xsm_r, if_pos, if_neg, l_neg1, oI_e0, nI_e0, oI_nI, ne_eq, not_true_eq_false, not_false_eq_true, and_true, true_and, and_false, false_and, or_true, true_or, or_false, false_or, if_true, if_false, lit_0, lit_1, lit_2, lit_3, lit_4, lit_5, lit_6, lit_8, lit_9, lit_10, lit_12, lit_13, lit_21, lit_29, lit_30, lit_31, lit_37, lit_101, lit_120, lit_121, lit_127, lit_169, lit_64, lit_99, lit_999, lit_676, lit_845, lit_48, lit_57, lit_32, lit_59, gf]; exact w5 j hj
  · try simp (disch := omega) only [Nat.add_zero, Nat.zero_add, Nat.zero_mul, Nat.mul_zero, mc8, mc3, nU_f, nU_k, nU_e, xbd_some, xgd_true, xlet_eq, g_in, nI_clamp, nI_leI, nI_ltI, nI_eq, nI_add, pk_mul, pk_sub, rd_e, rd_k, rd_c, i10, i01, xsm_l, xsm_r, if_pos, if_neg, l_neg1, oI_e0, nI_e0, oI_nI, ne_eq, not_true_eq_false, not_false_eq_true, and_true, true_and, and_false, false_and, or_true, true_or, or_false, false_or, if_true, if_false, lit_0, lit_1, lit_2, lit_3, lit_4, lit_5, lit_6, lit_8, lit_9, lit_10, lit_12, lit_13, lit_21, lit_29, lit_30, lit_31, lit_37, lit_101, lit_120, lit_121, lit_127, lit_169, lit_64, lit_99, lit_999, lit_676, lit_845, lit_48, lit_57, lit_32, lit_59, gf] at hh
    simp (disch := omega) only [Nat.add_zero, Nat.zero_add, Nat.zero_mul, Nat.mul_zero, mc8, mc3, nU_f, nU_k, nU_e, xbd_some, xgd_true, xlet_eq, g_in, nI_clamp, nI_leI, nI_ltI, nI_eq, nI_add, pk_mul, pk_sub, rd_e, rd_k, rd_c, i10, i01, xsm_l, xsm_r, if_pos, if_neg, l_neg1, oI_e0, nI_e0, oI_nI, ne_eq, not_true_eq_false, not_false_eq_true, and_true, true_and, and_false, false_and, or_true, true_or, or_false, false_or, if_true, if_false, lit_0, lit_1, lit_2, lit_3, lit_4, lit_5, lit_6, lit_8, lit_9, lit_10, lit_12, lit_13, lit_21, lit_29, lit_30, lit_31, lit_37, lit_101, lit_120, lit_121, lit_127, lit_169, lit_64, lit_99, lit_999, lit_676, lit_845, lit_48, lit_57, lit_32, lit_59, gf]; exact w0 a b ha hb hh
  · try simp (disch := omega) only [Nat.add_zero, Nat.zero_add, Nat.zero_mul, Nat.mul_zero, mc8, mc3, nU_f, nU_k, nU_e, xbd_some, xgd_true, xlet_eq, g_in, nI_clamp, nI_leI, nI_ltI, nI_eq, nI_add, pk_mul, pk_sub, rd_e, rd_k, rd_c, i10, i01, xsm_l, xsm_r, if_pos, if_neg, l_neg1, oI_e0, nI_e0, oI_nI, ne_eq, not_true_eq_false, not_false_eq_true, and_true, true_and, and_false, false_and, or_true, true_or, or_false, false_or, if_true, if_false, lit_0, lit_1, lit_2, lit_3, lit_4, lit_5, lit_6, lit_8, lit_9, lit_10, lit_12, lit_13, lit_21, lit_29, lit_30, lit_31, lit_37, lit_101, lit_120, lit_121, lit_127, lit_169, lit_64, lit_99, lit_999, lit_676, lit_845, lit_48, lit_57, lit_32, lit_59, gf] at ht
    simp (disch := omega) only [Nat.add_zero, Nat.zero_add, Nat.zero_mul, Nat.mul_zero, mc8, mc3, nU_f, nU_k, nU_e, xbd_some, xgd_true, xlet_eq, g_in, nI_clamp, nI_leI, nI_ltI, nI_eq, nI_add, pk_mul, pk_sub, rd_e, rd_k, rd_c, i10, i01, xsm_l, xsm_r, if_pos, if_neg, l_neg1, oI_e0, nI_e0, oI_nI, ne_eq, not_true_eq_false, not_false_eq_true, and_true, true_and, and_false, false_and, or_true, true_or, or_false, false_or, if_true, if_false, lit_0, lit_1, lit_2, lit_3, lit_4, lit_5, lit_6, lit_8, lit_9, lit_10, lit_12, lit_13, lit_21, lit_29, lit_30, lit_31, lit_37, lit_101, lit_120, lit_121, lit_127, lit_169, lit_64, lit_99, lit_999, lit_676, lit_845, lit_48, lit_57, lit_32, lit_59, gf]; exact w6 t ht
  · try simp (disch := omega) only [Nat.add_zero, Nat.zero_add, Nat.zero_mul, Nat.mul_zero, mc8, mc3, nU_f, nU_k, nU_e, xbd_some, xgd_true, xlet_eq, g_in, nI_clamp, nI_leI, nI_ltI, nI_eq, nI_add, pk_mul, pk_sub, rd_e, rd_k, rd_c, i10, i01, xsm_l, xsm_r, if_pos, if_neg, l_neg1, oI_e0, nI_e0, oI_nI, ne_eq, not_true_eq_false, not_false_eq_true, and_true, true_and, and_false, false_and, or_true, true_or, or_false, false_or, if_true, if_false, lit_0, lit_1, lit_2, lit_3, lit_4, lit_5, lit_6, lit_8, lit_9, lit_10, lit_12, lit_13, lit_21, lit_29, lit_30, lit_31, lit_37, lit_101, lit_120, lit_121, lit_127, lit_169, lit_64, lit_99, lit_999, lit_676, lit_845, lit_48, lit_57, lit_32, lit_59] at hj
    simp (disch := omega) only [Nat.add_zero, Nat.zero_add, Nat.zero_mul, Nat.mul_zero, mc8, mc3, nU_f, nU_k, nU_e, xbd_some, xgd_true, xlet_eq, g_in, nI_clamp, nI_leI, nI_ltI, nI_eq, nI_add, pk_mul, pk_sub, rd_e, rd_k, rd_c, i10, i01, xsm_l, xsm_r, if_pos, if_neg, l_neg1, oI_e0, nI_e0, oI_nI, ne_eq, not_true_eq_false, not_false_eq_true, and_true, true_and, and_false, false_and, or_true, true_or, or_false, false_or, if_true, if_false, lit_0, lit_1, lit_2, lit_3, lit_4, lit_5, lit_6, lit_8, lit_9, lit_10, lit_12, lit_13, lit_21, lit_29, lit_30, lit_31, lit_37, lit_101, lit_120, lit_121, lit_127, lit_169, lit_64, lit_99, lit_999, lit_676, lit_845, lit_48, lit_57, lit_32, lit_59, gf]
    exact key (N 0 2) (Nat.le_refl _) j hj
  · try simp (disch := omega) only [Nat.add_zero, Nat.zero_add, Nat.zero_mul, Nat.mul_zero, mc8, mc3, nU_f, nU_k, nU_e, xbd_some, xgd_true, xlet_eq, g_in, nI_clamp, nI_leI, nI_ltI, nI_eq, nI_add, pk_mul, pk_sub, rd_e, rd_k, rd_c, i10, i01, xsm_l, xsm_r, if_pos, if_neg, l_neg1, oI_e0, nI_e0, oI_nI, ne_eq, not_true_eq_false, not_false_eq_true, and_true, true_and, and_false, false_and, or_true, true_or, or_false, false_or, if_true, if_false, lit_0, lit_1, lit_2, lit_3, lit_4, lit_5, lit_6, lit_8, lit_9, lit_10, lit_12, lit_13, lit_21, lit_29, lit_30, lit_31, lit_37, lit_101, lit_120, lit_121, lit_127, lit_169, lit_64, lit_99, lit_999, lit_676, lit_845, lit_48, lit_57, lit_32, lit_59, gf] at hi
    simp (disch := omega) only [Nat.add_zero, Nat.zero_add, Nat.zero_mul, Nat.mul_zero, mc8, mc3, nU_f, nU_k, nU_e, xbd_some, xgd_true, xlet_eq, g_in, nI_clamp, nI_leI, nI_ltI, nI_eq, nI_add, pk_mul, pk_sub, rd_e, rd_k, rd_c, i10, i01, xsm_l, xsm_r, if_pos, if_neg, l_neg1, oI_e0, nI_e0, oI_nI, ne_eq, not_true_eq_false, not_false_eq_true, and_true, true_and, and_false, false_and, or_true, true_or, or_false, false_or, if_true, if_false, lit_0, lit_1, lit_2, lit_3, lit_4, lit_5, lit_6, lit_8, lit_9, lit_10, lit_12, lit_13, lit_21, lit_29, lit_30, lit_31, lit_37, lit_101, lit_120, lit_121, lit_127, lit_169, lit_64, lit_99, lit_999, lit_676, lit_845, lit_48, lit_57, lit_32, lit_59, gf]; exact w1 i hi
  · try simp (disch := omega) only [Nat.add_zero, Nat.zero_add, Nat.zero_mul, Nat.mul_zero, mc8, mc3, nU_f, nU_k, nU_e, xbd_some, xgd_true, xlet_eq, g_in, nI_clamp, nI_leI, nI_ltI, nI_eq, nI_add, pk_mul, pk_sub, rd_e, rd_k, rd_c, i10, i01, xsm_l, xsm_r, if_pos, if_neg, l_neg1, oI_e0, nI_e0, oI_nI, ne_eq, not_true_eq_false, not_false_eq_true, and_true, true_and, and_false, false_and, or_true, true_or, or_false, false_or, if_true, if_false, lit_0, lit_1, lit_2, lit_3, lit_4, lit_5, lit_6, lit_8, lit_9, lit_10, lit_12, lit_13, lit_21, lit_29, lit_30, lit_31, lit_37, lit_101, lit_120, lit_121, lit_127, lit_169, lit_64, lit_99, lit_999, lit_676, lit_845, lit_48, lit_57, lit_32, lit_59, gf] at hi hj
    simp (disch := omega) only [Nat.add_zero, Nat.zero_add, Nat.zero_mul, Nat.mul_zero, mc8, mc3, nU_f, nU_k, nU_e, xbd_some, xgd_true, xlet_eq, g_in, nI_clamp, nI_leI, nI_ltI, nI_eq, nI_add, pk_mul, pk_sub, rd_e, rd_k, rd_c, i10, i01, xsm_l, xsm_r, if_pos, if_neg, l_neg1, oI_e0, nI_e0, oI_nI, ne_eq, not_true_eq_false, not_false_eq_true, and_true, true_and, and_false, false_and, or_true, true_or, or_false, false_or, if_true, if_false, lit_0, lit_1, lit_2, lit_3, lit_4, lit_5, lit_6, lit_8, lit_9, lit_10, lit_12, lit_13, lit_21, lit_29, lit_30, lit_31, lit_37, lit_101, lit_120, lit_121, lit_127, lit_169, lit_64, lit_99, lit_999, lit_676, lit_845, lit_48, lit_57, lit_32, lit_59, gf]; exact w1d i j hi hj
abbrev d_goes (N : xN) (s : Nat) : Prop := v_cau N (s_up N) (N 8) s = 0 ∨ N 8 s = 4
def d_nx (N : xN) (s : Nat) : xN := if d_goes N s then a_off N s else nU N 8 s (N 8 s + 1)
def d_bad (N : xN) (s : Nat) : Nat := dif (dif (s_om (d_nx N s) (s_up (d_nx N s)) (d_nx N s 8)) (s_om N (s_up N) (N 8))) (2 ^ s)
def a_dr (N : xN) : xN := if N 0 7 = 0 then N else if d_bad N (N 1 0) = 0 then d_nx N (N 1 0) else nU N 0 6 (N 0 6 + 1)
theorem nU_same {N : xN} {f k v : Nat} (h : N f k = v) : nU N f k v = N := by
  funext f' k'
  by_cases e : f' = f
  · by_cases e2 : k' = k
    · subst e e2; rw [nU_e rfl, h]
    · subst e; rw [nU_k e2]
  · rw [nU_f e]
theorem nU_nU {N : xN} {f k v w : Nat} : nU (nU N f k v) f k w = nU N f k w := by
  funext f' k'
  by_cases e : f' = f
  · by_cases e2 : k' = k
    · subst e e2; rw [nU_e rfl, nU_e rfl]
    · subst e; rw [nU_k e2, nU_k e2, nU_k e2]
  · rw [nU_f e, nU_f e, nU_f e]
theorem wf_dr {N : xN} (hw : s_wf N) : s_wf (a_dr N) := by
  unfold a_dr
  by_cases h0 : N 0 7 = 0
  · rw [if_pos h0]; exact hw
  rw [if_neg h0]
  have hs := (hw.2.2.2.2.2.2.1 0 (by omega)).1
  split
  · unfold d_nx
    split
    · exact wf_off hw hs
    · next hg =>
      have := (hw.2.2.2.2.1 _ hs).2.2.1
      exact wf_f8 hw (by omega)
  · exact wf_sc hw (by omega)
theorem up_8 {N : xN} {s v : Nat} : s_up (nU N 8 s v) = s_up N := by
  unfold s_up
  simp (disch := omega) only [Nat.add_zero, Nat.zero_add, Nat.zero_mul, Nat.mul_zero, mc8, mc3, nU_f, nU_k, nU_e, xbd_some, xgd_true, xlet_eq, g_in, nI_clamp, nI_leI, nI_ltI, nI_eq, nI_add, pk_mul, pk_sub, rd_e, rd_k, rd_c, i10, i01, xsm_l, xsm_r, if_pos, if_neg, l_neg1, oI_e0, nI_e0, oI_nI, ne_eq, not_true_eq_false, not_false_eq_true, and_true, true_and, and_false, false_and, or_true, true_or, or_false, false_or, if_true, if_false, lit_0, lit_1, lit_2, lit_3, lit_4, lit_5, lit_6, lit_8, lit_9, lit_10, lit_12, lit_13, lit_21, lit_29, lit_30, lit_31, lit_37, lit_101, lit_120, lit_121, lit_127, lit_169, lit_64, lit_99, lit_999, lit_676, lit_845, lit_48, lit_57, lit_32, lit_59]
theorem s_fr_lk {σ τ : xM} (h : s_eq s_lk σ τ) : s_fr σ τ := fun c _ a b => h c (by unfold s_lk; omega)
theorem c_lk {σ τ : xM} {N : xN} (h : s_eq s_lk σ τ) (hC : s_C σ 1 N) : s_C τ 1 N := s_C_eq (fun c hc => h c (by unfold s_lk; omega)) hC
theorem c_drain {σ : xM} {N : xN} (hw : s_wf N) (hC : s_C σ 1 N) : ∃ σ', F_X0_advanceDrain σ = some σ' ∧ s_C σ' 1 (a_dr N) ∧ s_fr σ σ' := by
  have c0 := s_C_0 hC
  have hS := hw.1.2.1
  have hQ := hw.1.2.2.2
  have c8q : σ 8 1 = nI (N 0 7) := c0.1.2.2.1
  unfold F_X0_advanceDrain a_dr
  by_cases h0 : N 0 7 = 0
  · simp (disch := omega) only [Nat.add_zero, Nat.zero_add, Nat.zero_mul, Nat.mul_zero, mc8, mc3, nU_f, nU_k, nU_e, xbd_some, xgd_true, xlet_eq, g_in, nI_clamp, nI_leI, nI_ltI, nI_eq, nI_add, pk_mul, pk_sub, rd_e, rd_k, rd_c, i10, i01, xsm_l, xsm_r, if_pos, if_neg, l_neg1, oI_e0, nI_e0, oI_nI, ne_eq, not_true_eq_false, not_false_eq_true, and_true, true_and, and_false, false_and, or_true, true_or, or_false, false_or, if_true, if_false, lit_0, lit_1, lit_2, lit_3, lit_4, lit_5, lit_6, lit_8, lit_9, lit_10, lit_12, lit_13, lit_21, lit_29, lit_30, lit_31, lit_37, lit_101, lit_120, lit_121, lit_127, lit_169, lit_64, lit_99, lit_999, lit_676, lit_845, lit_48, lit_57, lit_32, lit_59, c8q]
    exact ⟨_, rfl, hC, fr_rf σ⟩
  have x13 := c0.2.2.2.2.1 0 (by omega)
  obtain ⟨hs, h91⟩ := hw.2.2.2.2.2.2.1 0 (by omega)
  generalize N 1 0 = s at *
  rw [if_neg h0]
  obtain ⟨x1, x2, x3, x4⟩ := c0.2.2.2.1 s hs
  have h84 := (hw.2.2.2.2.1 s hs).2.2.1
  have hu := s_up_lt5 hS
  have p2 := p2_lt (show s < 5 by omega)
  have hdl := dif_lt (g := 2 ^ s) hu
  obtain ⟨τ, l1, l2, l3, l4⟩ := f_look11 (u := s_up N) (s_K11 hw hC) (by omega)
  have hCt := c_lk l2 hC
  have ct0 := s_C_0 hCt
  have om0 := s_om_lt5 hS (s_up N) (N 8)
  have t2 : τ 2 0 = nI (N 0 0) := ct0.1.1
  have cau := f_cau (a := s) hw t2 l3 hs
  have e0 : F_X8_notOff σ = some (nI (s_up N)) := s_C_up hw hC
  have t6 := ct0.1.2.2.2.2.2.2.2
  have cb : v_cau N (s_up N) (N 8) s < 256 := by
    have h1 := xmk_lt (fun a => decide (s_ct N (s_up N) (N 8) a = s + 1)) (N 0 0)
    have h2 : 2 ^ (N 0 0) ≤ 2 ^ 8 := Nat.pow_le_pow_right (by omega) hw.1.1
    unfold v_cau
    omega
  by_cases hg : d_goes N s
  · obtain ⟨υ, m1, m2, m3, m4⟩ := f_look11 (u := dif (s_up N) (2 ^ s)) (s_K11 hw hCt) (by omega)
    have hCu := c_lk m2 hCt
    have cu0 := s_C_0 hCu
    have u6 := cu0.1.2.2.2.2.2.2.2
    have hnx : d_nx N s = a_off N s := by unfold d_nx; rw [if_pos hg]
    have hbad : d_bad N s = dif (dif (s_om N (dif (s_up N) (2 ^ s)) (N 8)) (s_om N (s_up N) (N 8))) (2 ^ s) := by
      unfold d_bad
      rw [hnx, om_off hw hs]
    have om1 := s_om_lt5 hS (dif (s_up N) (2 ^ s)) (N 8)
    have d1 := dif_lt (g := s_om N (s_up N) (N 8)) om1
    have d2 := dif_lt (g := 2 ^ s) d1
    obtain ⟨ω, n1, n2, n3⟩ := c_turnOff hw hCu hs
    have fin : ∃ σ', (if ((nI (s_om N (dif (s_up N) (2 ^ s)) (N 8)) &&& (nI (s_om N (s_up N) (N 8)) ^^^ oI 0)) &&& (nI (2 ^ s) ^^^ oI 0)) = nI 0 then (xbd (F_X8_turnOff (nI s) υ) fun r8 => some r8) else some (xup (xup υ 11 s (nI (N 8 s))) 1 6 (υ 1 6 + nI 1))) = some σ' ∧ s_C σ' 1 (if d_bad N s = 0 then d_nx N s else nU N 0 6 (N 0 6 + 1)) ∧ s_fr σ σ' := by
      rw [hbad]
      by_cases hb : dif (dif (s_om N (dif (s_up N) (2 ^ s)) (N 8)) (s_om N (s_up N) (N 8))) (2 ^ s) = 0
      · rw [if_pos hb, hnx]
        simp (disch := omega) only [Nat.add_zero, Nat.zero_add, Nat.zero_mul, Nat.mul_zero, mc8, mc3, nU_f, nU_k, nU_e, xbd_some, xgd_true, xlet_eq, g_in, nI_clamp, nI_leI, nI_ltI, nI_eq, nI_add, pk_mul, pk_sub, rd_e, rd_k, rd_c, i10, i01, xsm_l, xsm_r, if_pos, if_neg, l_neg1, oI_e0, nI_e0, oI_nI, ne_eq, not_true_eq_false, not_false_eq_true, and_true, true_and, and_false, false_and, or_true, true_or, or_false, false_or, if_true, if_false, lit_0, lit_1, lit_2, lit_3, lit_4, lit_5, lit_6, lit_8, lit_9, lit_10, lit_12, lit_13, lit_21, lit_29, lit_30, lit_31, lit_37, lit_101, lit_120, lit_121, lit_127, lit_169, lit_64, lit_99, lit_999, lit_676, lit_845, lit_48, lit_57, lit_32, lit_59, andn, n1]
        refine ⟨ω, rfl, n2, fun c a b d => ?_⟩
        rw [n3 c (by omega) (by omega) (by omega) (by omega), s_fr_lk m2 c a b d, s_fr_lk l2 c a b d]
      · rw [if_neg hb]
        have hb0 := c0_s6 (c0_f8 cu0 s (N 8 s)) (N 0 6 + 1)
        rw [nU_same (N := N) (f := 8) rfl] at hb0
        have u6' : υ 1 6 = nI (N 0 6) := u6
        simp (disch := omega) only [Nat.add_zero, Nat.zero_add, Nat.zero_mul, Nat.mul_zero, mc8, mc3, nU_f, nU_k, nU_e, xbd_some, xgd_true, xlet_eq, g_in, nI_clamp, nI_leI, nI_ltI, nI_eq, nI_add, pk_mul, pk_sub, rd_e, rd_k, rd_c, i10, i01, xsm_l, xsm_r, if_pos, if_neg, l_neg1, oI_e0, nI_e0, oI_nI, ne_eq, not_true_eq_false, not_false_eq_true, and_true, true_and, and_false, false_and, or_true, true_or, or_false, false_or, if_true, if_false, lit_0, lit_1, lit_2, lit_3, lit_4, lit_5, lit_6, lit_8, lit_9, lit_10, lit_12, lit_13, lit_21, lit_29, lit_30, lit_31, lit_37, lit_101, lit_120, lit_121, lit_127, lit_169, lit_64, lit_99, lit_999, lit_676, lit_845, lit_48, lit_57, lit_32, lit_59, andn, u6']
        refine ⟨_, rfl, s_C_mk hb0 (s_D7_cg (by simp (disch := omega) only [Nat.add_zero, Nat.zero_add, Nat.zero_mul, Nat.mul_zero, mc8, mc3, nU_f, nU_k, nU_e, xbd_some, xgd_true, xlet_eq, g_in, nI_clamp, nI_leI, nI_ltI, nI_eq, nI_add, pk_mul, pk_sub, rd_e, rd_k, rd_c, i10, i01, xsm_l, xsm_r, if_pos, if_neg, l_neg1, oI_e0, nI_e0, oI_nI, ne_eq, not_true_eq_false, not_false_eq_true, and_true, true_and, and_false, false_and, or_true, true_or, or_false, false_or, if_true, if_false, lit_0, lit_1, lit_2, lit_3, lit_4, lit_5, lit_6, lit_8, lit_9, lit_10, lit_12, lit_13, lit_21, lit_29, lit_30, lit_31, lit_37, lit_101, lit_120, lit_121, lit_127, lit_169, lit_64, lit_99, lit_999, lit_676, lit_845, lit_48, lit_57, lit_32, lit_59]) (by simp (disch := omega) only [Nat.add_zero, Nat.zero_add, Nat.zero_mul, Nat.mul_zero, mc8, mc3, nU_f, nU_k, nU_e, xbd_some, xgd_true, xlet_eq, g_in, nI_clamp, nI_leI, nI_ltI, nI_eq, nI_add, pk_mul, pk_sub, rd_e, rd_k, rd_c, i10, i01, xsm_l, xsm_r, if_pos, if_neg, l_neg1, oI_e0, nI_e0, oI_nI, ne_eq, not_true_eq_false, not_false_eq_true, and_true, true_and, and_false, false_and, or_true, true_or, or_false, false_or, if_true, if_false, lit_0, lit_1, lit_2, lit_3, lit_4, lit_5, lit_6, lit_8, lit_9, lit_10, lit_12, lit_13, lit_21, lit_29, lit_30, lit_31, lit_37, lit_101, lit_120, lit_121, lit_127, lit_169, lit_64, lit_99, lit_999, lit_676, lit_845, lit_48, lit_57, lit_32, lit_59]) (by simp (disch := omega) only [Nat.add_zero, Nat.zero_add, Nat.zero_mul, Nat.mul_zero, mc8, mc3, nU_f, nU_k, nU_e, xbd_some, xgd_true, xlet_eq, g_in, nI_clamp, nI_leI, nI_ltI, nI_eq, nI_add, pk_mul, pk_sub, rd_e, rd_k, rd_c, i10, i01, xsm_l, xsm_r, if_pos, if_neg, l_neg1, oI_e0, nI_e0, oI_nI, ne_eq, not_true_eq_false, not_false_eq_true, and_true, true_and, and_false, false_and, or_true, true_or, or_false, false_or, if_true, if_false, lit_0, lit_1, lit_2, lit_3, lit_4, lit_5, lit_6, lit_8, lit_9, lit_10, lit_12, lit_13, lit_21, lit_29, lit_30, lit_31, lit_37, lit_101, lit_120, lit_121, lit_127, lit_169, lit_64, lit_99, lit_999, lit_676, lit_845, lit_48, lit_57, lit_32, lit_59]) (s_C_7 hCu)), fr_up (fr_up (fr_tr (s_fr_lk l2) (s_fr_lk m2)) (by omega) _ _) (by omega) _ _⟩
    by_cases h8 : N 8 s = 4
    · simp (disch := omega) only [Nat.add_zero, Nat.zero_add, Nat.zero_mul, Nat.mul_zero, mc8, mc3, nU_f, nU_k, nU_e, xbd_some, xgd_true, xlet_eq, g_in, nI_clamp, nI_leI, nI_ltI, nI_eq, nI_add, pk_mul, pk_sub, rd_e, rd_k, rd_c, i10, i01, xsm_l, xsm_r, if_pos, if_neg, l_neg1, oI_e0, nI_e0, oI_nI, ne_eq, not_true_eq_false, not_false_eq_true, and_true, true_and, and_false, false_and, or_true, true_or, or_false, false_or, if_true, if_false, lit_0, lit_1, lit_2, lit_3, lit_4, lit_5, lit_6, lit_8, lit_9, lit_10, lit_12, lit_13, lit_21, lit_29, lit_30, lit_31, lit_37, lit_101, lit_120, lit_121, lit_127, lit_169, lit_64, lit_99, lit_999, lit_676, lit_845, lit_48, lit_57, lit_32, lit_59, c8q, x13, e0, l1, x3, shl1, andn, m1]
      try simp (disch := omega) only [Nat.add_zero, Nat.zero_add, Nat.zero_mul, Nat.mul_zero, mc8, mc3, nU_f, nU_k, nU_e, xbd_some, xgd_true, xlet_eq, g_in, nI_clamp, nI_leI, nI_ltI, nI_eq, nI_add, pk_mul, pk_sub, rd_e, rd_k, rd_c, i10, i01, xsm_l, xsm_r, if_pos, if_neg, l_neg1, oI_e0, nI_e0, oI_nI, ne_eq, not_true_eq_false, not_false_eq_true, and_true, true_and, and_false, false_and, or_true, true_or, or_false, false_or, if_true, if_false, lit_0, lit_1, lit_2, lit_3, lit_4, lit_5, lit_6, lit_8, lit_9, lit_10, lit_12, lit_13, lit_21, lit_29, lit_30, lit_31, lit_37, lit_101, lit_120, lit_121, lit_127, lit_169, lit_64, lit_99, lit_999, lit_676, lit_845, lit_48, lit_57, lit_32, lit_59, andn] at fin
      exact fin
    · have hc0 : v_cau N (s_up N) (N 8) s = 0 := by
        rcases hg with h | h
        · exact h
        · exact absurd h h8
      rw [hc0] at cau
      simp (disch := omega) only [Nat.add_zero, Nat.zero_add, Nat.zero_mul, Nat.mul_zero, mc8, mc3, nU_f, nU_k, nU_e, xbd_some, xgd_true, xlet_eq, g_in, nI_clamp, nI_leI, nI_ltI, nI_eq, nI_add, pk_mul, pk_sub, rd_e, rd_k, rd_c, i10, i01, xsm_l, xsm_r, if_pos, if_neg, l_neg1, oI_e0, nI_e0, oI_nI, ne_eq, not_true_eq_false, not_false_eq_true, and_true, true_and, and_false, false_and, or_true, true_or, or_false, false_or, if_true, if_false, lit_0, lit_1, lit_2, lit_3, lit_4, lit_5, lit_6, lit_8, lit_9, lit_10, lit_12, lit_13, lit_21, lit_29, lit_30, lit_31, lit_37, lit_101, lit_120, lit_121, lit_127, lit_169, lit_64, lit_99, lit_999, lit_676, lit_845, lit_48, lit_57, lit_32, lit_59, c8q, x13, e0, l1, x3, shl1, andn, m1, cau]
      try simp (disch := omega) only [Nat.add_zero, Nat.zero_add, Nat.zero_mul, Nat.mul_zero, mc8, mc3, nU_f, nU_k, nU_e, xbd_some, xgd_true, xlet_eq, g_in, nI_clamp, nI_leI, nI_ltI, nI_eq, nI_add, pk_mul, pk_sub, rd_e, rd_k, rd_c, i10, i01, xsm_l, xsm_r, if_pos, if_neg, l_neg1, oI_e0, nI_e0, oI_nI, ne_eq, not_true_eq_false, not_false_eq_true, and_true, true_and, and_false, false_and, or_true, true_or, or_false, false_or, if_true, if_false, lit_0, lit_1, lit_2, lit_3, lit_4, lit_5, lit_6, lit_8, lit_9, lit_10, lit_12, lit_13, lit_21, lit_29, lit_30, lit_31, lit_37, lit_101, lit_120, lit_121, lit_127, lit_169, lit_64, lit_99, lit_999, lit_676, lit_845, lit_48, lit_57, lit_32, lit_59, andn] at fin
      exact fin
  · have hnx : d_nx N s = nU N 8 s (N 8 s + 1) := by unfold d_nx; rw [if_neg hg]
    have hc0 : v_cau N (s_up N) (N 8) s ≠ 0 := fun e => hg (Or.inl e)
    have h8 : N 8 s ≠ 4 := fun e => hg (Or.inr e)
    have hw1 : s_wf (nU N 8 s (N 8 s + 1)) := wf_f8 hw (by omega)
    have hC1 : s_C (xup τ 11 s (nI (N 8 s + 1))) 1 (nU N 8 s (N 8 s + 1)) := s_C_mk (c0_f8 ct0 s _) (s_D7_cg (by simp (disch := omega) only [Nat.add_zero, Nat.zero_add, Nat.zero_mul, Nat.mul_zero, mc8, mc3, nU_f, nU_k, nU_e, xbd_some, xgd_true, xlet_eq, g_in, nI_clamp, nI_leI, nI_ltI, nI_eq, nI_add, pk_mul, pk_sub, rd_e, rd_k, rd_c, i10, i01, xsm_l, xsm_r, if_pos, if_neg, l_neg1, oI_e0, nI_e0, oI_nI, ne_eq, not_true_eq_false, not_false_eq_true, and_true, true_and, and_false, false_and, or_true, true_or, or_false, false_or, if_true, if_false, lit_0, lit_1, lit_2, lit_3, lit_4, lit_5, lit_6, lit_8, lit_9, lit_10, lit_12, lit_13, lit_21, lit_29, lit_30, lit_31, lit_37, lit_101, lit_120, lit_121, lit_127, lit_169, lit_64, lit_99, lit_999, lit_676, lit_845, lit_48, lit_57, lit_32, lit_59]) (by simp (disch := omega) only [Nat.add_zero, Nat.zero_add, Nat.zero_mul, Nat.mul_zero, mc8, mc3, nU_f, nU_k, nU_e, xbd_some, xgd_true, xlet_eq, g_in, nI_clamp, nI_leI, nI_ltI, nI_eq, nI_add, pk_mul, pk_sub, rd_e, rd_k, rd_c, i10, i01, xsm_l, xsm_r, if_pos, if_neg, l_neg1, oI_e0, nI_e0, oI_nI, ne_eq, not_true_eq_false, not_false_eq_true, and_true, true_and, and_false, false_and, or_true, true_or, or_false, false_or, if_true, if_false, lit_0, lit_1, lit_2, lit_3, lit_4, lit_5, lit_6, lit_8, lit_9, lit_10, lit_12, lit_13, lit_21, lit_29, lit_30, lit_31, lit_37, lit_101, lit_120, lit_121, lit_127, lit_169, lit_64, lit_99, lit_999, lit_676, lit_845, lit_48, lit_57, lit_32, lit_59]) (by simp (disch := omega) only [Nat.add_zero, Nat.zero_add, Nat.zero_mul, Nat.mul_zero, mc8, mc3, nU_f, nU_k, nU_e, xbd_some, xgd_true, xlet_eq, g_in, nI_clamp, nI_leI, nI_ltI, nI_eq, nI_add, pk_mul, pk_sub, rd_e, rd_k, rd_c, i10, i01, xsm_l, xsm_r, if_pos, if_neg, l_neg1, oI_e0, nI_e0, oI_nI, ne_eq, not_true_eq_false, not_false_eq_true, and_true, true_and, and_false, false_and, or_true, true_or, or_false, false_or, if_true, if_false, lit_0, lit_1, lit_2, lit_3, lit_4, lit_5, lit_6, lit_8, lit_9, lit_10, lit_12, lit_13, lit_21, lit_29, lit_30, lit_31, lit_37, lit_101, lit_120, lit_121, lit_127, lit_169, lit_64, lit_99, lit_999, lit_676, lit_845, lit_48, lit_57, lit_32, lit_59]) (s_C_7 hCt))
    have hu1 : s_up (nU N 8 s (N 8 s + 1)) = s_up N := up_8
    obtain ⟨υ, m1, m2, m3, m4⟩ := f_look11 (u := s_up N) (s_K11 hw1 hC1) (by omega)
    have hCu := c_lk m2 hC1
    have cu0 := s_C_0 hCu
    have u6 := cu0.1.2.2.2.2.2.2.2
    have hbad : d_bad N s = dif (dif (s_om (nU N 8 s (N 8 s + 1)) (s_up N) (nU N 8 s (N 8 s + 1) 8)) (s_om N (s_up N) (N 8))) (2 ^ s) := by
      unfold d_bad
      rw [hnx, hu1]
    have om1 := s_om_lt5 (N := nU N 8 s (N 8 s + 1)) (by simp (disch := omega) only [Nat.add_zero, Nat.zero_add, Nat.zero_mul, Nat.mul_zero, mc8, mc3, nU_f, nU_k, nU_e, xbd_some, xgd_true, xlet_eq, g_in, nI_clamp, nI_leI, nI_ltI, nI_eq, nI_add, pk_mul, pk_sub, rd_e, rd_k, rd_c, i10, i01, xsm_l, xsm_r, if_pos, if_neg, l_neg1, oI_e0, nI_e0, oI_nI, ne_eq, not_true_eq_false, not_false_eq_true, and_true, true_and, and_false, false_and, or_true, true_or, or_false, false_or, if_true, if_false, lit_0, lit_1, lit_2, lit_3, lit_4, lit_5, lit_6, lit_8, lit_9, lit_10, lit_12, lit_13, lit_21, lit_29, lit_30, lit_31, lit_37, lit_101, lit_120, lit_121, lit_127, lit_169, lit_64, lit_99, lit_999, lit_676, lit_845, lit_48, lit_57, lit_32, lit_59]; exact hS) (s_up N) (nU N 8 s (N 8 s + 1) 8)
    have d1 := dif_lt (g := s_om N (s_up N) (N 8)) om1
    have d2 := dif_lt (g := 2 ^ s) d1
    rw [hbad, hnx]
    by_cases hb : dif (dif (s_om (nU N 8 s (N 8 s + 1)) (s_up N) (nU N 8 s (N 8 s + 1) 8)) (s_om N (s_up N) (N 8))) (2 ^ s) = 0
    · rw [if_pos hb]
      simp (disch := omega) only [Nat.add_zero, Nat.zero_add, Nat.zero_mul, Nat.mul_zero, mc8, mc3, nU_f, nU_k, nU_e, xbd_some, xgd_true, xlet_eq, g_in, nI_clamp, nI_leI, nI_ltI, nI_eq, nI_add, pk_mul, pk_sub, rd_e, rd_k, rd_c, i10, i01, xsm_l, xsm_r, if_pos, if_neg, l_neg1, oI_e0, nI_e0, oI_nI, ne_eq, not_true_eq_false, not_false_eq_true, and_true, true_and, and_false, false_and, or_true, true_or, or_false, false_or, if_true, if_false, lit_0, lit_1, lit_2, lit_3, lit_4, lit_5, lit_6, lit_8, lit_9, lit_10, lit_12, lit_13, lit_21, lit_29, lit_30, lit_31, lit_37, lit_101, lit_120, lit_121, lit_127, lit_169, lit_64, lit_99, lit_999, lit_676, lit_845, lit_48, lit_57, lit_32, lit_59, c8q, x13, e0, l1, x3, shl1, andn, cau, m1, hb]
      exact ⟨_, rfl, hCu, fr_tr (fr_up (s_fr_lk l2) (by omega) _ _) (s_fr_lk m2)⟩
    · rw [if_neg hb]
      have hb0 := c0_s6 (c0_f8 cu0 s (N 8 s)) (N 0 6 + 1)
      rw [nU_nU, nU_same (N := N) (f := 8) rfl] at hb0
      have u6' : υ 1 6 = nI (N 0 6) := by
        have : υ 1 6 = nI (nU N 8 s (N 8 s + 1) 0 6) := u6
        rw [this]
        simp (disch := omega) only [Nat.add_zero, Nat.zero_add, Nat.zero_mul, Nat.mul_zero, mc8, mc3, nU_f, nU_k, nU_e, xbd_some, xgd_true, xlet_eq, g_in, nI_clamp, nI_leI, nI_ltI, nI_eq, nI_add, pk_mul, pk_sub, rd_e, rd_k, rd_c, i10, i01, xsm_l, xsm_r, if_pos, if_neg, l_neg1, oI_e0, nI_e0, oI_nI, ne_eq, not_true_eq_false, not_false_eq_true, and_true, true_and, and_false, false_and, or_true, true_or, or_false, false_or, if_true, if_false, lit_0, lit_1, lit_2, lit_3, lit_4, lit_5, lit_6, lit_8, lit_9, lit_10, lit_12, lit_13, lit_21, lit_29, lit_30, lit_31, lit_37, lit_101, lit_120, lit_121, lit_127, lit_169, lit_64, lit_99, lit_999, lit_676, lit_845, lit_48, lit_57, lit_32, lit_59]
      simp (disch := omega) only [Nat.add_zero, Nat.zero_add, Nat.zero_mul, Nat.mul_zero, mc8, mc3, nU_f, nU_k, nU_e, xbd_some, xgd_true, xlet_eq, g_in, nI_clamp, nI_leI, nI_ltI, nI_eq, nI_add, pk_mul, pk_sub, rd_e, rd_k, rd_c, i10, i01, xsm_l, xsm_r, if_pos, if_neg, l_neg1, oI_e0, nI_e0, oI_nI, ne_eq, not_true_eq_false, not_false_eq_true, and_true, true_and, and_false, false_and, or_true, true_or, or_false, false_or, if_true, if_false, lit_0, lit_1, lit_2, lit_3, lit_4, lit_5, lit_6, lit_8, lit_9, lit_10, lit_12, lit_13, lit_21, lit_29, lit_30, lit_31, lit_37, lit_101, lit_120, lit_121, lit_127, lit_169, lit_64, lit_99, lit_999, lit_676, lit_845, lit_48, lit_57, lit_32, lit_59, c8q, x13, e0, l1, x3, shl1, andn, cau, m1, u6']
      refine ⟨_, rfl, s_C_mk hb0 ?_, fr_up (fr_up (fr_tr (fr_up (s_fr_lk l2) (by omega) _ _) (s_fr_lk m2)) (by omega) _ _) (by omega) _ _⟩
      exact s_D7_cg (by simp (disch := omega) only [Nat.add_zero, Nat.zero_add, Nat.zero_mul, Nat.mul_zero, mc8, mc3, nU_f, nU_k, nU_e, xbd_some, xgd_true, xlet_eq, g_in, nI_clamp, nI_leI, nI_ltI, nI_eq, nI_add, pk_mul, pk_sub, rd_e, rd_k, rd_c, i10, i01, xsm_l, xsm_r, if_pos, if_neg, l_neg1, oI_e0, nI_e0, oI_nI, ne_eq, not_true_eq_false, not_false_eq_true, and_true, true_and, and_false, false_and, or_true, true_or, or_false, false_or, if_true, if_false, lit_0, lit_1, lit_2, lit_3, lit_4, lit_5, lit_6, lit_8, lit_9, lit_10, lit_12, lit_13, lit_21, lit_29, lit_30, lit_31, lit_37, lit_101, lit_120, lit_121, lit_127, lit_169, lit_64, lit_99, lit_999, lit_676, lit_845, lit_48, lit_57, lit_32, lit_59]) (by simp (disch := omega) only [Nat.add_zero, Nat.zero_add, Nat.zero_mul, Nat.mul_zero, mc8, mc3, nU_f, nU_k, nU_e, xbd_some, xgd_true, xlet_eq, g_in, nI_clamp, nI_leI, nI_ltI, nI_eq, nI_add, pk_mul, pk_sub, rd_e, rd_k, rd_c, i10, i01, xsm_l, xsm_r, if_pos, if_neg, l_neg1, oI_e0, nI_e0, oI_nI, ne_eq, not_true_eq_false, not_false_eq_true, and_true, true_and, and_false, false_and, or_true, true_or, or_false, false_or, if_true, if_false, lit_0, lit_1, lit_2, lit_3, lit_4, lit_5, lit_6, lit_8, lit_9, lit_10, lit_12, lit_13, lit_21, lit_29, lit_30, lit_31, lit_37, lit_101, lit_120, lit_121, lit_127, lit_169, lit_64, lit_99, lit_999, lit_676, lit_845, lit_48, lit_57, lit_32, lit_59]) (by simp (disch := omega) only [Nat.add_zero, Nat.zero_add, Nat.zero_mul, Nat.mul_zero, mc8, mc3, nU_f, nU_k, nU_e, xbd_some, xgd_true, xlet_eq, g_in, nI_clamp, nI_leI, nI_ltI, nI_eq, nI_add, pk_mul, pk_sub, rd_e, rd_k, rd_c, i10, i01, xsm_l, xsm_r, if_pos, if_neg, l_neg1, oI_e0, nI_e0, oI_nI, ne_eq, not_true_eq_false, not_false_eq_true, and_true, true_and, and_false, false_and, or_true, true_or, or_false, false_or, if_true, if_false, lit_0, lit_1, lit_2, lit_3, lit_4, lit_5, lit_6, lit_8, lit_9, lit_10, lit_12, lit_13, lit_21, lit_29, lit_30, lit_31, lit_37, lit_101, lit_120, lit_121, lit_127, lit_169, lit_64, lit_99, lit_999, lit_676, lit_845, lit_48, lit_57, lit_32, lit_59]) (s_C_7 hCu)
