def nb (c : Nat) : Nat := if c = 97 then 1 else if c = 100 then 1 else if c = 108 then 3 else if c = 109 then 2 else if c = 111 then 3 else if c = 112 then 2 else if c = 115 then 2 else if c = 116 then 1 else if c = 120 then 1 else 0
theorem nb_le (c : Nat) : nb c ≤ 3 := by
  unfold nb
  repeat' split
  all_goals omega
def p_st (P : xN) (i c : Nat) : xN := if P 0 0 ≠ 0 then P else if c = 32 then nU P 0 3 0 else if P 0 1 = 0 then (if nb c = 0 then nU P 0 0 (i + 1) else nU (nU (nU (nU P 1 (P 0 4) c) 0 2 0) 0 3 0) 0 1 (nb c)) else if c = 59 ∧ P 0 2 = P 0 1 then nU (nU P 0 4 (P 0 4 + 1)) 0 1 0 else if (48 ≤ c ∧ c ≤ 57) ∧ P 0 3 < 3 ∧ (P 0 3 ≠ 0 ∨ P 0 2 < P 0 1) then (if P 0 3 = 0 then nU (nU (nU P 2 (3 * P 0 4 + P 0 2) (c - 48)) 0 2 (P 0 2 + 1)) 0 3 1 else nU (nU P 2 (3 * P 0 4 + P 0 2 - 1) (10 * P 2 (3 * P 0 4 + P 0 2 - 1) + c - 48)) 0 3 (P 0 3 + 1)) else nU P 0 0 (i + 1)
def p_s (T : Nat → Nat) : Nat → xN
  | 0 => fun _ _ => 0
  | i + 1 => p_st (p_s T i) i (T i)
theorem ps_f {P : xN} {i c : Nat} (h : P 0 0 ≠ 0) : p_st P i c = P := by unfold p_st; rw [if_pos h]
theorem ps_sp {P : xN} {i c : Nat} (h : P 0 0 = 0) (hc : c = 32) : p_st P i c = nU P 0 3 0 := by unfold p_st; rw [if_neg (by omega), if_pos hc]
theorem ps_l0 {P : xN} {i c : Nat} (h : P 0 0 = 0) (hc : c ≠ 32) (hd : P 0 1 = 0) (hn : nb c = 0) : p_st P i c = nU P 0 0 (i + 1) := by unfold p_st; rw [if_neg (by omega), if_neg hc, if_pos hd, if_pos hn]
theorem ps_l1 {P : xN} {i c : Nat} (h : P 0 0 = 0) (hc : c ≠ 32) (hd : P 0 1 = 0) (hn : nb c ≠ 0) : p_st P i c = nU (nU (nU (nU P 1 (P 0 4) c) 0 2 0) 0 3 0) 0 1 (nb c) := by unfold p_st; rw [if_neg (by omega), if_neg hc, if_pos hd, if_neg hn]
theorem ps_e {P : xN} {i c : Nat} (h : P 0 0 = 0) (hd : P 0 1 ≠ 0) (hc : c = 59) (hb : P 0 2 = P 0 1) : p_st P i c = nU (nU P 0 4 (P 0 4 + 1)) 0 1 0 := by unfold p_st; rw [if_neg (by omega), if_neg (by omega), if_neg hd, if_pos ⟨hc, hb⟩]
theorem ps_d0 {P : xN} {i c : Nat} (h : P 0 0 = 0) (hd : P 0 1 ≠ 0) (hc : 48 ≤ c ∧ c ≤ 57) (hg : P 0 3 = 0) (hb : P 0 2 < P 0 1) : p_st P i c = nU (nU (nU P 2 (3 * P 0 4 + P 0 2) (c - 48)) 0 2 (P 0 2 + 1)) 0 3 1 := by unfold p_st; rw [if_neg (by omega), if_neg (by omega), if_neg hd, if_neg (by omega), if_pos (by omega), if_pos hg]
theorem ps_d1 {P : xN} {i c : Nat} (h : P 0 0 = 0) (hd : P 0 1 ≠ 0) (hc : 48 ≤ c ∧ c ≤ 57) (hg : P 0 3 ≠ 0) (hg3 : P 0 3 < 3) : p_st P i c = nU (nU P 2 (3 * P 0 4 + P 0 2 - 1) (10 * P 2 (3 * P 0 4 + P 0 2 - 1) + c - 48)) 0 3 (P 0 3 + 1) := by unfold p_st; rw [if_neg (by omega), if_neg (by omega), if_neg hd, if_neg (by omega), if_pos (by omega), if_neg hg]
theorem ps_x {P : xN} {i c : Nat} (h : P 0 0 = 0) (hc : c ≠ 32) (hd : P 0 1 ≠ 0) (he : ¬ (c = 59 ∧ P 0 2 = P 0 1)) (hx : ¬ ((48 ≤ c ∧ c ≤ 57) ∧ P 0 3 < 3 ∧ (P 0 3 ≠ 0 ∨ P 0 2 < P 0 1))) : p_st P i c = nU P 0 0 (i + 1) := by unfold p_st; rw [if_neg (by omega), if_neg hc, if_neg hd, if_neg he, if_neg hx]
def pinv (P : xN) (i : Nat) : Prop := P 0 4 ≤ i ∧ P 0 3 ≤ 3 ∧ (P 0 1 ≠ 0 → P 0 2 ≤ P 0 1 ∧ P 0 1 = nb (P 1 (P 0 4)) ∧ (P 0 3 ≠ 0 → 1 ≤ P 0 2))
theorem pinv_s (T : Nat → Nat) : ∀ i, pinv (p_s T i) i
  | 0 => ⟨Nat.le_refl _, Nat.zero_le _, fun h => absurd rfl h⟩
  | i + 1 => by
    obtain ⟨h1, h2, h3⟩ := pinv_s T i
    show pinv (p_st (p_s T i) i (T i)) (i + 1)
    generalize p_s T i = P at *
    generalize T i = c
    unfold pinv
    by_cases h0 : P 0 0 = 0
    case neg => rw [ps_f h0]; exact ⟨by omega, h2, h3⟩
    by_cases hc : c = 32
    · rw [ps_sp h0 hc]
      simp (disch := omega) only [Nat.add_zero, Nat.zero_add, Nat.zero_mul, Nat.mul_zero, mc8, mc3, nU_f, nU_k, nU_e, xbd_some, xgd_true, xlet_eq, g_in, nI_clamp, nI_leI, nI_ltI, nI_eq, nI_add, pk_mul, pk_sub, rd_e, rd_k, rd_c, i10, i01, xsm_l, xsm_r, if_pos, if_neg, l_neg1, oI_e0, nI_e0, oI_nI, ne_eq, not_true_eq_false, not_false_eq_true, and_true, true_and, and_false, false_and, or_true, true_or, or_false, false_or, if_true, if_false, lit_0, lit_1, lit_2, lit_3, lit_4, lit_5, lit_6, lit_8, lit_9, lit_10, lit_12, lit_13, lit_21, lit_29, lit_30, lit_31, lit_37, lit_101, lit_120, lit_121, lit_127, lit_169, lit_64, lit_99, lit_999, lit_676, lit_845, lit_48, lit_57, lit_32, lit_59]
      exact ⟨by omega, by omega, fun hd => ⟨(h3 hd).1, (h3 hd).2.1, fun z => z.elim⟩⟩
    by_cases hd : P 0 1 = 0
    · by_cases hn : nb c = 0
      · rw [ps_l0 h0 hc hd hn]
        simp (disch := omega) only [Nat.add_zero, Nat.zero_add, Nat.zero_mul, Nat.mul_zero, mc8, mc3, nU_f, nU_k, nU_e, xbd_some, xgd_true, xlet_eq, g_in, nI_clamp, nI_leI, nI_ltI, nI_eq, nI_add, pk_mul, pk_sub, rd_e, rd_k, rd_c, i10, i01, xsm_l, xsm_r, if_pos, if_neg, l_neg1, oI_e0, nI_e0, oI_nI, ne_eq, not_true_eq_false, not_false_eq_true, and_true, true_and, and_false, false_and, or_true, true_or, or_false, false_or, if_true, if_false, lit_0, lit_1, lit_2, lit_3, lit_4, lit_5, lit_6, lit_8, lit_9, lit_10, lit_12, lit_13, lit_21, lit_29, lit_30, lit_31, lit_37, lit_101, lit_120, lit_121, lit_127, lit_169, lit_64, lit_99, lit_999, lit_676, lit_845, lit_48, lit_57, lit_32, lit_59]
        exact ⟨by omega, h2, fun z => absurd hd z⟩
      · rw [ps_l1 h0 hc hd hn]
        simp (disch := omega) only [Nat.add_zero, Nat.zero_add, Nat.zero_mul, Nat.mul_zero, mc8, mc3, nU_f, nU_k, nU_e, xbd_some, xgd_true, xlet_eq, g_in, nI_clamp, nI_leI, nI_ltI, nI_eq, nI_add, pk_mul, pk_sub, rd_e, rd_k, rd_c, i10, i01, xsm_l, xsm_r, if_pos, if_neg, l_neg1, oI_e0, nI_e0, oI_nI, ne_eq, not_true_eq_false, not_false_eq_true, and_true, true_and, and_false, false_and, or_true, true_or, or_false, false_or, if_true, if_false, lit_0, lit_1, lit_2, lit_3, lit_4, lit_5, lit_6, lit_8, lit_9, lit_10, lit_12, lit_13, lit_21, lit_29, lit_30, lit_31, lit_37, lit_101, lit_120, lit_121, lit_127, lit_169, lit_64, lit_99, lit_999, lit_676, lit_845, lit_48, lit_57, lit_32, lit_59]
        exact ⟨by omega, by omega, fun _ => ⟨by omega, fun z => z.elim⟩⟩
    obtain ⟨d1, d2, d3⟩ := h3 hd
    by_cases he : c = 59 ∧ P 0 2 = P 0 1
    · rw [ps_e h0 hd he.1 he.2]
      simp (disch := omega) only [Nat.add_zero, Nat.zero_add, Nat.zero_mul, Nat.mul_zero, mc8, mc3, nU_f, nU_k, nU_e, xbd_some, xgd_true, xlet_eq, g_in, nI_clamp, nI_leI, nI_ltI, nI_eq, nI_add, pk_mul, pk_sub, rd_e, rd_k, rd_c, i10, i01, xsm_l, xsm_r, if_pos, if_neg, l_neg1, oI_e0, nI_e0, oI_nI, ne_eq, not_true_eq_false, not_false_eq_true, and_true, true_and, and_false, false_and, or_true, true_or, or_false, false_or, if_true, if_false, lit_0, lit_1, lit_2, lit_3, lit_4, lit_5, lit_6, lit_8, lit_9, lit_10, lit_12, lit_13, lit_21, lit_29, lit_30, lit_31, lit_37, lit_101, lit_120, lit_121, lit_127, lit_169, lit_64, lit_99, lit_999, lit_676, lit_845, lit_48, lit_57, lit_32, lit_59]
      exact ⟨by omega, h2, fun z => z.elim⟩
    by_cases hx : (48 ≤ c ∧ c ≤ 57) ∧ P 0 3 < 3 ∧ (P 0 3 ≠ 0 ∨ P 0 2 < P 0 1)
    · by_cases hg : P 0 3 = 0
      · rw [ps_d0 h0 hd hx.1 hg (by omega)]
        simp (disch := omega) only [Nat.add_zero, Nat.zero_add, Nat.zero_mul, Nat.mul_zero, mc8, mc3, nU_f, nU_k, nU_e, xbd_some, xgd_true, xlet_eq, g_in, nI_clamp, nI_leI, nI_ltI, nI_eq, nI_add, pk_mul, pk_sub, rd_e, rd_k, rd_c, i10, i01, xsm_l, xsm_r, if_pos, if_neg, l_neg1, oI_e0, nI_e0, oI_nI, ne_eq, not_true_eq_false, not_false_eq_true, and_true, true_and, and_false, false_and, or_true, true_or, or_false, false_or, if_true, if_false, lit_0, lit_1, lit_2, lit_3, lit_4, lit_5, lit_6, lit_8, lit_9, lit_10, lit_12, lit_13, lit_21, lit_29, lit_30, lit_31, lit_37, lit_101, lit_120, lit_121, lit_127, lit_169, lit_64, lit_99, lit_999, lit_676, lit_845, lit_48, lit_57, lit_32, lit_59]
        exact ⟨by omega, by omega, fun _ => ⟨by omega, d2, fun _ => by omega⟩⟩
      · rw [ps_d1 h0 hd hx.1 hg hx.2.1]
        simp (disch := omega) only [Nat.add_zero, Nat.zero_add, Nat.zero_mul, Nat.mul_zero, mc8, mc3, nU_f, nU_k, nU_e, xbd_some, xgd_true, xlet_eq, g_in, nI_clamp, nI_leI, nI_ltI, nI_eq, nI_add, pk_mul, pk_sub, rd_e, rd_k, rd_c, i10, i01, xsm_l, xsm_r, if_pos, if_neg, l_neg1, oI_e0, nI_e0, oI_nI, ne_eq, not_true_eq_false, not_false_eq_true, and_true, true_and, and_false, false_and, or_true, true_or, or_false, false_or, if_true, if_false, lit_0, lit_1, lit_2, lit_3, lit_4, lit_5, lit_6, lit_8, lit_9, lit_10, lit_12, lit_13, lit_21, lit_29, lit_30, lit_31, lit_37, lit_101, lit_120, lit_121, lit_127, lit_169, lit_64, lit_99, lit_999, lit_676, lit_845, lit_48, lit_57, lit_32, lit_59]
        exact ⟨by omega, by omega, fun _ => ⟨d1, d2, fun _ => d3 hg⟩⟩
    · rw [ps_x h0 hc hd he hx]
      simp (disch := omega) only [Nat.add_zero, Nat.zero_add, Nat.zero_mul, Nat.mul_zero, mc8, mc3, nU_f, nU_k, nU_e, xbd_some, xgd_true, xlet_eq, g_in, nI_clamp, nI_leI, nI_ltI, nI_eq, nI_add, pk_mul, pk_sub, rd_e, rd_k, rd_c, i10, i01, xsm_l, xsm_r, if_pos, if_neg, l_neg1, oI_e0, nI_e0, oI_nI, ne_eq, not_true_eq_false, not_false_eq_true, and_true, true_and, and_false, false_and, or_true, true_or, or_false, false_or, if_true, if_false, lit_0, lit_1, lit_2, lit_3, lit_4, lit_5, lit_6, lit_8, lit_9, lit_10, lit_12, lit_13, lit_21, lit_29, lit_30, lit_31, lit_37, lit_101, lit_120, lit_121, lit_127, lit_169, lit_64, lit_99, lit_999, lit_676, lit_845, lit_48, lit_57, lit_32, lit_59]
      exact ⟨by omega, h2, fun _ => ⟨d1, d2, d3⟩⟩
theorem ps_stick {T : Nat → Nat} {i : Nat} (h : p_s T i 0 0 ≠ 0) : ∀ j, i ≤ j → p_s T j = p_s T i
  | 0, hj => by
    have : i = 0 := by omega
    rw [this]
  | j + 1, hj => by
    by_cases e : i = j + 1
    · rw [e]
    · have ih := ps_stick h j (by omega)
      show p_st (p_s T j) j (T j) = _
      rw [ih, ps_f h]
theorem ps_nf {T : Nat → Nat} {i j : Nat} (hij : i ≤ j) (h : p_s T j 0 0 = 0) : p_s T i 0 0 = 0 := by
  by_cases e : p_s T i 0 0 = 0
  · exact e
  · rw [ps_stick e j hij] at h
    exact absurd h e
/-- the class's cells while it reads the text -/
def pC (σ : xM) (P : xN) : Prop := σ 137 1 = nI (P 0 4) ∧ (P 0 1 ≠ 0 → σ 137 2 = nI (P 0 2) ∧ σ 137 3 = nI (P 0 3) ∧ σ 139 (P 0 4) = nI (P 1 (P 0 4)) ∧ ∀ k, k < P 0 2 → σ 140 (3 * P 0 4 + k) = nI (P 2 (3 * P 0 4 + k))) ∧ ∀ o, o < P 0 4 → σ 139 o = nI (P 1 o) ∧ ∀ k, k < nb (P 1 o) → σ 140 (3 * o + k) = nI (P 2 (3 * o + k))
def eP (σ τ : xM) (L : Nat) : Prop := (∀ c, c ≠ 137 → c ≠ 139 → c ≠ 140 → τ c = σ c) ∧ τ 137 0 = nI L
theorem eP_up {σ τ : xM} {L c k : Nat} {v : Int32} (h : eP σ τ L) (hc : c = 137 ∧ k ≠ 0 ∨ c = 139 ∨ c = 140) : eP σ (xup τ c k v) L := by
  refine ⟨fun d a b e => ?_, ?_⟩
  · rw [rd_c (by omega)]
    exact h.1 d a b e
  · by_cases e : c = 137
    · subst e
      rw [rd_k (by omega)]
      exact h.2
    · rw [rd_c (fun z => e z.symm)]
      exact h.2
theorem f_nb {c : Nat} (hc : c < 1000) (σ : xM) : F_X6_numbersBehind (nI c) σ = some (nI (nb c)) := by
  unfold F_X6_numbersBehind nb
  by_cases h1 : c = 97
  · subst h1; rfl
  by_cases h2 : c = 100
  · subst h2; rfl
  by_cases h3 : c = 108
  · subst h3; rfl
  by_cases h4 : c = 109
  · subst h4; rfl
  by_cases h5 : c = 111
  · subst h5; rfl
  by_cases h6 : c = 112
  · subst h6; rfl
  by_cases h7 : c = 115
  · subst h7; rfl
  by_cases h8 : c = 116
  · subst h8; rfl
  by_cases h9 : c = 120
  · subst h9; rfl
  have n : ∀ x : Nat, x < 1000 → c ≠ x → ¬ nI c = nI x := fun x hx hn e => hn ((nI_eq (by omega) (by omega)).mp e)
  rw [if_neg (show ¬ nI c = 97 from n 97 (by omega) h1), if_neg (show ¬ nI c = 100 from n 100 (by omega) h2), if_neg (show ¬ nI c = 108 from n 108 (by omega) h3), if_neg (show ¬ nI c = 109 from n 109 (by omega) h4), if_neg (show ¬ nI c = 111 from n 111 (by omega) h5), if_neg (show ¬ nI c = 112 from n 112 (by omega) h6), if_neg (show ¬ nI c = 115 from n 115 (by omega) h7), if_neg (show ¬ nI c = 116 from n 116 (by omega) h8), if_neg (show ¬ nI c = 120 from n 120 (by omega) h9), if_neg h1, if_neg h2, if_neg h3, if_neg h4, if_neg h5, if_neg h6, if_neg h7, if_neg h8, if_neg h9]
  rfl
theorem fg_t {c : Nat} (h : 48 ≤ c ∧ c ≤ 57) (σ : xM) : F_X10_within (nI c) (nI 48) (nI 57) σ = some (nI 1) := wi_t ⟨nI_le h.1 (by omega), nI_le h.2 (by omega)⟩ σ
theorem fg_f {c : Nat} (hc : c < 1000) (h : ¬ (48 ≤ c ∧ c ≤ 57)) (σ : xM) : F_X10_within (nI c) (nI 48) (nI 57) σ = some (nI 0) := wi_f (fun z => h ⟨(nI_leI (by omega) (by omega)).mp z.1, (nI_leI (by omega) (by omega)).mp z.2⟩) σ
/-- a digit, or none, in the class -/
theorem f_digit {σ τ : xM} {P : xN} {i c L : Nat} (hi : i < 120) (hp : pinv P i) (h0 : P 0 0 = 0) (hc : c < 1000) (h32 : c ≠ 32) (hd : P 0 1 ≠ 0) (he : ¬ (c = 59 ∧ P 0 2 = P 0 1)) (hC : pC τ P) (hE : eP σ τ L) : ∃ r υ, F_X6_takesDigit (nI c) (nI (P 0 1)) τ = some (r, υ) ∧ eP σ υ L ∧ ((r = nI 1 ∧ p_st P i c 0 0 = 0 ∧ p_st P i c 0 1 = P 0 1 ∧ pC υ (p_st P i c)) ∨ (r = nI 0 ∧ p_st P i c 0 0 = i + 1)) := by
  obtain ⟨h1, h2, h3⟩ := hp
  obtain ⟨d1, d2, d3⟩ := h3 hd
  obtain ⟨k1, k2, k3⟩ := id hC
  obtain ⟨q1, q2, q3, q4⟩ := k2 hd
  have hnb := nb_le (P 1 (P 0 4))
  unfold F_X6_takesDigit
  by_cases hx : (48 ≤ c ∧ c ≤ 57) ∧ P 0 3 < 3 ∧ (P 0 3 ≠ 0 ∨ P 0 2 < P 0 1)
  · obtain ⟨x1, x2, x3⟩ := hx
    have w := fg_t x1
    by_cases hg : P 0 3 = 0
    · have e := ps_d0 (i := i) h0 hd x1 hg (by omega)
      rw [e]
      rw [hg] at q2
      simp (disch := omega) only [Nat.add_zero, Nat.zero_add, Nat.zero_mul, Nat.mul_zero, mc8, mc3, nU_f, nU_k, nU_e, xbd_some, xgd_true, xlet_eq, g_in, nI_clamp, nI_leI, nI_ltI, nI_eq, nI_add, pk_mul, pk_sub, rd_e, rd_k, rd_c, i10, i01, xsm_l, xsm_r, if_pos, if_neg, l_neg1, oI_e0, nI_e0, oI_nI, ne_eq, not_true_eq_false, not_false_eq_true, and_true, true_and, and_false, false_and, or_true, true_or, or_false, false_or, if_true, if_false, lit_0, lit_1, lit_2, lit_3, lit_4, lit_5, lit_6, lit_8, lit_9, lit_10, lit_12, lit_13, lit_21, lit_29, lit_30, lit_31, lit_37, lit_101, lit_120, lit_121, lit_127, lit_169, lit_64, lit_99, lit_999, lit_676, lit_845, lit_48, lit_57, lit_32, lit_59, w, q1, q2, k1, Nat.add_sub_cancel]
      rw [show 3 * P 0 4 + (P 0 2 + 1) - 1 = 3 * P 0 4 + P 0 2 by omega]
      try simp (disch := omega) only [Nat.add_zero, Nat.zero_add, Nat.zero_mul, Nat.mul_zero, mc8, mc3, nU_f, nU_k, nU_e, xbd_some, xgd_true, xlet_eq, g_in, nI_clamp, nI_leI, nI_ltI, nI_eq, nI_add, pk_mul, pk_sub, rd_e, rd_k, rd_c, i10, i01, xsm_l, xsm_r, if_pos, if_neg, l_neg1, oI_e0, nI_e0, oI_nI, ne_eq, not_true_eq_false, not_false_eq_true, and_true, true_and, and_false, false_and, or_true, true_or, or_false, false_or, if_true, if_false, lit_0, lit_1, lit_2, lit_3, lit_4, lit_5, lit_6, lit_8, lit_9, lit_10, lit_12, lit_13, lit_21, lit_29, lit_30, lit_31, lit_37, lit_101, lit_120, lit_121, lit_127, lit_169, lit_64, lit_99, lit_999, lit_676, lit_845, lit_48, lit_57, lit_32, lit_59]
      refine ⟨_, _, rfl, ?_, Or.inl ⟨rfl, h0, ?_, ?_, ?_⟩⟩
      · exact eP_up (eP_up (eP_up (eP_up hE (by omega)) (by omega)) (by omega)) (by omega)
      · simp (disch := omega) only [Nat.add_zero, Nat.zero_add, Nat.zero_mul, Nat.mul_zero, mc8, mc3, nU_f, nU_k, nU_e, xbd_some, xgd_true, xlet_eq, g_in, nI_clamp, nI_leI, nI_ltI, nI_eq, nI_add, pk_mul, pk_sub, rd_e, rd_k, rd_c, i10, i01, xsm_l, xsm_r, if_pos, if_neg, l_neg1, oI_e0, nI_e0, oI_nI, ne_eq, not_true_eq_false, not_false_eq_true, and_true, true_and, and_false, false_and, or_true, true_or, or_false, false_or, if_true, if_false, lit_0, lit_1, lit_2, lit_3, lit_4, lit_5, lit_6, lit_8, lit_9, lit_10, lit_12, lit_13, lit_21, lit_29, lit_30, lit_31, lit_37, lit_101, lit_120, lit_121, lit_127, lit_169, lit_64, lit_99, lit_999, lit_676, lit_845, lit_48, lit_57, lit_32, lit_59, k1]
      · intro _
        simp (disch := omega) only [Nat.add_zero, Nat.zero_add, Nat.zero_mul, Nat.mul_zero, mc8, mc3, nU_f, nU_k, nU_e, xbd_some, xgd_true, xlet_eq, g_in, nI_clamp, nI_leI, nI_ltI, nI_eq, nI_add, pk_mul, pk_sub, rd_e, rd_k, rd_c, i10, i01, xsm_l, xsm_r, if_pos, if_neg, l_neg1, oI_e0, nI_e0, oI_nI, ne_eq, not_true_eq_false, not_false_eq_true, and_true, true_and, and_false, false_and, or_true, true_or, or_false, false_or, if_true, if_false, lit_0, lit_1, lit_2, lit_3, lit_4, lit_5, lit_6, lit_8, lit_9, lit_10, lit_12, lit_13, lit_21, lit_29, lit_30, lit_31, lit_37, lit_101, lit_120, lit_121, lit_127, lit_169, lit_64, lit_99, lit_999, lit_676, lit_845, lit_48, lit_57, lit_32, lit_59, q3]
        intro k hk
        by_cases ek : k = P 0 2
        · subst ek
          simp (disch := omega) only [Nat.add_zero, Nat.zero_add, Nat.zero_mul, Nat.mul_zero, mc8, mc3, nU_f, nU_k, nU_e, xbd_some, xgd_true, xlet_eq, g_in, nI_clamp, nI_leI, nI_ltI, nI_eq, nI_add, pk_mul, pk_sub, rd_e, rd_k, rd_c, i10, i01, xsm_l, xsm_r, if_pos, if_neg, l_neg1, oI_e0, nI_e0, oI_nI, ne_eq, not_true_eq_false, not_false_eq_true, and_true, true_and, and_false, false_and, or_true, true_or, or_false, false_or, if_true, if_false, lit_0, lit_1, lit_2, lit_3, lit_4, lit_5, lit_6, lit_8, lit_9, lit_10, lit_12, lit_13, lit_21, lit_29, lit_30, lit_31, lit_37, lit_101, lit_120, lit_121, lit_127, lit_169, lit_64, lit_99, lit_999, lit_676, lit_845, lit_48, lit_57, lit_32, lit_59]
        · simp (disch := omega) only [Nat.add_zero, Nat.zero_add, Nat.zero_mul, Nat.mul_zero, mc8, mc3, nU_f, nU_k, nU_e, xbd_some, xgd_true, xlet_eq, g_in, nI_clamp, nI_leI, nI_ltI, nI_eq, nI_add, pk_mul, pk_sub, rd_e, rd_k, rd_c, i10, i01, xsm_l, xsm_r, if_pos, if_neg, l_neg1, oI_e0, nI_e0, oI_nI, ne_eq, not_true_eq_false, not_false_eq_true, and_true, true_and, and_false, false_and, or_true, true_or, or_false, false_or, if_true, if_false, lit_0, lit_1, lit_2, lit_3, lit_4, lit_5, lit_6, lit_8, lit_9, lit_10, lit_12, lit_13, lit_21, lit_29, lit_30, lit_31, lit_37, lit_101, lit_120, lit_121, lit_127, lit_169, lit_64, lit_99, lit_999, lit_676, lit_845, lit_48, lit_57, lit_32, lit_59]
          exact q4 k (by omega)
      · intro o ho
        try simp (disch := omega) only [Nat.add_zero, Nat.zero_add, Nat.zero_mul, Nat.mul_zero, mc8, mc3, nU_f, nU_k, nU_e, xbd_some, xgd_true, xlet_eq, g_in, nI_clamp, nI_leI, nI_ltI, nI_eq, nI_add, pk_mul, pk_sub, rd_e, rd_k, rd_c, i10, i01, xsm_l, xsm_r, if_pos, if_neg, l_neg1, oI_e0, nI_e0, oI_nI, ne_eq, not_true_eq_false, not_false_eq_true, and_true, true_and, and_false, false_and, or_true, true_or, or_false, false_or, if_true, if_false, lit_0, lit_1, lit_2, lit_3, lit_4, lit_5, lit_6, lit_8, lit_9, lit_10, lit_12, lit_13, lit_21, lit_29, lit_30, lit_31, lit_37, lit_101, lit_120, lit_121, lit_127, lit_169, lit_64, lit_99, lit_999, lit_676, lit_845, lit_48, lit_57, lit_32, lit_59] at ho
        simp (disch := omega) only [Nat.add_zero, Nat.zero_add, Nat.zero_mul, Nat.mul_zero, mc8, mc3, nU_f, nU_k, nU_e, xbd_some, xgd_true, xlet_eq, g_in, nI_clamp, nI_leI, nI_ltI, nI_eq, nI_add, pk_mul, pk_sub, rd_e, rd_k, rd_c, i10, i01, xsm_l, xsm_r, if_pos, if_neg, l_neg1, oI_e0, nI_e0, oI_nI, ne_eq, not_true_eq_false, not_false_eq_true, and_true, true_and, and_false, false_and, or_true, true_or, or_false, false_or, if_true, if_false, lit_0, lit_1, lit_2, lit_3, lit_4, lit_5, lit_6, lit_8, lit_9, lit_10, lit_12, lit_13, lit_21, lit_29, lit_30, lit_31, lit_37, lit_101, lit_120, lit_121, lit_127, lit_169, lit_64, lit_99, lit_999, lit_676, lit_845, lit_48, lit_57, lit_32, lit_59]
        refine ⟨(k3 o ho).1, fun k hk => ?_⟩
        have := nb_le (P 1 o)
        try simp (disch := omega) only [Nat.add_zero, Nat.zero_add, Nat.zero_mul, Nat.mul_zero, mc8, mc3, nU_f, nU_k, nU_e, xbd_some, xgd_true, xlet_eq, g_in, nI_clamp, nI_leI, nI_ltI, nI_eq, nI_add, pk_mul, pk_sub, rd_e, rd_k, rd_c, i10, i01, xsm_l, xsm_r, if_pos, if_neg, l_neg1, oI_e0, nI_e0, oI_nI, ne_eq, not_true_eq_false, not_false_eq_true, and_true, true_and, and_false, false_and, or_true, true_or, or_false, false_or, if_true, if_false, lit_0, lit_1, lit_2, lit_3, lit_4, lit_5, lit_6, lit_8, lit_9, lit_10, lit_12, lit_13, lit_21, lit_29, lit_30, lit_31, lit_37, lit_101, lit_120, lit_121, lit_127, lit_169, lit_64, lit_99, lit_999, lit_676, lit_845, lit_48, lit_57, lit_32, lit_59]
        exact (k3 o ho).2 k hk
    · have e := ps_d1 (i := i) h0 hd x1 hg x2
      rw [e]
      have b1 := d3 hg
      have qv := q4 (P 0 2 - 1) (by omega)
      rw [show 3 * P 0 4 + (P 0 2 - 1) = 3 * P 0 4 + P 0 2 - 1 by omega] at qv
      simp (disch := omega) only [Nat.add_zero, Nat.zero_add, Nat.zero_mul, Nat.mul_zero, mc8, mc3, nU_f, nU_k, nU_e, xbd_some, xgd_true, xlet_eq, g_in, nI_clamp, nI_leI, nI_ltI, nI_eq, nI_add, pk_mul, pk_sub, rd_e, rd_k, rd_c, i10, i01, xsm_l, xsm_r, if_pos, if_neg, l_neg1, oI_e0, nI_e0, oI_nI, ne_eq, not_true_eq_false, not_false_eq_true, and_true, true_and, and_false, false_and, or_true, true_or, or_false, false_or, if_true, if_false, lit_0, lit_1, lit_2, lit_3, lit_4, lit_5, lit_6, lit_8, lit_9, lit_10, lit_12, lit_13, lit_21, lit_29, lit_30, lit_31, lit_37, lit_101, lit_120, lit_121, lit_127, lit_169, lit_64, lit_99, lit_999, lit_676, lit_845, lit_48, lit_57, lit_32, lit_59, w, q1, q2, k1, qv]
      refine ⟨_, _, rfl, ?_, Or.inl ⟨rfl, h0, ?_, ?_, ?_⟩⟩
      · exact eP_up (eP_up hE (by omega)) (by omega)
      · simp (disch := omega) only [Nat.add_zero, Nat.zero_add, Nat.zero_mul, Nat.mul_zero, mc8, mc3, nU_f, nU_k, nU_e, xbd_some, xgd_true, xlet_eq, g_in, nI_clamp, nI_leI, nI_ltI, nI_eq, nI_add, pk_mul, pk_sub, rd_e, rd_k, rd_c, i10, i01, xsm_l, xsm_r, if_pos, if_neg, l_neg1, oI_e0, nI_e0, oI_nI, ne_eq, not_true_eq_false, not_false_eq_true, and_true, true_and, and_false, false_and, or_true, true_or, or_false, false_or, if_true, if_false, lit_0, lit_1, lit_2, lit_3, lit_4, lit_5, lit_6, lit_8, lit_9, lit_10, lit_12, lit_13, lit_21, lit_29, lit_30, lit_31, lit_37, lit_101, lit_120, lit_121, lit_127, lit_169, lit_64, lit_99, lit_999, lit_676, lit_845, lit_48, lit_57, lit_32, lit_59, k1]
      · intro _
        simp (disch := omega) only [Nat.add_zero, Nat.zero_add, Nat.zero_mul, Nat.mul_zero, mc8, mc3, nU_f, nU_k, nU_e, xbd_some, xgd_true, xlet_eq, g_in, nI_clamp, nI_leI, nI_ltI, nI_eq, nI_add, pk_mul, pk_sub, rd_e, rd_k, rd_c, i10, i01, xsm_l, xsm_r, if_pos, if_neg, l_neg1, oI_e0, nI_e0, oI_nI, ne_eq, not_true_eq_false, not_false_eq_true, and_true, true_and, and_false, false_and, or_true, true_or, or_false, false_or, if_true, if_false, lit_0, lit_1, lit_2, lit_3, lit_4, lit_5, lit_6, lit_8, lit_9, lit_10, lit_12, lit_13, lit_21, lit_29, lit_30, lit_31, lit_37, lit_101, lit_120, lit_121, lit_127, lit_169, lit_64, lit_99, lit_999, lit_676, lit_845, lit_48, lit_57, lit_32, lit_59, q1, q3]
        intro k hk
        by_cases ek : k = P 0 2 - 1
        · subst ek
          rw [show 3 * P 0 4 + (P 0 2 - 1) = 3 * P 0 4 + P 0 2 - 1 by omega]
          simp (disch := omega) only [Nat.add_zero, Nat.zero_add, Nat.zero_mul, Nat.mul_zero, mc8, mc3, nU_f, nU_k, nU_e, xbd_some, xgd_true, xlet_eq, g_in, nI_clamp, nI_leI, nI_ltI, nI_eq, nI_add, pk_mul, pk_sub, rd_e, rd_k, rd_c, i10, i01, xsm_l, xsm_r, if_pos, if_neg, l_neg1, oI_e0, nI_e0, oI_nI, ne_eq, not_true_eq_false, not_false_eq_true, and_true, true_and, and_false, false_and, or_true, true_or, or_false, false_or, if_true, if_false, lit_0, lit_1, lit_2, lit_3, lit_4, lit_5, lit_6, lit_8, lit_9, lit_10, lit_12, lit_13, lit_21, lit_29, lit_30, lit_31, lit_37, lit_101, lit_120, lit_121, lit_127, lit_169, lit_64, lit_99, lit_999, lit_676, lit_845, lit_48, lit_57, lit_32, lit_59]
        · simp (disch := omega) only [Nat.add_zero, Nat.zero_add, Nat.zero_mul, Nat.mul_zero, mc8, mc3, nU_f, nU_k, nU_e, xbd_some, xgd_true, xlet_eq, g_in, nI_clamp, nI_leI, nI_ltI, nI_eq, nI_add, pk_mul, pk_sub, rd_e, rd_k, rd_c, i10, i01, xsm_l, xsm_r, if_pos, if_neg, l_neg1, oI_e0, nI_e0, oI_nI, ne_eq, not_true_eq_false, not_false_eq_true, and_true, true_and, and_false, false_and, or_true, true_or, or_false, false_or, if_true, if_false, lit_0, lit_1, lit_2, lit_3, lit_4, lit_5, lit_6, lit_8, lit_9, lit_10, lit_12, lit_13, lit_21, lit_29, lit_30, lit_31, lit_37, lit_101, lit_120, lit_121, lit_127, lit_169, lit_64, lit_99, lit_999, lit_676, lit_845, lit_48, lit_57, lit_32, lit_59]
          exact q4 k hk
      · intro o ho
        try simp (disch := omega) only [Nat.add_zero, Nat.zero_add, Nat.zero_mul, Nat.mul_zero, mc8, mc3, nU_f, nU_k, nU_e, xbd_some, xgd_true, xlet_eq, g_in, nI_clamp, nI_leI, nI_ltI, nI_eq, nI_add, pk_mul, pk_sub, rd_e, rd_k, rd_c, i10, i01, xsm_l, xsm_r, if_pos, if_neg, l_neg1, oI_e0, nI_e0, oI_nI, ne_eq, not_true_eq_false, not_false_eq_true, and_true, true_and, and_false, false_and, or_true, true_or, or_false, false_or, if_true, if_false, lit_0, lit_1, lit_2, lit_3, lit_4, lit_5, lit_6, lit_8, lit_9, lit_10, lit_12, lit_13, lit_21, lit_29, lit_30, lit_31, lit_37, lit_101, lit_120, lit_121, lit_127, lit_169, lit_64, lit_99, lit_999, lit_676, lit_845, lit_48, lit_57, lit_32, lit_59] at ho
        simp (disch := omega) only [Nat.add_zero, Nat.zero_add, Nat.zero_mul, Nat.mul_zero, mc8, mc3, nU_f, nU_k, nU_e, xbd_some, xgd_true, xlet_eq, g_in, nI_clamp, nI_leI, nI_ltI, nI_eq, nI_add, pk_mul, pk_sub, rd_e, rd_k, rd_c, i10, i01, xsm_l, xsm_r, if_pos, if_neg, l_neg1, oI_e0, nI_e0, oI_nI, ne_eq, not_true_eq_false, not_false_eq_true, and_true, true_and, and_false, false_and, or_true, true_or, or_false, false_or, if_true, if_false, lit_0, lit_1, lit_2, lit_3, lit_4, lit_5, lit_6, lit_8, lit_9, lit_10, lit_12, lit_13, lit_21, lit_29, lit_30, lit_31, lit_37, lit_101, lit_120, lit_121, lit_127, lit_169, lit_64, lit_99, lit_999, lit_676, lit_845, lit_48, lit_57, lit_32, lit_59]
        refine ⟨(k3 o ho).1, fun k hk => ?_⟩
        have := nb_le (P 1 o)
        try simp (disch := omega) only [Nat.add_zero, Nat.zero_add, Nat.zero_mul, Nat.mul_zero, mc8, mc3, nU_f, nU_k, nU_e, xbd_some, xgd_true, xlet_eq, g_in, nI_clamp, nI_leI, nI_ltI, nI_eq, nI_add, pk_mul, pk_sub, rd_e, rd_k, rd_c, i10, i01, xsm_l, xsm_r, if_pos, if_neg, l_neg1, oI_e0, nI_e0, oI_nI, ne_eq, not_true_eq_false, not_false_eq_true, and_true, true_and, and_false, false_and, or_true, true_or, or_false, false_or, if_true, if_false, lit_0, lit_1, lit_2, lit_3, lit_4, lit_5, lit_6, lit_8, lit_9, lit_10, lit_12, lit_13, lit_21, lit_29, lit_30, lit_31, lit_37, lit_101, lit_120, lit_121, lit_127, lit_169, lit_64, lit_99, lit_999, lit_676, lit_845, lit_48, lit_57, lit_32, lit_59]
        exact (k3 o ho).2 k hk
  · have e := ps_x (i := i) h0 h32 hd he hx
    refine ⟨nI 0, τ, ?_, hE, Or.inr ⟨rfl, by rw [e]; simp (disch := omega) only [Nat.add_zero, Nat.zero_add, Nat.zero_mul, Nat.mul_zero, mc8, mc3, nU_f, nU_k, nU_e, xbd_some, xgd_true, xlet_eq, g_in, nI_clamp, nI_leI, nI_ltI, nI_eq, nI_add, pk_mul, pk_sub, rd_e, rd_k, rd_c, i10, i01, xsm_l, xsm_r, if_pos, if_neg, l_neg1, oI_e0, nI_e0, oI_nI, ne_eq, not_true_eq_false, not_false_eq_true, and_true, true_and, and_false, false_and, or_true, true_or, or_false, false_or, if_true, if_false, lit_0, lit_1, lit_2, lit_3, lit_4, lit_5, lit_6, lit_8, lit_9, lit_10, lit_12, lit_13, lit_21, lit_29, lit_30, lit_31, lit_37, lit_101, lit_120, lit_121, lit_127, lit_169, lit_64, lit_99, lit_999, lit_676, lit_845, lit_48, lit_57, lit_32, lit_59]⟩⟩
    by_cases x1 : 48 ≤ c ∧ c ≤ 57
    · have w := fg_t x1
      by_cases x2 : P 0 3 < 3
      · have hg : P 0 3 = 0 := by omega
        simp (disch := omega) only [Nat.add_zero, Nat.zero_add, Nat.zero_mul, Nat.mul_zero, mc8, mc3, nU_f, nU_k, nU_e, xbd_some, xgd_true, xlet_eq, g_in, nI_clamp, nI_leI, nI_ltI, nI_eq, nI_add, pk_mul, pk_sub, rd_e, rd_k, rd_c, i10, i01, xsm_l, xsm_r, if_pos, if_neg, l_neg1, oI_e0, nI_e0, oI_nI, ne_eq, not_true_eq_false, not_false_eq_true, and_true, true_and, and_false, false_and, or_true, true_or, or_false, false_or, if_true, if_false, lit_0, lit_1, lit_2, lit_3, lit_4, lit_5, lit_6, lit_8, lit_9, lit_10, lit_12, lit_13, lit_21, lit_29, lit_30, lit_31, lit_37, lit_101, lit_120, lit_121, lit_127, lit_169, lit_64, lit_99, lit_999, lit_676, lit_845, lit_48, lit_57, lit_32, lit_59, w, q1, q2]
      · simp (disch := omega) only [Nat.add_zero, Nat.zero_add, Nat.zero_mul, Nat.mul_zero, mc8, mc3, nU_f, nU_k, nU_e, xbd_some, xgd_true, xlet_eq, g_in, nI_clamp, nI_leI, nI_ltI, nI_eq, nI_add, pk_mul, pk_sub, rd_e, rd_k, rd_c, i10, i01, xsm_l, xsm_r, if_pos, if_neg, l_neg1, oI_e0, nI_e0, oI_nI, ne_eq, not_true_eq_false, not_false_eq_true, and_true, true_and, and_false, false_and, or_true, true_or, or_false, false_or, if_true, if_false, lit_0, lit_1, lit_2, lit_3, lit_4, lit_5, lit_6, lit_8, lit_9, lit_10, lit_12, lit_13, lit_21, lit_29, lit_30, lit_31, lit_37, lit_101, lit_120, lit_121, lit_127, lit_169, lit_64, lit_99, lit_999, lit_676, lit_845, lit_48, lit_57, lit_32, lit_59, w, q1, q2]
    · have w := fg_f hc x1
      simp (disch := omega) only [Nat.add_zero, Nat.zero_add, Nat.zero_mul, Nat.mul_zero, mc8, mc3, nU_f, nU_k, nU_e, xbd_some, xgd_true, xlet_eq, g_in, nI_clamp, nI_leI, nI_ltI, nI_eq, nI_add, pk_mul, pk_sub, rd_e, rd_k, rd_c, i10, i01, xsm_l, xsm_r, if_pos, if_neg, l_neg1, oI_e0, nI_e0, oI_nI, ne_eq, not_true_eq_false, not_false_eq_true, and_true, true_and, and_false, false_and, or_true, true_or, or_false, false_or, if_true, if_false, lit_0, lit_1, lit_2, lit_3, lit_4, lit_5, lit_6, lit_8, lit_9, lit_10, lit_12, lit_13, lit_21, lit_29, lit_30, lit_31, lit_37, lit_101, lit_120, lit_121, lit_127, lit_169, lit_64, lit_99, lit_999, lit_676, lit_845, lit_48, lit_57, lit_32, lit_59, w]
