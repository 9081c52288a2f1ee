theorem shr_0 {v n : Nat} (hv : v < 2 ^ 31) (hn : n ≤ 5) : (nI v >>> (nI n &&& 31) = 0) ↔ v < 2 ^ n := by
  have hs : ((nI n &&& 31 : Int32).toBitVec.smod 32).toNat = n := by
    have : ∀ n, n < 6 → ((nI n &&& 31 : Int32).toBitVec.smod 32).toNat = n := by decide +kernel
    exact this n (by omega)
  rw [pk_shrN hv _ n hs, show (0 : Int32) = nI 0 from rfl, nI_eq (Nat.lt_of_le_of_lt (Nat.div_le_self _ _) hv) (by omega)]
  constructor
  · intro h
    exact (Nat.div_eq_zero_iff_lt (Nat.two_pow_pos n)).mp h
  · intro h
    exact Nat.div_eq_of_lt h
theorem p_order (a c : Int32) {σ : xM} (h : Inv σ) : ∃ (r : Int32) (σ1 σ2 : xM), F_X10_order a c σ = some (r, σ1) ∧ F_X11_order a c σ1 = some (r, σ2) ∧ Inv σ2 := by
  obtain ⟨N, k, H, L, T, b, hW, hC, hM⟩ := h
  have c8 : σ 8 0 = nI (N 0 1) := (s_C_0 hC.1).1.2.1
  have hS := hW.1.1.2.1
  have hu := s_up_lt5 hS
  have p32 : 2 ^ N 0 1 ≤ 32 := Nat.pow_le_pow_right (n := 2) (j := 5) (by omega) hS
  have sh : (1 : Int32) <<< (nI (N 0 1) &&& 31) - 1 = nI (2 ^ N 0 1 - 1) := by
    have : (1 : Int32) <<< (nI (N 0 1) &&& 31) = nI (2 ^ N 0 1) := shl1 (by omega)
    rw [this, show (1 : Int32) = nI 1 from rfl, pk_sub (Nat.two_pow_pos _)]
  have hin : ∀ τ : xM, τ 142 1 = nI (N 0 1) → F_X11_in (a.toInt64) 1 ((((1 : Int32) <<< (τ 142 1 &&& 31)) - 1).toInt64) τ = some (if 1 ≤ a ∧ a ≤ nI (2 ^ N 0 1 - 1) then 1 else 0) := fun τ e => by
    rw [e, sh]
    exact lg_in a 1 _ τ
  unfold F_X10_order F_X11_order
  by_cases h0 : a ≤ 0
  · obtain ⟨τ1, e1, m1, τ2, e2, i2⟩ := q_no (r := -2) (Or.inl rfl) hW hC hM
    have hi := hin τ1 (m1.1.1 1 (by omega))
    rw [if_neg (fun z => by
      have h1 := z.1
      rw [Int32.le_iff_toInt_le] at h0 h1
      have x1 : (1 : Int32).toInt = 1 := rfl
      have x0 : (0 : Int32).toInt = 0 := rfl
      omega)] at hi
    refine ⟨-2, τ1, τ2, ?_, ?_, i2⟩
    · rw [if_pos h0, e1]
    · rw [xbd_s hi, if_pos rfl, e2]
  obtain ⟨v, hv, rfl⟩ := nI_of (x := a) (fun z => h0 (by
    rw [Int32.lt_iff_toInt_lt] at z
    rw [Int32.le_iff_toInt_le]
    omega))
  have hv0 : 0 < v := by
    by_cases z : v = 0
    · subst z
      exact absurd (show nI 0 ≤ 0 by decide) h0
    · omega
  rw [if_neg h0, c8]
  by_cases h1 : v < 2 ^ N 0 1
  case neg =>
    obtain ⟨τ1, e1, m1, τ2, e2, i2⟩ := q_no (r := -2) (Or.inl rfl) hW hC hM
    have hi := hin τ1 (m1.1.1 1 (by omega))
    rw [if_neg (fun z => by
      have := (nI_leI hv (by omega)).mp z.2
      omega)] at hi
    refine ⟨-2, τ1, τ2, ?_, ?_, i2⟩
    · rw [if_neg (fun z => h1 ((shr_0 hv hS).mp z)), e1]
    · rw [xbd_s hi, if_pos rfl, e2]
  rw [if_pos ((shr_0 hv hS).mpr h1)]
  have hin1 : ∀ τ : xM, τ 142 1 = nI (N 0 1) → F_X11_in ((nI v).toInt64) 1 ((((1 : Int32) <<< (τ 142 1 &&& 31)) - 1).toInt64) τ = some 1 := fun τ e => by
    rw [hin τ e, if_pos ⟨nI_le (a := 1) hv0 hv, nI_le (by omega) (by omega)⟩]
  by_cases h2 : 0 ≤ c
  case neg =>
    obtain ⟨τ1, e1, m1, τ2, e2, i2⟩ := q_no (r := -2) (Or.inl rfl) hW hC hM
    refine ⟨-2, τ1, τ2, ?_, ?_, i2⟩
    · rw [if_neg h2, e1]
    · rw [xbd_s (hin1 τ1 (m1.1.1 1 (by omega))), if_neg one0, if_neg h2, e2]
  rw [if_pos h2, xbd_s (s_C_up hW.1 hC.1)]
  obtain ⟨i, hi, rfl⟩ := nI_of (x := c) (fun z => by
    rw [Int32.lt_iff_toInt_lt] at z
    rw [Int32.le_iff_toInt_le] at h2
    omega)
  have du := dif_up hS h1
  have an : nI v &&& (nI (s_up N) ^^^ (-1)) = nI (dif v (s_up N)) := andn (by omega) hu
  rw [an]
  have dl := dif_lt (u := v) (g := s_up N) (by omega)
  by_cases h3 : dif v (s_up N) = 0
  case neg =>
    obtain ⟨τ1, e1, m1, τ2, e2, i2⟩ := q_no (r := -3) (Or.inr (Or.inl rfl)) hW hC hM
    have ao := m_areOn (v := v) hW.1 m1.1 (by omega)
    rw [if_neg (fun z => h3 (du.mpr z))] at ao
    refine ⟨-3, τ1, τ2, ?_, ?_, i2⟩
    · rw [if_neg (nI_ne0 (by omega) (by omega)), e1]
    · rw [xbd_s (hin1 τ1 (m1.1.1 1 (by omega))), if_neg one0, if_pos h2, xbd_s ao, if_pos (show nI 0 = 0 from rfl), e2]
  have hon : ∀ s, s < 5 → v.testBit s = true → s < N 0 1 ∧ N 9 s ≠ 2 := fun s hs hb => by
    have hsn : s < N 0 1 := by
      by_cases z : s < N 0 1
      · exact z
      · have := Nat.testBit_lt_two_pow (x := v) (i := s) (Nat.lt_of_lt_of_le h1 (Nat.pow_le_pow_right (by omega) (by omega)))
        rw [this] at hb
        cases hb
    exact ⟨hsn, du.mp h3 s hsn hb⟩
  obtain ⟨r, τ1, a1, a2, a3⟩ := f_order (i := i) hW.1 hC.1 (show v < 32 by omega) hon hi
  have hM1 : IM τ1 N k H L T b := IM_lo hM (fun c hc => a3 c (by omega) (by omega) (by omega))
  have hC1 : IC τ1 N k H L T b := IC_cg hC (fun c x y z w => a3 c y z w)
  obtain ⟨r', τ2, b1, b2, b3, b4⟩ := m_order (i := i) hW.1 hM1.1 (show v < 32 by omega) hon hi
  have er : r' = r := od_un b2 a2
  have ao := m_areOn (v := v) hW.1 hM1.1 (by omega)
  rw [if_pos (du.mp h3)] at ao
  refine ⟨r, τ1, τ2, ?_, ?_, q_yes hW hC1 hM1 b4 b3⟩
  · rw [if_pos (by rw [h3]; rfl), xbd_s a1]
  · rw [xbd_s (hin1 τ1 (hM1.1.1 1 (by omega))), if_neg one0, if_pos h2, xbd_s ao, if_neg (show ¬ nI 1 = 0 from one0), xbd_s b1, er]
theorem p_worst (a c : Int32) {σ : xM} (h : Inv σ) : ∃ (r : Int32) (σ1 σ2 : xM), F_X10_worst a c σ = some (r, σ1) ∧ F_X11_worst a c σ1 = some (r, σ2) ∧ Inv σ2 := by
  obtain ⟨N, k, H, L, T, b, hW, hC, hM⟩ := h
  unfold F_X10_worst F_X11_worst
  by_cases h1 : 1 ≤ a ∧ a ≤ 2
  case neg =>
    obtain ⟨τ1, e1, m1, τ2, e2, i2⟩ := q_no (r := -2) (Or.inl rfl) hW hC hM
    refine ⟨-2, τ1, τ2, ?_, ?_, i2⟩
    · rw [xbd_s (wi_f h1 σ), if_pos rfl, e1]
    · rw [xbd_s (if_1_2 h1 τ1), if_pos rfl, e2]
  rw [xbd_s (wi_t h1 σ), if_neg one0]
  by_cases h2 : 0 ≤ c ∧ c ≤ 1
  case neg =>
    obtain ⟨τ1, e1, m1, τ2, e2, i2⟩ := q_no (r := -2) (Or.inl rfl) hW hC hM
    refine ⟨-2, τ1, τ2, ?_, ?_, i2⟩
    · rw [xbd_s (wi_f h2 σ), if_pos rfl, e1]
    · rw [xbd_s (it_1_2 h1 τ1), if_neg one0, xbd_s (if_0_1 h2 τ1), if_pos rfl, e2]
  rw [xbd_s (wi_t h2 σ), if_neg one0]
  obtain ⟨n, hn1, hn2, e⟩ := (rg1_of (n := 2) rfl (by omega)).mp h1
  obtain ⟨w, hw1, e'⟩ := (rg_of (n := 1) rfl (by omega)).mp h2
  obtain ⟨τ1, a1, a2⟩ := f_worst (n := n) hW.1 hC.1 ⟨hn1, hn2⟩
  have hC1 := lk_IC hC a2
  have wl := w_st_le (N := N) (n := n) hW.1 (s_up N + 1)
  have hu := s_up_lt5 hW.1.1.2.1
  have wx := w_st_x (N := N) (n := n) (s_up N + 1)
  have hc01 : c = 0 ∨ c = 1 := by
    rw [e']
    have : w = 0 ∨ w = 1 := by omega
    rcases this with rfl | rfl
    · exact Or.inl rfl
    · exact Or.inr rfl
  rw [e, xbd_s a1]
  dsimp only
  have fin : ∀ υ : xM, s_eq s_lk σ υ → ∃ τ2, F_X11_worst (nI n) c υ = some ((if c = 0 then oI (w_st N n (s_up N + 1)).1 else oI (w_st N n (s_up N + 1)).2), τ2) ∧ Inv τ2 := by
    intro υ hυ
    have hM1 := lk_IM hM hυ
    obtain ⟨τ2, b1, b2, b3⟩ := m_worst (n := n) hW.1 hM1.1 ⟨hn1, hn2⟩ c
    refine ⟨τ2, ?_, q_yes hW (lk_IC hC hυ) hM1 b3 b2⟩
    unfold F_X11_worst
    rw [xbd_s (it_1_2 (by rw [← e]; exact h1) υ), if_neg one0, xbd_s (it_0_1 h2 υ), if_neg one0, xbd_s b1]
  have fin' : ∀ υ : xM, F_X11_worst (nI n) c υ = (xbd (F_X11_in ((nI n).toInt64) 1 2 υ) fun r1 => if r1 = 0 then xbd (F_X11_refuses (-2) υ) fun r3 => some (r3.1, r3.2) else xbd (F_X11_in (c.toInt64) 0 1 υ) fun r4 => if r4 = 0 then xbd (F_X11_refuses (-2) υ) fun r6 => some (r6.1, r6.2) else xbd (F_X11_worstNow (nI n) c υ) fun r7 => some (r7.1, r7.2)) := fun _ => rfl
  rcases wx with ⟨w2, w1⟩ | ⟨w2, w1⟩
  · obtain ⟨τ2, b1, b2⟩ := fin τ1 a2
    rw [fin'] at b1
    rw [w1, w2] at b1
    refine ⟨oI 0, τ1, τ2, ?_, ?_, b2⟩
    · rw [w2, if_pos oI_0]
    · rw [b1]
      split <;> rfl
  · obtain ⟨q, hq⟩ : ∃ q, (w_st N n (s_up N + 1)).2 = q + 1 := ⟨(w_st N n (s_up N + 1)).2 - 1, by omega⟩
    rw [hq, Nat.add_sub_cancel] at w1
    rw [hq, oI_s, if_neg (nI_m1 (by omega))]
    rcases hc01 with hc | hc
    · obtain ⟨υ, x1, x2⟩ := f_excess (g := q) hW.1 hC1.1 (by omega)
      obtain ⟨τ2, b1, b2⟩ := fin υ (fun d hd => (x2 d hd).trans (a2 d hd))
      rw [if_pos hc, w1, oI_s, fin'] at b1
      refine ⟨nI (x_ex N q), υ, τ2, ?_, b1, b2⟩
      rw [if_neg (by rw [hc]; decide), xbd_s x1]
    · obtain ⟨τ2, b1, b2⟩ := fin τ1 a2
      rw [if_neg (by rw [hc]; decide), hq, oI_s, fin'] at b1
      refine ⟨nI q, τ1, τ2, ?_, b1, b2⟩
      rw [if_pos hc]
def tU (T : Nat → Nat) (i v : Nat) : Nat → Nat := fun j => if j = i then v else T j
theorem p_type (a : Int32) {σ : xM} (h : Inv σ) : ∃ (r : Int32) (σ1 σ2 : xM), F_X10_type a σ = some (r, σ1) ∧ F_X11_type a σ1 = some (r, σ2) ∧ Inv σ2 := by
  obtain ⟨N, k, H, L, T, b, hW, hC, hM⟩ := h
  unfold F_X10_type F_X11_type
  by_cases h1 : 0 ≤ a ∧ a ≤ 127
  case neg =>
    obtain ⟨τ1, e1, m1, τ2, e2, i2⟩ := q_no (r := -2) (Or.inl rfl) hW hC hM
    refine ⟨-2, τ1, τ2, ?_, ?_, i2⟩
    · rw [xbd_s (wi_f h1 σ), if_pos rfl, e1]
    · rw [xbd_s (if_0_127 h1 τ1), if_pos rfl, e2]
  rw [xbd_s (wi_t h1 σ), if_neg one0]
  obtain ⟨hL, t0, tT⟩ := hC.2.2.2.1
  unfold F_X6_append
  by_cases hl : L < 120
  case neg =>
    obtain ⟨τ1, e1, m1, τ2, e2, i2⟩ := q_no (r := -4) (Or.inr (Or.inr rfl)) hW hC hM
    have u0 := m1.2.2.2.2.1
    refine ⟨-4, τ1, τ2, ?_, ?_, i2⟩
    · rw [t0, if_neg (show ¬ nI L < 120 from nI_nlt (b := 120) (by omega) (by omega)), xbd_some]
      exact e1
    · rw [xbd_s (it_0_127 h1 τ1), if_neg one0, u0, if_pos (show nI L = 120 from (nI_eq (b := 120) (by omega) (by omega)).mpr (by omega)), e2]
  obtain ⟨v, hv, e⟩ := (rg_of (n := 127) rfl (by omega)).mp h1
  have it := fun τ => it_0_127 h1 τ
  subst e
  have hp : (0 : Int32) ≤ nI (L + 1) := nI_pos' (by omega)
  have ap : ∃ τ1, (xbd (if σ 137 0 < 120 then xgd (xin (σ 137 0) 120) (xlet (xup σ 138 (σ 137 0).toNatClampNeg (nI v)) fun σ3 => xlet (xup σ3 137 0 ((σ3 137 0) + 1)) fun σ4 => some ((σ4 137 0), σ4)) else some ((-4), σ)) fun r4 => xbd (F_X10_counted r4.1 r4.2) fun r5 => some (r5.1, r5.2)) = some (nI (L + 1), τ1) ∧ τ1 = xup (xup σ 138 L (nI v)) 137 0 (nI (L + 1)) := by
    have cz := f_cnt0 (σ := xup (xup σ 138 L (nI v)) 137 0 (nI (L + 1))) hp
    simp (disch := omega) only [Nat.add_zero, Nat.zero_add, Nat.zero_mul, Nat.mul_zero, mc8, mc3, nU_f, nU_k, nU_e, xbd_some, xgd_true, xlet_eq, g_in, nI_clamp, nI_leI, nI_ltI, nI_eq, nI_add, pk_mul, pk_sub, rd_e, rd_k, rd_c, i10, i01, xsm_l, xsm_r, if_pos, if_neg, l_neg1, oI_e0, nI_e0, oI_nI, ne_eq, not_true_eq_false, not_false_eq_true, and_true, true_and, and_false, false_and, or_true, true_or, or_false, false_or, if_true, if_false, lit_0, lit_1, lit_2, lit_3, lit_4, lit_5, lit_6, lit_8, lit_9, lit_10, lit_12, lit_13, lit_21, lit_29, lit_30, lit_31, lit_37, lit_101, lit_120, lit_121, lit_127, lit_169, lit_64, lit_99, lit_999, lit_676, lit_845, lit_48, lit_57, lit_32, lit_59, t0, cz]
    exact ⟨_, rfl, rfl⟩
  obtain ⟨τ1, a1, a2⟩ := ap
  have e1 : ∀ c, c ≠ 137 → c ≠ 138 → τ1 c = σ c := fun c x y => by rw [a2]; simp (disch := omega) only [Nat.add_zero, Nat.zero_add, Nat.zero_mul, Nat.mul_zero, mc8, mc3, nU_f, nU_k, nU_e, xbd_some, xgd_true, xlet_eq, g_in, nI_clamp, nI_leI, nI_ltI, nI_eq, nI_add, pk_mul, pk_sub, rd_e, rd_k, rd_c, i10, i01, xsm_l, xsm_r, if_pos, if_neg, l_neg1, oI_e0, nI_e0, oI_nI, ne_eq, not_true_eq_false, not_false_eq_true, and_true, true_and, and_false, false_and, or_true, true_or, or_false, false_or, if_true, if_false, lit_0, lit_1, lit_2, lit_3, lit_4, lit_5, lit_6, lit_8, lit_9, lit_10, lit_12, lit_13, lit_21, lit_29, lit_30, lit_31, lit_37, lit_101, lit_120, lit_121, lit_127, lit_169, lit_64, lit_99, lit_999, lit_676, lit_845, lit_48, lit_57, lit_32, lit_59]
  have hM1 : IM τ1 N k H L T b := IM_lo hM (fun c hc => e1 c (by omega) (by omega))
  have u0 := hM1.2.2.2.2.1
  refine ⟨nI (L + 1), τ1, xup (xup τ1 153 L (nI v)) 141 13 (nI (L + 1)), a1, ?_, N, k, H, L + 1, tU T L v, b, ?_, ?_, ?_⟩
  · have it' := it τ1
    rw [xbd_s it', if_neg one0]
    simp (disch := omega) only [Nat.add_zero, Nat.zero_add, Nat.zero_mul, Nat.mul_zero, mc8, mc3, nU_f, nU_k, nU_e, xbd_some, xgd_true, xlet_eq, g_in, nI_clamp, nI_leI, nI_ltI, nI_eq, nI_add, pk_mul, pk_sub, rd_e, rd_k, rd_c, i10, i01, xsm_l, xsm_r, if_pos, if_neg, l_neg1, oI_e0, nI_e0, oI_nI, ne_eq, not_true_eq_false, not_false_eq_true, and_true, true_and, and_false, false_and, or_true, true_or, or_false, false_or, if_true, if_false, lit_0, lit_1, lit_2, lit_3, lit_4, lit_5, lit_6, lit_8, lit_9, lit_10, lit_12, lit_13, lit_21, lit_29, lit_30, lit_31, lit_37, lit_101, lit_120, lit_121, lit_127, lit_169, lit_64, lit_99, lit_999, lit_676, lit_845, lit_48, lit_57, lit_32, lit_59, u0]
  · refine ⟨hW.1, hW.2.1, hW.2.2.1, fun i hi => ?_⟩
    unfold tU
    split
    · omega
    · exact hW.2.2.2 i (by omega)
  · obtain ⟨h1, ⟨m, h2⟩, h3, -, h5⟩ := hC
    refine ⟨C_blk (fun c x y => by simp (disch := omega) only [Nat.add_zero, Nat.zero_add, Nat.zero_mul, Nat.mul_zero, mc8, mc3, nU_f, nU_k, nU_e, xbd_some, xgd_true, xlet_eq, g_in, nI_clamp, nI_leI, nI_ltI, nI_eq, nI_add, pk_mul, pk_sub, rd_e, rd_k, rd_c, i10, i01, xsm_l, xsm_r, if_pos, if_neg, l_neg1, oI_e0, nI_e0, oI_nI, ne_eq, not_true_eq_false, not_false_eq_true, and_true, true_and, and_false, false_and, or_true, true_or, or_false, false_or, if_true, if_false, lit_0, lit_1, lit_2, lit_3, lit_4, lit_5, lit_6, lit_8, lit_9, lit_10, lit_12, lit_13, lit_21, lit_29, lit_30, lit_31, lit_37, lit_101, lit_120, lit_121, lit_127, lit_169, lit_64, lit_99, lit_999, lit_676, lit_845, lit_48, lit_57, lit_32, lit_59]; exact e1 c (by omega) (by omega)) h1, ⟨m, Ih_cg h2 (fun c x y => by simp (disch := omega) only [Nat.add_zero, Nat.zero_add, Nat.zero_mul, Nat.mul_zero, mc8, mc3, nU_f, nU_k, nU_e, xbd_some, xgd_true, xlet_eq, g_in, nI_clamp, nI_leI, nI_ltI, nI_eq, nI_add, pk_mul, pk_sub, rd_e, rd_k, rd_c, i10, i01, xsm_l, xsm_r, if_pos, if_neg, l_neg1, oI_e0, nI_e0, oI_nI, ne_eq, not_true_eq_false, not_false_eq_true, and_true, true_and, and_false, false_and, or_true, true_or, or_false, false_or, if_true, if_false, lit_0, lit_1, lit_2, lit_3, lit_4, lit_5, lit_6, lit_8, lit_9, lit_10, lit_12, lit_13, lit_21, lit_29, lit_30, lit_31, lit_37, lit_101, lit_120, lit_121, lit_127, lit_169, lit_64, lit_99, lit_999, lit_676, lit_845, lit_48, lit_57, lit_32, lit_59]; exact e1 c (by omega) (by omega))⟩, Ib_cg h3 (by simp (disch := omega) only [Nat.add_zero, Nat.zero_add, Nat.zero_mul, Nat.mul_zero, mc8, mc3, nU_f, nU_k, nU_e, xbd_some, xgd_true, xlet_eq, g_in, nI_clamp, nI_leI, nI_ltI, nI_eq, nI_add, pk_mul, pk_sub, rd_e, rd_k, rd_c, i10, i01, xsm_l, xsm_r, if_pos, if_neg, l_neg1, oI_e0, nI_e0, oI_nI, ne_eq, not_true_eq_false, not_false_eq_true, and_true, true_and, and_false, false_and, or_true, true_or, or_false, false_or, if_true, if_false, lit_0, lit_1, lit_2, lit_3, lit_4, lit_5, lit_6, lit_8, lit_9, lit_10, lit_12, lit_13, lit_21, lit_29, lit_30, lit_31, lit_37, lit_101, lit_120, lit_121, lit_127, lit_169, lit_64, lit_99, lit_999, lit_676, lit_845, lit_48, lit_57, lit_32, lit_59]; exact e1 0 (by omega) (by omega)), ⟨by omega, ?_, fun i hi => ?_⟩, ?_⟩
    · simp (disch := omega) only [Nat.add_zero, Nat.zero_add, Nat.zero_mul, Nat.mul_zero, mc8, mc3, nU_f, nU_k, nU_e, xbd_some, xgd_true, xlet_eq, g_in, nI_clamp, nI_leI, nI_ltI, nI_eq, nI_add, pk_mul, pk_sub, rd_e, rd_k, rd_c, i10, i01, xsm_l, xsm_r, if_pos, if_neg, l_neg1, oI_e0, nI_e0, oI_nI, ne_eq, not_true_eq_false, not_false_eq_true, and_true, true_and, and_false, false_and, or_true, true_or, or_false, false_or, if_true, if_false, lit_0, lit_1, lit_2, lit_3, lit_4, lit_5, lit_6, lit_8, lit_9, lit_10, lit_12, lit_13, lit_21, lit_29, lit_30, lit_31, lit_37, lit_101, lit_120, lit_121, lit_127, lit_169, lit_64, lit_99, lit_999, lit_676, lit_845, lit_48, lit_57, lit_32, lit_59]
      rw [a2]
      simp (disch := omega) only [Nat.add_zero, Nat.zero_add, Nat.zero_mul, Nat.mul_zero, mc8, mc3, nU_f, nU_k, nU_e, xbd_some, xgd_true, xlet_eq, g_in, nI_clamp, nI_leI, nI_ltI, nI_eq, nI_add, pk_mul, pk_sub, rd_e, rd_k, rd_c, i10, i01, xsm_l, xsm_r, if_pos, if_neg, l_neg1, oI_e0, nI_e0, oI_nI, ne_eq, not_true_eq_false, not_false_eq_true, and_true, true_and, and_false, false_and, or_true, true_or, or_false, false_or, if_true, if_false, lit_0, lit_1, lit_2, lit_3, lit_4, lit_5, lit_6, lit_8, lit_9, lit_10, lit_12, lit_13, lit_21, lit_29, lit_30, lit_31, lit_37, lit_101, lit_120, lit_121, lit_127, lit_169, lit_64, lit_99, lit_999, lit_676, lit_845, lit_48, lit_57, lit_32, lit_59]
    · simp (disch := omega) only [Nat.add_zero, Nat.zero_add, Nat.zero_mul, Nat.mul_zero, mc8, mc3, nU_f, nU_k, nU_e, xbd_some, xgd_true, xlet_eq, g_in, nI_clamp, nI_leI, nI_ltI, nI_eq, nI_add, pk_mul, pk_sub, rd_e, rd_k, rd_c, i10, i01, xsm_l, xsm_r, if_pos, if_neg, l_neg1, oI_e0, nI_e0, oI_nI, ne_eq, not_true_eq_false, not_false_eq_true, and_true, true_and, and_false, false_and, or_true, true_or, or_false, false_or, if_true, if_false, lit_0, lit_1, lit_2, lit_3, lit_4, lit_5, lit_6, lit_8, lit_9, lit_10, lit_12, lit_13, lit_21, lit_29, lit_30, lit_31, lit_37, lit_101, lit_120, lit_121, lit_127, lit_169, lit_64, lit_99, lit_999, lit_676, lit_845, lit_48, lit_57, lit_32, lit_59]
      rw [a2]
      unfold tU
      by_cases ei : i = L
      · simp (disch := omega) only [Nat.add_zero, Nat.zero_add, Nat.zero_mul, Nat.mul_zero, mc8, mc3, nU_f, nU_k, nU_e, xbd_some, xgd_true, xlet_eq, g_in, nI_clamp, nI_leI, nI_ltI, nI_eq, nI_add, pk_mul, pk_sub, rd_e, rd_k, rd_c, i10, i01, xsm_l, xsm_r, if_pos, if_neg, l_neg1, oI_e0, nI_e0, oI_nI, ne_eq, not_true_eq_false, not_false_eq_true, and_true, true_and, and_false, false_and, or_true, true_or, or_false, false_or, if_true, if_false, lit_0, lit_1, lit_2, lit_3, lit_4, lit_5, lit_6, lit_8, lit_9, lit_10, lit_12, lit_13, lit_21, lit_29, lit_30, lit_31, lit_37, lit_101, lit_120, lit_121, lit_127, lit_169, lit_64, lit_99, lit_999, lit_676, lit_845, lit_48, lit_57, lit_32, lit_59]
      · simp (disch := omega) only [Nat.add_zero, Nat.zero_add, Nat.zero_mul, Nat.mul_zero, mc8, mc3, nU_f, nU_k, nU_e, xbd_some, xgd_true, xlet_eq, g_in, nI_clamp, nI_leI, nI_ltI, nI_eq, nI_add, pk_mul, pk_sub, rd_e, rd_k, rd_c, i10, i01, xsm_l, xsm_r, if_pos, if_neg, l_neg1, oI_e0, nI_e0, oI_nI, ne_eq, not_true_eq_false, not_false_eq_true, and_true, true_and, and_false, false_and, or_true, true_or, or_false, false_or, if_true, if_false, lit_0, lit_1, lit_2, lit_3, lit_4, lit_5, lit_6, lit_8, lit_9, lit_10, lit_12, lit_13, lit_21, lit_29, lit_30, lit_31, lit_37, lit_101, lit_120, lit_121, lit_127, lit_169, lit_64, lit_99, lit_999, lit_676, lit_845, lit_48, lit_57, lit_32, lit_59]
        exact tT i (by omega)
    · have e132 : τ1 132 = σ 132 := e1 132 (by omega) (by omega)
      have e133 : τ1 133 = σ 133 := e1 133 (by omega) (by omega)
      simp (disch := omega) only [Nat.add_zero, Nat.zero_add, Nat.zero_mul, Nat.mul_zero, mc8, mc3, nU_f, nU_k, nU_e, xbd_some, xgd_true, xlet_eq, g_in, nI_clamp, nI_leI, nI_ltI, nI_eq, nI_add, pk_mul, pk_sub, rd_e, rd_k, rd_c, i10, i01, xsm_l, xsm_r, if_pos, if_neg, l_neg1, oI_e0, nI_e0, oI_nI, ne_eq, not_true_eq_false, not_false_eq_true, and_true, true_and, and_false, false_and, or_true, true_or, or_false, false_or, if_true, if_false, lit_0, lit_1, lit_2, lit_3, lit_4, lit_5, lit_6, lit_8, lit_9, lit_10, lit_12, lit_13, lit_21, lit_29, lit_30, lit_31, lit_37, lit_101, lit_120, lit_121, lit_127, lit_169, lit_64, lit_99, lit_999, lit_676, lit_845, lit_48, lit_57, lit_32, lit_59, e132]
      rcases h5 with h5 | ⟨h5, h6⟩
      · exact Or.inl h5
      · exact Or.inr ⟨h5, PK_cg h6 (by simp (disch := omega) only [Nat.add_zero, Nat.zero_add, Nat.zero_mul, Nat.mul_zero, mc8, mc3, nU_f, nU_k, nU_e, xbd_some, xgd_true, xlet_eq, g_in, nI_clamp, nI_leI, nI_ltI, nI_eq, nI_add, pk_mul, pk_sub, rd_e, rd_k, rd_c, i10, i01, xsm_l, xsm_r, if_pos, if_neg, l_neg1, oI_e0, nI_e0, oI_nI, ne_eq, not_true_eq_false, not_false_eq_true, and_true, true_and, and_false, false_and, or_true, true_or, or_false, false_or, if_true, if_false, lit_0, lit_1, lit_2, lit_3, lit_4, lit_5, lit_6, lit_8, lit_9, lit_10, lit_12, lit_13, lit_21, lit_29, lit_30, lit_31, lit_37, lit_101, lit_120, lit_121, lit_127, lit_169, lit_64, lit_99, lit_999, lit_676, lit_845, lit_48, lit_57, lit_32, lit_59, e132]) (by simp (disch := omega) only [Nat.add_zero, Nat.zero_add, Nat.zero_mul, Nat.mul_zero, mc8, mc3, nU_f, nU_k, nU_e, xbd_some, xgd_true, xlet_eq, g_in, nI_clamp, nI_leI, nI_ltI, nI_eq, nI_add, pk_mul, pk_sub, rd_e, rd_k, rd_c, i10, i01, xsm_l, xsm_r, if_pos, if_neg, l_neg1, oI_e0, nI_e0, oI_nI, ne_eq, not_true_eq_false, not_false_eq_true, and_true, true_and, and_false, false_and, or_true, true_or, or_false, false_or, if_true, if_false, lit_0, lit_1, lit_2, lit_3, lit_4, lit_5, lit_6, lit_8, lit_9, lit_10, lit_12, lit_13, lit_21, lit_29, lit_30, lit_31, lit_37, lit_101, lit_120, lit_121, lit_127, lit_169, lit_64, lit_99, lit_999, lit_676, lit_845, lit_48, lit_57, lit_32, lit_59, e133])⟩
  · obtain ⟨h1, h2, h3, q1, q2, q3⟩ := hM1
    refine ⟨by simp (disch := omega) only [Nat.add_zero, Nat.zero_add, Nat.zero_mul, Nat.mul_zero, mc8, mc3, nU_f, nU_k, nU_e, xbd_some, xgd_true, xlet_eq, g_in, nI_clamp, nI_leI, nI_ltI, nI_eq, nI_add, pk_mul, pk_sub, rd_e, rd_k, rd_c, i10, i01, xsm_l, xsm_r, if_pos, if_neg, l_neg1, oI_e0, nI_e0, oI_nI, ne_eq, not_true_eq_false, not_false_eq_true, and_true, true_and, and_false, false_and, or_true, true_or, or_false, false_or, if_true, if_false, lit_0, lit_1, lit_2, lit_3, lit_4, lit_5, lit_6, lit_8, lit_9, lit_10, lit_12, lit_13, lit_21, lit_29, lit_30, lit_31, lit_37, lit_101, lit_120, lit_121, lit_127, lit_169, lit_64, lit_99, lit_999, lit_676, lit_845, lit_48, lit_57, lit_32, lit_59]; exact h1, Jh_cg h2 (by simp (disch := omega) only [Nat.add_zero, Nat.zero_add, Nat.zero_mul, Nat.mul_zero, mc8, mc3, nU_f, nU_k, nU_e, xbd_some, xgd_true, xlet_eq, g_in, nI_clamp, nI_leI, nI_ltI, nI_eq, nI_add, pk_mul, pk_sub, rd_e, rd_k, rd_c, i10, i01, xsm_l, xsm_r, if_pos, if_neg, l_neg1, oI_e0, nI_e0, oI_nI, ne_eq, not_true_eq_false, not_false_eq_true, and_true, true_and, and_false, false_and, or_true, true_or, or_false, false_or, if_true, if_false, lit_0, lit_1, lit_2, lit_3, lit_4, lit_5, lit_6, lit_8, lit_9, lit_10, lit_12, lit_13, lit_21, lit_29, lit_30, lit_31, lit_37, lit_101, lit_120, lit_121, lit_127, lit_169, lit_64, lit_99, lit_999, lit_676, lit_845, lit_48, lit_57, lit_32, lit_59]) (by simp (disch := omega) only [Nat.add_zero, Nat.zero_add, Nat.zero_mul, Nat.mul_zero, mc8, mc3, nU_f, nU_k, nU_e, xbd_some, xgd_true, xlet_eq, g_in, nI_clamp, nI_leI, nI_ltI, nI_eq, nI_add, pk_mul, pk_sub, rd_e, rd_k, rd_c, i10, i01, xsm_l, xsm_r, if_pos, if_neg, l_neg1, oI_e0, nI_e0, oI_nI, ne_eq, not_true_eq_false, not_false_eq_true, and_true, true_and, and_false, false_and, or_true, true_or, or_false, false_or, if_true, if_false, lit_0, lit_1, lit_2, lit_3, lit_4, lit_5, lit_6, lit_8, lit_9, lit_10, lit_12, lit_13, lit_21, lit_29, lit_30, lit_31, lit_37, lit_101, lit_120, lit_121, lit_127, lit_169, lit_64, lit_99, lit_999, lit_676, lit_845, lit_48, lit_57, lit_32, lit_59]), Jb_cg h3 (by simp (disch := omega) only [Nat.add_zero, Nat.zero_add, Nat.zero_mul, Nat.mul_zero, mc8, mc3, nU_f, nU_k, nU_e, xbd_some, xgd_true, xlet_eq, g_in, nI_clamp, nI_leI, nI_ltI, nI_eq, nI_add, pk_mul, pk_sub, rd_e, rd_k, rd_c, i10, i01, xsm_l, xsm_r, if_pos, if_neg, l_neg1, oI_e0, nI_e0, oI_nI, ne_eq, not_true_eq_false, not_false_eq_true, and_true, true_and, and_false, false_and, or_true, true_or, or_false, false_or, if_true, if_false, lit_0, lit_1, lit_2, lit_3, lit_4, lit_5, lit_6, lit_8, lit_9, lit_10, lit_12, lit_13, lit_21, lit_29, lit_30, lit_31, lit_37, lit_101, lit_120, lit_121, lit_127, lit_169, lit_64, lit_99, lit_999, lit_676, lit_845, lit_48, lit_57, lit_32, lit_59]), by omega, by simp (disch := omega) only [Nat.add_zero, Nat.zero_add, Nat.zero_mul, Nat.mul_zero, mc8, mc3, nU_f, nU_k, nU_e, xbd_some, xgd_true, xlet_eq, g_in, nI_clamp, nI_leI, nI_ltI, nI_eq, nI_add, pk_mul, pk_sub, rd_e, rd_k, rd_c, i10, i01, xsm_l, xsm_r, if_pos, if_neg, l_neg1, oI_e0, nI_e0, oI_nI, ne_eq, not_true_eq_false, not_false_eq_true, and_true, true_and, and_false, false_and, or_true, true_or, or_false, false_or, if_true, if_false, lit_0, lit_1, lit_2, lit_3, lit_4, lit_5, lit_6, lit_8, lit_9, lit_10, lit_12, lit_13, lit_21, lit_29, lit_30, lit_31, lit_37, lit_101, lit_120, lit_121, lit_127, lit_169, lit_64, lit_99, lit_999, lit_676, lit_845, lit_48, lit_57, lit_32, lit_59], fun i hi => ?_⟩
    simp (disch := omega) only [Nat.add_zero, Nat.zero_add, Nat.zero_mul, Nat.mul_zero, mc8, mc3, nU_f, nU_k, nU_e, xbd_some, xgd_true, xlet_eq, g_in, nI_clamp, nI_leI, nI_ltI, nI_eq, nI_add, pk_mul, pk_sub, rd_e, rd_k, rd_c, i10, i01, xsm_l, xsm_r, if_pos, if_neg, l_neg1, oI_e0, nI_e0, oI_nI, ne_eq, not_true_eq_false, not_false_eq_true, and_true, true_and, and_false, false_and, or_true, true_or, or_false, false_or, if_true, if_false, lit_0, lit_1, lit_2, lit_3, lit_4, lit_5, lit_6, lit_8, lit_9, lit_10, lit_12, lit_13, lit_21, lit_29, lit_30, lit_31, lit_37, lit_101, lit_120, lit_121, lit_127, lit_169, lit_64, lit_99, lit_999, lit_676, lit_845, lit_48, lit_57, lit_32, lit_59]
    unfold tU
    by_cases ei : i = L
    · simp (disch := omega) only [Nat.add_zero, Nat.zero_add, Nat.zero_mul, Nat.mul_zero, mc8, mc3, nU_f, nU_k, nU_e, xbd_some, xgd_true, xlet_eq, g_in, nI_clamp, nI_leI, nI_ltI, nI_eq, nI_add, pk_mul, pk_sub, rd_e, rd_k, rd_c, i10, i01, xsm_l, xsm_r, if_pos, if_neg, l_neg1, oI_e0, nI_e0, oI_nI, ne_eq, not_true_eq_false, not_false_eq_true, and_true, true_and, and_false, false_and, or_true, true_or, or_false, false_or, if_true, if_false, lit_0, lit_1, lit_2, lit_3, lit_4, lit_5, lit_6, lit_8, lit_9, lit_10, lit_12, lit_13, lit_21, lit_29, lit_30, lit_31, lit_37, lit_101, lit_120, lit_121, lit_127, lit_169, lit_64, lit_99, lit_999, lit_676, lit_845, lit_48, lit_57, lit_32, lit_59]
    · simp (disch := omega) only [Nat.add_zero, Nat.zero_add, Nat.zero_mul, Nat.mul_zero, mc8, mc3, nU_f, nU_k, nU_e, xbd_some, xgd_true, xlet_eq, g_in, nI_clamp, nI_leI, nI_ltI, nI_eq, nI_add, pk_mul, pk_sub, rd_e, rd_k, rd_c, i10, i01, xsm_l, xsm_r, if_pos, if_neg, l_neg1, oI_e0, nI_e0, oI_nI, ne_eq, not_true_eq_false, not_false_eq_true, and_true, true_and, and_false, false_and, or_true, true_or, or_false, false_or, if_true, if_false, lit_0, lit_1, lit_2, lit_3, lit_4, lit_5, lit_6, lit_8, lit_9, lit_10, lit_12, lit_13, lit_21, lit_29, lit_30, lit_31, lit_37, lit_101, lit_120, lit_121, lit_127, lit_169, lit_64, lit_99, lit_999, lit_676, lit_845, lit_48, lit_57, lit_32, lit_59]
      exact q3 i (by omega)
theorem p_clear {σ : xM} (h : Inv σ) : ∃ (r : Int32) (σ1 σ2 : xM), F_X10_clear σ = some (r, σ1) ∧ F_X11_clear σ1 = some (r, σ2) ∧ Inv σ2 := by
  obtain ⟨N, k, H, L, T, b, hW, hC, hM⟩ := h
  obtain ⟨hL, t0, tT⟩ := hC.2.2.2.1
  have e1 : ∀ c, c ≠ 137 → xup σ 137 0 (nI 0) c = σ c := fun c x => rd_c x
  have hM1 : IM (xup σ 137 0 (nI 0)) N k H L T b := IM_lo hM (fun c hc => e1 c (by omega))
  have u0 := hM1.2.2.2.2.1
  refine ⟨nI L, xup σ 137 0 (nI 0), xup (xup σ 137 0 (nI 0)) 141 13 (nI 0), ?_, ?_, N, k, H, 0, T, b, ⟨hW.1, hW.2.1, hW.2.2.1, fun i hi => absurd hi (by omega)⟩, ?_, ?_⟩
  · unfold F_X10_clear F_X6_emptied
    simp (disch := omega) only [Nat.add_zero, Nat.zero_add, Nat.zero_mul, Nat.mul_zero, mc8, mc3, nU_f, nU_k, nU_e, xbd_some, xgd_true, xlet_eq, g_in, nI_clamp, nI_leI, nI_ltI, nI_eq, nI_add, pk_mul, pk_sub, rd_e, rd_k, rd_c, i10, i01, xsm_l, xsm_r, if_pos, if_neg, l_neg1, oI_e0, nI_e0, oI_nI, ne_eq, not_true_eq_false, not_false_eq_true, and_true, true_and, and_false, false_and, or_true, true_or, or_false, false_or, if_true, if_false, lit_0, lit_1, lit_2, lit_3, lit_4, lit_5, lit_6, lit_8, lit_9, lit_10, lit_12, lit_13, lit_21, lit_29, lit_30, lit_31, lit_37, lit_101, lit_120, lit_121, lit_127, lit_169, lit_64, lit_99, lit_999, lit_676, lit_845, lit_48, lit_57, lit_32, lit_59, t0]
  · unfold F_X11_clear
    rw [u0]
    rfl
  · obtain ⟨h1, ⟨m, h2⟩, h3, -, h5⟩ := hC
    refine ⟨C_blk (fun c x y => by simp (disch := omega) only [Nat.add_zero, Nat.zero_add, Nat.zero_mul, Nat.mul_zero, mc8, mc3, nU_f, nU_k, nU_e, xbd_some, xgd_true, xlet_eq, g_in, nI_clamp, nI_leI, nI_ltI, nI_eq, nI_add, pk_mul, pk_sub, rd_e, rd_k, rd_c, i10, i01, xsm_l, xsm_r, if_pos, if_neg, l_neg1, oI_e0, nI_e0, oI_nI, ne_eq, not_true_eq_false, not_false_eq_true, and_true, true_and, and_false, false_and, or_true, true_or, or_false, false_or, if_true, if_false, lit_0, lit_1, lit_2, lit_3, lit_4, lit_5, lit_6, lit_8, lit_9, lit_10, lit_12, lit_13, lit_21, lit_29, lit_30, lit_31, lit_37, lit_101, lit_120, lit_121, lit_127, lit_169, lit_64, lit_99, lit_999, lit_676, lit_845, lit_48, lit_57, lit_32, lit_59]) h1, ⟨m, Ih_cg h2 (fun c x y => by simp (disch := omega) only [Nat.add_zero, Nat.zero_add, Nat.zero_mul, Nat.mul_zero, mc8, mc3, nU_f, nU_k, nU_e, xbd_some, xgd_true, xlet_eq, g_in, nI_clamp, nI_leI, nI_ltI, nI_eq, nI_add, pk_mul, pk_sub, rd_e, rd_k, rd_c, i10, i01, xsm_l, xsm_r, if_pos, if_neg, l_neg1, oI_e0, nI_e0, oI_nI, ne_eq, not_true_eq_false, not_false_eq_true, and_true, true_and, and_false, false_and, or_true, true_or, or_false, false_or, if_true, if_false, lit_0, lit_1, lit_2, lit_3, lit_4, lit_5, lit_6, lit_8, lit_9, lit_10, lit_12, lit_13, lit_21, lit_29, lit_30, lit_31, lit_37, lit_101, lit_120, lit_121, lit_127, lit_169, lit_64, lit_99, lit_999, lit_676, lit_845, lit_48, lit_57, lit_32, lit_59])⟩, Ib_cg h3 (by simp (disch := omega) only [Nat.add_zero, Nat.zero_add, Nat.zero_mul, Nat.mul_zero, mc8, mc3, nU_f, nU_k, nU_e, xbd_some, xgd_true, xlet_eq, g_in, nI_clamp, nI_leI, nI_ltI, nI_eq, nI_add, pk_mul, pk_sub, rd_e, rd_k, rd_c, i10, i01, xsm_l, xsm_r, if_pos, if_neg, l_neg1, oI_e0, nI_e0, oI_nI, ne_eq, not_true_eq_false, not_false_eq_true, and_true, true_and, and_false, false_and, or_true, true_or, or_false, false_or, if_true, if_false, lit_0, lit_1, lit_2, lit_3, lit_4, lit_5, lit_6, lit_8, lit_9, lit_10, lit_12, lit_13, lit_21, lit_29, lit_30, lit_31, lit_37, lit_101, lit_120, lit_121, lit_127, lit_169, lit_64, lit_99, lit_999, lit_676, lit_845, lit_48, lit_57, lit_32, lit_59]), ⟨by omega, by simp (disch := omega) only [Nat.add_zero, Nat.zero_add, Nat.zero_mul, Nat.mul_zero, mc8, mc3, nU_f, nU_k, nU_e, xbd_some, xgd_true, xlet_eq, g_in, nI_clamp, nI_leI, nI_ltI, nI_eq, nI_add, pk_mul, pk_sub, rd_e, rd_k, rd_c, i10, i01, xsm_l, xsm_r, if_pos, if_neg, l_neg1, oI_e0, nI_e0, oI_nI, ne_eq, not_true_eq_false, not_false_eq_true, and_true, true_and, and_false, false_and, or_true, true_or, or_false, false_or, if_true, if_false, lit_0, lit_1, lit_2, lit_3, lit_4, lit_5, lit_6, lit_8, lit_9, lit_10, lit_12, lit_13, lit_21, lit_29, lit_30, lit_31, lit_37, lit_101, lit_120, lit_121, lit_127, lit_169, lit_64, lit_99, lit_999, lit_676, lit_845, lit_48, lit_57, lit_32, lit_59], fun i hi => absurd hi (by omega)⟩, ?_⟩
    simp (disch := omega) only [Nat.add_zero, Nat.zero_add, Nat.zero_mul, Nat.mul_zero, mc8, mc3, nU_f, nU_k, nU_e, xbd_some, xgd_true, xlet_eq, g_in, nI_clamp, nI_leI, nI_ltI, nI_eq, nI_add, pk_mul, pk_sub, rd_e, rd_k, rd_c, i10, i01, xsm_l, xsm_r, if_pos, if_neg, l_neg1, oI_e0, nI_e0, oI_nI, ne_eq, not_true_eq_false, not_false_eq_true, and_true, true_and, and_false, false_and, or_true, true_or, or_false, false_or, if_true, if_false, lit_0, lit_1, lit_2, lit_3, lit_4, lit_5, lit_6, lit_8, lit_9, lit_10, lit_12, lit_13, lit_21, lit_29, lit_30, lit_31, lit_37, lit_101, lit_120, lit_121, lit_127, lit_169, lit_64, lit_99, lit_999, lit_676, lit_845, lit_48, lit_57, lit_32, lit_59]
    rcases h5 with h5 | ⟨h5, h6⟩
    · exact Or.inl h5
    · exact Or.inr ⟨h5, PK_cg h6 (by simp (disch := omega) only [Nat.add_zero, Nat.zero_add, Nat.zero_mul, Nat.mul_zero, mc8, mc3, nU_f, nU_k, nU_e, xbd_some, xgd_true, xlet_eq, g_in, nI_clamp, nI_leI, nI_ltI, nI_eq, nI_add, pk_mul, pk_sub, rd_e, rd_k, rd_c, i10, i01, xsm_l, xsm_r, if_pos, if_neg, l_neg1, oI_e0, nI_e0, oI_nI, ne_eq, not_true_eq_false, not_false_eq_true, and_true, true_and, and_false, false_and, or_true, true_or, or_false, false_or, if_true, if_false, lit_0, lit_1, lit_2, lit_3, lit_4, lit_5, lit_6, lit_8, lit_9, lit_10, lit_12, lit_13, lit_21, lit_29, lit_30, lit_31, lit_37, lit_101, lit_120, lit_121, lit_127, lit_169, lit_64, lit_99, lit_999, lit_676, lit_845, lit_48, lit_57, lit_32, lit_59]) (by simp (disch := omega) only [Nat.add_zero, Nat.zero_add, Nat.zero_mul, Nat.mul_zero, mc8, mc3, nU_f, nU_k, nU_e, xbd_some, xgd_true, xlet_eq, g_in, nI_clamp, nI_leI, nI_ltI, nI_eq, nI_add, pk_mul, pk_sub, rd_e, rd_k, rd_c, i10, i01, xsm_l, xsm_r, if_pos, if_neg, l_neg1, oI_e0, nI_e0, oI_nI, ne_eq, not_true_eq_false, not_false_eq_true, and_true, true_and, and_false, false_and, or_true, true_or, or_false, false_or, if_true, if_false, lit_0, lit_1, lit_2, lit_3, lit_4, lit_5, lit_6, lit_8, lit_9, lit_10, lit_12, lit_13, lit_21, lit_29, lit_30, lit_31, lit_37, lit_101, lit_120, lit_121, lit_127, lit_169, lit_64, lit_99, lit_999, lit_676, lit_845, lit_48, lit_57, lit_32, lit_59])⟩
  · obtain ⟨h1, h2, h3, q1, q2, q3⟩ := hM1
    exact ⟨by simp (disch := omega) only [Nat.add_zero, Nat.zero_add, Nat.zero_mul, Nat.mul_zero, mc8, mc3, nU_f, nU_k, nU_e, xbd_some, xgd_true, xlet_eq, g_in, nI_clamp, nI_leI, nI_ltI, nI_eq, nI_add, pk_mul, pk_sub, rd_e, rd_k, rd_c, i10, i01, xsm_l, xsm_r, if_pos, if_neg, l_neg1, oI_e0, nI_e0, oI_nI, ne_eq, not_true_eq_false, not_false_eq_true, and_true, true_and, and_false, false_and, or_true, true_or, or_false, false_or, if_true, if_false, lit_0, lit_1, lit_2, lit_3, lit_4, lit_5, lit_6, lit_8, lit_9, lit_10, lit_12, lit_13, lit_21, lit_29, lit_30, lit_31, lit_37, lit_101, lit_120, lit_121, lit_127, lit_169, lit_64, lit_99, lit_999, lit_676, lit_845, lit_48, lit_57, lit_32, lit_59]; try simp (disch := omega) only [Nat.add_zero, Nat.zero_add, Nat.zero_mul, Nat.mul_zero, mc8, mc3, nU_f, nU_k, nU_e, xbd_some, xgd_true, xlet_eq, g_in, nI_clamp, nI_leI, nI_ltI, nI_eq, nI_add, pk_mul, pk_sub, rd_e, rd_k, rd_c, i10, i01, xsm_l, xsm_r, if_pos, if_neg, l_neg1, oI_e0, nI_e0, oI_nI, ne_eq, not_true_eq_false, not_false_eq_true, and_true, true_and, and_false, false_and, or_true, true_or, or_false, false_or, if_true, if_false, lit_0, lit_1, lit_2, lit_3, lit_4, lit_5, lit_6, lit_8, lit_9, lit_10, lit_12, lit_13, lit_21, lit_29, lit_30, lit_31, lit_37, lit_101, lit_120, lit_121, lit_127, lit_169, lit_64, lit_99, lit_999, lit_676, lit_845, lit_48, lit_57, lit_32, lit_59] at h1; exact h1, Jh_cg h2 (by simp (disch := omega) only [Nat.add_zero, Nat.zero_add, Nat.zero_mul, Nat.mul_zero, mc8, mc3, nU_f, nU_k, nU_e, xbd_some, xgd_true, xlet_eq, g_in, nI_clamp, nI_leI, nI_ltI, nI_eq, nI_add, pk_mul, pk_sub, rd_e, rd_k, rd_c, i10, i01, xsm_l, xsm_r, if_pos, if_neg, l_neg1, oI_e0, nI_e0, oI_nI, ne_eq, not_true_eq_false, not_false_eq_true, and_true, true_and, and_false, false_and, or_true, true_or, or_false, false_or, if_true, if_false, lit_0, lit_1, lit_2, lit_3, lit_4, lit_5, lit_6, lit_8, lit_9, lit_10, lit_12, lit_13, lit_21, lit_29, lit_30, lit_31, lit_37, lit_101, lit_120, lit_121, lit_127, lit_169, lit_64, lit_99, lit_999, lit_676, lit_845, lit_48, lit_57, lit_32, lit_59]) (by simp (disch := omega) only [Nat.add_zero, Nat.zero_add, Nat.zero_mul, Nat.mul_zero, mc8, mc3, nU_f, nU_k, nU_e, xbd_some, xgd_true, xlet_eq, g_in, nI_clamp, nI_leI, nI_ltI, nI_eq, nI_add, pk_mul, pk_sub, rd_e, rd_k, rd_c, i10, i01, xsm_l, xsm_r, if_pos, if_neg, l_neg1, oI_e0, nI_e0, oI_nI, ne_eq, not_true_eq_false, not_false_eq_true, and_true, true_and, and_false, false_and, or_true, true_or, or_false, false_or, if_true, if_false, lit_0, lit_1, lit_2, lit_3, lit_4, lit_5, lit_6, lit_8, lit_9, lit_10, lit_12, lit_13, lit_21, lit_29, lit_30, lit_31, lit_37, lit_101, lit_120, lit_121, lit_127, lit_169, lit_64, lit_99, lit_999, lit_676, lit_845, lit_48, lit_57, lit_32, lit_59]), Jb_cg h3 (by simp (disch := omega) only [Nat.add_zero, Nat.zero_add, Nat.zero_mul, Nat.mul_zero, mc8, mc3, nU_f, nU_k, nU_e, xbd_some, xgd_true, xlet_eq, g_in, nI_clamp, nI_leI, nI_ltI, nI_eq, nI_add, pk_mul, pk_sub, rd_e, rd_k, rd_c, i10, i01, xsm_l, xsm_r, if_pos, if_neg, l_neg1, oI_e0, nI_e0, oI_nI, ne_eq, not_true_eq_false, not_false_eq_true, and_true, true_and, and_false, false_and, or_true, true_or, or_false, false_or, if_true, if_false, lit_0, lit_1, lit_2, lit_3, lit_4, lit_5, lit_6, lit_8, lit_9, lit_10, lit_12, lit_13, lit_21, lit_29, lit_30, lit_31, lit_37, lit_101, lit_120, lit_121, lit_127, lit_169, lit_64, lit_99, lit_999, lit_676, lit_845, lit_48, lit_57, lit_32, lit_59]), by omega, by simp (disch := omega) only [Nat.add_zero, Nat.zero_add, Nat.zero_mul, Nat.mul_zero, mc8, mc3, nU_f, nU_k, nU_e, xbd_some, xgd_true, xlet_eq, g_in, nI_clamp, nI_leI, nI_ltI, nI_eq, nI_add, pk_mul, pk_sub, rd_e, rd_k, rd_c, i10, i01, xsm_l, xsm_r, if_pos, if_neg, l_neg1, oI_e0, nI_e0, oI_nI, ne_eq, not_true_eq_false, not_false_eq_true, and_true, true_and, and_false, false_and, or_true, true_or, or_false, false_or, if_true, if_false, lit_0, lit_1, lit_2, lit_3, lit_4, lit_5, lit_6, lit_8, lit_9, lit_10, lit_12, lit_13, lit_21, lit_29, lit_30, lit_31, lit_37, lit_101, lit_120, lit_121, lit_127, lit_169, lit_64, lit_99, lit_999, lit_676, lit_845, lit_48, lit_57, lit_32, lit_59], fun i hi => absurd hi (by omega)⟩
