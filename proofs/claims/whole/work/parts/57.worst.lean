def x_ov (N : xN) (u : Nat) (s : Nat) : Nat := s_ld N u (N 8) s - N 7 s
/-- the excess if a set were off: loads above rooms of the sites in u -/
def x_sum (N : xN) (u : Nat) : Nat → Nat
  | 0 => 0
  | k + 1 => x_sum N u k + (if u.testBit k = true then x_ov N u k else 0)
theorem x_sum_le {N : xN} {u : Nat} (hw : s_wf N) : ∀ k, x_sum N u k ≤ 1000 * k
  | 0 => Nat.zero_le _
  | k + 1 => by
    have ih := x_sum_le (u := u) hw k
    have := s_ld_lt hw u (N 8) k
    have e : x_sum N u (k + 1) = x_sum N u k + (if u.testBit k = true then x_ov N u k else 0) := rfl
    rw [e]
    unfold x_ov
    split <;> omega
def x_ex (N : xN) (g : Nat) : Nat := x_sum N (dif (s_up N) g) (N 0 1)
theorem f_excess {σ : xM} {N : xN} {g : Nat} (hw : s_wf N) (hC : s_C σ 1 N) (hg : g < 32) : ∃ τ, F_X2_excess (nI g) σ = some (nI (x_ex N g), τ) ∧ s_eq s_lk σ τ := by
  have hS := hw.1.2.1
  have hu := s_up_lt5 hS
  have hd := dif_lt (g := g) hu
  obtain ⟨τ, g1, g2, -, g4⟩ := f_look11 (u := dif (s_up N) g) (s_K11 hw hC) (by omega)
  have hCt := c_lk g2 hC
  have c8 : τ 8 0 = nI (N 0 1) := (s_C_0 hCt).1.2.1
  have up := s_C_up hw hC
  refine ⟨τ, ?_, g2⟩
  unfold x_ex
  generalize hU : dif (s_up N) g = u at *
  have hL : L_X2_excess_22 (nI u) (nI 0) (nI 0) τ = some (nI (x_sum N u (N 0 1))) := by
    unfold L_X2_excess_22
    refine xfor (f := fun x : Int32 × Int32 => B_X2_excess_22 (nI u) x.1 x.2 τ) (fun k => (nI (x_sum N u k), nI k)) (N 0 1) _ (fun k hk => ?_) ?_ 6000 0 (by omega) (by omega)
    · obtain ⟨x1, x2, x3, x4⟩ := (s_C_0 hCt).2.2.2.1 k hk
      have l1 := g4 k hk
      have b7 := (hw.2.2.2.2.1 k hk).2.1
      have hl := s_ld_lt hw u (N 8) k
      have hcon := f_contains (u := u) (k := k) (by omega) (by omega) τ
      have e : x_sum N u (k + 1) = x_sum N u k + (if u.testBit k = true then x_ov N u k else 0) := rfl
      dsimp only
      rw [e]
      unfold B_X2_excess_22
      by_cases hb : u.testBit k = true
      · rw [if_pos hb] at hcon
        have hcon2 : F_X4_contains (nI u) (nI k) τ = some (nI 1) := hcon
        rw [if_pos hb]
        unfold x_ov
        simp (disch := omega) only [Nat.add_zero, Nat.zero_add, Nat.zero_mul, Nat.mul_zero, mc8, mc3, nU_f, nU_k, nU_e, xbd_some, xgd_true, xlet_eq, g_in, nI_clamp, nI_leI, nI_ltI, nI_eq, nI_add, pk_mul, pk_sub, rd_e, rd_k, rd_c, i10, i01, xsm_l, xsm_r, if_pos, if_neg, l_neg1, oI_e0, nI_e0, oI_nI, ne_eq, not_true_eq_false, not_false_eq_true, and_true, true_and, and_false, false_and, or_true, true_or, or_false, false_or, if_true, if_false, lit_0, lit_1, lit_2, lit_3, lit_4, lit_5, lit_6, lit_8, lit_9, lit_10, lit_12, lit_13, lit_21, lit_29, lit_30, lit_31, lit_37, lit_101, lit_120, lit_121, lit_127, lit_169, lit_64, lit_99, lit_999, lit_676, lit_845, lit_48, lit_57, lit_32, lit_59, c8, hcon2, l1, x2, sub_pos]
      · rw [if_neg hb] at hcon
        have hcon2 : F_X4_contains (nI u) (nI k) τ = some (nI 0) := hcon
        rw [if_neg hb]
        simp (disch := omega) only [Nat.add_zero, Nat.zero_add, Nat.zero_mul, Nat.mul_zero, mc8, mc3, nU_f, nU_k, nU_e, xbd_some, xgd_true, xlet_eq, g_in, nI_clamp, nI_leI, nI_ltI, nI_eq, nI_add, pk_mul, pk_sub, rd_e, rd_k, rd_c, i10, i01, xsm_l, xsm_r, if_pos, if_neg, l_neg1, oI_e0, nI_e0, oI_nI, ne_eq, not_true_eq_false, not_false_eq_true, and_true, true_and, and_false, false_and, or_true, true_or, or_false, false_or, if_true, if_false, lit_0, lit_1, lit_2, lit_3, lit_4, lit_5, lit_6, lit_8, lit_9, lit_10, lit_12, lit_13, lit_21, lit_29, lit_30, lit_31, lit_37, lit_101, lit_120, lit_121, lit_127, lit_169, lit_64, lit_99, lit_999, lit_676, lit_845, lit_48, lit_57, lit_32, lit_59, c8, hcon2]
    · dsimp only
      unfold B_X2_excess_22
      simp (disch := omega) only [Nat.add_zero, Nat.zero_add, Nat.zero_mul, Nat.mul_zero, mc8, mc3, nU_f, nU_k, nU_e, xbd_some, xgd_true, xlet_eq, g_in, nI_clamp, nI_leI, nI_ltI, nI_eq, nI_add, pk_mul, pk_sub, rd_e, rd_k, rd_c, i10, i01, xsm_l, xsm_r, if_pos, if_neg, l_neg1, oI_e0, nI_e0, oI_nI, ne_eq, not_true_eq_false, not_false_eq_true, and_true, true_and, and_false, false_and, or_true, true_or, or_false, false_or, if_true, if_false, lit_0, lit_1, lit_2, lit_3, lit_4, lit_5, lit_6, lit_8, lit_9, lit_10, lit_12, lit_13, lit_21, lit_29, lit_30, lit_31, lit_37, lit_101, lit_120, lit_121, lit_127, lit_169, lit_64, lit_99, lit_999, lit_676, lit_845, lit_48, lit_57, lit_32, lit_59, c8]
  have an : nI (s_up N) &&& (nI g ^^^ oI 0) = nI u := by rw [andn hu hg, hU]
  unfold F_X2_excess
  simp (disch := omega) only [Nat.add_zero, Nat.zero_add, Nat.zero_mul, Nat.mul_zero, mc8, mc3, nU_f, nU_k, nU_e, xbd_some, xgd_true, xlet_eq, g_in, nI_clamp, nI_leI, nI_ltI, nI_eq, nI_add, pk_mul, pk_sub, rd_e, rd_k, rd_c, i10, i01, xsm_l, xsm_r, if_pos, if_neg, l_neg1, oI_e0, nI_e0, oI_nI, ne_eq, not_true_eq_false, not_false_eq_true, and_true, true_and, and_false, false_and, or_true, true_or, or_false, false_or, if_true, if_false, lit_0, lit_1, lit_2, lit_3, lit_4, lit_5, lit_6, lit_8, lit_9, lit_10, lit_12, lit_13, lit_21, lit_29, lit_30, lit_31, lit_37, lit_101, lit_120, lit_121, lit_127, lit_169, lit_64, lit_99, lit_999, lit_676, lit_845, lit_48, lit_57, lit_32, lit_59, up, an, g1, hL]
/-- the worst of the sets below k: (most, best), coded -/
def w_ok (N : xN) (n v : Nat) : Bool := decide (dif v (s_up N) = 0) && decide (pop v = n)
def w_st (N : xN) (n : Nat) : Nat → Nat × Nat
  | 0 => (0, 0)
  | k + 1 => if w_ok N n k = true ∧ (w_st N n k).1 < x_ex N k + 1 then (x_ex N k + 1, k + 1) else w_st N n k
theorem w_st_le {N : xN} {n : Nat} (hw : s_wf N) : ∀ k, (w_st N n k).1 ≤ 6000 ∧ (w_st N n k).2 ≤ k
  | 0 => ⟨by show 0 ≤ 6000; omega, Nat.le_refl _⟩
  | k + 1 => by
    have ih := w_st_le (n := n) hw k
    have := x_sum_le (u := dif (s_up N) k) hw (N 0 1)
    have hS := hw.1.2.1
    unfold w_st
    unfold x_ex
    split
    · dsimp only
      omega
    · omega
theorem dif_big {N : xN} {v n : Nat} (h1 : s_up N < v) (h2 : v < 32) (h3 : s_up N < 32) : w_ok N n v = false := by
  have h : ∀ u, u < 32 → ∀ v, v < 32 → u < v → dif v u ≠ 0 := by decide +kernel
  have := h _ h3 v h2 h1
  unfold w_ok
  simp [this]
theorem w_st_c {N : xN} {n a : Nat} : ∀ k, a ≤ k → (∀ v, a ≤ v → v < k → w_ok N n v = false) → w_st N n k = w_st N n a
  | 0, h, _ => by
    have : a = 0 := by omega
    rw [this]
  | k + 1, h, hz => by
    by_cases e : a = k + 1
    · rw [e]
    · rw [← w_st_c k (by omega) (fun v x y => hz v x (by omega))]
      conv => lhs; unfold w_st
      rw [if_neg (by rw [hz k (by omega) (by omega)]; simp)]
theorem oI_le {a b : Nat} (ha : a < 100000) (hb : b < 100000) : (nI a ≤ oI b) = (a + 1 ≤ b) := by
  cases b with
  | zero =>
    apply propext
    constructor
    · intro h
      rw [Int32.le_iff_toInt_le, nI_toInt (by omega)] at h
      have : (oI 0).toInt = -1 := by decide
      omega
    · intro h
      omega
  | succ b =>
    rw [oI_s]
    exact propext ((nI_leI (by omega) (by omega)).trans (by omega))
theorem f_worst {σ : xM} {N : xN} {n : Nat} (hw : s_wf N) (hC : s_C σ 1 N) (hn : 1 ≤ n ∧ n ≤ 2) : ∃ τ, F_X2_worstSet (nI n) σ = some (oI (w_st N n (s_up N + 1)).2, τ) ∧ s_eq s_lk σ τ := by
  have hS := hw.1.2.1
  have hu := s_up_lt5 hS
  have up := s_C_up hw hC
  have w0 : w_st N n 1 = (0, 0) := by
    have : w_ok N n 0 = false := by
      unfold w_ok
      have : pop 0 = 0 := by decide
      rw [this]
      simp
      omega
    conv => lhs; unfold w_st
    rw [if_neg (by rw [this]; simp)]
    rfl
  have hL : ∃ e, L_X2_worstSet_11 (nI n) (nI (s_up N)) (oI 0) (oI 0) (nI 1) σ = some e ∧ e.1 = oI (w_st N n (s_up N + 1)).2 ∧ s_eq s_lk σ e.2 := by
    unfold L_X2_worstSet_11
    refine xloop_for (f := fun x : Int32 × Int32 × Int32 × xM => B_X2_worstSet_11 (nI n) (nI (s_up N)) x.1 x.2.1 x.2.2.1 x.2.2.2) (fun k x => 1 ≤ k ∧ x.1 = oI (w_st N n k).2 ∧ x.2.1 = oI (w_st N n k).1 ∧ x.2.2.1 = nI k ∧ s_eq s_lk σ x.2.2.2) (fun e => e.1 = oI (w_st N n (s_up N + 1)).2 ∧ s_eq s_lk σ e.2) (s_up N + 1) ?_ ?_ 6000 1 (oI 0, oI 0, nI 1, σ) (by omega) (by omega) ⟨by omega, by rw [w0], by rw [w0], rfl, s_eq_rf σ⟩
    · intro k ⟨v3, v4, v5, τ⟩ hk ⟨h0, h1, h2, h3, h4⟩
      dsimp only at h0 h1 h2 h3 h4 ⊢
      subst h1 h2 h3
      left
      have hCt := c_lk h4 hC
      have pc : F_J_bitCount (nI k) τ = some (nI (pop k)) := popc (by omega) τ
      have hp : pop k ≤ 5 := xct_le _ 5
      have hdl := dif_lt (u := k) (g := s_up N) (by omega)
      have wl := w_st_le (N := N) (n := n) hw k
      have e : w_st N n (k + 1) = if w_ok N n k = true ∧ (w_st N n k).1 < x_ex N k + 1 then (x_ex N k + 1, k + 1) else w_st N n k := rfl
      unfold B_X2_worstSet_11
      by_cases c1 : dif k (s_up N) = 0
      case neg =>
        rw [if_neg (by unfold w_ok; simp [c1])] at e
        rw [e]
        simp (disch := omega) only [Nat.add_zero, Nat.zero_add, Nat.zero_mul, Nat.mul_zero, mc8, mc3, nU_f, nU_k, nU_e, xbd_some, xgd_true, xlet_eq, g_in, nI_clamp, nI_leI, nI_ltI, nI_eq, nI_add, pk_mul, pk_sub, rd_e, rd_k, rd_c, i10, i01, xsm_l, xsm_r, if_pos, if_neg, l_neg1, oI_e0, nI_e0, oI_nI, ne_eq, not_true_eq_false, not_false_eq_true, and_true, true_and, and_false, false_and, or_true, true_or, or_false, false_or, if_true, if_false, lit_0, lit_1, lit_2, lit_3, lit_4, lit_5, lit_6, lit_8, lit_9, lit_10, lit_12, lit_13, lit_21, lit_29, lit_30, lit_31, lit_37, lit_101, lit_120, lit_121, lit_127, lit_169, lit_64, lit_99, lit_999, lit_676, lit_845, lit_48, lit_57, lit_32, lit_59, andn]
        exact ⟨_, rfl, by omega, rfl, rfl, rfl, h4⟩
      by_cases c2 : pop k = n
      case neg =>
        rw [if_neg (by unfold w_ok; simp [c2])] at e
        rw [e]
        simp (disch := omega) only [Nat.add_zero, Nat.zero_add, Nat.zero_mul, Nat.mul_zero, mc8, mc3, nU_f, nU_k, nU_e, xbd_some, xgd_true, xlet_eq, g_in, nI_clamp, nI_leI, nI_ltI, nI_eq, nI_add, pk_mul, pk_sub, rd_e, rd_k, rd_c, i10, i01, xsm_l, xsm_r, if_pos, if_neg, l_neg1, oI_e0, nI_e0, oI_nI, ne_eq, not_true_eq_false, not_false_eq_true, and_true, true_and, and_false, false_and, or_true, true_or, or_false, false_or, if_true, if_false, lit_0, lit_1, lit_2, lit_3, lit_4, lit_5, lit_6, lit_8, lit_9, lit_10, lit_12, lit_13, lit_21, lit_29, lit_30, lit_31, lit_37, lit_101, lit_120, lit_121, lit_127, lit_169, lit_64, lit_99, lit_999, lit_676, lit_845, lit_48, lit_57, lit_32, lit_59, andn, pc]
        exact ⟨_, rfl, by omega, rfl, rfl, rfl, h4⟩
      have hok : w_ok N n k = true := by unfold w_ok; simp [c1, c2]
      obtain ⟨υ, x1, x2⟩ := f_excess (g := k) hw hCt (by omega)
      have xl := x_sum_le (u := dif (s_up N) k) hw (N 0 1)
      have xl' : x_ex N k ≤ 5000 := by unfold x_ex; omega
      have e4 : s_eq s_lk σ υ := fun c hc => (x2 c hc).trans (h4 c hc)
      by_cases c3 : (w_st N n k).1 < x_ex N k + 1
      · rw [if_pos ⟨hok, c3⟩] at e
        rw [e]
        simp (disch := omega) only [Nat.add_zero, Nat.zero_add, Nat.zero_mul, Nat.mul_zero, mc8, mc3, nU_f, nU_k, nU_e, xbd_some, xgd_true, xlet_eq, g_in, nI_clamp, nI_leI, nI_ltI, nI_eq, nI_add, pk_mul, pk_sub, rd_e, rd_k, rd_c, i10, i01, xsm_l, xsm_r, if_pos, if_neg, l_neg1, oI_e0, nI_e0, oI_nI, ne_eq, not_true_eq_false, not_false_eq_true, and_true, true_and, and_false, false_and, or_true, true_or, or_false, false_or, if_true, if_false, lit_0, lit_1, lit_2, lit_3, lit_4, lit_5, lit_6, lit_8, lit_9, lit_10, lit_12, lit_13, lit_21, lit_29, lit_30, lit_31, lit_37, lit_101, lit_120, lit_121, lit_127, lit_169, lit_64, lit_99, lit_999, lit_676, lit_845, lit_48, lit_57, lit_32, lit_59, andn, pc, x1, oI_le]
        exact ⟨_, rfl, by omega, rfl, rfl, rfl, e4⟩
      · rw [if_neg (fun z => c3 z.2)] at e
        rw [e]
        simp (disch := omega) only [Nat.add_zero, Nat.zero_add, Nat.zero_mul, Nat.mul_zero, mc8, mc3, nU_f, nU_k, nU_e, xbd_some, xgd_true, xlet_eq, g_in, nI_clamp, nI_leI, nI_ltI, nI_eq, nI_add, pk_mul, pk_sub, rd_e, rd_k, rd_c, i10, i01, xsm_l, xsm_r, if_pos, if_neg, l_neg1, oI_e0, nI_e0, oI_nI, ne_eq, not_true_eq_false, not_false_eq_true, and_true, true_and, and_false, false_and, or_true, true_or, or_false, false_or, if_true, if_false, lit_0, lit_1, lit_2, lit_3, lit_4, lit_5, lit_6, lit_8, lit_9, lit_10, lit_12, lit_13, lit_21, lit_29, lit_30, lit_31, lit_37, lit_101, lit_120, lit_121, lit_127, lit_169, lit_64, lit_99, lit_999, lit_676, lit_845, lit_48, lit_57, lit_32, lit_59, andn, pc, x1, oI_le]
        exact ⟨_, rfl, by omega, rfl, rfl, rfl, e4⟩
    · intro ⟨v3, v4, v5, τ⟩ ⟨h0, h1, h2, h3, h4⟩
      dsimp only at h0 h1 h2 h3 h4 ⊢
      subst h3
      unfold B_X2_worstSet_11
      simp (disch := omega) only [Nat.add_zero, Nat.zero_add, Nat.zero_mul, Nat.mul_zero, mc8, mc3, nU_f, nU_k, nU_e, xbd_some, xgd_true, xlet_eq, g_in, nI_clamp, nI_leI, nI_ltI, nI_eq, nI_add, pk_mul, pk_sub, rd_e, rd_k, rd_c, i10, i01, xsm_l, xsm_r, if_pos, if_neg, l_neg1, oI_e0, nI_e0, oI_nI, ne_eq, not_true_eq_false, not_false_eq_true, and_true, true_and, and_false, false_and, or_true, true_or, or_false, false_or, if_true, if_false, lit_0, lit_1, lit_2, lit_3, lit_4, lit_5, lit_6, lit_8, lit_9, lit_10, lit_12, lit_13, lit_21, lit_29, lit_30, lit_31, lit_37, lit_101, lit_120, lit_121, lit_127, lit_169, lit_64, lit_99, lit_999, lit_676, lit_845, lit_48, lit_57, lit_32, lit_59]
      exact ⟨_, rfl, h1, h4⟩
  obtain ⟨⟨r, τ⟩, g1, g2, g3⟩ := hL
  dsimp only at g2 g3
  refine ⟨τ, ?_, g3⟩
  unfold F_X2_worstSet
  simp (disch := omega) only [Nat.add_zero, Nat.zero_add, Nat.zero_mul, Nat.mul_zero, mc8, mc3, nU_f, nU_k, nU_e, xbd_some, xgd_true, xlet_eq, g_in, nI_clamp, nI_leI, nI_ltI, nI_eq, nI_add, pk_mul, pk_sub, rd_e, rd_k, rd_c, i10, i01, xsm_l, xsm_r, if_pos, if_neg, l_neg1, oI_e0, nI_e0, oI_nI, ne_eq, not_true_eq_false, not_false_eq_true, and_true, true_and, and_false, false_and, or_true, true_or, or_false, false_or, if_true, if_false, lit_0, lit_1, lit_2, lit_3, lit_4, lit_5, lit_6, lit_8, lit_9, lit_10, lit_12, lit_13, lit_21, lit_29, lit_30, lit_31, lit_37, lit_101, lit_120, lit_121, lit_127, lit_169, lit_64, lit_99, lit_999, lit_676, lit_845, lit_48, lit_57, lit_32, lit_59, up, g1, g2]
/-- model: a set thought off, and what is above room -/
theorem m_excess {σ : xM} {N : xN} {v : Nat} (hw : s_wf N) (h : s_M (σ 142) N) (hMw : s_Mw σ N) (hv : v < 32) : ∃ τ, F_X11_excess (nI v) σ = some (nI (x_ex N v), τ) ∧ τ 142 = σ 142 ∧ ∀ c, c ≠ 142 → c ≠ 147 → c ≠ 152 → τ c = σ c := by
  have hS := hw.1.2.1
  have b9 := fun t ht => (hw.2.2.2.2.1 t ht).2.2.2
  have hu := s_up_lt5 hS
  have r1 : ∀ τ md, m_D σ τ N md → τ 142 1 = nI (N 0 1) := fun τ md hD => by
    rw [hD.1 1 (fun s hs => by omega)]
    exact h.1 1 (by omega)
  have hL1 : ∃ τ, L_X11_excess_4 (nI v) (nI 0) (nI 0) σ = some τ ∧ (∀ c, c ≠ 142 → c ≠ 152 → τ c = σ c) ∧ m_D σ τ N (fun t => if v.testBit t = true then 2 else N 9 t) ∧ ∀ s, s < N 0 1 → τ 152 s = nI (N 9 s) := by
    unfold L_X11_excess_4
    refine xloop_for (f := fun x : Int32 × xM => B_X11_excess_4 (nI v) (nI 0) x.1 x.2) (fun k x => x.1 = nI k ∧ (∀ c, c ≠ 142 → c ≠ 152 → x.2 c = σ c) ∧ m_D σ x.2 N (fun t => if t < k ∧ v.testBit t = true then 2 else N 9 t) ∧ ∀ s, s < k → x.2 152 s = nI (N 9 s)) (fun τ => (∀ c, c ≠ 142 → c ≠ 152 → τ c = σ c) ∧ m_D σ τ N (fun t => if v.testBit t = true then 2 else N 9 t) ∧ ∀ s, s < N 0 1 → τ 152 s = nI (N 9 s)) (N 0 1) ?_ ?_ 6000 0 (nI 0, σ) (by omega) (by omega) ⟨rfl, fun _ _ _ => rfl, D_md (D_rf h) (fun s _ => by rw [if_neg (by omega)]), fun s hs => absurd hs (by omega)⟩
    · intro k ⟨w, τ⟩ hk ⟨h1, h2, h3, h4⟩
      dsimp only at h1 h2 h3 h4 ⊢
      subst h1
      left
      have t1 := r1 τ _ h3
      have st := D_state hS h3 hk
      rw [if_neg (by omega)] at st
      have hD' : m_D σ (xup τ 152 k (nI (N 9 k))) N (fun t => if t < k ∧ v.testBit t = true then 2 else N 9 t) := D_cg (by simp (disch := omega) only [Nat.add_zero, Nat.zero_add, Nat.zero_mul, Nat.mul_zero, mc8, mc3, nU_f, nU_k, nU_e, xbd_some, xgd_true, xlet_eq, g_in, nI_clamp, nI_leI, nI_ltI, nI_eq, nI_add, pk_mul, pk_sub, rd_e, rd_k, rd_c, i10, i01, xsm_l, xsm_r, if_pos, if_neg, l_neg1, oI_e0, nI_e0, oI_nI, ne_eq, not_true_eq_false, not_false_eq_true, and_true, true_and, and_false, false_and, or_true, true_or, or_false, false_or, if_true, if_false, lit_0, lit_1, lit_2, lit_3, lit_4, lit_5, lit_6, lit_8, lit_9, lit_10, lit_12, lit_13, lit_21, lit_29, lit_30, lit_31, lit_37, lit_101, lit_120, lit_121, lit_127, lit_169, lit_64, lit_99, lit_999, lit_676, lit_845, lit_48, lit_57, lit_32, lit_59]) h3
      have st2 := D_state hS hD' hk
      rw [if_neg (by omega)] at st2
      have bv := bitv (u := v) (k := k) (by omega) (by omega)
      have fin : ∀ z, z = (if v.testBit k = true then 2 else N 9 k) → (∀ c, c ≠ 142 → c ≠ 152 → xup (xup τ 152 k (nI (N 9 k))) 142 (101 + 4 * k + 3) (nI z) c = σ c) ∧ m_D σ (xup (xup τ 152 k (nI (N 9 k))) 142 (101 + 4 * k + 3) (nI z)) N (fun t => if t < k + 1 ∧ v.testBit t = true then 2 else N 9 t) ∧ ∀ s, s < k + 1 → xup (xup τ 152 k (nI (N 9 k))) 142 (101 + 4 * k + 3) (nI z) 152 s = nI (N 9 s) := by
        intro z hz
        refine ⟨fun c a b => by simp (disch := omega) only [Nat.add_zero, Nat.zero_add, Nat.zero_mul, Nat.mul_zero, mc8, mc3, nU_f, nU_k, nU_e, xbd_some, xgd_true, xlet_eq, g_in, nI_clamp, nI_leI, nI_ltI, nI_eq, nI_add, pk_mul, pk_sub, rd_e, rd_k, rd_c, i10, i01, xsm_l, xsm_r, if_pos, if_neg, l_neg1, oI_e0, nI_e0, oI_nI, ne_eq, not_true_eq_false, not_false_eq_true, and_true, true_and, and_false, false_and, or_true, true_or, or_false, false_or, if_true, if_false, lit_0, lit_1, lit_2, lit_3, lit_4, lit_5, lit_6, lit_8, lit_9, lit_10, lit_12, lit_13, lit_21, lit_29, lit_30, lit_31, lit_37, lit_101, lit_120, lit_121, lit_127, lit_169, lit_64, lit_99, lit_999, lit_676, lit_845, lit_48, lit_57, lit_32, lit_59]; exact h2 c a b, D_md (D_put (v := z) hD' hk) (fun s hs => ?_), fun s hs => ?_⟩
        · by_cases e : s = k
          · rw [tS_e e, hz, e]
            by_cases e2 : v.testBit k = true
            · rw [if_pos e2, if_pos ⟨by omega, e2⟩]
            · rw [if_neg e2, if_neg (fun z => e2 z.2)]
          · rw [tS_n e]
            by_cases e2 : s < k ∧ v.testBit s = true
            · rw [if_pos e2, if_pos ⟨by omega, e2.2⟩]
            · rw [if_neg e2, if_neg (fun z => e2 ⟨by omega, z.2⟩)]
        · by_cases e : s = k
          · subst e; simp (disch := omega) only [Nat.add_zero, Nat.zero_add, Nat.zero_mul, Nat.mul_zero, mc8, mc3, nU_f, nU_k, nU_e, xbd_some, xgd_true, xlet_eq, g_in, nI_clamp, nI_leI, nI_ltI, nI_eq, nI_add, pk_mul, pk_sub, rd_e, rd_k, rd_c, i10, i01, xsm_l, xsm_r, if_pos, if_neg, l_neg1, oI_e0, nI_e0, oI_nI, ne_eq, not_true_eq_false, not_false_eq_true, and_true, true_and, and_false, false_and, or_true, true_or, or_false, false_or, if_true, if_false, lit_0, lit_1, lit_2, lit_3, lit_4, lit_5, lit_6, lit_8, lit_9, lit_10, lit_12, lit_13, lit_21, lit_29, lit_30, lit_31, lit_37, lit_101, lit_120, lit_121, lit_127, lit_169, lit_64, lit_99, lit_999, lit_676, lit_845, lit_48, lit_57, lit_32, lit_59]
          · simp (disch := omega) only [Nat.add_zero, Nat.zero_add, Nat.zero_mul, Nat.mul_zero, mc8, mc3, nU_f, nU_k, nU_e, xbd_some, xgd_true, xlet_eq, g_in, nI_clamp, nI_leI, nI_ltI, nI_eq, nI_add, pk_mul, pk_sub, rd_e, rd_k, rd_c, i10, i01, xsm_l, xsm_r, if_pos, if_neg, l_neg1, oI_e0, nI_e0, oI_nI, ne_eq, not_true_eq_false, not_false_eq_true, and_true, true_and, and_false, false_and, or_true, true_or, or_false, false_or, if_true, if_false, lit_0, lit_1, lit_2, lit_3, lit_4, lit_5, lit_6, lit_8, lit_9, lit_10, lit_12, lit_13, lit_21, lit_29, lit_30, lit_31, lit_37, lit_101, lit_120, lit_121, lit_127, lit_169, lit_64, lit_99, lit_999, lit_676, lit_845, lit_48, lit_57, lit_32, lit_59]
            exact h4 s (by omega)
      unfold B_X11_excess_4
      by_cases e2 : v.testBit k = true
      · rw [if_pos e2] at bv fin
        simp (disch := omega) only [Nat.add_zero, Nat.zero_add, Nat.zero_mul, Nat.mul_zero, mc8, mc3, nU_f, nU_k, nU_e, xbd_some, xgd_true, xlet_eq, g_in, nI_clamp, nI_leI, nI_ltI, nI_eq, nI_add, pk_mul, pk_sub, rd_e, rd_k, rd_c, i10, i01, xsm_l, xsm_r, if_pos, if_neg, l_neg1, oI_e0, nI_e0, oI_nI, ne_eq, not_true_eq_false, not_false_eq_true, and_true, true_and, and_false, false_and, or_true, true_or, or_false, false_or, if_true, if_false, lit_0, lit_1, lit_2, lit_3, lit_4, lit_5, lit_6, lit_8, lit_9, lit_10, lit_12, lit_13, lit_21, lit_29, lit_30, lit_31, lit_37, lit_101, lit_120, lit_121, lit_127, lit_169, lit_64, lit_99, lit_999, lit_676, lit_845, lit_48, lit_57, lit_32, lit_59, t1, st, bv, puts_state]
        exact ⟨_, rfl, rfl, fin 2 rfl⟩
      · rw [if_neg e2] at bv fin
        simp (disch := omega) only [Nat.add_zero, Nat.zero_add, Nat.zero_mul, Nat.mul_zero, mc8, mc3, nU_f, nU_k, nU_e, xbd_some, xgd_true, xlet_eq, g_in, nI_clamp, nI_leI, nI_ltI, nI_eq, nI_add, pk_mul, pk_sub, rd_e, rd_k, rd_c, i10, i01, xsm_l, xsm_r, if_pos, if_neg, l_neg1, oI_e0, nI_e0, oI_nI, ne_eq, not_true_eq_false, not_false_eq_true, and_true, true_and, and_false, false_and, or_true, true_or, or_false, false_or, if_true, if_false, lit_0, lit_1, lit_2, lit_3, lit_4, lit_5, lit_6, lit_8, lit_9, lit_10, lit_12, lit_13, lit_21, lit_29, lit_30, lit_31, lit_37, lit_101, lit_120, lit_121, lit_127, lit_169, lit_64, lit_99, lit_999, lit_676, lit_845, lit_48, lit_57, lit_32, lit_59, t1, st, bv, st2, puts_state]
        exact ⟨_, rfl, rfl, fin (N 9 k) rfl⟩
    · intro ⟨w, τ⟩ ⟨h1, h2, h3, h4⟩
      dsimp only at h1 h2 h3 h4 ⊢
      subst h1
      have t1 := r1 τ _ h3
      unfold B_X11_excess_4
      simp (disch := omega) only [Nat.add_zero, Nat.zero_add, Nat.zero_mul, Nat.mul_zero, mc8, mc3, nU_f, nU_k, nU_e, xbd_some, xgd_true, xlet_eq, g_in, nI_clamp, nI_leI, nI_ltI, nI_eq, nI_add, pk_mul, pk_sub, rd_e, rd_k, rd_c, i10, i01, xsm_l, xsm_r, if_pos, if_neg, l_neg1, oI_e0, nI_e0, oI_nI, ne_eq, not_true_eq_false, not_false_eq_true, and_true, true_and, and_false, false_and, or_true, true_or, or_false, false_or, if_true, if_false, lit_0, lit_1, lit_2, lit_3, lit_4, lit_5, lit_6, lit_8, lit_9, lit_10, lit_12, lit_13, lit_21, lit_29, lit_30, lit_31, lit_37, lit_101, lit_120, lit_121, lit_127, lit_169, lit_64, lit_99, lit_999, lit_676, lit_845, lit_48, lit_57, lit_32, lit_59, t1]
      refine ⟨_, rfl, h2, D_md h3 (fun s hs => ?_), h4⟩
      by_cases e : v.testBit s = true
      · rw [if_pos e, if_pos ⟨hs, e⟩]
      · rw [if_neg e, if_neg (fun z => e z.2)]
  obtain ⟨τ1, a1, a2, a3, a4⟩ := hL1
  have hmd2 : ∀ s, s < N 0 1 → (fun t => if v.testBit t = true then 2 else N 9 t) s ≤ 2 := fun s hs => by
    dsimp only
    split
    · omega
    · exact b9 s hs
  have hbit : ∀ t, t < N 0 1 → (dif (s_up N) v).testBit t = !decide ((fun t => if v.testBit t = true then 2 else N 9 t) t = 2) := fun t ht => by
    rw [dif_bit hv (by omega), s_up_bit ht]
    dsimp only
    by_cases e : v.testBit t = true
    · simp [e]
    · simp [e]
  have hwD := mdN_wf hw hmd2
  obtain ⟨kW, kS⟩ := D_W hw.1 h hMw (a2 146 (by omega) (by omega)) a3
  obtain ⟨τ2, b1, b2, b3⟩ := w_catches hwD kW
  have kW2 := W_cg (b2 142 (by omega)) (b2 146 (by omega)) kW
  have kS2 := S_cg (b2 142 (by omega)) kS
  have au := mdN_au (N := N) hbit
  have ld : ∀ s, s_ld (mdN N (fun t => if v.testBit t = true then 2 else N 9 t)) (s_up (mdN N (fun t => if v.testBit t = true then 2 else N 9 t))) (mdN N (fun t => if v.testBit t = true then 2 else N 9 t) 8) s = s_ld N (dif (s_up N) v) (N 8) s := fun s => s_ld_cg mdN_ag hw au s
  have hD2 : m_D σ τ2 N (fun t => if v.testBit t = true then 2 else N 9 t) := D_cg (b2 142 (by omega)) a3
  have t21 := r1 τ2 _ hD2
  have hL2 : L_X11_excess_38 (nI 0) (nI 0) τ2 = some (nI (x_ex N v)) := by
    unfold L_X11_excess_38 x_ex
    refine xfor (f := fun x : Int32 × Int32 => B_X11_excess_38 x.1 x.2 τ2) (fun k => (nI (x_sum N (dif (s_up N) v) k), nI k)) (N 0 1) _ (fun k hk => ?_) ?_ 6000 0 (by omega) (by omega)
    · have hkm : k < mdN N (fun t => if v.testBit t = true then 2 else N 9 t) 0 1 := by rw [mdN_0 (by omega)]; exact hk
      have io := w_isOver hwD kW2 kS2 b3 hkm
      have lo := w_load hwD kW2 kS2 b3 hkm
      rw [ld] at lo
      have x2 : τ2 142 (101 + 4 * k + 1) = nI (N 7 k) := by
        rw [hD2.1 _ (fun s hs => by omega)]
        exact (h.2.2.2.2.1 k hk).2.1
      have e3 : F_X11_ofSite (nI k) (nI 1) τ2 = some (nI (N 7 k)) := by
        unfold F_X11_ofSite
        simp (disch := omega) only [Nat.add_zero, Nat.zero_add, Nat.zero_mul, Nat.mul_zero, mc8, mc3, nU_f, nU_k, nU_e, xbd_some, xgd_true, xlet_eq, g_in, nI_clamp, nI_leI, nI_ltI, nI_eq, nI_add, pk_mul, pk_sub, rd_e, rd_k, rd_c, i10, i01, xsm_l, xsm_r, if_pos, if_neg, l_neg1, oI_e0, nI_e0, oI_nI, ne_eq, not_true_eq_false, not_false_eq_true, and_true, true_and, and_false, false_and, or_true, true_or, or_false, false_or, if_true, if_false, lit_0, lit_1, lit_2, lit_3, lit_4, lit_5, lit_6, lit_8, lit_9, lit_10, lit_12, lit_13, lit_21, lit_29, lit_30, lit_31, lit_37, lit_101, lit_120, lit_121, lit_127, lit_169, lit_64, lit_99, lit_999, lit_676, lit_845, lit_48, lit_57, lit_32, lit_59, x2]
      have hl := s_ld_lt hw (dif (s_up N) v) (N 8) k
      have b7 := (hw.2.2.2.2.1 k hk).2.1
      have hov : s_ov (mdN N (fun t => if v.testBit t = true then 2 else N 9 t)) (s_up (mdN N (fun t => if v.testBit t = true then 2 else N 9 t))) (mdN N (fun t => if v.testBit t = true then 2 else N 9 t) 8) k = ((dif (s_up N) v).testBit k && decide (N 7 k < s_ld N (dif (s_up N) v) (N 8) k)) := by
        unfold s_ov
        rw [ld, (au k hk).1, mdN_f (by omega) (by omega)]
      have e : x_sum N (dif (s_up N) v) (k + 1) = x_sum N (dif (s_up N) v) k + (if (dif (s_up N) v).testBit k = true then x_ov N (dif (s_up N) v) k else 0) := rfl
      unfold v_ov at io
      rw [hov] at io
      dsimp only
      rw [e]
      unfold B_X11_excess_38 x_ov
      by_cases c1 : (dif (s_up N) v).testBit k = true
      · rw [if_pos c1]
        by_cases c2 : N 7 k < s_ld N (dif (s_up N) v) (N 8) k
        · rw [if_pos (by simp [c1, c2])] at io
          simp (disch := omega) only [Nat.add_zero, Nat.zero_add, Nat.zero_mul, Nat.mul_zero, mc8, mc3, nU_f, nU_k, nU_e, xbd_some, xgd_true, xlet_eq, g_in, nI_clamp, nI_leI, nI_ltI, nI_eq, nI_add, pk_mul, pk_sub, rd_e, rd_k, rd_c, i10, i01, xsm_l, xsm_r, if_pos, if_neg, l_neg1, oI_e0, nI_e0, oI_nI, ne_eq, not_true_eq_false, not_false_eq_true, and_true, true_and, and_false, false_and, or_true, true_or, or_false, false_or, if_true, if_false, lit_0, lit_1, lit_2, lit_3, lit_4, lit_5, lit_6, lit_8, lit_9, lit_10, lit_12, lit_13, lit_21, lit_29, lit_30, lit_31, lit_37, lit_101, lit_120, lit_121, lit_127, lit_169, lit_64, lit_99, lit_999, lit_676, lit_845, lit_48, lit_57, lit_32, lit_59, t21, io, lo, e3]
        · rw [if_neg (by simp [c2])] at io
          rw [show s_ld N (dif (s_up N) v) (N 8) k - N 7 k = 0 by omega]
          simp (disch := omega) only [Nat.add_zero, Nat.zero_add, Nat.zero_mul, Nat.mul_zero, mc8, mc3, nU_f, nU_k, nU_e, xbd_some, xgd_true, xlet_eq, g_in, nI_clamp, nI_leI, nI_ltI, nI_eq, nI_add, pk_mul, pk_sub, rd_e, rd_k, rd_c, i10, i01, xsm_l, xsm_r, if_pos, if_neg, l_neg1, oI_e0, nI_e0, oI_nI, ne_eq, not_true_eq_false, not_false_eq_true, and_true, true_and, and_false, false_and, or_true, true_or, or_false, false_or, if_true, if_false, lit_0, lit_1, lit_2, lit_3, lit_4, lit_5, lit_6, lit_8, lit_9, lit_10, lit_12, lit_13, lit_21, lit_29, lit_30, lit_31, lit_37, lit_101, lit_120, lit_121, lit_127, lit_169, lit_64, lit_99, lit_999, lit_676, lit_845, lit_48, lit_57, lit_32, lit_59, t21, io]
      · rw [if_neg c1]
        rw [if_neg (by simp [c1])] at io
        simp (disch := omega) only [Nat.add_zero, Nat.zero_add, Nat.zero_mul, Nat.mul_zero, mc8, mc3, nU_f, nU_k, nU_e, xbd_some, xgd_true, xlet_eq, g_in, nI_clamp, nI_leI, nI_ltI, nI_eq, nI_add, pk_mul, pk_sub, rd_e, rd_k, rd_c, i10, i01, xsm_l, xsm_r, if_pos, if_neg, l_neg1, oI_e0, nI_e0, oI_nI, ne_eq, not_true_eq_false, not_false_eq_true, and_true, true_and, and_false, false_and, or_true, true_or, or_false, false_or, if_true, if_false, lit_0, lit_1, lit_2, lit_3, lit_4, lit_5, lit_6, lit_8, lit_9, lit_10, lit_12, lit_13, lit_21, lit_29, lit_30, lit_31, lit_37, lit_101, lit_120, lit_121, lit_127, lit_169, lit_64, lit_99, lit_999, lit_676, lit_845, lit_48, lit_57, lit_32, lit_59, t21, io]
    · dsimp only
      unfold B_X11_excess_38
      simp (disch := omega) only [Nat.add_zero, Nat.zero_add, Nat.zero_mul, Nat.mul_zero, mc8, mc3, nU_f, nU_k, nU_e, xbd_some, xgd_true, xlet_eq, g_in, nI_clamp, nI_leI, nI_ltI, nI_eq, nI_add, pk_mul, pk_sub, rd_e, rd_k, rd_c, i10, i01, xsm_l, xsm_r, if_pos, if_neg, l_neg1, oI_e0, nI_e0, oI_nI, ne_eq, not_true_eq_false, not_false_eq_true, and_true, true_and, and_false, false_and, or_true, true_or, or_false, false_or, if_true, if_false, lit_0, lit_1, lit_2, lit_3, lit_4, lit_5, lit_6, lit_8, lit_9, lit_10, lit_12, lit_13, lit_21, lit_29, lit_30, lit_31, lit_37, lit_101, lit_120, lit_121, lit_127, lit_169, lit_64, lit_99, lit_999, lit_676, lit_845, lit_48, lit_57, lit_32, lit_59, t21]
  have hL3 : ∃ τ, L_X11_excess_65 (nI (x_ex N v)) (nI 0) τ2 = some τ ∧ (∀ c, c ≠ 142 → τ c = τ2 c) ∧ τ 142 = σ 142 := by
    unfold L_X11_excess_65
    refine xloop_for (f := fun x : Int32 × xM => B_X11_excess_65 (nI (x_ex N v)) x.1 x.2) (fun k x => x.1 = nI k ∧ (∀ c, c ≠ 142 → x.2 c = τ2 c) ∧ ∃ md, m_D σ x.2 N md ∧ ∀ t, t < k → md t = N 9 t) (fun τ => (∀ c, c ≠ 142 → τ c = τ2 c) ∧ τ 142 = σ 142) (N 0 1) ?_ ?_ 6000 0 (nI 0, τ2) (by omega) (by omega) ⟨rfl, fun _ _ => rfl, _, hD2, fun t ht => absurd ht (by omega)⟩
    · intro k ⟨w, τ⟩ hk ⟨h1, h2, md, h3, h4⟩
      dsimp only at h1 h2 h3 h4 ⊢
      subst h1
      left
      have t1 := r1 τ _ h3
      have t2 : τ 152 k = nI (N 9 k) := by rw [h2 152 (by omega), b2 152 (by omega), a4 k hk]
      unfold B_X11_excess_65
      simp (disch := omega) only [Nat.add_zero, Nat.zero_add, Nat.zero_mul, Nat.mul_zero, mc8, mc3, nU_f, nU_k, nU_e, xbd_some, xgd_true, xlet_eq, g_in, nI_clamp, nI_leI, nI_ltI, nI_eq, nI_add, pk_mul, pk_sub, rd_e, rd_k, rd_c, i10, i01, xsm_l, xsm_r, if_pos, if_neg, l_neg1, oI_e0, nI_e0, oI_nI, ne_eq, not_true_eq_false, not_false_eq_true, and_true, true_and, and_false, false_and, or_true, true_or, or_false, false_or, if_true, if_false, lit_0, lit_1, lit_2, lit_3, lit_4, lit_5, lit_6, lit_8, lit_9, lit_10, lit_12, lit_13, lit_21, lit_29, lit_30, lit_31, lit_37, lit_101, lit_120, lit_121, lit_127, lit_169, lit_64, lit_99, lit_999, lit_676, lit_845, lit_48, lit_57, lit_32, lit_59, t1, t2, puts_state]
      refine ⟨_, rfl, rfl, fun c hc => by simp (disch := omega) only [Nat.add_zero, Nat.zero_add, Nat.zero_mul, Nat.mul_zero, mc8, mc3, nU_f, nU_k, nU_e, xbd_some, xgd_true, xlet_eq, g_in, nI_clamp, nI_leI, nI_ltI, nI_eq, nI_add, pk_mul, pk_sub, rd_e, rd_k, rd_c, i10, i01, xsm_l, xsm_r, if_pos, if_neg, l_neg1, oI_e0, nI_e0, oI_nI, ne_eq, not_true_eq_false, not_false_eq_true, and_true, true_and, and_false, false_and, or_true, true_or, or_false, false_or, if_true, if_false, lit_0, lit_1, lit_2, lit_3, lit_4, lit_5, lit_6, lit_8, lit_9, lit_10, lit_12, lit_13, lit_21, lit_29, lit_30, lit_31, lit_37, lit_101, lit_120, lit_121, lit_127, lit_169, lit_64, lit_99, lit_999, lit_676, lit_845, lit_48, lit_57, lit_32, lit_59]; exact h2 c hc, _, D_put (v := N 9 k) h3 hk, fun t ht => ?_⟩
      by_cases e : t = k
      · rw [tS_e e, e]
      · rw [tS_n e]
        exact h4 t (by omega)
    · intro ⟨w, τ⟩ ⟨h1, h2, md, h3, h4⟩
      dsimp only at h1 h2 h3 h4 ⊢
      subst h1
      have t1 := r1 τ _ h3
      unfold B_X11_excess_65
      simp (disch := omega) only [Nat.add_zero, Nat.zero_add, Nat.zero_mul, Nat.mul_zero, mc8, mc3, nU_f, nU_k, nU_e, xbd_some, xgd_true, xlet_eq, g_in, nI_clamp, nI_leI, nI_ltI, nI_eq, nI_add, pk_mul, pk_sub, rd_e, rd_k, rd_c, i10, i01, xsm_l, xsm_r, if_pos, if_neg, l_neg1, oI_e0, nI_e0, oI_nI, ne_eq, not_true_eq_false, not_false_eq_true, and_true, true_and, and_false, false_and, or_true, true_or, or_false, false_or, if_true, if_false, lit_0, lit_1, lit_2, lit_3, lit_4, lit_5, lit_6, lit_8, lit_9, lit_10, lit_12, lit_13, lit_21, lit_29, lit_30, lit_31, lit_37, lit_101, lit_120, lit_121, lit_127, lit_169, lit_64, lit_99, lit_999, lit_676, lit_845, lit_48, lit_57, lit_32, lit_59, t1]
      exact ⟨_, rfl, h2, D_end h3 h4 h⟩
  obtain ⟨τ3, c1, c2, c3⟩ := hL3
  refine ⟨τ3, ?_, c3, fun c a b d => ?_⟩
  · unfold F_X11_excess
    simp (disch := omega) only [Nat.add_zero, Nat.zero_add, Nat.zero_mul, Nat.mul_zero, mc8, mc3, nU_f, nU_k, nU_e, xbd_some, xgd_true, xlet_eq, g_in, nI_clamp, nI_leI, nI_ltI, nI_eq, nI_add, pk_mul, pk_sub, rd_e, rd_k, rd_c, i10, i01, xsm_l, xsm_r, if_pos, if_neg, l_neg1, oI_e0, nI_e0, oI_nI, ne_eq, not_true_eq_false, not_false_eq_true, and_true, true_and, and_false, false_and, or_true, true_or, or_false, false_or, if_true, if_false, lit_0, lit_1, lit_2, lit_3, lit_4, lit_5, lit_6, lit_8, lit_9, lit_10, lit_12, lit_13, lit_21, lit_29, lit_30, lit_31, lit_37, lit_101, lit_120, lit_121, lit_127, lit_169, lit_64, lit_99, lit_999, lit_676, lit_845, lit_48, lit_57, lit_32, lit_59, a1, b1, hL2, c1]
  · rw [c2 c a, b2 c b, a2 c a d]
