theorem q_yes {σ τ : xM} {N : xN} {k : Nat} {H : Nat → xN} {L : Nat} {T : Nat → Nat} {b : Nat → Int32} (hW : IW N k H L T) (hC : IC σ N k H L T b) (hM : IM σ N k H L T b) (fr : m_fr σ τ) (h2 : s_M (τ 142) N) : Inv τ := ⟨N, k, H, L, T, b, hW, IC_hi hC (fun c hc => fr c (by omega)), IM_fr hM fr h2⟩
/-- an error, on both sides -/
theorem q_no {σ : xM} {N : xN} {k : Nat} {H : Nat → xN} {L : Nat} {T : Nat → Nat} {b : Nat → Int32} {r : Int32} (hr : r = -2 ∨ r = -3 ∨ r = -4) (hW : IW N k H L T) (hC : IC σ N k H L T b) (hM : IM σ N k H L T b) : ∃ τ1, (xbd (F_X10_counted r σ) fun r3 => some (r3.1, r3.2)) = some (r, τ1) ∧ IM τ1 N k H L T b ∧ ∃ τ2, (xbd (F_X11_refuses r τ1) fun r3 => some (r3.1, r3.2)) = some (r, τ2) ∧ Inv τ2 := by
  obtain ⟨τ1, a1, a2, a3⟩ := IC_cnt hC hr
  have hM1 := IM_lo hM a3
  obtain ⟨τ2, b1, b2, b3⟩ := IM_ref hM1 hr
  refine ⟨τ1, by rw [xbd_s a1], hM1, τ2, by rw [xbd_s b1], N, k, H, L, T, bump b r, hW, IC_hi a2 b3, b2⟩
theorem lk_IC {σ τ : xM} {N : xN} {k : Nat} {H : Nat → xN} {L : Nat} {T : Nat → Nat} {b : Nat → Int32} (h : IC σ N k H L T b) (e : s_eq s_lk σ τ) : IC τ N k H L T b := IC_cg h (fun c a x y z => e c (by unfold s_lk; omega))
theorem lk_IM {σ τ : xM} {N : xN} {k : Nat} {H : Nat → xN} {L : Nat} {T : Nat → Nat} {b : Nat → Int32} (h : IM σ N k H L T b) (e : s_eq s_lk σ τ) : IM τ N k H L T b := IM_lo h (fun c a => e c (by unfold s_lk; omega))
theorem p_far (a c : Int32) {σ : xM} (h : Inv σ) : ∃ (r : Int32) (σ1 σ2 : xM), F_X10_far a c σ = some (r, σ1) ∧ F_X11_far a c σ1 = some (r, σ2) ∧ Inv σ2 := by
  obtain ⟨N, k, H, L, T, b, hW, hC, hM⟩ := h
  have c2 : σ 2 0 = nI (N 0 0) := (s_C_0 hC.1).1.1
  have hA := hW.1.1.1
  unfold F_X10_far F_X11_far
  by_cases h1 : hsA a N
  case neg =>
    obtain ⟨τ1, e1, m1, τ2, e2, i2⟩ := q_no (r := -2) (Or.inl rfl) hW hC hM
    refine ⟨-2, τ1, τ2, ?_, ?_, i2⟩
    · rw [xbd_s (h1_f c2 h1), if_pos rfl, e1]
    · rw [xbd_s (iA_f (m1.1.1 0 (by omega)) h1), if_pos rfl, e2]
  by_cases h2 : hsA c N
  case neg =>
    obtain ⟨τ1, e1, m1, τ2, e2, i2⟩ := q_no (r := -2) (Or.inl rfl) hW hC hM
    refine ⟨-2, τ1, τ2, ?_, ?_, i2⟩
    · rw [xbd_s (h1_t c2 h1), if_neg one0, xbd_s (h1_f c2 h2), if_pos rfl, e1]
    · rw [xbd_s (iA_t (m1.1.1 0 (by omega)) h1), if_neg one0, xbd_s (iA_f (m1.1.1 0 (by omega)) h2), if_pos rfl, e2]
  obtain ⟨τ, g1, g2, g3, g4⟩ := m_lays hW.1 hM.1
  have r0 := hM.1.1 0 (by omega)
  have e1 := h1_t c2 h1
  have e2 := h1_t c2 h2
  have e3 := iA_t r0 h1
  have e4 := iA_t r0 h2
  obtain ⟨x, hx, rfl⟩ := (hs_of (by omega)).mp h1
  obtain ⟨y, hy, rfl⟩ := (hs_of (by omega)).mp h2
  refine ⟨oI (s_di N x y), σ, τ, ?_, ?_, q_yes hW hC hM (mf_146 g2) g4⟩
  · rw [xbd_s e1, if_neg one0, xbd_s e2, if_neg one0, xbd_s (f_dist (by omega) (by omega)), s_C_7 hC.1 x y hx hy]
  · have d := g3.2.2.2 x y hx hy
    have w : F_X11_way (nI x) (nI y) τ = some (oI (s_di N x y)) := by
      unfold F_X11_way
      simp (disch := omega) only [Nat.add_zero, Nat.zero_add, Nat.zero_mul, Nat.mul_zero, mc8, mc3, nU_f, nU_k, nU_e, xbd_some, xgd_true, xlet_eq, g_in, nI_clamp, nI_leI, nI_ltI, nI_eq, nI_add, pk_mul, pk_sub, rd_e, rd_k, rd_c, i10, i01, xsm_l, xsm_r, if_pos, if_neg, l_neg1, oI_e0, nI_e0, oI_nI, ne_eq, not_true_eq_false, not_false_eq_true, and_true, true_and, and_false, false_and, or_true, true_or, or_false, false_or, if_true, if_false, lit_0, lit_1, lit_2, lit_3, lit_4, lit_5, lit_6, lit_8, lit_9, lit_10, lit_12, lit_13, lit_21, lit_29, lit_30, lit_31, lit_37, lit_101, lit_120, lit_121, lit_127, lit_169, lit_64, lit_99, lit_999, lit_676, lit_845, lit_48, lit_57, lit_32, lit_59, d]
    rw [xbd_s e3, if_neg one0, xbd_s e4, if_neg one0, xbd_s g1, xbd_s w]
theorem p_seems (a c : Int32) {σ : xM} (h : Inv σ) : ∃ (r : Int32) (σ1 σ2 : xM), F_X10_seems a c σ = some (r, σ1) ∧ F_X11_seems a c σ1 = some (r, σ2) ∧ Inv σ2 := by
  obtain ⟨N, k, H, L, T, b, hW, hC, hM⟩ := h
  have c2 : σ 2 0 = nI (N 0 0) := (s_C_0 hC.1).1.1
  have c8 : σ 8 0 = nI (N 0 1) := (s_C_0 hC.1).1.2.1
  have hA := hW.1.1.1
  have hS := hW.1.1.2.1
  unfold F_X10_seems F_X11_seems
  by_cases h1 : hsA a N
  case neg =>
    obtain ⟨τ1, e1, m1, τ2, e2, i2⟩ := q_no (r := -2) (Or.inl rfl) hW hC hM
    refine ⟨-2, τ1, τ2, ?_, ?_, i2⟩
    · rw [xbd_s (h1_f c2 h1), if_pos rfl, e1]
    · rw [xbd_s (iA_f (m1.1.1 0 (by omega)) h1), if_pos rfl, e2]
  by_cases h2 : hsS c N
  case neg =>
    obtain ⟨τ1, e1, m1, τ2, e2, i2⟩ := q_no (r := -2) (Or.inl rfl) hW hC hM
    refine ⟨-2, τ1, τ2, ?_, ?_, i2⟩
    · rw [xbd_s (h1_t c2 h1), if_neg one0, xbd_s (h8_f c8 h2), if_pos rfl, e1]
    · rw [xbd_s (iA_t (m1.1.1 0 (by omega)) h1), if_neg one0, xbd_s (iS_f (m1.1.1 1 (by omega)) h2), if_pos rfl, e2]
  obtain ⟨τ, g1, g2, g3, g4⟩ := m_lays hW.1 hM.1
  have e1 := h1_t c2 h1
  have e2 := h8_t c8 h2
  have e3 := iA_t (hM.1.1 0 (by omega)) h1
  have e4 := iS_t (hM.1.1 1 (by omega)) h2
  obtain ⟨x, hx, rfl⟩ := (hs_of (by omega)).mp h1
  obtain ⟨y, hy, rfl⟩ := (hs_of (by omega)).mp h2
  refine ⟨oI (s_sm N (s_up N) (N 8) x y), σ, τ, ?_, ?_, q_yes hW hC hM (mf_146 g2) g4⟩
  · rw [xbd_s e1, if_neg one0, xbd_s e2, if_neg one0, xbd_s (f_pa hW.1 hC.1 hx hy)]
  · rw [xbd_s e3, if_neg one0, xbd_s e4, if_neg one0, xbd_s g1, xbd_s (w_seems hW.1 g3 hx hy)]
theorem p_of (a c : Int32) {σ : xM} (h : Inv σ) : ∃ (r : Int32) (σ1 σ2 : xM), F_X10_of a c σ = some (r, σ1) ∧ F_X11_of a c σ1 = some (r, σ2) ∧ Inv σ2 := by
  obtain ⟨N, k, H, L, T, b, hW, hC, hM⟩ := h
  have c2 : σ 2 0 = nI (N 0 0) := (s_C_0 hC.1).1.1
  have hA := hW.1.1.1
  unfold F_X10_of F_X11_of
  by_cases h1 : hsA a N
  case neg =>
    obtain ⟨τ1, e1, m1, τ2, e2, i2⟩ := q_no (r := -2) (Or.inl rfl) hW hC hM
    refine ⟨-2, τ1, τ2, ?_, ?_, i2⟩
    · rw [xbd_s (h1_f c2 h1), if_pos rfl, e1]
    · rw [xbd_s (iA_f (m1.1.1 0 (by omega)) h1), if_pos rfl, e2]
  by_cases h2 : 0 ≤ c ∧ c ≤ 5
  case neg =>
    obtain ⟨τ1, e1, m1, τ2, e2, i2⟩ := q_no (r := -2) (Or.inl rfl) hW hC hM
    refine ⟨-2, τ1, τ2, ?_, ?_, i2⟩
    · rw [xbd_s (h1_t c2 h1), if_neg one0, xbd_s (wi_f h2 σ), if_pos rfl, e1]
    · rw [xbd_s (iA_t (m1.1.1 0 (by omega)) h1), if_neg one0, xbd_s (if_0_5 h2 τ1), if_pos rfl, e2]
  have e1 := h1_t c2 h1
  have e3 := iA_t (hM.1.1 0 (by omega)) h1
  have e2 := wi_t h2 σ
  have e4 := it_0_5 h2 σ
  obtain ⟨x, hx, rfl⟩ := (hs_of (by omega)).mp h1
  obtain ⟨w, hw5, rfl⟩ := (rg_of (n := 5) rfl (by omega)).mp h2
  obtain ⟨τ, g1, g2, g3, g4⟩ := m_ofNow hW.1 hM.1 hx hw5
  refine ⟨v_area N x w, σ, τ, ?_, ?_, q_yes hW hC hM g4 g2⟩
  · rw [xbd_s e1, if_neg one0, xbd_s e2, if_neg one0, xbd_s (f_areaV hW.1 hC.1 hx hw5)]
  · rw [xbd_s e3, if_neg one0, xbd_s e4, if_neg one0, xbd_s g1]
theorem p_siteOf (a c : Int32) {σ : xM} (h : Inv σ) : ∃ (r : Int32) (σ1 σ2 : xM), F_X10_siteOf a c σ = some (r, σ1) ∧ F_X11_siteOf a c σ1 = some (r, σ2) ∧ Inv σ2 := by
  obtain ⟨N, k, H, L, T, b, hW, hC, hM⟩ := h
  have c8 : σ 8 0 = nI (N 0 1) := (s_C_0 hC.1).1.2.1
  have hS := hW.1.1.2.1
  unfold F_X10_siteOf F_X11_siteOf
  by_cases h1 : hsS a N
  case neg =>
    obtain ⟨τ1, e1, m1, τ2, e2, i2⟩ := q_no (r := -2) (Or.inl rfl) hW hC hM
    refine ⟨-2, τ1, τ2, ?_, ?_, i2⟩
    · rw [xbd_s (h8_f c8 h1), if_pos rfl, e1]
    · rw [xbd_s (iS_f (m1.1.1 1 (by omega)) h1), if_pos rfl, e2]
  by_cases h2 : 0 ≤ c ∧ c ≤ 9
  case neg =>
    obtain ⟨τ1, e1, m1, τ2, e2, i2⟩ := q_no (r := -2) (Or.inl rfl) hW hC hM
    refine ⟨-2, τ1, τ2, ?_, ?_, i2⟩
    · rw [xbd_s (h8_t c8 h1), if_neg one0, xbd_s (wi_f h2 σ), if_pos rfl, e1]
    · rw [xbd_s (iS_t (m1.1.1 1 (by omega)) h1), if_neg one0, xbd_s (if_0_9 h2 τ1), if_pos rfl, e2]
  have e1 := h8_t c8 h1
  have e2 := wi_t h2 σ
  obtain ⟨x, hx, e⟩ := (hs_of (by omega)).mp h1
  obtain ⟨w, hw9, e'⟩ := (rg_of (n := 9) rfl (by omega)).mp h2
  obtain ⟨τ1, a1, a2⟩ := f_siteV hW.1 hC.1 hx hw9
  have hM1 := lk_IM hM a2
  have e3 := iS_t (hM1.1.1 1 (by omega)) h1
  have e4 := it_0_9 h2 τ1
  obtain ⟨τ, g1, g2, g3⟩ := m_siteV hW.1 hM1.1 hx hw9
  subst e e'
  refine ⟨v_site N x w, τ1, τ, ?_, ?_, q_yes hW (lk_IC hC a2) hM1 g3 g2⟩
  · rw [xbd_s e1, if_neg one0, xbd_s e2, if_neg one0, xbd_s a1]
  · rw [xbd_s e3, if_neg one0, xbd_s e4, if_neg one0, xbd_s g1]
theorem p_session (a c : Int32) {σ : xM} (h : Inv σ) : ∃ (r : Int32) (σ1 σ2 : xM), F_X10_session a c σ = some (r, σ1) ∧ F_X11_session a c σ1 = some (r, σ2) ∧ Inv σ2 := by
  obtain ⟨N, k, H, L, T, b, hW, hC, hM⟩ := h
  have c14 : σ 14 0 = nI (N 0 2) := (s_C_0 hC.1).1.2.2.2.1
  have hT := hW.1.1.2.2.1
  have r2 := hM.1.1 2 (by omega)
  unfold F_X10_session F_X11_session
  by_cases h0 : a < 0
  · obtain ⟨τ1, e1, m1, τ2, e2, i2⟩ := q_no (r := -2) (Or.inl rfl) hW hC hM
    refine ⟨-2, τ1, τ2, ?_, ?_, i2⟩
    · rw [if_pos h0, e1]
    · rw [if_pos h0, e2]
  by_cases h2 : 0 ≤ c ∧ c ≤ 4
  case neg =>
    obtain ⟨τ1, e1, m1, τ2, e2, i2⟩ := q_no (r := -2) (Or.inl rfl) hW hC hM
    refine ⟨-2, τ1, τ2, ?_, ?_, i2⟩
    · rw [if_neg h0, xbd_s (wi_f h2 σ), if_pos rfl, e1]
    · rw [if_neg h0, xbd_s (if_0_4 h2 τ1), if_pos rfl, e2]
  rw [if_neg h0, xbd_s (wi_t h2 σ), if_neg one0]
  obtain ⟨i, hi, rfl⟩ := nI_of h0
  by_cases h3 : i < N 0 2
  · have h1 : hsT (nI i) N := (hs_of (by omega)).mpr ⟨i, h3, rfl⟩
    obtain ⟨w, hw4, e'⟩ := (rg_of (n := 4) rfl (by omega)).mp h2
    obtain ⟨τ, g1, g2, g3⟩ := m_sessV hW.1 hM.1 h3 hw4
    refine ⟨v_sess N i w, σ, τ, ?_, ?_, q_yes hW hC hM g3 g2⟩
    · rw [xbd_s (h7_t c14 h1), if_neg one0, e', xbd_s (f_sessV hW.1 hC.1 h3 hw4)]
    · rw [if_neg h0, xbd_s (it_0_4 h2 σ), if_neg one0, r2, if_neg (nI_ge h3 (by omega)), e', xbd_s g1]
  · have h1 : ¬ hsT (nI i) N := fun z => by
      obtain ⟨j, hj, e⟩ := (hs_of (by omega)).mp z
      rw [nI_eq (by omega) (by omega)] at e
      omega
    refine ⟨-1, σ, σ, ?_, ?_, N, k, H, L, T, b, hW, hC, hM⟩
    · rw [xbd_s (h7_f c14 h1), if_pos rfl]
    · rw [if_neg h0, xbd_s (it_0_4 h2 σ), if_neg one0, r2, if_pos (nI_le (by omega) (by omega))]
theorem IC_plan {σ τ : xM} {N : xN} {k : Nat} {H : Nat → xN} {L : Nat} {T : Nat → Nat} {b : Nat → Int32} (h : IC σ N k H L T b) (e : e132 σ τ) (e3 : τ 132 3 = nI 1) (hP : PK τ N) : IC τ N k H L T b := by
  obtain ⟨h1, ⟨m, h2⟩, h3, h4, h5⟩ := h
  exact ⟨C_blk (fun c a b => e c (by omega) (by omega) (by omega) (by omega)) h1, ⟨m, Ih_cg h2 (fun c a b => e c (by omega) (by omega) (by omega) (by omega))⟩, Ib_cg h3 (e 0 (by omega) (by omega) (by omega) (by omega)), It_cg h4 (e 137 (by omega) (by omega) (by omega) (by omega)) (e 138 (by omega) (by omega) (by omega) (by omega)), Or.inr ⟨e3, hP⟩⟩
theorem p_plan (a : Int32) {σ : xM} (h : Inv σ) : ∃ (r : Int32) (σ1 σ2 : xM), F_X10_plan a σ = some (r, σ1) ∧ F_X11_plan a σ1 = some (r, σ2) ∧ Inv σ2 := by
  obtain ⟨N, k, H, L, T, b, hW, hC, hM⟩ := h
  have c8 : σ 8 0 = nI (N 0 1) := (s_C_0 hC.1).1.2.1
  have hS := hW.1.1.2.1
  obtain ⟨τ, g1, g2, g3, g4⟩ := f_best hW.1 hW.2.1 hC.1 hC.2.2.2.2
  have hC1 := IC_plan hC g2 g3 g4
  have hM1 : IM τ N k H L T b := IM_lo hM (fun c hc => g2 c (by omega) (by omega) (by omega) (by omega))
  obtain ⟨r, υ, m1, m2, m3, m4⟩ := m_plan hW.1 hM1.1
  have hI : Inv υ := q_yes hW hC1 hM1 m3 m2
  have same : (τ 132 4 = oI 0 ∧ r = oI 0) ∨ ∃ (v : Nat) (st : Nat → Nat), τ 132 4 = nI v ∧ r = nI v ∧ v ≤ 20 ∧ (∀ s, s < N 0 1 → τ 133 s = nI (st s)) ∧ ∀ s, s < N 0 1 → υ 149 s = nI (st s) := by
    rcases g4 with ⟨x1, x2⟩ | ⟨v, st, x1, x2, x3, x4⟩
    · rcases m4 with ⟨y1, y2⟩ | ⟨w, st', y1, y2, y3, y4⟩
      · exact Or.inl ⟨x1, y1⟩
      · exact absurd y3.1 (x2 st')
    · rcases m4 with ⟨y1, y2⟩ | ⟨w, st', y1, y2, y3, y4⟩
      · exact absurd x3.1 (y2 st)
      · obtain ⟨e, es⟩ := p_b_un x3 y3
        subst e
        exact Or.inr ⟨v, st, x1, y1, x2, x4, fun s hs => by rw [es s hs]; exact y4 s hs⟩
  unfold F_X10_plan F_X11_plan
  by_cases ha : a = -1
  · rw [if_pos ha, xbd_s g1]
    rcases same with ⟨s1, s2⟩ | ⟨v, st, s1, s2, s3, s4, s5⟩
    · refine ⟨oI 0, τ, υ, ?_, ?_, hI⟩
      · rw [s1, if_pos oI_0]
      · rw [if_pos ha, xbd_s m1, if_pos ha, s2]
    · refine ⟨nI v, τ, υ, ?_, ?_, hI⟩
      · rw [s1, if_neg (nI_m1 (by omega)), if_pos ha]
      · rw [if_pos ha, xbd_s m1, if_pos ha, s2]
  rw [if_neg ha]
  by_cases h1 : hsS a N
  case neg =>
    obtain ⟨τ1, e1, n1, τ2, e2, i2⟩ := q_no (r := -2) (Or.inl rfl) hW hC hM
    refine ⟨-2, τ1, τ2, ?_, ?_, i2⟩
    · rw [xbd_s (h8_f c8 h1), if_pos rfl, e1]
    · rw [if_neg ha, xbd_s (iS_f (n1.1.1 1 (by omega)) h1), if_pos rfl, e2]
  rw [xbd_s (h8_t c8 h1), if_neg one0, xbd_s g1]
  have e3 := iS_t (hM1.1.1 1 (by omega)) h1
  obtain ⟨x, hx, rfl⟩ := (hs_of (by omega)).mp h1
  rcases same with ⟨s1, s2⟩ | ⟨v, st, s1, s2, s3, s4, s5⟩
  · refine ⟨oI 0, τ, υ, ?_, ?_, hI⟩
    · rw [s1, if_pos oI_0]
    · rw [if_neg ha, xbd_s e3, if_neg one0, xbd_s m1, if_neg ha, s2, if_pos oI_0]
  · have t1 := s4 x hx
    have t2 := s5 x hx
    refine ⟨nI (st x), τ, υ, ?_, ?_, hI⟩
    · have so : F_X5_stepOf (nI x) τ = some (nI (st x)) := by
        unfold F_X5_stepOf
        simp (disch := omega) only [Nat.add_zero, Nat.zero_add, Nat.zero_mul, Nat.mul_zero, mc8, mc3, nU_f, nU_k, nU_e, xbd_some, xgd_true, xlet_eq, g_in, nI_clamp, nI_leI, nI_ltI, nI_eq, nI_add, pk_mul, pk_sub, rd_e, rd_k, rd_c, i10, i01, xsm_l, xsm_r, if_pos, if_neg, l_neg1, oI_e0, nI_e0, oI_nI, ne_eq, not_true_eq_false, not_false_eq_true, and_true, true_and, and_false, false_and, or_true, true_or, or_false, false_or, if_true, if_false, lit_0, lit_1, lit_2, lit_3, lit_4, lit_5, lit_6, lit_8, lit_9, lit_10, lit_12, lit_13, lit_21, lit_29, lit_30, lit_31, lit_37, lit_101, lit_120, lit_121, lit_127, lit_169, lit_64, lit_99, lit_999, lit_676, lit_845, lit_48, lit_57, lit_32, lit_59, t1]
      rw [s1, if_neg (nI_m1 (by omega)), if_neg ha, xbd_s so]
    · rw [if_neg ha, xbd_s e3, if_neg one0, xbd_s m1, if_neg ha, s2, if_neg (nI_m1 (by omega)), xgd_t (xin_nI (show x < 5 by omega) (by omega)), nI_clamp (by omega)]
      dsimp only
      rw [t2]
