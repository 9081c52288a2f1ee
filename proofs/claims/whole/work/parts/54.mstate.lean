def mdN (N : xN) (md : Nat → Nat) : xN := fun f k => if f = 9 then md k else if f = 0 then (if k = 7 then 0 else N 0 k) else N f k
theorem mdN_f {N : xN} {md : Nat → Nat} {f : Nat} (h : f ≠ 9) (h0 : f ≠ 0) : mdN N md f = N f := by funext k; simp [mdN, h, h0]
theorem mdN_9 {N : xN} {md : Nat → Nat} : mdN N md 9 = md := by funext k; simp [mdN]
theorem mdN_0 {N : xN} {md : Nat → Nat} {k : Nat} (h : k ≠ 7) : mdN N md 0 k = N 0 k := by simp [mdN, h]
theorem mdN_7 {N : xN} {md : Nat → Nat} : mdN N md 0 7 = 0 := by simp [mdN]
theorem mdN_wf {N : xN} {md : Nat → Nat} (hw : s_wf N) (h : ∀ s, s < N 0 1 → md s ≤ 2) : s_wf (mdN N md) := by
  obtain ⟨⟨hA, hS, hT, hQ⟩, w2, w5, w0, w6, w10, w1, w1d⟩ := hw
  unfold s_wf
  rw [mdN_0 (by omega), mdN_0 (by omega), mdN_0 (by omega), mdN_7, mdN_f (by omega) (by omega), mdN_f (by omega) (by omega), mdN_f (by omega) (by omega), mdN_f (by omega) (by omega), mdN_f (by omega) (by omega), mdN_f (by omega) (by omega), mdN_f (by omega) (by omega), mdN_9, mdN_f (by omega) (by omega), mdN_f (by omega) (by omega), mdN_f (by omega) (by omega), mdN_f (by omega) (by omega), mdN_f (by omega) (by omega)]
  exact ⟨⟨hA, hS, hT, by omega⟩, w2, w5, w0, fun s hs => ⟨(w6 s hs).1, (w6 s hs).2.1, (w6 s hs).2.2.1, h s hs⟩, w10, fun i hi => absurd hi (by omega), fun i j hi => absurd hi (by omega)⟩
theorem mdN_ag {N : xN} {md : Nat → Nat} : s_ag N (mdN N md) := ⟨⟨mdN_0 (by omega), mdN_0 (by omega), mdN_0 (by omega)⟩, mdN_f (by omega) (by omega), mdN_f (by omega) (by omega), mdN_f (by omega) (by omega), mdN_f (by omega) (by omega), mdN_f (by omega) (by omega), mdN_f (by omega) (by omega), mdN_f (by omega) (by omega), mdN_f (by omega) (by omega), mdN_f (by omega) (by omega)⟩
theorem mdN_au {N : xN} {md : Nat → Nat} {u : Nat} (hu : ∀ t, t < N 0 1 → u.testBit t = !decide (md t = 2)) : s_au (N 0 1) u (s_up (mdN N md)) (N 8) (mdN N md 8) := by
  intro s hs
  have e : (s_up (mdN N md)).testBit s = !decide (mdN N md 9 s = 2) := s_up_bit (by rw [mdN_0 (by omega)]; exact hs)
  rw [e, mdN_9, mdN_f (by omega) (by omega)]
  exact ⟨(hu s hs).symm, fun _ => rfl⟩
theorem mdN_om {N : xN} {md : Nat → Nat} {u : Nat} (hw : s_wf N) (hu : ∀ t, t < N 0 1 → u.testBit t = !decide (md t = 2)) : s_om (mdN N md) (s_up (mdN N md)) (mdN N md 8) = s_om N u (N 8) := s_om_cg mdN_ag hw (mdN_au hu)
def m_D (σ τ : xM) (N : xN) (md : Nat → Nat) : Prop := (∀ j, (∀ s, s < N 0 1 → j ≠ 101 + 4 * s + 3) → τ 142 j = σ 142 j) ∧ ∀ s, s < N 0 1 → τ 142 (101 + 4 * s + 3) = nI (md s)
theorem D_rf {σ : xM} {N : xN} (h : s_M (σ 142) N) : m_D σ σ N (N 9) := ⟨fun _ _ => rfl, fun s hs => (h.2.2.2.2.1 s hs).2.2.2⟩
theorem D_cg {σ τ υ : xM} {N : xN} {md : Nat → Nat} (e : υ 142 = τ 142) (h : m_D σ τ N md) : m_D σ υ N md := by
  unfold m_D at h ⊢
  rw [e]
  exact h
theorem D_W {σ τ : xM} {N : xN} {md : Nat → Nat} (b : s_bd N) (h : s_M (σ 142) N) (hMw : s_Mw σ N) (e : τ 146 = σ 146) (hD : m_D σ τ N md) : m_W τ (mdN N md) ∧ m_S τ (mdN N md) := by
  obtain ⟨hA, hS, hT, hQ⟩ := b
  obtain ⟨r0, rQ, rA, rL, rS, rT⟩ := h
  obtain ⟨d1, d2⟩ := hD
  have q : s_Mw τ (mdN N md) := Mw_cg (mdN_f (by omega) (by omega)) (mdN_0 (by omega)) e hMw
  unfold m_W m_S
  rw [mdN_0 (by omega), mdN_0 (by omega), mdN_0 (by omega), mdN_f (by omega) (by omega), mdN_f (by omega) (by omega), mdN_f (by omega) (by omega), mdN_f (by omega) (by omega), mdN_f (by omega) (by omega), mdN_f (by omega) (by omega), mdN_9, mdN_f (by omega) (by omega), mdN_f (by omega) (by omega), mdN_f (by omega) (by omega), mdN_f (by omega) (by omega)]
  refine ⟨⟨⟨?_, ?_⟩, fun a ha => ?_, fun s hs => ?_, q⟩, ?_, fun i hi => ?_⟩
  · rw [d1 0 (fun s hs => by omega)]; exact r0 0 (by omega)
  · rw [d1 1 (fun s hs => by omega)]; exact r0 1 (by omega)
  · rw [d1 _ (fun s hs => by omega), d1 _ (fun s hs => by omega), d1 _ (fun s hs => by omega)]; exact rA a ha
  · obtain ⟨x1, x2, x3, x4⟩ := rS s hs
    rw [d1 _ (fun s hs => by omega), d1 _ (fun s hs => by omega), d1 _ (fun s hs => by omega)]
    exact ⟨x1, x2, x3, d2 s hs⟩
  · rw [d1 2 (fun s hs => by omega)]; exact r0 2 (by omega)
  · rw [d1 _ (fun s hs => by omega), d1 _ (fun s hs => by omega), d1 _ (fun s hs => by omega), d1 _ (fun s hs => by omega)]; exact rT i hi
theorem D_put {σ τ : xM} {N : xN} {md : Nat → Nat} {s v : Nat} (h : m_D σ τ N md) (hs : s < N 0 1) : m_D σ (xup τ 142 (101 + 4 * s + 3) (nI v)) N (tS md s v) := by
  refine ⟨fun j hj => ?_, fun t ht => ?_⟩
  · rw [rd_k (hj s hs)]
    exact h.1 j hj
  · by_cases e : t = s
    · rw [rd_e (by omega), tS_e e]
    · rw [rd_k (by omega), tS_n e]
      exact h.2 t ht
theorem D_end {σ τ : xM} {N : xN} {md : Nat → Nat} (h : m_D σ τ N md) (e : ∀ s, s < N 0 1 → md s = N 9 s) (hM : s_M (σ 142) N) : τ 142 = σ 142 := by
  funext j
  by_cases c : ∀ s, s < N 0 1 → j ≠ 101 + 4 * s + 3
  · exact h.1 j c
  · obtain ⟨s, hs⟩ : ∃ s, s < N 0 1 ∧ j = 101 + 4 * s + 3 := by
      apply Classical.byContradiction
      intro hn
      exact c (fun s hs e => hn ⟨s, hs, e⟩)
    rw [hs.2, h.2 s hs.1, e s hs.1, (hM.2.2.2.2.1 s hs.1).2.2.2]
theorem D_state {σ τ : xM} {N : xN} {md : Nat → Nat} {s : Nat} (hS : N 0 1 ≤ 5) (h : m_D σ τ N md) (hs : s < N 0 1) : F_X11_stateOf (nI s) τ = some (nI (md s)) := by
  have x4 := h.2 s hs
  unfold F_X11_stateOf
  simp (disch := omega) only [Nat.add_zero, Nat.zero_add, Nat.zero_mul, Nat.mul_zero, mc8, mc3, nU_f, nU_k, nU_e, xbd_some, xgd_true, xlet_eq, g_in, nI_clamp, nI_leI, nI_ltI, nI_eq, nI_add, pk_mul, pk_sub, rd_e, rd_k, rd_c, i10, i01, xsm_l, xsm_r, if_pos, if_neg, l_neg1, oI_e0, nI_e0, oI_nI, ne_eq, not_true_eq_false, not_false_eq_true, and_true, true_and, and_false, false_and, or_true, true_or, or_false, false_or, if_true, if_false, lit_0, lit_1, lit_2, lit_3, lit_4, lit_5, lit_6, lit_8, lit_9, lit_10, lit_12, lit_13, lit_21, lit_29, lit_30, lit_31, lit_37, lit_101, lit_120, lit_121, lit_127, lit_169, lit_64, lit_99, lit_999, lit_676, lit_845, lit_48, lit_57, lit_32, lit_59, x4]
/-- over, with some sites thought off -/
theorem D_over {σ τ : xM} {N : xN} {md : Nat → Nat} {u : Nat} (hw : s_wf N) (h : s_M (σ 142) N) (hMw : s_Mw σ N) (e : τ 146 = σ 146) (hD : m_D σ τ N md) (h2 : ∀ s, s < N 0 1 → md s ≤ 2) (hu : ∀ t, t < N 0 1 → u.testBit t = !decide (md t = 2)) : ∃ υ, F_X11_over τ = some (nI (s_om N u (N 8)), υ) ∧ e147 τ υ := by
  obtain ⟨k1, k2⟩ := D_W hw.1 h hMw e hD
  obtain ⟨υ, g1, g2, g3⟩ := w_over (mdN_wf hw h2) k1 k2
  rw [mdN_om hw hu] at g1
  exact ⟨υ, g1, g2⟩
theorem m_without {σ : xM} {N : xN} {s : Nat} (hw : s_wf N) (h : s_M (σ 142) N) (hMw : s_Mw σ N) (hs : s < N 0 1) : ∃ υ, F_X11_overWithout (nI s) σ = some (nI (s_om N (dif (s_up N) (2 ^ s)) (N 8)), υ) ∧ s_M (υ 142) N ∧ (∀ c, c ≠ 142 → c ≠ 147 → υ c = σ c) := by
  have hS := hw.1.2.1
  have st := M_state hS h hs
  have hD1 := D_put (v := 2) (D_rf h) hs
  have b9 := fun t ht => (hw.2.2.2.2.1 t ht).2.2.2
  obtain ⟨τ, g1, g2⟩ := D_over (u := dif (s_up N) (2 ^ s)) hw h hMw (by simp (disch := omega) only [Nat.add_zero, Nat.zero_add, Nat.zero_mul, Nat.mul_zero, mc8, mc3, nU_f, nU_k, nU_e, xbd_some, xgd_true, xlet_eq, g_in, nI_clamp, nI_leI, nI_ltI, nI_eq, nI_add, pk_mul, pk_sub, rd_e, rd_k, rd_c, i10, i01, xsm_l, xsm_r, if_pos, if_neg, l_neg1, oI_e0, nI_e0, oI_nI, ne_eq, not_true_eq_false, not_false_eq_true, and_true, true_and, and_false, false_and, or_true, true_or, or_false, false_or, if_true, if_false, lit_0, lit_1, lit_2, lit_3, lit_4, lit_5, lit_6, lit_8, lit_9, lit_10, lit_12, lit_13, lit_21, lit_29, lit_30, lit_31, lit_37, lit_101, lit_120, lit_121, lit_127, lit_169, lit_64, lit_99, lit_999, lit_676, lit_845, lit_48, lit_57, lit_32, lit_59]) hD1 (fun t ht => by
    by_cases e : t = s
    · rw [tS_e e]; omega
    · rw [tS_n e]; exact b9 t ht) (fun t ht => by
    rw [dif_bit (p2_lt (by omega)) (by omega), s_up_bit ht, p2_bit]
    by_cases e : t = s
    · subst e
      rw [tS_e rfl]
      simp
    · rw [tS_n e]
      have : decide (s = t) = false := by simp; omega
      rw [this]
      simp)
  have hD2 : m_D σ τ N (tS (N 9) s 2) := D_cg (g2 142 (by omega)) hD1
  have hD3 := D_put (v := N 9 s) hD2 hs
  have e142 := D_end hD3 (fun t ht => by
    by_cases e : t = s
    · rw [tS_e e, e]
    · rw [tS_n e, tS_n e]) h
  have hM3 : s_M (xup τ 142 (101 + 4 * s + 3) (nI (N 9 s)) 142) N := by rw [e142]; exact h
  obtain ⟨υ, k1, k2, k3⟩ := w_catches hw (M_W hM3 (Mw_cg rfl rfl (by simp (disch := omega) only [Nat.add_zero, Nat.zero_add, Nat.zero_mul, Nat.mul_zero, mc8, mc3, nU_f, nU_k, nU_e, xbd_some, xgd_true, xlet_eq, g_in, nI_clamp, nI_leI, nI_ltI, nI_eq, nI_add, pk_mul, pk_sub, rd_e, rd_k, rd_c, i10, i01, xsm_l, xsm_r, if_pos, if_neg, l_neg1, oI_e0, nI_e0, oI_nI, ne_eq, not_true_eq_false, not_false_eq_true, and_true, true_and, and_false, false_and, or_true, true_or, or_false, false_or, if_true, if_false, lit_0, lit_1, lit_2, lit_3, lit_4, lit_5, lit_6, lit_8, lit_9, lit_10, lit_12, lit_13, lit_21, lit_29, lit_30, lit_31, lit_37, lit_101, lit_120, lit_121, lit_127, lit_169, lit_64, lit_99, lit_999, lit_676, lit_845, lit_48, lit_57, lit_32, lit_59]; rw [g2 146 (by omega)]; simp (disch := omega) only [Nat.add_zero, Nat.zero_add, Nat.zero_mul, Nat.mul_zero, mc8, mc3, nU_f, nU_k, nU_e, xbd_some, xgd_true, xlet_eq, g_in, nI_clamp, nI_leI, nI_ltI, nI_eq, nI_add, pk_mul, pk_sub, rd_e, rd_k, rd_c, i10, i01, xsm_l, xsm_r, if_pos, if_neg, l_neg1, oI_e0, nI_e0, oI_nI, ne_eq, not_true_eq_false, not_false_eq_true, and_true, true_and, and_false, false_and, or_true, true_or, or_false, false_or, if_true, if_false, lit_0, lit_1, lit_2, lit_3, lit_4, lit_5, lit_6, lit_8, lit_9, lit_10, lit_12, lit_13, lit_21, lit_29, lit_30, lit_31, lit_37, lit_101, lit_120, lit_121, lit_127, lit_169, lit_64, lit_99, lit_999, lit_676, lit_845, lit_48, lit_57, lit_32, lit_59]) hMw))
  refine ⟨υ, ?_, by rw [k2 142 (by omega)]; exact hM3, fun c a b => ?_⟩
  · unfold F_X11_overWithout
    simp (disch := omega) only [Nat.add_zero, Nat.zero_add, Nat.zero_mul, Nat.mul_zero, mc8, mc3, nU_f, nU_k, nU_e, xbd_some, xgd_true, xlet_eq, g_in, nI_clamp, nI_leI, nI_ltI, nI_eq, nI_add, pk_mul, pk_sub, rd_e, rd_k, rd_c, i10, i01, xsm_l, xsm_r, if_pos, if_neg, l_neg1, oI_e0, nI_e0, oI_nI, ne_eq, not_true_eq_false, not_false_eq_true, and_true, true_and, and_false, false_and, or_true, true_or, or_false, false_or, if_true, if_false, lit_0, lit_1, lit_2, lit_3, lit_4, lit_5, lit_6, lit_8, lit_9, lit_10, lit_12, lit_13, lit_21, lit_29, lit_30, lit_31, lit_37, lit_101, lit_120, lit_121, lit_127, lit_169, lit_64, lit_99, lit_999, lit_676, lit_845, lit_48, lit_57, lit_32, lit_59, st, puts_state, g1, k1]
  · rw [k2 c b]
    simp (disch := omega) only [Nat.add_zero, Nat.zero_add, Nat.zero_mul, Nat.mul_zero, mc8, mc3, nU_f, nU_k, nU_e, xbd_some, xgd_true, xlet_eq, g_in, nI_clamp, nI_leI, nI_ltI, nI_eq, nI_add, pk_mul, pk_sub, rd_e, rd_k, rd_c, i10, i01, xsm_l, xsm_r, if_pos, if_neg, l_neg1, oI_e0, nI_e0, oI_nI, ne_eq, not_true_eq_false, not_false_eq_true, and_true, true_and, and_false, false_and, or_true, true_or, or_false, false_or, if_true, if_false, lit_0, lit_1, lit_2, lit_3, lit_4, lit_5, lit_6, lit_8, lit_9, lit_10, lit_12, lit_13, lit_21, lit_29, lit_30, lit_31, lit_37, lit_101, lit_120, lit_121, lit_127, lit_169, lit_64, lit_99, lit_999, lit_676, lit_845, lit_48, lit_57, lit_32, lit_59]
    rw [g2 c b]
    simp (disch := omega) only [Nat.add_zero, Nat.zero_add, Nat.zero_mul, Nat.mul_zero, mc8, mc3, nU_f, nU_k, nU_e, xbd_some, xgd_true, xlet_eq, g_in, nI_clamp, nI_leI, nI_ltI, nI_eq, nI_add, pk_mul, pk_sub, rd_e, rd_k, rd_c, i10, i01, xsm_l, xsm_r, if_pos, if_neg, l_neg1, oI_e0, nI_e0, oI_nI, ne_eq, not_true_eq_false, not_false_eq_true, and_true, true_and, and_false, false_and, or_true, true_or, or_false, false_or, if_true, if_false, lit_0, lit_1, lit_2, lit_3, lit_4, lit_5, lit_6, lit_8, lit_9, lit_10, lit_12, lit_13, lit_21, lit_29, lit_30, lit_31, lit_37, lit_101, lit_120, lit_121, lit_127, lit_169, lit_64, lit_99, lit_999, lit_676, lit_845, lit_48, lit_57, lit_32, lit_59]
