def gg (g : Nat) (q : Nat → Nat) : Nat → Nat
  | 0 => g
  | k + 1 => gg g q k ||| 2 ^ q k
theorem gg_sh (g : Nat) (q : Nat → Nat) : ∀ k, gg g q (k + 1) = gg (g ||| 2 ^ q 0) (fun i => q (i + 1)) k
  | 0 => rfl
  | k + 1 => by
    show gg g q (k + 1) ||| 2 ^ q (k + 1) = gg (g ||| 2 ^ q 0) (fun i => q (i + 1)) k ||| 2 ^ q (k + 1)
    rw [gg_sh g q k]
theorem wk_iff {N : xN} : ∀ (d g : Nat) (q : Nat → Nat), wk N d g q ↔ ∀ k, k < d → calm N (gg g q (k + 1))
  | 0, _, _ => ⟨fun _ k hk => absurd hk (by omega), fun _ => trivial⟩
  | d + 1, g, q => by
    have ih := wk_iff (N := N) d (g ||| 2 ^ q 0) (fun i => q (i + 1))
    constructor
    · intro ⟨h1, h2⟩ k hk
      cases k with
      | zero => exact h1
      | succ k =>
        rw [gg_sh]
        exact ih.mp h2 k (by omega)
    · intro h
      refine ⟨h 0 (by omega), ih.mpr (fun k hk => ?_)⟩
      rw [← gg_sh]
      exact h (k + 1) (by omega)
theorem wp_at {set : Nat} : ∀ (d g : Nat) (q : Nat → Nat), wp set d g q → ∀ k, k < d → q k < 5 ∧ (dif set (gg g q k)).testBit (q k) = true
  | 0, _, _, _, k, hk => by omega
  | d + 1, g, q, h, k, hk => by
    cases k with
    | zero => exact ⟨h.1, h.2.1⟩
    | succ k =>
      have := wp_at d _ _ h.2.2 k (by omega)
      rw [gg_sh]
      exact this
theorem gg_lt {q : Nat → Nat} : ∀ {k : Nat}, (∀ i, i < k → q i < 5) → gg 0 q k < 32
  | 0, _ => by show 0 < 32; omega
  | k + 1, h => by
    have ih := gg_lt (k := k) (fun i hi => h i (by omega))
    have c : ∀ g, g < 32 → ∀ s, s < 5 → g ||| 2 ^ s < 32 := by decide +kernel
    exact c _ ih _ (h k (by omega))
theorem gg_bit {q : Nat → Nat} (k t : Nat) : (gg 0 q (k + 1)).testBit t = ((gg 0 q k).testBit t || decide (q k = t)) := by
  show (gg 0 q k ||| 2 ^ q k).testBit t = _
  rw [Nat.testBit_or, p2_bit]
theorem wp_set {set : Nat} (h32 : set < 32) {d : Nat} {q : Nat → Nat} (h : wp set d 0 q) {k : Nat} (hk : k < d) : q k < 5 ∧ set.testBit (q k) = true := by
  obtain ⟨a, b⟩ := wp_at d 0 q h k hk
  rw [dif_bit (gg_lt (fun i hi => (wp_at d 0 q h i (by omega)).1)) a] at b
  simp at b
  exact ⟨a, b.1⟩
theorem D_md {σ τ : xM} {N : xN} {md md' : Nat → Nat} (h : m_D σ τ N md) (e : ∀ s, s < N 0 1 → md s = md' s) : m_D σ τ N md' := ⟨h.1, fun s hs => by rw [← e s hs]; exact h.2 s hs⟩
theorem m_may {σ : xM} {N : xN} {set m : Nat} {q : Nat → Nat} (hw : s_wf N) (h : s_M (σ 142) N) (hMw : s_Mw σ N) (h32 : set < 32) (hon : ∀ s, s < 5 → set.testBit s = true → s < N 0 1 ∧ N 9 s ≠ 2) (hm : m ≤ 5) (hq : wp set m 0 q) (h151 : ∀ i, i < m → σ 151 i = nI (q i)) : ∃ r τ, F_X11_mayGo (nI m) σ = some (r, τ) ∧ τ 142 = σ 142 ∧ (∀ c, c ≠ 142 → c ≠ 147 → c ≠ 152 → τ c = σ c) ∧ ((r = nI 1 ∧ wk N m 0 q) ∨ (r = nI 0 ∧ ¬ wk N m 0 q)) := by
  have hS := hw.1.2.1
  have b9 := fun t ht => (hw.2.2.2.2.1 t ht).2.2.2
  have hu := s_up_lt5 hS
  have qk : ∀ k, k < m → q k < 5 ∧ q k < N 0 1 ∧ N 9 (q k) ≠ 2 := fun k hk => by
    obtain ⟨a, b⟩ := wp_set h32 hq hk
    exact ⟨a, hon _ a b⟩
  -- the states are laid beside
  have hL1 : ∃ τ, L_X11_mayGo_4 (nI m) (nI 1) (nI 0) σ = some τ ∧ (∀ c, c ≠ 152 → τ c = σ c) ∧ ∀ i, i < m → τ 152 i = nI (N 9 (q i)) := by
    unfold L_X11_mayGo_4
    refine xloop_for (f := fun x : Int32 × xM => B_X11_mayGo_4 (nI m) (nI 1) x.1 x.2) (fun k x => x.1 = nI k ∧ (∀ c, c ≠ 152 → x.2 c = σ c) ∧ ∀ i, i < k → x.2 152 i = nI (N 9 (q i))) (fun τ => (∀ c, c ≠ 152 → τ c = σ c) ∧ ∀ i, i < m → τ 152 i = nI (N 9 (q i))) m ?_ ?_ 6000 0 (nI 0, σ) (by omega) (by omega) ⟨rfl, fun _ _ => rfl, fun i hi => absurd hi (by omega)⟩
    · intro k ⟨v, τ⟩ hk ⟨h1, h2, h3⟩
      dsimp only at h1 h2 h3 ⊢
      subst h1
      left
      have t1 : τ 151 k = nI (q k) := by rw [h2 151 (by omega), h151 k hk]
      have st := M_state hS (M_cg (h2 142 (by omega)) h) (qk k hk).2.1
      unfold B_X11_mayGo_4
      simp (disch := omega) only [Nat.add_zero, Nat.zero_add, Nat.zero_mul, Nat.mul_zero, mc8, mc3, nU_f, nU_k, nU_e, xbd_some, xgd_true, xlet_eq, g_in, nI_clamp, nI_leI, nI_ltI, nI_eq, nI_add, pk_mul, pk_sub, rd_e, rd_k, rd_c, i10, i01, xsm_l, xsm_r, if_pos, if_neg, l_neg1, oI_e0, nI_e0, oI_nI, ne_eq, not_true_eq_false, not_false_eq_true, and_true, true_and, and_false, false_and, or_true, true_or, or_false, false_or, if_true, if_false, lit_0, lit_1, lit_2, lit_3, lit_4, lit_5, lit_6, lit_8, lit_9, lit_10, lit_12, lit_13, lit_21, lit_29, lit_30, lit_31, lit_37, lit_101, lit_120, lit_121, lit_127, lit_169, lit_64, lit_99, lit_999, lit_676, lit_845, lit_48, lit_57, lit_32, lit_59, t1, st]
      refine ⟨_, rfl, rfl, fun c hc => by simp (disch := omega) only [Nat.add_zero, Nat.zero_add, Nat.zero_mul, Nat.mul_zero, mc8, mc3, nU_f, nU_k, nU_e, xbd_some, xgd_true, xlet_eq, g_in, nI_clamp, nI_leI, nI_ltI, nI_eq, nI_add, pk_mul, pk_sub, rd_e, rd_k, rd_c, i10, i01, xsm_l, xsm_r, if_pos, if_neg, l_neg1, oI_e0, nI_e0, oI_nI, ne_eq, not_true_eq_false, not_false_eq_true, and_true, true_and, and_false, false_and, or_true, true_or, or_false, false_or, if_true, if_false, lit_0, lit_1, lit_2, lit_3, lit_4, lit_5, lit_6, lit_8, lit_9, lit_10, lit_12, lit_13, lit_21, lit_29, lit_30, lit_31, lit_37, lit_101, lit_120, lit_121, lit_127, lit_169, lit_64, lit_99, lit_999, lit_676, lit_845, lit_48, lit_57, lit_32, lit_59]; exact h2 c hc, fun i hi => ?_⟩
      by_cases e : i = k
      · subst e; simp (disch := omega) only [Nat.add_zero, Nat.zero_add, Nat.zero_mul, Nat.mul_zero, mc8, mc3, nU_f, nU_k, nU_e, xbd_some, xgd_true, xlet_eq, g_in, nI_clamp, nI_leI, nI_ltI, nI_eq, nI_add, pk_mul, pk_sub, rd_e, rd_k, rd_c, i10, i01, xsm_l, xsm_r, if_pos, if_neg, l_neg1, oI_e0, nI_e0, oI_nI, ne_eq, not_true_eq_false, not_false_eq_true, and_true, true_and, and_false, false_and, or_true, true_or, or_false, false_or, if_true, if_false, lit_0, lit_1, lit_2, lit_3, lit_4, lit_5, lit_6, lit_8, lit_9, lit_10, lit_12, lit_13, lit_21, lit_29, lit_30, lit_31, lit_37, lit_101, lit_120, lit_121, lit_127, lit_169, lit_64, lit_99, lit_999, lit_676, lit_845, lit_48, lit_57, lit_32, lit_59]
      · simp (disch := omega) only [Nat.add_zero, Nat.zero_add, Nat.zero_mul, Nat.mul_zero, mc8, mc3, nU_f, nU_k, nU_e, xbd_some, xgd_true, xlet_eq, g_in, nI_clamp, nI_leI, nI_ltI, nI_eq, nI_add, pk_mul, pk_sub, rd_e, rd_k, rd_c, i10, i01, xsm_l, xsm_r, if_pos, if_neg, l_neg1, oI_e0, nI_e0, oI_nI, ne_eq, not_true_eq_false, not_false_eq_true, and_true, true_and, and_false, false_and, or_true, true_or, or_false, false_or, if_true, if_false, lit_0, lit_1, lit_2, lit_3, lit_4, lit_5, lit_6, lit_8, lit_9, lit_10, lit_12, lit_13, lit_21, lit_29, lit_30, lit_31, lit_37, lit_101, lit_120, lit_121, lit_127, lit_169, lit_64, lit_99, lit_999, lit_676, lit_845, lit_48, lit_57, lit_32, lit_59]
        exact h3 i (by omega)
    · intro ⟨v, τ⟩ ⟨h1, h2, h3⟩
      dsimp only at h1 h2 h3 ⊢
      subst h1
      unfold B_X11_mayGo_4
      simp (disch := omega) only [Nat.add_zero, Nat.zero_add, Nat.zero_mul, Nat.mul_zero, mc8, mc3, nU_f, nU_k, nU_e, xbd_some, xgd_true, xlet_eq, g_in, nI_clamp, nI_leI, nI_ltI, nI_eq, nI_add, pk_mul, pk_sub, rd_e, rd_k, rd_c, i10, i01, xsm_l, xsm_r, if_pos, if_neg, l_neg1, oI_e0, nI_e0, oI_nI, ne_eq, not_true_eq_false, not_false_eq_true, and_true, true_and, and_false, false_and, or_true, true_or, or_false, false_or, if_true, if_false, lit_0, lit_1, lit_2, lit_3, lit_4, lit_5, lit_6, lit_8, lit_9, lit_10, lit_12, lit_13, lit_21, lit_29, lit_30, lit_31, lit_37, lit_101, lit_120, lit_121, lit_127, lit_169, lit_64, lit_99, lit_999, lit_676, lit_845, lit_48, lit_57, lit_32, lit_59]
      exact ⟨_, rfl, h2, h3⟩
  obtain ⟨τ1, a1, a2, a3⟩ := hL1
  -- one after the other
  have hL2 : ∃ e, L_X11_mayGo_21 (nI m) (nI 1) (nI 0) τ1 = some e ∧ (∀ c, c ≠ 142 → c ≠ 147 → e.2 c = τ1 c) ∧ (∃ k, k ≤ m ∧ m_D σ e.2 N (fun t => if (gg 0 q k).testBit t = true then 2 else N 9 t)) ∧ ((e.1 = nI 1 ∧ wk N m 0 q) ∨ (e.1 = nI 0 ∧ ¬ wk N m 0 q)) := by
    unfold L_X11_mayGo_21
    refine xloop_for (f := fun x : Int32 × Int32 × xM => B_X11_mayGo_21 (nI m) x.1 x.2.1 x.2.2) (fun k x => x.2.1 = nI k ∧ (∀ c, c ≠ 142 → c ≠ 147 → x.2.2 c = τ1 c) ∧ m_D σ x.2.2 N (fun t => if (gg 0 q k).testBit t = true then 2 else N 9 t) ∧ ((x.1 = nI 1 ∧ ∀ j, j < k → calm N (gg 0 q (j + 1))) ∨ (x.1 = nI 0 ∧ ¬ wk N m 0 q))) (fun e => (∀ c, c ≠ 142 → c ≠ 147 → e.2 c = τ1 c) ∧ (∃ k, k ≤ m ∧ m_D σ e.2 N (fun t => if (gg 0 q k).testBit t = true then 2 else N 9 t)) ∧ ((e.1 = nI 1 ∧ wk N m 0 q) ∨ (e.1 = nI 0 ∧ ¬ wk N m 0 q))) m ?_ ?_ 6000 0 (nI 1, nI 0, τ1) (by omega) (by omega) ⟨rfl, fun _ _ _ => rfl, D_md (D_cg (a2 142 (by omega)) (D_rf h)) (fun s hs => by
        show N 9 s = if (0 : Nat).testBit s = true then 2 else N 9 s
        rw [Nat.zero_testBit, if_neg (by simp)]), Or.inl ⟨rfl, fun j hj => absurd hj (by omega)⟩⟩
    · intro k ⟨w, v, τ⟩ hk ⟨h1, h2, h3, h4⟩
      dsimp only at h1 h2 h3 h4 ⊢
      subst h1
      unfold B_X11_mayGo_21
      rcases h4 with ⟨rfl, h4⟩ | ⟨rfl, h4⟩
      case inr =>
        right
        simp (disch := omega) only [Nat.add_zero, Nat.zero_add, Nat.zero_mul, Nat.mul_zero, mc8, mc3, nU_f, nU_k, nU_e, xbd_some, xgd_true, xlet_eq, g_in, nI_clamp, nI_leI, nI_ltI, nI_eq, nI_add, pk_mul, pk_sub, rd_e, rd_k, rd_c, i10, i01, xsm_l, xsm_r, if_pos, if_neg, l_neg1, oI_e0, nI_e0, oI_nI, ne_eq, not_true_eq_false, not_false_eq_true, and_true, true_and, and_false, false_and, or_true, true_or, or_false, false_or, if_true, if_false, lit_0, lit_1, lit_2, lit_3, lit_4, lit_5, lit_6, lit_8, lit_9, lit_10, lit_12, lit_13, lit_21, lit_29, lit_30, lit_31, lit_37, lit_101, lit_120, lit_121, lit_127, lit_169, lit_64, lit_99, lit_999, lit_676, lit_845, lit_48, lit_57, lit_32, lit_59]
        exact ⟨_, rfl, h2, ⟨k, by omega, h3⟩, Or.inr ⟨rfl, h4⟩⟩
      left
      obtain ⟨q5, qn, q9⟩ := qk k hk
      have t1 : τ 151 k = nI (q k) := by rw [h2 151 (by omega) (by omega), a2 151 (by omega), h151 k hk]
      have hD := D_md (md' := fun t => if (gg 0 q (k + 1)).testBit t = true then 2 else N 9 t) (D_put (v := 2) h3 qn) (fun s hs => by
        rw [gg_bit]
        by_cases e : s = q k
        · rw [tS_e e, e]
          simp
        · rw [tS_n e]
          have : decide (q k = s) = false := by simp; omega
          rw [this, Bool.or_false])
      have gl := gg_lt (q := q) (k := k + 1) (fun i hi => (qk i (by omega)).1)
      obtain ⟨υ, o1, o2⟩ := D_over (u := dif (s_up N) (gg 0 q (k + 1))) hw h hMw (by simp (disch := omega) only [Nat.add_zero, Nat.zero_add, Nat.zero_mul, Nat.mul_zero, mc8, mc3, nU_f, nU_k, nU_e, xbd_some, xgd_true, xlet_eq, g_in, nI_clamp, nI_leI, nI_ltI, nI_eq, nI_add, pk_mul, pk_sub, rd_e, rd_k, rd_c, i10, i01, xsm_l, xsm_r, if_pos, if_neg, l_neg1, oI_e0, nI_e0, oI_nI, ne_eq, not_true_eq_false, not_false_eq_true, and_true, true_and, and_false, false_and, or_true, true_or, or_false, false_or, if_true, if_false, lit_0, lit_1, lit_2, lit_3, lit_4, lit_5, lit_6, lit_8, lit_9, lit_10, lit_12, lit_13, lit_21, lit_29, lit_30, lit_31, lit_37, lit_101, lit_120, lit_121, lit_127, lit_169, lit_64, lit_99, lit_999, lit_676, lit_845, lit_48, lit_57, lit_32, lit_59]; rw [h2 146 (by omega) (by omega), a2 146 (by omega)]) hD (fun s hs => by
        split
        · omega
        · exact b9 s hs) (fun t ht => by
        rw [dif_bit gl (by omega), s_up_bit ht]
        by_cases e : (gg 0 q (k + 1)).testBit t = true
        · rw [if_pos e, e]
          simp
        · rw [if_neg e]
          have : (gg 0 q (k + 1)).testBit t = false := by simpa using e
          rw [this]
          simp)
      have hom := s_om_lt5 hS (dif (s_up N) (gg 0 q (k + 1))) (N 8)
      have hDu : m_D σ υ N (fun t => if (gg 0 q (k + 1)).testBit t = true then 2 else N 9 t) := D_cg (o2 142 (by omega)) hD
      have e1 : ∀ c, c ≠ 142 → c ≠ 147 → υ c = τ1 c := fun c a b => by
        rw [o2 c b, rd_c a]
        exact h2 c a b
      by_cases hc : calm N (gg 0 q (k + 1))
      · have hc' : s_om N (dif (s_up N) (gg 0 q (k + 1))) (N 8) = 0 := hc
        rw [hc'] at o1
        simp (disch := omega) only [Nat.add_zero, Nat.zero_add, Nat.zero_mul, Nat.mul_zero, mc8, mc3, nU_f, nU_k, nU_e, xbd_some, xgd_true, xlet_eq, g_in, nI_clamp, nI_leI, nI_ltI, nI_eq, nI_add, pk_mul, pk_sub, rd_e, rd_k, rd_c, i10, i01, xsm_l, xsm_r, if_pos, if_neg, l_neg1, oI_e0, nI_e0, oI_nI, ne_eq, not_true_eq_false, not_false_eq_true, and_true, true_and, and_false, false_and, or_true, true_or, or_false, false_or, if_true, if_false, lit_0, lit_1, lit_2, lit_3, lit_4, lit_5, lit_6, lit_8, lit_9, lit_10, lit_12, lit_13, lit_21, lit_29, lit_30, lit_31, lit_37, lit_101, lit_120, lit_121, lit_127, lit_169, lit_64, lit_99, lit_999, lit_676, lit_845, lit_48, lit_57, lit_32, lit_59, t1, puts_state, o1]
        refine ⟨_, rfl, rfl, e1, hDu, Or.inl ⟨rfl, fun j hj => ?_⟩⟩
        by_cases e : j = k
        · rw [e]; exact hc
        · exact h4 j (by omega)
      · have hc' : s_om N (dif (s_up N) (gg 0 q (k + 1))) (N 8) ≠ 0 := hc
        simp (disch := omega) only [Nat.add_zero, Nat.zero_add, Nat.zero_mul, Nat.mul_zero, mc8, mc3, nU_f, nU_k, nU_e, xbd_some, xgd_true, xlet_eq, g_in, nI_clamp, nI_leI, nI_ltI, nI_eq, nI_add, pk_mul, pk_sub, rd_e, rd_k, rd_c, i10, i01, xsm_l, xsm_r, if_pos, if_neg, l_neg1, oI_e0, nI_e0, oI_nI, ne_eq, not_true_eq_false, not_false_eq_true, and_true, true_and, and_false, false_and, or_true, true_or, or_false, false_or, if_true, if_false, lit_0, lit_1, lit_2, lit_3, lit_4, lit_5, lit_6, lit_8, lit_9, lit_10, lit_12, lit_13, lit_21, lit_29, lit_30, lit_31, lit_37, lit_101, lit_120, lit_121, lit_127, lit_169, lit_64, lit_99, lit_999, lit_676, lit_845, lit_48, lit_57, lit_32, lit_59, t1, puts_state, o1]
        refine ⟨_, rfl, rfl, e1, hDu, Or.inr ⟨rfl, fun hk2 => ?_⟩⟩
        exact hc ((wk_iff m 0 q).mp hk2 k hk)
    · intro ⟨w, v, τ⟩ ⟨h1, h2, h3, h4⟩
      dsimp only at h1 h2 h3 h4 ⊢
      subst h1
      unfold B_X11_mayGo_21
      simp (disch := omega) only [Nat.add_zero, Nat.zero_add, Nat.zero_mul, Nat.mul_zero, mc8, mc3, nU_f, nU_k, nU_e, xbd_some, xgd_true, xlet_eq, g_in, nI_clamp, nI_leI, nI_ltI, nI_eq, nI_add, pk_mul, pk_sub, rd_e, rd_k, rd_c, i10, i01, xsm_l, xsm_r, if_pos, if_neg, l_neg1, oI_e0, nI_e0, oI_nI, ne_eq, not_true_eq_false, not_false_eq_true, and_true, true_and, and_false, false_and, or_true, true_or, or_false, false_or, if_true, if_false, lit_0, lit_1, lit_2, lit_3, lit_4, lit_5, lit_6, lit_8, lit_9, lit_10, lit_12, lit_13, lit_21, lit_29, lit_30, lit_31, lit_37, lit_101, lit_120, lit_121, lit_127, lit_169, lit_64, lit_99, lit_999, lit_676, lit_845, lit_48, lit_57, lit_32, lit_59]
      refine ⟨_, rfl, h2, ⟨m, Nat.le_refl _, h3⟩, ?_⟩
      rcases h4 with ⟨h4, h5⟩ | h4
      · exact Or.inl ⟨h4, (wk_iff m 0 q).mpr h5⟩
      · exact Or.inr h4
  obtain ⟨⟨r, τ2⟩, b1, b2, ⟨k0, hk0, b3⟩, b4⟩ := hL2
  dsimp only at b2 b3 b4
  have ggq : ∀ k t, (gg 0 q k).testBit t = true → ∃ i, i < k ∧ q i = t := by
    intro k
    induction k with
    | zero => intro t ht; rw [show gg 0 q 0 = 0 from rfl, Nat.zero_testBit] at ht; cases ht
    | succ k ih =>
      intro t ht
      rw [gg_bit] at ht
      simp at ht
      rcases ht with ht | ht
      · obtain ⟨i, hi, e⟩ := ih t ht
        exact ⟨i, by omega, e⟩
      · exact ⟨k, by omega, ht⟩
  have hL3 : ∃ τ, L_X11_mayGo_44 (nI m) r (nI 0) τ2 = some τ ∧ (∀ c, c ≠ 142 → τ c = τ2 c) ∧ τ 142 = σ 142 := by
    unfold L_X11_mayGo_44
    refine xloop_for (f := fun x : Int32 × xM => B_X11_mayGo_44 (nI m) r x.1 x.2) (fun k x => x.1 = nI k ∧ (∀ c, c ≠ 142 → x.2 c = τ2 c) ∧ ∃ md, m_D σ x.2 N md ∧ ∀ t, t < N 0 1 → md t = N 9 t ∨ ∃ i, k ≤ i ∧ i < m ∧ q i = t) (fun τ => (∀ c, c ≠ 142 → τ c = τ2 c) ∧ τ 142 = σ 142) m ?_ ?_ 6000 0 (nI 0, τ2) (by omega) (by omega) ⟨rfl, fun _ _ => rfl, _, b3, fun t ht => by
        by_cases e : (gg 0 q k0).testBit t = true
        · obtain ⟨i, hi, e2⟩ := ggq k0 t e
          exact Or.inr ⟨i, by omega, by omega, e2⟩
        · rw [if_neg e]
          exact Or.inl rfl⟩
    · intro k ⟨v, τ⟩ hk ⟨h1, h2, md, h3, h4⟩
      dsimp only at h1 h2 h3 h4 ⊢
      subst h1
      left
      obtain ⟨q5, qn, q9⟩ := qk k hk
      have t1 : τ 151 k = nI (q k) := by rw [h2 151 (by omega), b2 151 (by omega) (by omega), a2 151 (by omega), h151 k hk]
      have t2 : τ 152 k = nI (N 9 (q k)) := by rw [h2 152 (by omega), b2 152 (by omega) (by omega), a3 k hk]
      unfold B_X11_mayGo_44
      simp (disch := omega) only [Nat.add_zero, Nat.zero_add, Nat.zero_mul, Nat.mul_zero, mc8, mc3, nU_f, nU_k, nU_e, xbd_some, xgd_true, xlet_eq, g_in, nI_clamp, nI_leI, nI_ltI, nI_eq, nI_add, pk_mul, pk_sub, rd_e, rd_k, rd_c, i10, i01, xsm_l, xsm_r, if_pos, if_neg, l_neg1, oI_e0, nI_e0, oI_nI, ne_eq, not_true_eq_false, not_false_eq_true, and_true, true_and, and_false, false_and, or_true, true_or, or_false, false_or, if_true, if_false, lit_0, lit_1, lit_2, lit_3, lit_4, lit_5, lit_6, lit_8, lit_9, lit_10, lit_12, lit_13, lit_21, lit_29, lit_30, lit_31, lit_37, lit_101, lit_120, lit_121, lit_127, lit_169, lit_64, lit_99, lit_999, lit_676, lit_845, lit_48, lit_57, lit_32, lit_59, t1, t2, puts_state]
      refine ⟨_, rfl, rfl, fun c hc => by simp (disch := omega) only [Nat.add_zero, Nat.zero_add, Nat.zero_mul, Nat.mul_zero, mc8, mc3, nU_f, nU_k, nU_e, xbd_some, xgd_true, xlet_eq, g_in, nI_clamp, nI_leI, nI_ltI, nI_eq, nI_add, pk_mul, pk_sub, rd_e, rd_k, rd_c, i10, i01, xsm_l, xsm_r, if_pos, if_neg, l_neg1, oI_e0, nI_e0, oI_nI, ne_eq, not_true_eq_false, not_false_eq_true, and_true, true_and, and_false, false_and, or_true, true_or, or_false, false_or, if_true, if_false, lit_0, lit_1, lit_2, lit_3, lit_4, lit_5, lit_6, lit_8, lit_9, lit_10, lit_12, lit_13, lit_21, lit_29, lit_30, lit_31, lit_37, lit_101, lit_120, lit_121, lit_127, lit_169, lit_64, lit_99, lit_999, lit_676, lit_845, lit_48, lit_57, lit_32, lit_59]; exact h2 c hc, _, D_put (v := N 9 (q k)) h3 qn, fun t ht => ?_⟩
      by_cases e : t = q k
      · rw [tS_e e, e]
        exact Or.inl rfl
      · rw [tS_n e]
        rcases h4 t ht with h | ⟨i, i1, i2, i3⟩
        · exact Or.inl h
        · refine Or.inr ⟨i, ?_, i2, i3⟩
          have : i ≠ k := fun e2 => e (by rw [← i3, e2])
          omega
    · intro ⟨v, τ⟩ ⟨h1, h2, md, h3, h4⟩
      dsimp only at h1 h2 h3 h4 ⊢
      subst h1
      unfold B_X11_mayGo_44
      simp (disch := omega) only [Nat.add_zero, Nat.zero_add, Nat.zero_mul, Nat.mul_zero, mc8, mc3, nU_f, nU_k, nU_e, xbd_some, xgd_true, xlet_eq, g_in, nI_clamp, nI_leI, nI_ltI, nI_eq, nI_add, pk_mul, pk_sub, rd_e, rd_k, rd_c, i10, i01, xsm_l, xsm_r, if_pos, if_neg, l_neg1, oI_e0, nI_e0, oI_nI, ne_eq, not_true_eq_false, not_false_eq_true, and_true, true_and, and_false, false_and, or_true, true_or, or_false, false_or, if_true, if_false, lit_0, lit_1, lit_2, lit_3, lit_4, lit_5, lit_6, lit_8, lit_9, lit_10, lit_12, lit_13, lit_21, lit_29, lit_30, lit_31, lit_37, lit_101, lit_120, lit_121, lit_127, lit_169, lit_64, lit_99, lit_999, lit_676, lit_845, lit_48, lit_57, lit_32, lit_59]
      refine ⟨_, rfl, h2, D_end h3 (fun s hs => ?_) h⟩
      rcases h4 s hs with h | ⟨i, i1, i2, i3⟩
      · exact h
      · omega
  obtain ⟨τ3, c1, c2, c3⟩ := hL3
  refine ⟨r, τ3, ?_, c3, fun c a b d => ?_, b4⟩
  · have z1 : xzok true (nI 1) = true := by decide
    have z0 : xzok true (nI 0) = true := by decide
    unfold F_X11_mayGo
    rcases b4 with ⟨rfl, -⟩ | ⟨rfl, -⟩
    · simp (disch := omega) only [Nat.add_zero, Nat.zero_add, Nat.zero_mul, Nat.mul_zero, mc8, mc3, nU_f, nU_k, nU_e, xbd_some, xgd_true, xlet_eq, g_in, nI_clamp, nI_leI, nI_ltI, nI_eq, nI_add, pk_mul, pk_sub, rd_e, rd_k, rd_c, i10, i01, xsm_l, xsm_r, if_pos, if_neg, l_neg1, oI_e0, nI_e0, oI_nI, ne_eq, not_true_eq_false, not_false_eq_true, and_true, true_and, and_false, false_and, or_true, true_or, or_false, false_or, if_true, if_false, lit_0, lit_1, lit_2, lit_3, lit_4, lit_5, lit_6, lit_8, lit_9, lit_10, lit_12, lit_13, lit_21, lit_29, lit_30, lit_31, lit_37, lit_101, lit_120, lit_121, lit_127, lit_169, lit_64, lit_99, lit_999, lit_676, lit_845, lit_48, lit_57, lit_32, lit_59, a1, b1, c1, z1]
    · simp (disch := omega) only [Nat.add_zero, Nat.zero_add, Nat.zero_mul, Nat.mul_zero, mc8, mc3, nU_f, nU_k, nU_e, xbd_some, xgd_true, xlet_eq, g_in, nI_clamp, nI_leI, nI_ltI, nI_eq, nI_add, pk_mul, pk_sub, rd_e, rd_k, rd_c, i10, i01, xsm_l, xsm_r, if_pos, if_neg, l_neg1, oI_e0, nI_e0, oI_nI, ne_eq, not_true_eq_false, not_false_eq_true, and_true, true_and, and_false, false_and, or_true, true_or, or_false, false_or, if_true, if_false, lit_0, lit_1, lit_2, lit_3, lit_4, lit_5, lit_6, lit_8, lit_9, lit_10, lit_12, lit_13, lit_21, lit_29, lit_30, lit_31, lit_37, lit_101, lit_120, lit_121, lit_127, lit_169, lit_64, lit_99, lit_999, lit_676, lit_845, lit_48, lit_57, lit_32, lit_59, a1, b1, c1, z0]
  · rw [c2 c a, b2 c a b, a2 c d]
def od (N : xN) (set i : Nat) (r : Int32) : Prop := (∃ q, wp set (pop set) 0 q ∧ wk N (pop set) 0 q ∧ (∀ q', wp set (pop set) 0 q' → wk N (pop set) 0 q' → wc (pop set) q ≤ wc (pop set) q') ∧ r = if i < pop set then nI (q i) else oI 0) ∨ ((∀ q, wp set (pop set) 0 q → ¬ wk N (pop set) 0 q) ∧ r = oI 0)
theorem od_un {N : xN} {set i : Nat} {r r' : Int32} (h : od N set i r) (h' : od N set i r') : r = r' := by
  rcases h with ⟨q, a1, a2, a3, a4⟩ | ⟨a1, a2⟩
  · rcases h' with ⟨q', b1, b2, b3, b4⟩ | ⟨b1, b2⟩
    · have e := wc_inj (pop set) 0 q q' a1 b1 (Nat.le_antisymm (a3 q' b1 b2) (b3 q a1 a2))
      rw [a4, b4]
      split
      · next hi => rw [e i hi]
      · rfl
    · exact absurd a2 (b1 q a1)
  · rcases h' with ⟨q', b1, b2, b3, b4⟩ | ⟨b1, b2⟩
    · exact absurd b2 (a1 q' b1)
    · rw [a2, b2]
theorem od_big {N : xN} {set i : Nat} (h : pop set ≤ i) : od N set i (oI 0) := by
  by_cases ex : ∃ v, ∃ q, wp set (pop set) 0 q ∧ wk N (pop set) 0 q ∧ wc (pop set) q = v
  · obtain ⟨v, ⟨q, a1, a2, a3⟩, a4⟩ := pk_least _ ex
    refine Or.inl ⟨q, a1, a2, fun q' b1 b2 => ?_, by rw [if_neg (by omega)]⟩
    by_cases hl : wc (pop set) q' < v
    · exact absurd ⟨q', b1, b2, rfl⟩ (a4 _ hl)
    · omega
  · exact Or.inr ⟨fun q b1 b2 => ex ⟨_, q, b1, b2, rfl⟩, rfl⟩
theorem m_order {σ : xM} {N : xN} {set i : Nat} (hw : s_wf N) (h : s_M (σ 142) N) (h32 : set < 32) (hon : ∀ s, s < 5 → set.testBit s = true → s < N 0 1 ∧ N 9 s ≠ 2) (hi : i < 2 ^ 31) : ∃ r τ, F_X11_orderNow (nI set) (nI i) σ = some (r, τ) ∧ od N set i r ∧ s_M (τ 142) N ∧ m_fr σ τ := by
  have hm : pop set ≤ 5 := xct_le _ 5
  have hf := fac_le (d := pop set) (by omega)
  obtain ⟨τ1, a1, a2, a3, a4⟩ := m_lays hw h
  have p0 : pop (dif set 0) = pop set := by rw [dif_0 h32]
  have hL : ∃ e, L_X11_orderNow_20 (nI set) (nI i) (nI (pop set)) (nI (fac (pop set))) (nI 0) τ1 = some e ∧ ((∃ τ x, e = .inl τ ∧ τ 142 = τ1 142 ∧ (∀ c, c ≠ 142 → c ≠ 147 → c ≠ 151 → c ≠ 152 → τ c = τ1 c) ∧ x < fac (pop set) ∧ wk N (pop set) 0 (pq set (pop set) 0 x) ∧ (∀ y, y < x → ¬ wk N (pop set) 0 (pq set (pop set) 0 y)) ∧ ∀ j, j < pop set → τ 151 j = nI (pq set (pop set) 0 x j)) ∨ (∃ τ, e = .inr τ ∧ τ 142 = τ1 142 ∧ (∀ c, c ≠ 142 → c ≠ 147 → c ≠ 151 → c ≠ 152 → τ c = τ1 c) ∧ ∀ y, y < fac (pop set) → ¬ wk N (pop set) 0 (pq set (pop set) 0 y))) := by
    unfold L_X11_orderNow_20
    refine xloop_for (f := fun x : Int32 × xM => B_X11_orderNow_20 (nI set) (nI i) (nI (pop set)) (nI (fac (pop set))) x.1 x.2) (fun k x => x.1 = nI k ∧ x.2 142 = τ1 142 ∧ (∀ c, c ≠ 142 → c ≠ 147 → c ≠ 151 → c ≠ 152 → x.2 c = τ1 c) ∧ ∀ y, y < k → ¬ wk N (pop set) 0 (pq set (pop set) 0 y)) (fun e => (∃ τ x, e = .inl τ ∧ τ 142 = τ1 142 ∧ (∀ c, c ≠ 142 → c ≠ 147 → c ≠ 151 → c ≠ 152 → τ c = τ1 c) ∧ x < fac (pop set) ∧ wk N (pop set) 0 (pq set (pop set) 0 x) ∧ (∀ y, y < x → ¬ wk N (pop set) 0 (pq set (pop set) 0 y)) ∧ ∀ j, j < pop set → τ 151 j = nI (pq set (pop set) 0 x j)) ∨ (∃ τ, e = .inr τ ∧ τ 142 = τ1 142 ∧ (∀ c, c ≠ 142 → c ≠ 147 → c ≠ 151 → c ≠ 152 → τ c = τ1 c) ∧ ∀ y, y < fac (pop set) → ¬ wk N (pop set) 0 (pq set (pop set) 0 y))) (fac (pop set)) ?_ ?_ 6000 0 (nI 0, τ1) (by omega) (by omega) ⟨rfl, rfl, fun _ _ _ _ _ => rfl, fun y hy => absurd hy (by omega)⟩
    · intro k ⟨v, τ⟩ hk ⟨h1, h2, h3, h4⟩
      dsimp only at h1 h2 h3 h4 ⊢
      subst h1
      obtain ⟨υ, l1, l2, l3⟩ := m_layO (σ := τ) h32 hk
      have hMu : s_M (υ 142) N := by rw [l2 142 (by omega), h2]; exact a4
      have hMwu : s_Mw υ N := Mw_cg rfl rfl (by rw [l2 146 (by omega), h3 146 (by omega) (by omega) (by omega) (by omega)]) a3.2.2.2
      obtain ⟨r, ω, m1, m2, m3, m4⟩ := m_may hw hMu hMwu h32 hon hm (pq_wp h32 (pop set) 0 k (by omega) (Nat.zero_and set) p0 hk) l3
      have e1 : ω 142 = τ1 142 := by rw [m2, l2 142 (by omega), h2]
      have e2 : ∀ c, c ≠ 142 → c ≠ 147 → c ≠ 151 → c ≠ 152 → ω c = τ1 c := fun c a b d e => by rw [m3 c a b e, l2 c d, h3 c a b d e]
      unfold B_X11_orderNow_20
      rcases m4 with ⟨rfl, m4⟩ | ⟨rfl, m4⟩
      · right
        simp (disch := omega) only [Nat.add_zero, Nat.zero_add, Nat.zero_mul, Nat.mul_zero, mc8, mc3, nU_f, nU_k, nU_e, xbd_some, xgd_true, xlet_eq, g_in, nI_clamp, nI_leI, nI_ltI, nI_eq, nI_add, pk_mul, pk_sub, rd_e, rd_k, rd_c, i10, i01, xsm_l, xsm_r, if_pos, if_neg, l_neg1, oI_e0, nI_e0, oI_nI, ne_eq, not_true_eq_false, not_false_eq_true, and_true, true_and, and_false, false_and, or_true, true_or, or_false, false_or, if_true, if_false, lit_0, lit_1, lit_2, lit_3, lit_4, lit_5, lit_6, lit_8, lit_9, lit_10, lit_12, lit_13, lit_21, lit_29, lit_30, lit_31, lit_37, lit_101, lit_120, lit_121, lit_127, lit_169, lit_64, lit_99, lit_999, lit_676, lit_845, lit_48, lit_57, lit_32, lit_59, l1, m1]
        refine ⟨_, rfl, Or.inl ⟨ω, k, rfl, e1, e2, hk, m4, h4, fun j hj => ?_⟩⟩
        rw [m3 151 (by omega) (by omega) (by omega)]
        exact l3 j hj
      · left
        simp (disch := omega) only [Nat.add_zero, Nat.zero_add, Nat.zero_mul, Nat.mul_zero, mc8, mc3, nU_f, nU_k, nU_e, xbd_some, xgd_true, xlet_eq, g_in, nI_clamp, nI_leI, nI_ltI, nI_eq, nI_add, pk_mul, pk_sub, rd_e, rd_k, rd_c, i10, i01, xsm_l, xsm_r, if_pos, if_neg, l_neg1, oI_e0, nI_e0, oI_nI, ne_eq, not_true_eq_false, not_false_eq_true, and_true, true_and, and_false, false_and, or_true, true_or, or_false, false_or, if_true, if_false, lit_0, lit_1, lit_2, lit_3, lit_4, lit_5, lit_6, lit_8, lit_9, lit_10, lit_12, lit_13, lit_21, lit_29, lit_30, lit_31, lit_37, lit_101, lit_120, lit_121, lit_127, lit_169, lit_64, lit_99, lit_999, lit_676, lit_845, lit_48, lit_57, lit_32, lit_59, l1, m1]
        refine ⟨_, rfl, rfl, e1, e2, fun y hy => ?_⟩
        by_cases e : y = k
        · rw [e]; exact m4
        · exact h4 y (by omega)
    · intro ⟨v, τ⟩ ⟨h1, h2, h3, h4⟩
      dsimp only at h1 h2 h3 h4 ⊢
      subst h1
      unfold B_X11_orderNow_20
      simp (disch := omega) only [Nat.add_zero, Nat.zero_add, Nat.zero_mul, Nat.mul_zero, mc8, mc3, nU_f, nU_k, nU_e, xbd_some, xgd_true, xlet_eq, g_in, nI_clamp, nI_leI, nI_ltI, nI_eq, nI_add, pk_mul, pk_sub, rd_e, rd_k, rd_c, i10, i01, xsm_l, xsm_r, if_pos, if_neg, l_neg1, oI_e0, nI_e0, oI_nI, ne_eq, not_true_eq_false, not_false_eq_true, and_true, true_and, and_false, false_and, or_true, true_or, or_false, false_or, if_true, if_false, lit_0, lit_1, lit_2, lit_3, lit_4, lit_5, lit_6, lit_8, lit_9, lit_10, lit_12, lit_13, lit_21, lit_29, lit_30, lit_31, lit_37, lit_101, lit_120, lit_121, lit_127, lit_169, lit_64, lit_99, lit_999, lit_676, lit_845, lit_48, lit_57, lit_32, lit_59]
      exact ⟨_, rfl, Or.inr ⟨τ, rfl, h2, h3, h4⟩⟩
  obtain ⟨e, g1, g2⟩ := hL
  have sz := m_size h32 σ
  have o7 := m_on7 (m := pop set) (by omega) (nI set) (nI i) σ
  unfold F_X11_orderNow
  simp (disch := omega) only [Nat.add_zero, Nat.zero_add, Nat.zero_mul, Nat.mul_zero, mc8, mc3, nU_f, nU_k, nU_e, xbd_some, xgd_true, xlet_eq, g_in, nI_clamp, nI_leI, nI_ltI, nI_eq, nI_add, pk_mul, pk_sub, rd_e, rd_k, rd_c, i10, i01, xsm_l, xsm_r, if_pos, if_neg, l_neg1, oI_e0, nI_e0, oI_nI, ne_eq, not_true_eq_false, not_false_eq_true, and_true, true_and, and_false, false_and, or_true, true_or, or_false, false_or, if_true, if_false, lit_0, lit_1, lit_2, lit_3, lit_4, lit_5, lit_6, lit_8, lit_9, lit_10, lit_12, lit_13, lit_21, lit_29, lit_30, lit_31, lit_37, lit_101, lit_120, lit_121, lit_127, lit_169, lit_64, lit_99, lit_999, lit_676, lit_845, lit_48, lit_57, lit_32, lit_59, sz, o7, a1, g1]
  rcases g2 with ⟨τ, x, rfl, e1, e2, hx, k1, k2, k3⟩ | ⟨τ, rfl, e1, e2, k1⟩
  · have hM : s_M (τ 142) N := by rw [e1]; exact a4
    have hfr : m_fr σ τ := fun c hc => by rw [e2 c (by omega) (by omega) (by omega) (by omega), a2 c (by omega)]
    have hod : ∀ r, r = (if i < pop set then nI (pq set (pop set) 0 x i) else oI 0) → od N set i r := by
      intro r hr
      refine Or.inl ⟨_, pq_wp h32 (pop set) 0 x (by omega) (Nat.zero_and set) p0 hx, k1, fun q' b1 b2 => ?_, hr⟩
      obtain ⟨y, hy, hyq⟩ := pq_sur h32 (pop set) 0 q' (by omega) (Nat.zero_and set) p0 b1
      have hky := wk_cg (pop set) 0 q' (pq set (pop set) 0 y) (fun i hi => (hyq i hi).symm) b2
      rw [← wc_cg (pop set) (pq set (pop set) 0 y) q' hyq]
      by_cases hl : x < y
      · exact Nat.le_of_lt (pq_mono h32 (pop set) 0 x y (by omega) (Nat.zero_and set) p0 hl hy)
      · by_cases hg : y < x
        · exact absurd hky (k2 y hg)
        · rw [show x = y by omega]
          exact Nat.le_refl _
    by_cases hl : i < pop set
    · have t1 := k3 i hl
      simp (disch := omega) only [Nat.add_zero, Nat.zero_add, Nat.zero_mul, Nat.mul_zero, mc8, mc3, nU_f, nU_k, nU_e, xbd_some, xgd_true, xlet_eq, g_in, nI_clamp, nI_leI, nI_ltI, nI_eq, nI_add, pk_mul, pk_sub, rd_e, rd_k, rd_c, i10, i01, xsm_l, xsm_r, if_pos, if_neg, l_neg1, oI_e0, nI_e0, oI_nI, ne_eq, not_true_eq_false, not_false_eq_true, and_true, true_and, and_false, false_and, or_true, true_or, or_false, false_or, if_true, if_false, lit_0, lit_1, lit_2, lit_3, lit_4, lit_5, lit_6, lit_8, lit_9, lit_10, lit_12, lit_13, lit_21, lit_29, lit_30, lit_31, lit_37, lit_101, lit_120, lit_121, lit_127, lit_169, lit_64, lit_99, lit_999, lit_676, lit_845, lit_48, lit_57, lit_32, lit_59, t1]
      exact ⟨_, _, rfl, hod _ (by rw [if_pos hl]), hM, hfr⟩
    · simp (disch := omega) only [Nat.add_zero, Nat.zero_add, Nat.zero_mul, Nat.mul_zero, mc8, mc3, nU_f, nU_k, nU_e, xbd_some, xgd_true, xlet_eq, g_in, nI_clamp, nI_leI, nI_ltI, nI_eq, nI_add, pk_mul, pk_sub, rd_e, rd_k, rd_c, i10, i01, xsm_l, xsm_r, if_pos, if_neg, l_neg1, oI_e0, nI_e0, oI_nI, ne_eq, not_true_eq_false, not_false_eq_true, and_true, true_and, and_false, false_and, or_true, true_or, or_false, false_or, if_true, if_false, lit_0, lit_1, lit_2, lit_3, lit_4, lit_5, lit_6, lit_8, lit_9, lit_10, lit_12, lit_13, lit_21, lit_29, lit_30, lit_31, lit_37, lit_101, lit_120, lit_121, lit_127, lit_169, lit_64, lit_99, lit_999, lit_676, lit_845, lit_48, lit_57, lit_32, lit_59]
      exact ⟨_, _, rfl, hod _ (by rw [if_neg hl]), hM, hfr⟩
  · have hM : s_M (τ 142) N := by rw [e1]; exact a4
    have hfr : m_fr σ τ := fun c hc => by rw [e2 c (by omega) (by omega) (by omega) (by omega), a2 c (by omega)]
    simp (disch := omega) only [Nat.add_zero, Nat.zero_add, Nat.zero_mul, Nat.mul_zero, mc8, mc3, nU_f, nU_k, nU_e, xbd_some, xgd_true, xlet_eq, g_in, nI_clamp, nI_leI, nI_ltI, nI_eq, nI_add, pk_mul, pk_sub, rd_e, rd_k, rd_c, i10, i01, xsm_l, xsm_r, if_pos, if_neg, l_neg1, oI_e0, nI_e0, oI_nI, ne_eq, not_true_eq_false, not_false_eq_true, and_true, true_and, and_false, false_and, or_true, true_or, or_false, false_or, if_true, if_false, lit_0, lit_1, lit_2, lit_3, lit_4, lit_5, lit_6, lit_8, lit_9, lit_10, lit_12, lit_13, lit_21, lit_29, lit_30, lit_31, lit_37, lit_101, lit_120, lit_121, lit_127, lit_169, lit_64, lit_99, lit_999, lit_676, lit_845, lit_48, lit_57, lit_32, lit_59]
    refine ⟨_, _, rfl, Or.inr ⟨fun q b1 b2 => ?_, rfl⟩, hM, hfr⟩
    obtain ⟨y, hy, hyq⟩ := pq_sur h32 (pop set) 0 q (by omega) (Nat.zero_and set) p0 b1
    exact k1 y hy (wk_cg (pop set) 0 q (pq set (pop set) 0 y) (fun i hi => (hyq i hi).symm) b2)
theorem f_order {σ : xM} {N : xN} {set i : Nat} (hw : s_wf N) (hC : s_C σ 1 N) (h32 : set < 32) (hon : ∀ s, s < 5 → set.testBit s = true → s < N 0 1 ∧ N 9 s ≠ 2) (hi : i < 2 ^ 31) : ∃ r τ, F_X2_withdrawn (nI set) (nI i) σ = some (r, τ) ∧ od N set i r ∧ e135 σ τ := by
  have hm : pop set ≤ 5 := xct_le _ 5
  have pc := popc h32 σ
  have pc' : F_J_bitCount (nI set) σ = some (nI (pop set)) := pc
  unfold F_X2_withdrawn
  by_cases hl : pop set ≤ i
  · simp (disch := omega) only [Nat.add_zero, Nat.zero_add, Nat.zero_mul, Nat.mul_zero, mc8, mc3, nU_f, nU_k, nU_e, xbd_some, xgd_true, xlet_eq, g_in, nI_clamp, nI_leI, nI_ltI, nI_eq, nI_add, pk_mul, pk_sub, rd_e, rd_k, rd_c, i10, i01, xsm_l, xsm_r, if_pos, if_neg, l_neg1, oI_e0, nI_e0, oI_nI, ne_eq, not_true_eq_false, not_false_eq_true, and_true, true_and, and_false, false_and, or_true, true_or, or_false, false_or, if_true, if_false, lit_0, lit_1, lit_2, lit_3, lit_4, lit_5, lit_6, lit_8, lit_9, lit_10, lit_12, lit_13, lit_21, lit_29, lit_30, lit_31, lit_37, lit_101, lit_120, lit_121, lit_127, lit_169, lit_64, lit_99, lit_999, lit_676, lit_845, lit_48, lit_57, lit_32, lit_59, pc']
    exact ⟨_, _, rfl, od_big hl, fun _ _ _ _ => rfl⟩
  obtain ⟨r, τ, g1, g2, g3, g4⟩ := f_wd hw h32 (fun s a b => (hon s a b).1) (pop set) 0 0 8 σ (by omega) (Nat.zero_and set) (by rw [dif_0 h32]) (by omega) (by omega) hC
  rcases g4 with ⟨rfl, q, q1, q2, q3, q4⟩ | ⟨rfl, q1⟩
  · have t1 := q4 i (by omega)
    rw [Nat.zero_add] at t1
    simp (disch := omega) only [Nat.add_zero, Nat.zero_add, Nat.zero_mul, Nat.mul_zero, mc8, mc3, nU_f, nU_k, nU_e, xbd_some, xgd_true, xlet_eq, g_in, nI_clamp, nI_leI, nI_ltI, nI_eq, nI_add, pk_mul, pk_sub, rd_e, rd_k, rd_c, i10, i01, xsm_l, xsm_r, if_pos, if_neg, l_neg1, oI_e0, nI_e0, oI_nI, ne_eq, not_true_eq_false, not_false_eq_true, and_true, true_and, and_false, false_and, or_true, true_or, or_false, false_or, if_true, if_false, lit_0, lit_1, lit_2, lit_3, lit_4, lit_5, lit_6, lit_8, lit_9, lit_10, lit_12, lit_13, lit_21, lit_29, lit_30, lit_31, lit_37, lit_101, lit_120, lit_121, lit_127, lit_169, lit_64, lit_99, lit_999, lit_676, lit_845, lit_48, lit_57, lit_32, lit_59, pc', g1, t1]
    exact ⟨_, _, rfl, Or.inl ⟨q, q1, q2, q3, by rw [if_pos (by omega)]⟩, g2⟩
  · simp (disch := omega) only [Nat.add_zero, Nat.zero_add, Nat.zero_mul, Nat.mul_zero, mc8, mc3, nU_f, nU_k, nU_e, xbd_some, xgd_true, xlet_eq, g_in, nI_clamp, nI_leI, nI_ltI, nI_eq, nI_add, pk_mul, pk_sub, rd_e, rd_k, rd_c, i10, i01, xsm_l, xsm_r, if_pos, if_neg, l_neg1, oI_e0, nI_e0, oI_nI, ne_eq, not_true_eq_false, not_false_eq_true, and_true, true_and, and_false, false_and, or_true, true_or, or_false, false_or, if_true, if_false, lit_0, lit_1, lit_2, lit_3, lit_4, lit_5, lit_6, lit_8, lit_9, lit_10, lit_12, lit_13, lit_21, lit_29, lit_30, lit_31, lit_37, lit_101, lit_120, lit_121, lit_127, lit_169, lit_64, lit_99, lit_999, lit_676, lit_845, lit_48, lit_57, lit_32, lit_59, pc', g1]
    exact ⟨_, _, rfl, Or.inr ⟨q1, rfl⟩, g2⟩
