def pop (M : Nat) : Nat := xct (fun k => M.testBit k) 5
abbrev calm (N : xN) (g : Nat) : Prop := s_om N (dif (s_up N) g) (N 8) = 0
/-- an order of what is left of a set -/
def wp (set : Nat) : Nat → Nat → (Nat → Nat) → Prop
  | 0, _, _ => True
  | d + 1, g, q => q 0 < 5 ∧ (dif set g).testBit (q 0) = true ∧ wp set d (g ||| 2 ^ q 0) (fun i => q (i + 1))
def wk (N : xN) : Nat → Nat → (Nat → Nat) → Prop
  | 0, _, _ => True
  | d + 1, g, q => calm N (g ||| 2 ^ q 0) ∧ wk N d (g ||| 2 ^ q 0) (fun i => q (i + 1))
def wc : Nat → (Nat → Nat) → Nat
  | 0, _ => 0
  | d + 1, q => q 0 * 8 ^ d + wc d (fun i => q (i + 1))
theorem wc_lt {set : Nat} : ∀ (d g : Nat) (q : Nat → Nat), wp set d g q → wc d q < 8 ^ d
  | 0, _, _, _ => by simp [wc]
  | d + 1, g, q, h => by
    have ih := wc_lt d _ _ h.2.2
    have h1 := h.1
    show q 0 * 8 ^ d + wc d (fun i => q (i + 1)) < 8 ^ (d + 1)
    rw [Nat.pow_succ]
    have : q 0 * 8 ^ d ≤ 4 * 8 ^ d := Nat.mul_le_mul_right _ (by omega)
    omega
theorem wc_inj {set : Nat} : ∀ (d g : Nat) (q q' : Nat → Nat), wp set d g q → wp set d g q' → wc d q = wc d q' → ∀ i, i < d → q i = q' i
  | 0, _, _, _, _, _, _, i, hi => by omega
  | d + 1, g, q, q', h, h', e, i, hi => by
    have l1 := wc_lt d _ _ h.2.2
    have l2 := wc_lt d _ _ h'.2.2
    have e : q 0 * 8 ^ d + wc d (fun i => q (i + 1)) = q' 0 * 8 ^ d + wc d (fun i => q' (i + 1)) := e
    have e0 : q 0 = q' 0 := by
      by_cases c1 : q 0 < q' 0
      · have : (q 0 + 1) * 8 ^ d ≤ q' 0 * 8 ^ d := Nat.mul_le_mul_right _ c1
        rw [Nat.add_mul] at this
        omega
      · by_cases c2 : q' 0 < q 0
        · have : (q' 0 + 1) * 8 ^ d ≤ q 0 * 8 ^ d := Nat.mul_le_mul_right _ c2
          rw [Nat.add_mul] at this
          omega
        · omega
    cases i with
    | zero => exact e0
    | succ i =>
      have h2 := h'.2.2
      rw [← e0] at h2 e
      exact wc_inj d _ _ _ h.2.2 h2 (by omega) i (by omega)
theorem wp_cg {set : Nat} : ∀ (d g : Nat) (q q' : Nat → Nat), (∀ i, i < d → q i = q' i) → wp set d g q → wp set d g q'
  | 0, _, _, _, _, _ => trivial
  | d + 1, g, q, q', e, h => by
    have e0 := e 0 (by omega)
    refine ⟨by rw [← e0]; exact h.1, by rw [← e0]; exact h.2.1, ?_⟩
    rw [← e0]
    exact wp_cg d _ _ _ (fun i hi => e (i + 1) (by omega)) h.2.2
theorem wk_cg {N : xN} : ∀ (d g : Nat) (q q' : Nat → Nat), (∀ i, i < d → q i = q' i) → wk N d g q → wk N d g q'
  | 0, _, _, _, _, _ => trivial
  | d + 1, g, q, q', e, h => by
    have e0 := e 0 (by omega)
    refine ⟨by rw [← e0]; exact h.1, ?_⟩
    rw [← e0]
    exact wk_cg d _ _ _ (fun i hi => e (i + 1) (by omega)) h.2
theorem wc_cg : ∀ (d : Nat) (q q' : Nat → Nat), (∀ i, i < d → q i = q' i) → wc d q = wc d q'
  | 0, _, _, _ => rfl
  | d + 1, q, q', e => by
    show q 0 * 8 ^ d + wc d (fun i => q (i + 1)) = q' 0 * 8 ^ d + wc d (fun i => q' (i + 1))
    rw [e 0 (by omega), wc_cg d (fun i => q (i + 1)) (fun i => q' (i + 1)) (fun i hi => e (i + 1) (by omega))]
theorem orn {g s : Nat} (hg : g < 32) (hs : s < 5) : nI g ||| nI (2 ^ s) = nI (g ||| 2 ^ s) := by
  have h : ∀ g, g < 32 → ∀ s, s < 5 → nI g ||| nI (2 ^ s) = nI (g ||| 2 ^ s) := by decide +kernel
  exact h g hg s hs
theorem pop_0 {set g : Nat} (h1 : set < 32) (h2 : g < 32) (h3 : g &&& set = g) : pop (dif set g) = 0 ↔ g = set := by
  have h : ∀ set, set < 32 → ∀ g, g < 32 → g &&& set = g → (pop (dif set g) = 0 ↔ g = set) := by decide +kernel
  exact h set h1 g h2 h3
theorem pop_n {set g s : Nat} (h1 : set < 32) (h2 : g < 32) (hs : s < 5) (h3 : g &&& set = g) (h4 : (dif set g).testBit s = true) : pop (dif set (g ||| 2 ^ s)) + 1 = pop (dif set g) ∧ (g ||| 2 ^ s) &&& set = g ||| 2 ^ s ∧ g ||| 2 ^ s < 32 := by
  have a : ∀ set, set < 32 → ∀ g, g < 32 → ∀ s, s < 5 → (g &&& set = g ∧ (dif set g).testBit s = true) → pop (dif set (g ||| 2 ^ s)) + 1 = pop (dif set g) := by decide +kernel
  have b : ∀ set, set < 32 → ∀ g, g < 32 → ∀ s, s < 5 → (g &&& set = g ∧ (dif set g).testBit s = true) → (g ||| 2 ^ s) &&& set = g ||| 2 ^ s := by decide +kernel
  have c : ∀ g, g < 32 → ∀ s, s < 5 → g ||| 2 ^ s < 32 := by decide +kernel
  exact ⟨a set h1 g h2 s hs ⟨h3, h4⟩, b set h1 g h2 s hs ⟨h3, h4⟩, c g h2 s hs⟩
def e135 (σ τ : xM) : Prop := ∀ c, c ≠ 130 → c ≠ 131 → c ≠ 135 → τ c = σ c
def wq (N : xN) (set d g p : Nat) (σ : xM) (r : Int32) (τ : xM) : Prop := e135 σ τ ∧ (∀ i, i < p → τ 135 i = σ 135 i) ∧ ((r = nI 1 ∧ ∃ q, wp set d g q ∧ wk N d g q ∧ (∀ q', wp set d g q' → wk N d g q' → wc d q ≤ wc d q') ∧ ∀ i, i < d → τ 135 (p + i) = nI (q i)) ∨ (r = nI 0 ∧ ∀ q, wp set d g q → ¬ wk N d g q))
theorem f_wd {N : xN} (hw : s_wf N) {set : Nat} (h32 : set < 32) (hsn : ∀ s, s < 5 → set.testBit s = true → s < N 0 1) : ∀ (d g p fu : Nat) (σ : xM), g < 32 → g &&& set = g → pop (dif set g) = d → p + d ≤ 5 → d < fu → s_C σ 1 N → ∃ r τ, F_X2_withdraws fu (nI set) (nI g) (nI p) σ = some (r, τ) ∧ wq N set d g p σ r τ := by
  have hS := hw.1.2.1
  have hu := s_up_lt5 hS
  intro d
  induction d with
  | zero =>
    intro g p fu σ hg hgs hp hpd hfu hC
    obtain ⟨fu, rfl⟩ : ∃ f, fu = f + 1 := ⟨fu - 1, by omega⟩
    have e := (pop_0 h32 hg hgs).mp hp
    subst e
    refine ⟨nI 1, σ, ?_, fun _ _ _ _ => rfl, fun _ _ => rfl, Or.inl ⟨rfl, fun _ => 0, trivial, trivial, fun _ _ _ => Nat.le_refl _, fun i hi => absurd hi (by omega)⟩⟩
    show G_X2_withdraws (F_X2_withdraws fu) (nI g) (nI g) (nI p) σ = _
    unfold G_X2_withdraws
    rw [if_pos rfl]
    rfl
  | succ d ih =>
    intro g p fu σ hg hgs hp hpd hfu hC
    obtain ⟨fu, rfl⟩ : ∃ f, fu = f + 1 := ⟨fu - 1, by omega⟩
    have hne : g ≠ set := fun e => by
      have := (pop_0 h32 hg hgs).mpr e
      omega
    have hdl := dif_lt (g := g) h32
    have hL : ∃ e, L_X2_withdraws_12 (F_X2_withdraws fu) (nI set) (nI g) (nI p) (nI 0) σ = some e ∧ ((∃ τ, e = .inl τ ∧ wq N set (d + 1) g p σ (nI 1) τ) ∨ ∃ τ, e = .inr τ ∧ wq N set (d + 1) g p σ (nI 0) τ) := by
      unfold L_X2_withdraws_12
      refine xloop_for (f := fun x : Int32 × xM => B_X2_withdraws_12 (F_X2_withdraws fu) (nI set) (nI g) (nI p) x.1 x.2) (fun k x => x.1 = nI k ∧ e135 σ x.2 ∧ (∀ i, i < p → x.2 135 i = σ 135 i) ∧ ∀ q, wp set (d + 1) g q → wk N (d + 1) g q → k ≤ q 0) (fun e => (∃ τ, e = .inl τ ∧ wq N set (d + 1) g p σ (nI 1) τ) ∨ ∃ τ, e = .inr τ ∧ wq N set (d + 1) g p σ (nI 0) τ) (N 0 1) ?_ ?_ 6000 0 (nI 0, σ) (by omega) (by omega) ⟨rfl, fun _ _ _ _ => rfl, fun _ _ => rfl, fun _ _ _ => by omega⟩
      · intro k ⟨v, τ⟩ hk ⟨h1, h2, h3, h4⟩
        dsimp only at h1 h2 h3 h4 ⊢
        subst h1
        have hCt : s_C τ 1 N := s_C_eq (fun c hc => h2 c (by omega) (by omega) (by omega)) hC
        have c8 : τ 8 0 = nI (N 0 1) := (s_C_0 hCt).1.2.1
        have hcon := f_contains (u := dif set g) (k := k) (by omega) (by omega) τ
        unfold B_X2_withdraws_12
        by_cases hb : (dif set g).testBit k = true
        case neg =>
          left
          rw [if_neg hb] at hcon
          have hcon2 : F_X4_contains (nI (dif set g)) (nI k) τ = some (nI 0) := hcon
          simp (disch := omega) only [Nat.add_zero, Nat.zero_add, Nat.zero_mul, Nat.mul_zero, mc8, mc3, nU_f, nU_k, nU_e, xbd_some, xgd_true, xlet_eq, g_in, nI_clamp, nI_leI, nI_ltI, nI_eq, nI_add, pk_mul, pk_sub, rd_e, rd_k, rd_c, i10, i01, xsm_l, xsm_r, if_pos, if_neg, l_neg1, oI_e0, nI_e0, oI_nI, ne_eq, not_true_eq_false, not_false_eq_true, and_true, true_and, and_false, false_and, or_true, true_or, or_false, false_or, if_true, if_false, lit_0, lit_1, lit_2, lit_3, lit_4, lit_5, lit_6, lit_8, lit_9, lit_10, lit_12, lit_13, lit_21, lit_29, lit_30, lit_31, lit_37, lit_101, lit_120, lit_121, lit_127, lit_169, lit_64, lit_99, lit_999, lit_676, lit_845, lit_48, lit_57, lit_32, lit_59, c8, andn, hcon2]
          refine ⟨_, rfl, rfl, h2, h3, fun q a b => ?_⟩
          have := h4 q a b
          have : q 0 ≠ k := fun e => by
            have := a.2.1
            rw [e] at this
            exact hb this
          omega
        rw [if_pos hb] at hcon
        have hcon2 : F_X4_contains (nI (dif set g)) (nI k) τ = some (nI 1) := hcon
        obtain ⟨n1, n2, n3⟩ := pop_n h32 hg (show k < 5 by omega) hgs hb
        obtain ⟨υ, l1, l2⟩ := f_calm hw hCt n3
        have hCu : s_C υ 1 N := c_lk l2 hCt
        by_cases hc : calm N (g ||| 2 ^ k)
        case neg =>
          left
          rw [if_neg hc] at l1
          simp (disch := omega) only [Nat.add_zero, Nat.zero_add, Nat.zero_mul, Nat.mul_zero, mc8, mc3, nU_f, nU_k, nU_e, xbd_some, xgd_true, xlet_eq, g_in, nI_clamp, nI_leI, nI_ltI, nI_eq, nI_add, pk_mul, pk_sub, rd_e, rd_k, rd_c, i10, i01, xsm_l, xsm_r, if_pos, if_neg, l_neg1, oI_e0, nI_e0, oI_nI, ne_eq, not_true_eq_false, not_false_eq_true, and_true, true_and, and_false, false_and, or_true, true_or, or_false, false_or, if_true, if_false, lit_0, lit_1, lit_2, lit_3, lit_4, lit_5, lit_6, lit_8, lit_9, lit_10, lit_12, lit_13, lit_21, lit_29, lit_30, lit_31, lit_37, lit_101, lit_120, lit_121, lit_127, lit_169, lit_64, lit_99, lit_999, lit_676, lit_845, lit_48, lit_57, lit_32, lit_59, c8, andn, hcon2, shl1, orn, l1]
          refine ⟨_, rfl, rfl, fun c a b d => (l2 c (by unfold s_lk; omega)).trans (h2 c a b d), fun i hi => ?_, fun q a b => ?_⟩
          · show υ 135 i = _
            rw [l2 135 (by unfold s_lk; omega)]
            exact h3 i hi
          · have := h4 q a b
            have : q 0 ≠ k := fun e => by
              have := b.1
              rw [e] at this
              exact hc this
            omega
        rw [if_pos hc] at l1
        have hC' : s_C (xup υ 135 p (nI k)) 1 N := s_C_eq (fun c hc => by simp (disch := omega) only [Nat.add_zero, Nat.zero_add, Nat.zero_mul, Nat.mul_zero, mc8, mc3, nU_f, nU_k, nU_e, xbd_some, xgd_true, xlet_eq, g_in, nI_clamp, nI_leI, nI_ltI, nI_eq, nI_add, pk_mul, pk_sub, rd_e, rd_k, rd_c, i10, i01, xsm_l, xsm_r, if_pos, if_neg, l_neg1, oI_e0, nI_e0, oI_nI, ne_eq, not_true_eq_false, not_false_eq_true, and_true, true_and, and_false, false_and, or_true, true_or, or_false, false_or, if_true, if_false, lit_0, lit_1, lit_2, lit_3, lit_4, lit_5, lit_6, lit_8, lit_9, lit_10, lit_12, lit_13, lit_21, lit_29, lit_30, lit_31, lit_37, lit_101, lit_120, lit_121, lit_127, lit_169, lit_64, lit_99, lit_999, lit_676, lit_845, lit_48, lit_57, lit_32, lit_59]) hCu
        obtain ⟨r, ω, m1, m2, m3, m4⟩ := ih (g ||| 2 ^ k) (p + 1) fu (xup υ 135 p (nI k)) n3 n2 (by omega) (by omega) (by omega) hC'
        have e1 : e135 σ ω := fun c a b d => by
          rw [m2 c a b d, rd_c (by omega), l2 c (by unfold s_lk; omega)]
          exact h2 c a b d
        have e2 : ∀ i, i < p → ω 135 i = σ 135 i := fun i hi => by
          rw [m3 i (by omega), rd_k (by omega), l2 135 (by unfold s_lk; omega)]
          exact h3 i hi
        rcases m4 with ⟨rfl, q, q1, q2, q3, q4⟩ | ⟨rfl, q1⟩
        · right
          simp (disch := omega) only [Nat.add_zero, Nat.zero_add, Nat.zero_mul, Nat.mul_zero, mc8, mc3, nU_f, nU_k, nU_e, xbd_some, xgd_true, xlet_eq, g_in, nI_clamp, nI_leI, nI_ltI, nI_eq, nI_add, pk_mul, pk_sub, rd_e, rd_k, rd_c, i10, i01, xsm_l, xsm_r, if_pos, if_neg, l_neg1, oI_e0, nI_e0, oI_nI, ne_eq, not_true_eq_false, not_false_eq_true, and_true, true_and, and_false, false_and, or_true, true_or, or_false, false_or, if_true, if_false, lit_0, lit_1, lit_2, lit_3, lit_4, lit_5, lit_6, lit_8, lit_9, lit_10, lit_12, lit_13, lit_21, lit_29, lit_30, lit_31, lit_37, lit_101, lit_120, lit_121, lit_127, lit_169, lit_64, lit_99, lit_999, lit_676, lit_845, lit_48, lit_57, lit_32, lit_59, c8, andn, hcon2, shl1, orn, l1, m1]
          refine ⟨_, rfl, Or.inl ⟨ω, rfl, e1, e2, Or.inl ⟨rfl, fun i => if i = 0 then k else q (i - 1), ?_, ?_, ?_, ?_⟩⟩⟩
          · exact ⟨by show k < 5; omega, hb, q1⟩
          · exact ⟨hc, q2⟩
          · intro q' a b
            have hq := h4 q' a b
            have l1 := wc_lt d _ _ q1
            show k * 8 ^ d + wc d q ≤ q' 0 * 8 ^ d + wc d (fun i => q' (i + 1))
            by_cases e : q' 0 = k
            · have a2 := a.2.2
              have b2 := b.2
              rw [e] at a2 b2
              have := q3 _ a2 b2
              rw [e]
              omega
            · have : (k + 1) * 8 ^ d ≤ q' 0 * 8 ^ d := Nat.mul_le_mul_right _ (by omega)
              rw [Nat.add_mul] at this
              omega
          · intro i hi
            by_cases e : i = 0
            · subst e
              show ω 135 (p + 0) = nI k
              rw [Nat.add_zero, m3 p (by omega), rd_e rfl]
            · show ω 135 (p + i) = nI (if i = 0 then k else q (i - 1))
              rw [if_neg e]
              have := q4 (i - 1) (by omega)
              rw [show p + 1 + (i - 1) = p + i by omega] at this
              exact this
        · left
          simp (disch := omega) only [Nat.add_zero, Nat.zero_add, Nat.zero_mul, Nat.mul_zero, mc8, mc3, nU_f, nU_k, nU_e, xbd_some, xgd_true, xlet_eq, g_in, nI_clamp, nI_leI, nI_ltI, nI_eq, nI_add, pk_mul, pk_sub, rd_e, rd_k, rd_c, i10, i01, xsm_l, xsm_r, if_pos, if_neg, l_neg1, oI_e0, nI_e0, oI_nI, ne_eq, not_true_eq_false, not_false_eq_true, and_true, true_and, and_false, false_and, or_true, true_or, or_false, false_or, if_true, if_false, lit_0, lit_1, lit_2, lit_3, lit_4, lit_5, lit_6, lit_8, lit_9, lit_10, lit_12, lit_13, lit_21, lit_29, lit_30, lit_31, lit_37, lit_101, lit_120, lit_121, lit_127, lit_169, lit_64, lit_99, lit_999, lit_676, lit_845, lit_48, lit_57, lit_32, lit_59, c8, andn, hcon2, shl1, orn, l1, m1]
          refine ⟨_, rfl, rfl, e1, e2, fun q a b => ?_⟩
          have := h4 q a b
          have : q 0 ≠ k := fun e => by
            have a2 := a.2.2
            have b2 := b.2
            rw [e] at a2 b2
            exact q1 _ a2 b2
          omega
      · intro ⟨v, τ⟩ ⟨h1, h2, h3, h4⟩
        dsimp only at h1 h2 h3 h4 ⊢
        subst h1
        have hCt : s_C τ 1 N := s_C_eq (fun c hc => h2 c (by omega) (by omega) (by omega)) hC
        have c8 : τ 8 0 = nI (N 0 1) := (s_C_0 hCt).1.2.1
        unfold B_X2_withdraws_12
        simp (disch := omega) only [Nat.add_zero, Nat.zero_add, Nat.zero_mul, Nat.mul_zero, mc8, mc3, nU_f, nU_k, nU_e, xbd_some, xgd_true, xlet_eq, g_in, nI_clamp, nI_leI, nI_ltI, nI_eq, nI_add, pk_mul, pk_sub, rd_e, rd_k, rd_c, i10, i01, xsm_l, xsm_r, if_pos, if_neg, l_neg1, oI_e0, nI_e0, oI_nI, ne_eq, not_true_eq_false, not_false_eq_true, and_true, true_and, and_false, false_and, or_true, true_or, or_false, false_or, if_true, if_false, lit_0, lit_1, lit_2, lit_3, lit_4, lit_5, lit_6, lit_8, lit_9, lit_10, lit_12, lit_13, lit_21, lit_29, lit_30, lit_31, lit_37, lit_101, lit_120, lit_121, lit_127, lit_169, lit_64, lit_99, lit_999, lit_676, lit_845, lit_48, lit_57, lit_32, lit_59, c8]
        refine ⟨_, rfl, Or.inr ⟨τ, rfl, h2, h3, Or.inr ⟨rfl, fun q a b => ?_⟩⟩⟩
        have h5 := h4 q a b
        have hb := a.2.1
        rw [dif_bit hg (by have := a.1; omega)] at hb
        have := hsn (q 0) a.1 (by simp at hb; exact hb.1)
        omega
    obtain ⟨e, g1, g2⟩ := hL
    show ∃ r τ, G_X2_withdraws (F_X2_withdraws fu) (nI set) (nI g) (nI p) σ = some (r, τ) ∧ _
    unfold G_X2_withdraws
    simp (disch := omega) only [Nat.add_zero, Nat.zero_add, Nat.zero_mul, Nat.mul_zero, mc8, mc3, nU_f, nU_k, nU_e, xbd_some, xgd_true, xlet_eq, g_in, nI_clamp, nI_leI, nI_ltI, nI_eq, nI_add, pk_mul, pk_sub, rd_e, rd_k, rd_c, i10, i01, xsm_l, xsm_r, if_pos, if_neg, l_neg1, oI_e0, nI_e0, oI_nI, ne_eq, not_true_eq_false, not_false_eq_true, and_true, true_and, and_false, false_and, or_true, true_or, or_false, false_or, if_true, if_false, lit_0, lit_1, lit_2, lit_3, lit_4, lit_5, lit_6, lit_8, lit_9, lit_10, lit_12, lit_13, lit_21, lit_29, lit_30, lit_31, lit_37, lit_101, lit_120, lit_121, lit_127, lit_169, lit_64, lit_99, lit_999, lit_676, lit_845, lit_48, lit_57, lit_32, lit_59, g1]
    rcases g2 with ⟨τ, rfl, g2⟩ | ⟨τ, rfl, g2⟩
    · exact ⟨_, _, rfl, g2⟩
    · exact ⟨_, _, rfl, g2⟩
