theorem popc {v : Nat} (h : v < 32) (σ : xM) : F_J_bitCount (nI v) σ = some (nI (xct (fun k => v.testBit k) 5)) := by
  have hh : ∀ v, v < 32 → F_J_bitCount (nI v) xM0 = some (nI (xct (fun k => v.testBit k) 5)) := by decide +kernel
  exact hh v h
theorem shrn {u k : Nat} (hu : u < 32) (hk : k < 6) : nI u >>> (nI k &&& nI 31) = nI (u / 2 ^ k) := by
  have hh : ∀ u, u < 32 → ∀ k, k < 6 → nI u >>> (nI k &&& nI 31) = nI (u / 2 ^ k) := by decide +kernel
  exact hh u hu k hk
theorem pop_s {u k : Nat} (hu : u < 32) (hk : k < 6) : xct (fun j => (u / 2 ^ k).testBit j) 5 + xct (fun j => u.testBit j) k = xct (fun j => u.testBit j) 5 := by
  have hh : ∀ u, u < 32 → ∀ k, k < 6 → xct (fun j => (u / 2 ^ k).testBit j) 5 + xct (fun j => u.testBit j) k = xct (fun j => u.testBit j) 5 := by decide +kernel
  exact hh u hu k hk
theorem xct_cg {P Q : Nat → Bool} : ∀ k, (∀ j, j < k → P j = Q j) → xct P k = xct Q k
  | 0, _ => rfl
  | k + 1, h => by
    unfold xct
    rw [xct_cg k (fun j hj => h j (by omega)), h k (by omega)]
theorem xct_0 {P : Nat → Bool} {n : Nat} : ∀ k, n ≤ k → (∀ j, n ≤ j → j < k → P j = false) → xct P k = xct P n
  | 0, h, _ => by
    have : n = 0 := by omega
    rw [this]
  | k + 1, h, hz => by
    by_cases e : n = k + 1
    · rw [e]
    · rw [xct_f (hz k (by omega) (by omega))]
      exact xct_0 k (by omega) (fun j a b => hz j a (by omega))
theorem up_xct {N : xN} {k : Nat} (hk : k ≤ N 0 1) : xct (fun j => (s_up N).testBit j) k = xct (p_on N) k := xct_cg k (fun j hj => s_up_bit (by omega))
theorem up_x5 {N : xN} (hS : N 0 1 ≤ 5) : xct (fun j => (s_up N).testBit j) 5 = xct (p_on N) (N 0 1) := by
  rw [← up_xct (Nat.le_refl _)]
  refine xct_0 5 hS (fun j a _ => ?_)
  refine Nat.testBit_lt_two_pow (Nat.lt_of_lt_of_le (xmk_lt _ _) (Nat.pow_le_pow_right (by omega) a))
theorem up_on {N : xN} {s : Nat} (hs : s < N 0 1) : (s_up N).testBit s = p_on N s := s_up_bit hs
def e133 (σ τ : xM) : Prop := ∀ c, c ≠ 130 → c ≠ 131 → c ≠ 133 → τ c = σ c
theorem e133_C {σ τ : xM} {N : xN} (h : e133 σ τ) (hC : s_C σ 1 N) : s_C τ 1 N := s_C_eq (fun c hc => h c (by omega) (by omega) (by omega)) hC
def gd (N : xN) (s rest : Nat) (t st : Nat → Nat) : Prop := (∀ j, j < s → st j = t j) ∧ p_ok N st ∧ p_sum N st (N 0 1) = p_sum N t s + rest
def p_vp (N : xN) (t : Nat → Nat) (s : Nat) : Prop := ∀ j, j < s → (p_on N j = true → t j ≤ 4) ∧ (p_on N j = false → t j = N 8 j)
def sq (N : xN) (s rest : Nat) (t : Nat → Nat) (σ : xM) (r : Int32) (τ : xM) : Prop := e133 σ τ ∧ ((r = nI 1 ∧ ∃ st, gd N s rest t st ∧ (∀ st', gd N s rest t st' → p_cd N st (N 0 1) ≤ p_cd N st' (N 0 1)) ∧ ∀ j, j < N 0 1 → τ 133 j = nI (st j)) ∨ (r = nI 0 ∧ (∀ st, ¬ gd N s rest t st) ∧ ∀ j, j < s → τ 133 j = nI (t j)))
theorem sub_pos {a b : Nat} (ha : a < 2 ^ 30) (hb : b < 2 ^ 30) : (if nI 0 < nI a - nI b then nI a - nI b else nI 0) = nI (a - b) := by
  by_cases h : b < a
  · rw [pk_sub (by omega), if_pos (nI_lt (by omega) (by omega))]
  · rw [if_neg, show a - b = 0 by omega]
    rw [Int32.lt_iff_toInt_lt, pk_sub_toInt ha hb, nI_toInt (by omega)]
    omega
theorem min4 (a : Nat) : (if a < 4 then nI a else nI 4) = nI (if a < 4 then a else 4) := by
  split <;> rfl
def tS (t : Nat → Nat) (s k : Nat) : Nat → Nat := fun j => if j = s then k else t j
theorem tS_e {t : Nat → Nat} {s k j : Nat} (h : j = s) : tS t s k j = k := if_pos h
theorem tS_n {t : Nat → Nat} {s k j : Nat} (h : j ≠ s) : tS t s k j = t j := if_neg h
theorem f_spreads {N : xN} (hw : s_wf N) : ∀ (d s fu rest : Nat) (t : Nat → Nat) (σ : xM), s + d = N 0 1 → d < fu → rest ≤ 20 → s_C σ 1 N → (∀ j, j < s → σ 133 j = nI (t j)) → p_vp N t s → ∃ r τ, F_X5_spreads fu (nI s) (nI rest) (nI (s_up N)) σ = some (r, τ) ∧ sq N s rest t σ r τ := by
  have hS := hw.1.2.1
  have hu := s_up_lt5 hS
  intro d
  induction d with
  | zero =>
    intro s fu rest t σ hs hfu hr hC ht hv
    obtain ⟨fu, rfl⟩ : ∃ f, fu = f + 1 := ⟨fu - 1, by omega⟩
    rw [Nat.add_zero] at hs
    subst hs
    have c8 : σ 8 0 = nI (N 0 1) := (s_C_0 hC).1.2.1
    show ∃ r τ, G_X5_spreads (F_X5_spreads fu) (nI (N 0 1)) (nI rest) (nI (s_up N)) σ = some (r, τ) ∧ _
    have ht4 : ∀ j, j < N 0 1 → t j ≤ 4 := fun j hj => by
      rcases p_on_c N j with h | h
      · exact (hv j hj).1 h
      · rw [(hv j hj).2 h]
        exact (hw.2.2.2.2.1 j hj).2.2.1
    by_cases h0 : rest = 0
    · obtain ⟨τ, g1, g2, g3, g4⟩ := f_look133 (u := s_up N) (st := t) ⟨hw, hC, fun j hj => ⟨ht j hj, ht4 j hj⟩⟩ (by omega)
      have e1 : e133 σ τ := fun c a b _ => g2 c (by unfold s_lk; omega)
      have t133 : τ 133 = σ 133 := g2 133 (by unfold s_lk; omega)
      have om := s_om_lt5 hS (s_up N) t
      by_cases hz : s_om N (s_up N) t = 0
      · refine ⟨nI 1, τ, ?_, e1, Or.inl ⟨rfl, t, ⟨fun _ _ => rfl, ⟨hv, hz⟩, by omega⟩, fun st' h' => ?_, fun j hj => ?_⟩⟩
        · unfold G_X5_spreads
          rw [hz] at g1
          simp (disch := omega) only [Nat.add_zero, Nat.zero_add, Nat.zero_mul, Nat.mul_zero, mc8, mc3, nU_f, nU_k, nU_e, xbd_some, xgd_true, xlet_eq, g_in, nI_clamp, nI_leI, nI_ltI, nI_eq, nI_add, pk_mul, pk_sub, rd_e, rd_k, rd_c, i10, i01, xsm_l, xsm_r, if_pos, if_neg, l_neg1, oI_e0, nI_e0, oI_nI, ne_eq, not_true_eq_false, not_false_eq_true, and_true, true_and, and_false, false_and, or_true, true_or, or_false, false_or, if_true, if_false, lit_0, lit_1, lit_2, lit_3, lit_4, lit_5, lit_6, lit_8, lit_9, lit_10, lit_12, lit_13, lit_21, lit_29, lit_30, lit_31, lit_37, lit_101, lit_120, lit_121, lit_127, lit_169, lit_64, lit_99, lit_999, lit_676, lit_845, lit_48, lit_57, lit_32, lit_59, c8, g1]
        · rw [p_cd_cg (N 0 1) (fun j hj => (h'.1 j hj).symm)]
          exact Nat.le_refl _
        · rw [t133]
          exact ht j hj
      · refine ⟨nI 0, τ, ?_, e1, Or.inr ⟨rfl, fun st h' => ?_, fun j hj => ?_⟩⟩
        · unfold G_X5_spreads
          simp (disch := omega) only [Nat.add_zero, Nat.zero_add, Nat.zero_mul, Nat.mul_zero, mc8, mc3, nU_f, nU_k, nU_e, xbd_some, xgd_true, xlet_eq, g_in, nI_clamp, nI_leI, nI_ltI, nI_eq, nI_add, pk_mul, pk_sub, rd_e, rd_k, rd_c, i10, i01, xsm_l, xsm_r, if_pos, if_neg, l_neg1, oI_e0, nI_e0, oI_nI, ne_eq, not_true_eq_false, not_false_eq_true, and_true, true_and, and_false, false_and, or_true, true_or, or_false, false_or, if_true, if_false, lit_0, lit_1, lit_2, lit_3, lit_4, lit_5, lit_6, lit_8, lit_9, lit_10, lit_12, lit_13, lit_21, lit_29, lit_30, lit_31, lit_37, lit_101, lit_120, lit_121, lit_127, lit_169, lit_64, lit_99, lit_999, lit_676, lit_845, lit_48, lit_57, lit_32, lit_59, c8, g1]
        · have := p_om_cg hw h'.1
          rw [h'.2.1.2] at this
          exact hz this
        · rw [t133]
          exact ht j hj
    · refine ⟨nI 0, σ, ?_, fun _ _ _ _ => rfl, Or.inr ⟨rfl, fun st h' => ?_, ht⟩⟩
      · unfold G_X5_spreads
        simp (disch := omega) only [Nat.add_zero, Nat.zero_add, Nat.zero_mul, Nat.mul_zero, mc8, mc3, nU_f, nU_k, nU_e, xbd_some, xgd_true, xlet_eq, g_in, nI_clamp, nI_leI, nI_ltI, nI_eq, nI_add, pk_mul, pk_sub, rd_e, rd_k, rd_c, i10, i01, xsm_l, xsm_r, if_pos, if_neg, l_neg1, oI_e0, nI_e0, oI_nI, ne_eq, not_true_eq_false, not_false_eq_true, and_true, true_and, and_false, false_and, or_true, true_or, or_false, false_or, if_true, if_false, lit_0, lit_1, lit_2, lit_3, lit_4, lit_5, lit_6, lit_8, lit_9, lit_10, lit_12, lit_13, lit_21, lit_29, lit_30, lit_31, lit_37, lit_101, lit_120, lit_121, lit_127, lit_169, lit_64, lit_99, lit_999, lit_676, lit_845, lit_48, lit_57, lit_32, lit_59, c8]
      · have h1 := h'.2.2
        rw [p_sum_cg (N 0 1) h'.1] at h1
        omega
  | succ d ih =>
    intro s fu rest t σ hs hfu hr hC ht hv
    obtain ⟨fu, rfl⟩ : ∃ f, fu = f + 1 := ⟨fu - 1, by omega⟩
    have c8 : σ 8 0 = nI (N 0 1) := (s_C_0 hC).1.2.1
    have hsn : s < N 0 1 := by omega
    show ∃ r τ, G_X5_spreads (F_X5_spreads fu) (nI s) (nI rest) (nI (s_up N)) σ = some (r, τ) ∧ _
    have hcon := fun υ => f_contains (u := s_up N) (k := s) (by omega) (by omega) υ
    rw [up_on hsn] at hcon
    rcases p_on_c N s with ho | ho
    · -- the site is up
      rw [if_pos ho] at hcon
      have hcon2 : ∀ υ : xM, F_X4_contains (nI (s_up N)) (nI s) υ = some (nI 1) := hcon
      have hm := xct_mono (p_on N) (show s + 1 ≤ N 0 1 by omega)
      have hle := xct_le (p_on N) (N 0 1)
      have lat : xct (fun j => (s_up N / 2 ^ (s + 1)).testBit j) 5 = xct (p_on N) (N 0 1) - xct (p_on N) (s + 1) := by
        have := pop_s hu (show s + 1 < 6 by omega)
        rw [up_xct (by omega), up_x5 hS] at this
        omega
      have hsh : s_up N / 2 ^ (s + 1) < 32 := Nat.lt_of_le_of_lt (Nat.div_le_self _ _) hu
      have hpop := popc hsh σ
      rw [lat] at hpop
      generalize hLt : xct (p_on N) (N 0 1) - xct (p_on N) (s + 1) = L at *
      -- bounds of the digit
      have lo : ∀ st, gd N s rest t st → rest - 4 * L ≤ st s ∧ st s ≤ (if rest < 4 then rest else 4) := by
        intro st ⟨g1, g2, g3⟩
        have h4 := (g2.1 s hsn).1 ho
        have b := p_sum_le g2.1 (s := s + 1) (N 0 1) (by omega) (Nat.le_refl _)
        rw [p_sum_t ho, p_sum_cg s g1, hLt] at b
        constructor
        · omega
        · split <;> omega
      have ht' : ∀ k, ∀ j, j < s → (tS t s k) j = t j := fun k j hj => tS_n (by omega)
      have hss : ∀ k, p_sum N (tS t s k) (s + 1) = p_sum N t s + k := fun k => by
        rw [p_sum_t ho, p_sum_cg s (ht' k), tS_e rfl]
      have gdn : ∀ k st, k ≤ rest → (gd N (s + 1) (rest - k) (tS t s k) st ↔ gd N s rest t st ∧ st s = k) := by
        intro k st hk
        constructor
        · intro ⟨g1, g2, g3⟩
          refine ⟨⟨fun j hj => (g1 j (by omega)).trans (ht' k j hj), g2, ?_⟩, ?_⟩
          · rw [g3, hss]; omega
          · rw [g1 s (by omega)]; exact tS_e rfl
        · intro ⟨⟨g1, g2, g3⟩, g4⟩
          refine ⟨fun j hj => ?_, g2, ?_⟩
          · by_cases e : j = s
            · rw [tS_e e, e, g4]
            · rw [tS_n e]; exact g1 j (by omega)
          · rw [g3, hss]; omega
      have hL : ∃ e, L_X5_spreads_60 (F_X5_spreads fu) (nI s) (nI rest) (nI (s_up N)) (nI (if rest < 4 then rest else 4)) (nI (rest - 4 * L)) σ = some e ∧ ((∃ τ, e = .inl τ ∧ sq N s rest t σ (nI 1) τ) ∨ (∃ τ, e = .inr τ ∧ sq N s rest t σ (nI 0) τ)) := by
        unfold L_X5_spreads_60
        generalize hT : (if rest < 4 then rest else 4) = top at *
        have htop : top ≤ 4 ∧ top ≤ rest := by
          rw [← hT]
          split <;> omega
        have hl0 : rest - 4 * L ≤ 20 := by omega
        refine xloop_for (f := fun x : Int32 × xM => B_X5_spreads_60 (F_X5_spreads fu) (nI s) (nI rest) (nI (s_up N)) (nI top) x.1 x.2) (fun k x => x.1 = nI k ∧ rest - 4 * L ≤ k ∧ e133 σ x.2 ∧ (∀ j, j < s → x.2 133 j = nI (t j)) ∧ ∀ st, gd N s rest t st → k ≤ st s) (fun e => (∃ τ, e = .inl τ ∧ sq N s rest t σ (nI 1) τ) ∨ (∃ τ, e = .inr τ ∧ sq N s rest t σ (nI 0) τ)) (if top + 1 < rest - 4 * L then rest - 4 * L else top + 1) ?_ ?_ 6000 (rest - 4 * L) (nI (rest - 4 * L), σ) (by split <;> omega) (by split <;> omega) ⟨rfl, by omega, fun _ _ _ _ => rfl, ht, fun st h => (lo st h).1⟩
        · intro k ⟨v, τ⟩ hk ⟨h1, h2, h3, h4, h5⟩
          dsimp only at h1 h2 h3 h4 h5 ⊢
          subst h1
          have hkt : k ≤ top := by split at hk <;> omega
          have hCt := e133_C h3 hC
          have hC' : s_C (xup τ 133 s (nI k)) 1 N := s_C_eq (fun c hc => by simp (disch := omega) only [Nat.add_zero, Nat.zero_add, Nat.zero_mul, Nat.mul_zero, mc8, mc3, nU_f, nU_k, nU_e, xbd_some, xgd_true, xlet_eq, g_in, nI_clamp, nI_leI, nI_ltI, nI_eq, nI_add, pk_mul, pk_sub, rd_e, rd_k, rd_c, i10, i01, xsm_l, xsm_r, if_pos, if_neg, l_neg1, oI_e0, nI_e0, oI_nI, ne_eq, not_true_eq_false, not_false_eq_true, and_true, true_and, and_false, false_and, or_true, true_or, or_false, false_or, if_true, if_false, lit_0, lit_1, lit_2, lit_3, lit_4, lit_5, lit_6, lit_8, lit_9, lit_10, lit_12, lit_13, lit_21, lit_29, lit_30, lit_31, lit_37, lit_101, lit_120, lit_121, lit_127, lit_169, lit_64, lit_99, lit_999, lit_676, lit_845, lit_48, lit_57, lit_32, lit_59]) hCt
          obtain ⟨r, υ, m1, m2, m3⟩ := ih (s + 1) fu (rest - k) (tS t s k) (xup τ 133 s (nI k)) (by omega) (by omega) (by omega) hC' (fun j hj => by
            by_cases e : j = s
            · rw [tS_e e, rd_e e]
            · rw [tS_n e, rd_k e]
              exact h4 j (by omega)) (fun j hj => by
            by_cases e : j = s
            · rw [tS_e e, e]
              exact ⟨fun _ => by omega, fun z => by rw [ho] at z; cases z⟩
            · rw [tS_n e]
              exact hv j (by omega))
          have e1 : e133 σ υ := fun c a b d => by
            rw [m2 c a b d, rd_c (by omega)]
            exact h3 c a b d
          unfold B_X5_spreads_60
          rcases m3 with ⟨rfl, st, q1, q2, q3⟩ | ⟨rfl, q1, q2⟩
          · right
            simp (disch := omega) only [Nat.add_zero, Nat.zero_add, Nat.zero_mul, Nat.mul_zero, mc8, mc3, nU_f, nU_k, nU_e, xbd_some, xgd_true, xlet_eq, g_in, nI_clamp, nI_leI, nI_ltI, nI_eq, nI_add, pk_mul, pk_sub, rd_e, rd_k, rd_c, i10, i01, xsm_l, xsm_r, if_pos, if_neg, l_neg1, oI_e0, nI_e0, oI_nI, ne_eq, not_true_eq_false, not_false_eq_true, and_true, true_and, and_false, false_and, or_true, true_or, or_false, false_or, if_true, if_false, lit_0, lit_1, lit_2, lit_3, lit_4, lit_5, lit_6, lit_8, lit_9, lit_10, lit_12, lit_13, lit_21, lit_29, lit_30, lit_31, lit_37, lit_101, lit_120, lit_121, lit_127, lit_169, lit_64, lit_99, lit_999, lit_676, lit_845, lit_48, lit_57, lit_32, lit_59, m1]
            refine ⟨_, rfl, Or.inl ⟨υ, rfl, e1, Or.inl ⟨rfl, st, ((gdn k st (by omega)).mp q1).1, fun st' h' => ?_, q3⟩⟩⟩
            have := h5 st' h'
            by_cases e : st' s = k
            · exact q2 st' ((gdn k st' (by omega)).mpr ⟨h', e⟩)
            · have hst := (gdn k st (by omega)).mp q1
              refine Nat.le_of_lt (p_cd_lt hst.1.2.1.1 hsn ho (fun j hj => ?_) (by rw [hst.2]; omega) (N 0 1) hsn (Nat.le_refl _))
              rw [hst.1.1 j hj, h'.1 j hj]
          · left
            simp (disch := omega) only [Nat.add_zero, Nat.zero_add, Nat.zero_mul, Nat.mul_zero, mc8, mc3, nU_f, nU_k, nU_e, xbd_some, xgd_true, xlet_eq, g_in, nI_clamp, nI_leI, nI_ltI, nI_eq, nI_add, pk_mul, pk_sub, rd_e, rd_k, rd_c, i10, i01, xsm_l, xsm_r, if_pos, if_neg, l_neg1, oI_e0, nI_e0, oI_nI, ne_eq, not_true_eq_false, not_false_eq_true, and_true, true_and, and_false, false_and, or_true, true_or, or_false, false_or, if_true, if_false, lit_0, lit_1, lit_2, lit_3, lit_4, lit_5, lit_6, lit_8, lit_9, lit_10, lit_12, lit_13, lit_21, lit_29, lit_30, lit_31, lit_37, lit_101, lit_120, lit_121, lit_127, lit_169, lit_64, lit_99, lit_999, lit_676, lit_845, lit_48, lit_57, lit_32, lit_59, m1]
            refine ⟨_, rfl, rfl, by omega, e1, fun j hj => ?_, fun st h' => ?_⟩
            · show υ 133 j = _
              rw [q2 j (by omega), tS_n (by omega)]
            · have := h5 st h'
              have : st s ≠ k := fun e => q1 st ((gdn k st (by omega)).mpr ⟨h', e⟩)
              omega
        · intro ⟨v, τ⟩ ⟨h1, h2, h3, h4, h5⟩
          dsimp only at h1 h2 h3 h4 h5 ⊢
          subst h1
          have hb : top < (if top + 1 < rest - 4 * L then rest - 4 * L else top + 1) ∧ (if top + 1 < rest - 4 * L then rest - 4 * L else top + 1) ≤ 20 := by split <;> omega
          generalize (if top + 1 < rest - 4 * L then rest - 4 * L else top + 1) = q at *
          unfold B_X5_spreads_60
          simp (disch := omega) only [Nat.add_zero, Nat.zero_add, Nat.zero_mul, Nat.mul_zero, mc8, mc3, nU_f, nU_k, nU_e, xbd_some, xgd_true, xlet_eq, g_in, nI_clamp, nI_leI, nI_ltI, nI_eq, nI_add, pk_mul, pk_sub, rd_e, rd_k, rd_c, i10, i01, xsm_l, xsm_r, if_pos, if_neg, l_neg1, oI_e0, nI_e0, oI_nI, ne_eq, not_true_eq_false, not_false_eq_true, and_true, true_and, and_false, false_and, or_true, true_or, or_false, false_or, if_true, if_false, lit_0, lit_1, lit_2, lit_3, lit_4, lit_5, lit_6, lit_8, lit_9, lit_10, lit_12, lit_13, lit_21, lit_29, lit_30, lit_31, lit_37, lit_101, lit_120, lit_121, lit_127, lit_169, lit_64, lit_99, lit_999, lit_676, lit_845, lit_48, lit_57, lit_32, lit_59]
          refine ⟨_, rfl, Or.inr ⟨τ, rfl, h3, Or.inr ⟨rfl, fun st h' => ?_, h4⟩⟩⟩
          have := h5 st h'
          have := (lo st h').2
          omega
      obtain ⟨e, g1, g2⟩ := hL
      unfold G_X5_spreads
      simp (disch := omega) only [Nat.add_zero, Nat.zero_add, Nat.zero_mul, Nat.mul_zero, mc8, mc3, nU_f, nU_k, nU_e, xbd_some, xgd_true, xlet_eq, g_in, nI_clamp, nI_leI, nI_ltI, nI_eq, nI_add, pk_mul, pk_sub, rd_e, rd_k, rd_c, i10, i01, xsm_l, xsm_r, if_pos, if_neg, l_neg1, oI_e0, nI_e0, oI_nI, ne_eq, not_true_eq_false, not_false_eq_true, and_true, true_and, and_false, false_and, or_true, true_or, or_false, false_or, if_true, if_false, lit_0, lit_1, lit_2, lit_3, lit_4, lit_5, lit_6, lit_8, lit_9, lit_10, lit_12, lit_13, lit_21, lit_29, lit_30, lit_31, lit_37, lit_101, lit_120, lit_121, lit_127, lit_169, lit_64, lit_99, lit_999, lit_676, lit_845, lit_48, lit_57, lit_32, lit_59, c8, hcon2, shrn, hpop, min4, sub_pos, g1]
      rcases g2 with ⟨τ, rfl, g2⟩ | ⟨τ, rfl, g2⟩
      · exact ⟨_, _, rfl, g2⟩
      · exact ⟨_, _, rfl, g2⟩
    · -- the site is off
      rw [if_neg (by simp [ho])] at hcon
      have hcon2 : ∀ υ : xM, F_X4_contains (nI (s_up N)) (nI s) υ = some (nI 0) := hcon
      obtain ⟨x1, x2, x3, x4⟩ := (s_C_0 hC).2.2.2.1 s hsn
      have hC' : s_C (xup σ 133 s (nI (N 8 s))) 1 N := s_C_eq (fun c hc => by simp (disch := omega) only [Nat.add_zero, Nat.zero_add, Nat.zero_mul, Nat.mul_zero, mc8, mc3, nU_f, nU_k, nU_e, xbd_some, xgd_true, xlet_eq, g_in, nI_clamp, nI_leI, nI_ltI, nI_eq, nI_add, pk_mul, pk_sub, rd_e, rd_k, rd_c, i10, i01, xsm_l, xsm_r, if_pos, if_neg, l_neg1, oI_e0, nI_e0, oI_nI, ne_eq, not_true_eq_false, not_false_eq_true, and_true, true_and, and_false, false_and, or_true, true_or, or_false, false_or, if_true, if_false, lit_0, lit_1, lit_2, lit_3, lit_4, lit_5, lit_6, lit_8, lit_9, lit_10, lit_12, lit_13, lit_21, lit_29, lit_30, lit_31, lit_37, lit_101, lit_120, lit_121, lit_127, lit_169, lit_64, lit_99, lit_999, lit_676, lit_845, lit_48, lit_57, lit_32, lit_59]) hC
      have ht' : ∀ j, j < s → (tS t s (N 8 s)) j = t j := fun j hj => tS_n (by omega)
      have gdn : ∀ st, gd N (s + 1) rest (tS t s (N 8 s)) st ↔ gd N s rest t st := by
        intro st
        have hss : p_sum N (tS t s (N 8 s)) (s + 1) = p_sum N t s := by rw [p_sum_f ho, p_sum_cg s ht']
        constructor
        · intro ⟨g1, g2, g3⟩
          exact ⟨fun j hj => (g1 j (by omega)).trans (ht' j hj), g2, by rw [g3, hss]⟩
        · intro ⟨g1, g2, g3⟩
          refine ⟨fun j hj => ?_, g2, by rw [g3, hss]⟩
          by_cases e : j = s
          · rw [tS_e e, e, (g2.1 s hsn).2 ho]
          · rw [tS_n e]; exact g1 j (by omega)
      obtain ⟨r, υ, m1, m2, m3⟩ := ih (s + 1) fu rest (tS t s (N 8 s)) (xup σ 133 s (nI (N 8 s))) (by omega) (by omega) (by omega) hC' (fun j hj => by
        by_cases e : j = s
        · rw [tS_e e, rd_e e]
        · rw [tS_n e, rd_k e]
          exact ht j (by omega)) (fun j hj => by
        by_cases e : j = s
        · rw [tS_e e, e]
          exact ⟨fun z => (by rw [ho] at z; cases z), fun _ => rfl⟩
        · rw [tS_n e]
          exact hv j (by omega))
      have e1 : e133 σ υ := fun c a b d => by
        rw [m2 c a b d, rd_c (by omega)]
      have z1 : xzok true (nI 1) = true := by decide
      have z0 : xzok true (nI 0) = true := by decide
      unfold G_X5_spreads
      rcases m3 with ⟨rfl, st, q1, q2, q3⟩ | ⟨rfl, q1, q2⟩
      · simp (disch := omega) only [Nat.add_zero, Nat.zero_add, Nat.zero_mul, Nat.mul_zero, mc8, mc3, nU_f, nU_k, nU_e, xbd_some, xgd_true, xlet_eq, g_in, nI_clamp, nI_leI, nI_ltI, nI_eq, nI_add, pk_mul, pk_sub, rd_e, rd_k, rd_c, i10, i01, xsm_l, xsm_r, if_pos, if_neg, l_neg1, oI_e0, nI_e0, oI_nI, ne_eq, not_true_eq_false, not_false_eq_true, and_true, true_and, and_false, false_and, or_true, true_or, or_false, false_or, if_true, if_false, lit_0, lit_1, lit_2, lit_3, lit_4, lit_5, lit_6, lit_8, lit_9, lit_10, lit_12, lit_13, lit_21, lit_29, lit_30, lit_31, lit_37, lit_101, lit_120, lit_121, lit_127, lit_169, lit_64, lit_99, lit_999, lit_676, lit_845, lit_48, lit_57, lit_32, lit_59, c8, hcon2, x3, m1, z1]
        exact ⟨_, _, rfl, e1, Or.inl ⟨rfl, st, (gdn st).mp q1, fun st' h' => q2 st' ((gdn st').mpr h'), q3⟩⟩
      · simp (disch := omega) only [Nat.add_zero, Nat.zero_add, Nat.zero_mul, Nat.mul_zero, mc8, mc3, nU_f, nU_k, nU_e, xbd_some, xgd_true, xlet_eq, g_in, nI_clamp, nI_leI, nI_ltI, nI_eq, nI_add, pk_mul, pk_sub, rd_e, rd_k, rd_c, i10, i01, xsm_l, xsm_r, if_pos, if_neg, l_neg1, oI_e0, nI_e0, oI_nI, ne_eq, not_true_eq_false, not_false_eq_true, and_true, true_and, and_false, false_and, or_true, true_or, or_false, false_or, if_true, if_false, lit_0, lit_1, lit_2, lit_3, lit_4, lit_5, lit_6, lit_8, lit_9, lit_10, lit_12, lit_13, lit_21, lit_29, lit_30, lit_31, lit_37, lit_101, lit_120, lit_121, lit_127, lit_169, lit_64, lit_99, lit_999, lit_676, lit_845, lit_48, lit_57, lit_32, lit_59, c8, hcon2, x3, m1, z0]
        refine ⟨_, _, rfl, e1, Or.inr ⟨rfl, fun st h' => q1 st ((gdn st).mpr h'), fun j hj => ?_⟩⟩
        rw [q2 j (by omega), tS_n (by omega)]
