theorem fw_st {N : xN} {m a b : Nat} : s_fw N (m + 1) a b ≠ 0 ↔ s_fw N m a b ≠ 0 ∨ (s_fw N m a m ≠ 0 ∧ s_fw N m m b ≠ 0) := by
  show s_fs (s_fw N m) m a b ≠ 0 ↔ _
  unfold s_fs
  generalize s_fw N m a m = p
  generalize s_fw N m m b = q
  generalize s_fw N m a b = r
  by_cases h : p ≠ 0 ∧ q ≠ 0 ∧ (r = 0 ∨ p + q - 1 < r)
  · rw [if_pos h]
    omega
  · rw [if_neg h]
    omega
theorem fw_sy {N : xN} (h : s_sy N) : ∀ m, m ≤ 8 → ∀ a b, a < 8 → b < 8 → s_fw N m a b ≠ 0 → s_fw N m b a ≠ 0
  | 0, _, a, b, ha, hb => by
    show s_d0 N a b ≠ 0 → s_d0 N b a ≠ 0
    have := h a b ha hb
    unfold s_d0
    rw [this]
    by_cases e : a = b
    · rw [if_pos e, if_pos e.symm]
      exact id
    · rw [if_neg e, if_neg (show ¬ b = a from fun e2 => e e2.symm)]
      exact id
  | m + 1, hm, a, b, ha, hb => by
    intro hh
    rw [fw_st] at hh ⊢
    have ih := fw_sy h m (by omega)
    rcases hh with h1 | ⟨h1, h2⟩
    · exact Or.inl (ih a b ha hb h1)
    · exact Or.inr ⟨ih m b (by omega) hb h2, ih a m ha (by omega) h1⟩
theorem fw_tr {N : xN} : ∀ m a b k, k < m → s_fw N m a k ≠ 0 → s_fw N m k b ≠ 0 → s_fw N m a b ≠ 0
  | 0, a, b, k, hk, _, _ => by omega
  | m + 1, a, b, k, hk, h1, h2 => by
    rw [fw_st] at h1 h2 ⊢
    by_cases e : k = m
    · subst e
      right
      exact ⟨by rcases h1 with h | ⟨h, _⟩ <;> exact h, by rcases h2 with h | ⟨_, h⟩ <;> exact h⟩
    · have ih := fun a b => fw_tr (N := N) m a b k (by omega)
      rcases h1 with h1 | ⟨h1, h1'⟩
      · rcases h2 with h2 | ⟨h2, h2'⟩
        · exact Or.inl (ih a b h1 h2)
        · exact Or.inr ⟨ih a m h1 h2, h2'⟩
      · rcases h2 with h2 | ⟨h2, h2'⟩
        · exact Or.inr ⟨h1, ih m b h1' h2⟩
        · exact Or.inr ⟨h1, h2'⟩
theorem di_sy {N : xN} (hA : N 0 0 ≤ 8) (h : s_sy N) {a b : Nat} (ha : a < N 0 0) (hb : b < N 0 0) : s_di N a b ≠ 0 → s_di N b a ≠ 0 := fw_sy h _ hA a b (by omega) (by omega)
theorem di_tr {N : xN} {a b k : Nat} (hk : k < N 0 0) : s_di N a k ≠ 0 → s_di N k b ≠ 0 → s_di N a b ≠ 0 := fw_tr _ a b k hk
def sm (Q : Nat → Bool) (f : Nat → Nat) : Nat → Nat
  | 0 => 0
  | k + 1 => sm Q f k + (if Q k = true then f k else 0)
theorem sm_t {Q : Nat → Bool} {f : Nat → Nat} {k : Nat} (h : Q k = true) : sm Q f (k + 1) = sm Q f k + f k := by simp [sm, h]
theorem sm_f {Q : Nat → Bool} {f : Nat → Nat} {k : Nat} (h : Q k = false) : sm Q f (k + 1) = sm Q f k := by simp [sm, h]
theorem sm_c {Q : Nat → Bool} {k : Nat} : Q k = true ∨ Q k = false := by cases Q k <;> simp
theorem sm_add {Q : Nat → Bool} {f g : Nat → Nat} : ∀ n, sm Q (fun t => f t + g t) n = sm Q f n + sm Q g n
  | 0 => rfl
  | n + 1 => by
    have ih := sm_add (Q := Q) (f := f) (g := g) n
    rcases sm_c (Q := Q) (k := n) with h | h
    · rw [sm_t h, sm_t h, sm_t h, ih]; omega
    · rw [sm_f h, sm_f h, sm_f h, ih]
theorem sm_le {Q : Nat → Bool} {f g : Nat → Nat} : ∀ n, (∀ t, t < n → Q t = true → f t ≤ g t) → sm Q f n ≤ sm Q g n
  | 0, _ => Nat.le_refl _
  | n + 1, hh => by
    have ih := sm_le n (fun t ht => hh t (by omega))
    rcases sm_c (Q := Q) (k := n) with h | h
    · rw [sm_t h, sm_t h]
      have := hh n (by omega) h
      omega
    · rw [sm_f h, sm_f h]
      exact ih
theorem sm_one {Q : Nat → Bool} {f : Nat → Nat} {t : Nat} (hQ : Q t = true) : ∀ n, t < n → f t ≤ sm Q f n
  | 0, h => by omega
  | n + 1, hh => by
    by_cases e : t = n
    · subst e
      rw [sm_t hQ]
      omega
    · have ih := sm_one (f := f) hQ n (by omega)
      rcases sm_c (Q := Q) (k := n) with h | h
      · rw [sm_t h]; omega
      · rw [sm_f h]; exact ih
theorem sm_bd {Q : Nat → Bool} {f : Nat → Nat} {B : Nat} : ∀ n, (∀ t, t < n → f t ≤ B) → sm Q f n ≤ B * n
  | 0, _ => Nat.zero_le _
  | n + 1, hh => by
    have ih := sm_bd (Q := Q) n (fun t ht => hh t (by omega))
    have h1 := hh n (by omega)
    rw [Nat.mul_succ]
    rcases sm_c (Q := Q) (k := n) with h | h
    · rw [sm_t h]; omega
    · rw [sm_f h]; omega
theorem s_cb_nz {N : xN} {u : Nat} {st : Nat → Nat} {a s : Nat} (h : s_sm N u st a s ≠ 0) : ∀ k, s < k → s_cb N u st a k ≠ 0
  | 0, hk => by omega
  | k + 1, hk => by
    unfold s_cb
    by_cases e : s = k
    · subst e
      split
      · omega
      · next hn =>
        intro z
        exact hn ⟨h, Or.inl z⟩
    · have ih := s_cb_nz h k (by omega)
      split <;> omega
theorem s_ct_nz {N : xN} {u : Nat} {st : Nat → Nat} {a s : Nat} (hs : s < N 0 1) (h : s_sm N u st a s ≠ 0) : s_ct N u st a ≠ 0 := by
  unfold s_ct
  split
  · next h2 => exact h2.2.1
  · exact s_cb_nz h _ hs
theorem s_ct_sm {N : xN} {u : Nat} {st : Nat → Nat} {a t : Nat} (h : s_ct N u st a = t + 1) : s_sm N u st a t ≠ 0 := by
  unfold s_ct at h
  split at h
  · next h2 =>
    have := h2.2.2
    rw [h, Nat.add_sub_cancel] at this
    exact this
  · exact s_cb_pos N u st a _ t h
def q_r (N : xN) (a : Nat) : Nat → Bool := fun t => p_on N t && !decide (s_di N a (N 6 t) = 0)
def q_d (N : xN) (a : Nat) : Nat → Bool := fun b => !decide (s_di N a b = 0)
theorem no_room {N : xN} (hw : s_wf N) (hy : s_sy N) {s : Nat} (hs : s < N 0 1) (ho : p_on N s = true) (hlt : sm (q_r N (N 6 s)) (N 7) (N 0 1) < sm (q_d N (N 6 s)) (N 2) (N 0 0)) (st : Nat → Nat) : ¬ p_ok N st := by
  intro ⟨hv, hz⟩
  obtain ⟨hA, hS, hT, hQ⟩ := hw.1
  have h6 := (hw.2.2.2.2.1 s hs).1
  generalize hH : N 6 s = a at *
  have key : ∀ k, k ≤ N 0 0 → sm (q_d N a) (N 2) k ≤ sm (q_r N a) (fun t => s_la N (s_up N) st t k) (N 0 1) := by
    intro k
    induction k with
    | zero => intro _; exact Nat.zero_le _
    | succ k ih =>
      intro hk
      have ih := ih (by omega)
      have e : (fun t => s_la N (s_up N) st t (k + 1)) = fun t => s_la N (s_up N) st t k + (if s_ct N (s_up N) st k = t + 1 then N 2 k else 0) := rfl
      rw [e, sm_add (f := fun t => s_la N (s_up N) st t k) (g := fun t => if s_ct N (s_up N) st k = t + 1 then N 2 k else 0)]
      rcases sm_c (Q := q_d N a) (k := k) with h | h
      · rw [sm_t h]
        have hd : s_di N a k ≠ 0 := by simpa [q_d] using h
        have hd2 := di_sy hA hy h6 (show k < N 0 0 by omega) hd
        have hs0 : s_sm N (s_up N) st k s ≠ 0 := by
          unfold s_sm
          rw [hH, up_on hs, ho, if_neg (by simp [hd2])]
          omega
        have hc := s_ct_nz hs hs0
        obtain ⟨t, ht⟩ : ∃ t, s_ct N (s_up N) st k = t + 1 := ⟨s_ct N (s_up N) st k - 1, by omega⟩
        have htl := s_ct_lt hw (u := s_up N) (st := st) (show k < N 0 0 by omega)
        have htn : t < N 0 1 := by omega
        have hst := s_ct_sm ht
        have hon : p_on N t = true := by rw [← up_on htn]; exact s_sm_bit hst
        have hdt : s_di N k (N 6 t) ≠ 0 := by
          intro z
          unfold s_sm at hst
          rw [if_pos (Or.inl z)] at hst
          exact hst rfl
        have hq : q_r N a t = true := by
          have := di_tr (show k < N 0 0 by omega) hd hdt
          simp [q_r, hon, this]
        have := sm_one (f := fun t => if s_ct N (s_up N) st k = t + 1 then N 2 k else 0) hq (N 0 1) htn
        rw [if_pos ht] at this
        omega
      · rw [sm_f h]
        omega
  have h1 := key (N 0 0) (Nat.le_refl _)
  have h2 : sm (q_r N a) (fun t => s_la N (s_up N) st t (N 0 0)) (N 0 1) ≤ sm (q_r N a) (N 7) (N 0 1) := by
    refine sm_le _ (fun t ht hq => ?_)
    have hon : p_on N t = true := by
      unfold q_r at hq
      simp at hq
      exact hq.1
    have hov : s_ov N (s_up N) st t = false := by
      have := xmk_bit (s_ov N (s_up N) st) (N 0 1) t ht
      have e : xmk (s_ov N (s_up N) st) (N 0 1) = 0 := hz
      rw [e, Nat.zero_testBit] at this
      exact this.symm
    unfold s_ov at hov
    rw [up_on ht, hon] at hov
    simp at hov
    unfold s_ld at hov
    omega
  omega
theorem f_room {σ : xM} {N : xN} {a : Nat} (hw : s_wf N) (hC : s_C σ 1 N) (ha : a < N 0 0) : F_X5_roomAround (nI a) (nI (s_up N)) σ = some (nI (sm (q_r N a) (N 7) (N 0 1))) := by
  obtain ⟨hA, hS, hT, hQ⟩ := hw.1
  have c8 : σ 8 0 = nI (N 0 1) := (s_C_0 hC).1.2.1
  have hu := s_up_lt5 hS
  have hL : L_X5_roomAround_4 (nI a) (nI (s_up N)) 0 0 σ = some (nI (sm (q_r N a) (N 7) (N 0 1))) := by
    unfold L_X5_roomAround_4
    refine xfor (f := fun x : Int32 × Int32 => B_X5_roomAround_4 (nI a) (nI (s_up N)) x.1 x.2 σ) (fun k => (nI (sm (q_r N a) (N 7) k), nI k)) (N 0 1) _ (fun k hk => ?_) ?_ 6000 0 (by omega) (by omega)
    · obtain ⟨x1, x2, x3, x4⟩ := (s_C_0 hC).2.2.2.1 k hk
      obtain ⟨b6, b7, b8, b9⟩ := hw.2.2.2.2.1 k hk
      have hd := s_C_7 hC a (N 6 k) ha b6
      have hdl := s_di_lt hw.2.2.1 hA (show a < 8 by omega) (show N 6 k < 8 by omega)
      have hcon := f_contains (u := s_up N) (k := k) (by omega) (by omega) σ
      rw [up_on hk] at hcon
      dsimp only
      unfold B_X5_roomAround_4
      rcases p_on_c N k with ho | ho
      · rw [if_pos ho] at hcon
        have hcon2 : F_X4_contains (nI (s_up N)) (nI k) σ = some (nI 1) := hcon
        by_cases hz : s_di N a (N 6 k) = 0
        · rw [sm_f (by simp [q_r, hz])]
          simp (disch := omega) only [Nat.add_zero, Nat.zero_add, Nat.zero_mul, Nat.mul_zero, mc8, mc3, nU_f, nU_k, nU_e, xbd_some, xgd_true, xlet_eq, g_in, nI_clamp, nI_leI, nI_ltI, nI_eq, nI_add, pk_mul, pk_sub, rd_e, rd_k, rd_c, i10, i01, xsm_l, xsm_r, if_pos, if_neg, l_neg1, oI_e0, nI_e0, oI_nI, ne_eq, not_true_eq_false, not_false_eq_true, and_true, true_and, and_false, false_and, or_true, true_or, or_false, false_or, if_true, if_false, lit_0, lit_1, lit_2, lit_3, lit_4, lit_5, lit_6, lit_8, lit_9, lit_10, lit_12, lit_13, lit_21, lit_29, lit_30, lit_31, lit_37, lit_101, lit_120, lit_121, lit_127, lit_169, lit_64, lit_99, lit_999, lit_676, lit_845, lit_48, lit_57, lit_32, lit_59, c8, hcon2, x1, f_dist, hd]
        · rw [sm_t (by simp [q_r, hz, ho])]
          simp (disch := omega) only [Nat.add_zero, Nat.zero_add, Nat.zero_mul, Nat.mul_zero, mc8, mc3, nU_f, nU_k, nU_e, xbd_some, xgd_true, xlet_eq, g_in, nI_clamp, nI_leI, nI_ltI, nI_eq, nI_add, pk_mul, pk_sub, rd_e, rd_k, rd_c, i10, i01, xsm_l, xsm_r, if_pos, if_neg, l_neg1, oI_e0, nI_e0, oI_nI, ne_eq, not_true_eq_false, not_false_eq_true, and_true, true_and, and_false, false_and, or_true, true_or, or_false, false_or, if_true, if_false, lit_0, lit_1, lit_2, lit_3, lit_4, lit_5, lit_6, lit_8, lit_9, lit_10, lit_12, lit_13, lit_21, lit_29, lit_30, lit_31, lit_37, lit_101, lit_120, lit_121, lit_127, lit_169, lit_64, lit_99, lit_999, lit_676, lit_845, lit_48, lit_57, lit_32, lit_59, c8, hcon2, x1, x2, f_dist, hd]
      · rw [if_neg (by simp [ho])] at hcon
        have hcon2 : F_X4_contains (nI (s_up N)) (nI k) σ = some (nI 0) := hcon
        rw [sm_f (by simp [q_r, ho])]
        simp (disch := omega) only [Nat.add_zero, Nat.zero_add, Nat.zero_mul, Nat.mul_zero, mc8, mc3, nU_f, nU_k, nU_e, xbd_some, xgd_true, xlet_eq, g_in, nI_clamp, nI_leI, nI_ltI, nI_eq, nI_add, pk_mul, pk_sub, rd_e, rd_k, rd_c, i10, i01, xsm_l, xsm_r, if_pos, if_neg, l_neg1, oI_e0, nI_e0, oI_nI, ne_eq, not_true_eq_false, not_false_eq_true, and_true, true_and, and_false, false_and, or_true, true_or, or_false, false_or, if_true, if_false, lit_0, lit_1, lit_2, lit_3, lit_4, lit_5, lit_6, lit_8, lit_9, lit_10, lit_12, lit_13, lit_21, lit_29, lit_30, lit_31, lit_37, lit_101, lit_120, lit_121, lit_127, lit_169, lit_64, lit_99, lit_999, lit_676, lit_845, lit_48, lit_57, lit_32, lit_59, c8, hcon2]
    · dsimp only
      unfold B_X5_roomAround_4
      simp (disch := omega) only [Nat.add_zero, Nat.zero_add, Nat.zero_mul, Nat.mul_zero, mc8, mc3, nU_f, nU_k, nU_e, xbd_some, xgd_true, xlet_eq, g_in, nI_clamp, nI_leI, nI_ltI, nI_eq, nI_add, pk_mul, pk_sub, rd_e, rd_k, rd_c, i10, i01, xsm_l, xsm_r, if_pos, if_neg, l_neg1, oI_e0, nI_e0, oI_nI, ne_eq, not_true_eq_false, not_false_eq_true, and_true, true_and, and_false, false_and, or_true, true_or, or_false, false_or, if_true, if_false, lit_0, lit_1, lit_2, lit_3, lit_4, lit_5, lit_6, lit_8, lit_9, lit_10, lit_12, lit_13, lit_21, lit_29, lit_30, lit_31, lit_37, lit_101, lit_120, lit_121, lit_127, lit_169, lit_64, lit_99, lit_999, lit_676, lit_845, lit_48, lit_57, lit_32, lit_59, c8]
  unfold F_X5_roomAround
  rw [xbd_s hL]
theorem f_demand {σ : xM} {N : xN} {a : Nat} (hw : s_wf N) (hC : s_C σ 1 N) (ha : a < N 0 0) : F_X5_demandAround (nI a) σ = some (nI (sm (q_d N a) (N 2) (N 0 0))) := by
  obtain ⟨hA, hS, hT, hQ⟩ := hw.1
  have c2 : σ 2 0 = nI (N 0 0) := (s_C_0 hC).1.1
  have hL : L_X5_demandAround_4 (nI a) 0 0 σ = some (nI (sm (q_d N a) (N 2) (N 0 0))) := by
    unfold L_X5_demandAround_4
    refine xfor (f := fun x : Int32 × Int32 => B_X5_demandAround_4 (nI a) x.1 x.2 σ) (fun k => (nI (sm (q_d N a) (N 2) k), nI k)) (N 0 0) _ (fun k hk => ?_) ?_ 6000 0 (by omega) (by omega)
    · obtain ⟨x1, x2, x3⟩ := (s_C_0 hC).2.1 k hk
      have hd := s_C_7 hC a k ha hk
      have hdl := s_di_lt hw.2.2.1 hA (show a < 8 by omega) (show k < 8 by omega)
      dsimp only
      unfold B_X5_demandAround_4
      by_cases hz : s_di N a k = 0
      · rw [sm_f (by simp [q_d, hz])]
        simp (disch := omega) only [Nat.add_zero, Nat.zero_add, Nat.zero_mul, Nat.mul_zero, mc8, mc3, nU_f, nU_k, nU_e, xbd_some, xgd_true, xlet_eq, g_in, nI_clamp, nI_leI, nI_ltI, nI_eq, nI_add, pk_mul, pk_sub, rd_e, rd_k, rd_c, i10, i01, xsm_l, xsm_r, if_pos, if_neg, l_neg1, oI_e0, nI_e0, oI_nI, ne_eq, not_true_eq_false, not_false_eq_true, and_true, true_and, and_false, false_and, or_true, true_or, or_false, false_or, if_true, if_false, lit_0, lit_1, lit_2, lit_3, lit_4, lit_5, lit_6, lit_8, lit_9, lit_10, lit_12, lit_13, lit_21, lit_29, lit_30, lit_31, lit_37, lit_101, lit_120, lit_121, lit_127, lit_169, lit_64, lit_99, lit_999, lit_676, lit_845, lit_48, lit_57, lit_32, lit_59, c2, f_dist, hd]
      · rw [sm_t (by simp [q_d, hz])]
        simp (disch := omega) only [Nat.add_zero, Nat.zero_add, Nat.zero_mul, Nat.mul_zero, mc8, mc3, nU_f, nU_k, nU_e, xbd_some, xgd_true, xlet_eq, g_in, nI_clamp, nI_leI, nI_ltI, nI_eq, nI_add, pk_mul, pk_sub, rd_e, rd_k, rd_c, i10, i01, xsm_l, xsm_r, if_pos, if_neg, l_neg1, oI_e0, nI_e0, oI_nI, ne_eq, not_true_eq_false, not_false_eq_true, and_true, true_and, and_false, false_and, or_true, true_or, or_false, false_or, if_true, if_false, lit_0, lit_1, lit_2, lit_3, lit_4, lit_5, lit_6, lit_8, lit_9, lit_10, lit_12, lit_13, lit_21, lit_29, lit_30, lit_31, lit_37, lit_101, lit_120, lit_121, lit_127, lit_169, lit_64, lit_99, lit_999, lit_676, lit_845, lit_48, lit_57, lit_32, lit_59, c2, x1, f_dist, hd]
    · dsimp only
      unfold B_X5_demandAround_4
      simp (disch := omega) only [Nat.add_zero, Nat.zero_add, Nat.zero_mul, Nat.mul_zero, mc8, mc3, nU_f, nU_k, nU_e, xbd_some, xgd_true, xlet_eq, g_in, nI_clamp, nI_leI, nI_ltI, nI_eq, nI_add, pk_mul, pk_sub, rd_e, rd_k, rd_c, i10, i01, xsm_l, xsm_r, if_pos, if_neg, l_neg1, oI_e0, nI_e0, oI_nI, ne_eq, not_true_eq_false, not_false_eq_true, and_true, true_and, and_false, false_and, or_true, true_or, or_false, false_or, if_true, if_false, lit_0, lit_1, lit_2, lit_3, lit_4, lit_5, lit_6, lit_8, lit_9, lit_10, lit_12, lit_13, lit_21, lit_29, lit_30, lit_31, lit_37, lit_101, lit_120, lit_121, lit_127, lit_169, lit_64, lit_99, lit_999, lit_676, lit_845, lit_48, lit_57, lit_32, lit_59, c2]
  unfold F_X5_demandAround
  rw [xbd_s hL]
theorem f_little {σ : xM} {N : xN} (hw : s_wf N) (hy : s_sy N) (hC : s_C σ 1 N) : ∃ r, F_X5_hasTooLittleRoom (nI (s_up N)) σ = some r ∧ (r = nI 0 ∨ (r = nI 1 ∧ ∀ st, ¬ p_ok N st)) := by
  obtain ⟨hA, hS, hT, hQ⟩ := hw.1
  have c8 : σ 8 0 = nI (N 0 1) := (s_C_0 hC).1.2.1
  have hu := s_up_lt5 hS
  have hL : ∃ e, L_X5_hasTooLittleRoom_2 (nI (s_up N)) 0 σ = some e ∧ (e = .inr () ∨ (e = .inl () ∧ ∀ st, ¬ p_ok N st)) := by
    unfold L_X5_hasTooLittleRoom_2
    refine xloop_for (f := fun x : Int32 => B_X5_hasTooLittleRoom_2 (nI (s_up N)) x σ) (fun k x => x = nI k) (fun e => e = .inr () ∨ (e = .inl () ∧ ∀ st, ¬ p_ok N st)) (N 0 1) ?_ ?_ 6000 0 0 (by omega) (by omega) rfl
    · intro k x hk h1
      subst h1
      obtain ⟨x1, x2, x3, x4⟩ := (s_C_0 hC).2.2.2.1 k hk
      obtain ⟨b6, b7, b8, b9⟩ := hw.2.2.2.2.1 k hk
      have hcon := f_contains (u := s_up N) (k := k) (by omega) (by omega) σ
      rw [up_on hk] at hcon
      have e1 := f_room hw hC b6
      have e2 := f_demand hw hC b6
      have l1 := sm_bd (Q := q_r N (N 6 k)) (f := N 7) (B := 999) (N 0 1) (fun t ht => (hw.2.2.2.2.1 t ht).2.1)
      have l2 := sm_bd (Q := q_d N (N 6 k)) (f := N 2) (B := 99) (N 0 0) (fun t ht => (hw.2.1 t ht).1)
      unfold B_X5_hasTooLittleRoom_2
      rcases p_on_c N k with ho | ho
      · rw [if_pos ho] at hcon
        have hcon2 : F_X4_contains (nI (s_up N)) (nI k) σ = some (nI 1) := hcon
        by_cases hz : sm (q_d N (N 6 k)) (N 2) (N 0 0) ≤ sm (q_r N (N 6 k)) (N 7) (N 0 1)
        · left
          simp (disch := omega) only [Nat.add_zero, Nat.zero_add, Nat.zero_mul, Nat.mul_zero, mc8, mc3, nU_f, nU_k, nU_e, xbd_some, xgd_true, xlet_eq, g_in, nI_clamp, nI_leI, nI_ltI, nI_eq, nI_add, pk_mul, pk_sub, rd_e, rd_k, rd_c, i10, i01, xsm_l, xsm_r, if_pos, if_neg, l_neg1, oI_e0, nI_e0, oI_nI, ne_eq, not_true_eq_false, not_false_eq_true, and_true, true_and, and_false, false_and, or_true, true_or, or_false, false_or, if_true, if_false, lit_0, lit_1, lit_2, lit_3, lit_4, lit_5, lit_6, lit_8, lit_9, lit_10, lit_12, lit_13, lit_21, lit_29, lit_30, lit_31, lit_37, lit_101, lit_120, lit_121, lit_127, lit_169, lit_64, lit_99, lit_999, lit_676, lit_845, lit_48, lit_57, lit_32, lit_59, c8, hcon2, x1, e1, e2]
          exact ⟨_, rfl, rfl⟩
        · right
          simp (disch := omega) only [Nat.add_zero, Nat.zero_add, Nat.zero_mul, Nat.mul_zero, mc8, mc3, nU_f, nU_k, nU_e, xbd_some, xgd_true, xlet_eq, g_in, nI_clamp, nI_leI, nI_ltI, nI_eq, nI_add, pk_mul, pk_sub, rd_e, rd_k, rd_c, i10, i01, xsm_l, xsm_r, if_pos, if_neg, l_neg1, oI_e0, nI_e0, oI_nI, ne_eq, not_true_eq_false, not_false_eq_true, and_true, true_and, and_false, false_and, or_true, true_or, or_false, false_or, if_true, if_false, lit_0, lit_1, lit_2, lit_3, lit_4, lit_5, lit_6, lit_8, lit_9, lit_10, lit_12, lit_13, lit_21, lit_29, lit_30, lit_31, lit_37, lit_101, lit_120, lit_121, lit_127, lit_169, lit_64, lit_99, lit_999, lit_676, lit_845, lit_48, lit_57, lit_32, lit_59, c8, hcon2, x1, e1, e2]
          exact ⟨_, rfl, Or.inr ⟨rfl, no_room hw hy hk ho (by omega)⟩⟩
      · left
        rw [if_neg (by simp [ho])] at hcon
        have hcon2 : F_X4_contains (nI (s_up N)) (nI k) σ = some (nI 0) := hcon
        simp (disch := omega) only [Nat.add_zero, Nat.zero_add, Nat.zero_mul, Nat.mul_zero, mc8, mc3, nU_f, nU_k, nU_e, xbd_some, xgd_true, xlet_eq, g_in, nI_clamp, nI_leI, nI_ltI, nI_eq, nI_add, pk_mul, pk_sub, rd_e, rd_k, rd_c, i10, i01, xsm_l, xsm_r, if_pos, if_neg, l_neg1, oI_e0, nI_e0, oI_nI, ne_eq, not_true_eq_false, not_false_eq_true, and_true, true_and, and_false, false_and, or_true, true_or, or_false, false_or, if_true, if_false, lit_0, lit_1, lit_2, lit_3, lit_4, lit_5, lit_6, lit_8, lit_9, lit_10, lit_12, lit_13, lit_21, lit_29, lit_30, lit_31, lit_37, lit_101, lit_120, lit_121, lit_127, lit_169, lit_64, lit_99, lit_999, lit_676, lit_845, lit_48, lit_57, lit_32, lit_59, c8, hcon2]
        exact ⟨_, rfl, rfl⟩
    · intro x h1
      subst h1
      unfold B_X5_hasTooLittleRoom_2
      simp (disch := omega) only [Nat.add_zero, Nat.zero_add, Nat.zero_mul, Nat.mul_zero, mc8, mc3, nU_f, nU_k, nU_e, xbd_some, xgd_true, xlet_eq, g_in, nI_clamp, nI_leI, nI_ltI, nI_eq, nI_add, pk_mul, pk_sub, rd_e, rd_k, rd_c, i10, i01, xsm_l, xsm_r, if_pos, if_neg, l_neg1, oI_e0, nI_e0, oI_nI, ne_eq, not_true_eq_false, not_false_eq_true, and_true, true_and, and_false, false_and, or_true, true_or, or_false, false_or, if_true, if_false, lit_0, lit_1, lit_2, lit_3, lit_4, lit_5, lit_6, lit_8, lit_9, lit_10, lit_12, lit_13, lit_21, lit_29, lit_30, lit_31, lit_37, lit_101, lit_120, lit_121, lit_127, lit_169, lit_64, lit_99, lit_999, lit_676, lit_845, lit_48, lit_57, lit_32, lit_59, c8]
      exact ⟨_, rfl, Or.inl rfl⟩
  obtain ⟨e, g1, g2⟩ := hL
  unfold F_X5_hasTooLittleRoom
  rw [xbd_s g1]
  rcases g2 with rfl | ⟨rfl, g2⟩
  · exact ⟨_, rfl, Or.inl rfl⟩
  · exact ⟨_, rfl, Or.inr ⟨rfl, g2⟩⟩
/-- the plan that is known -/
def PK (σ : xM) (N : xN) : Prop := (σ 132 4 = oI 0 ∧ ∀ st, ¬ p_ok N st) ∨ ∃ v st, σ 132 4 = nI v ∧ v ≤ 20 ∧ p_b N v st ∧ ∀ s, s < N 0 1 → σ 133 s = nI (st s)
def e132 (σ τ : xM) : Prop := ∀ c, c ≠ 130 → c ≠ 131 → c ≠ 132 → c ≠ 133 → τ c = σ c
theorem f_best {σ : xM} {N : xN} (hw : s_wf N) (hy : s_sy N) (hC : s_C σ 1 N) (hk : σ 132 3 = nI 0 ∨ (σ 132 3 = nI 1 ∧ PK σ N)) : ∃ τ, F_X5_bestSum σ = some (τ 132 4, τ) ∧ e132 σ τ ∧ τ 132 3 = nI 1 ∧ PK τ N := by
  obtain ⟨hA, hS, hT, hQ⟩ := hw.1
  unfold F_X5_bestSum
  rcases hk with hk | ⟨hk, hp⟩
  case inr =>
    refine ⟨σ, ?_, fun _ _ _ _ _ => rfl, hk, hp⟩
    simp (disch := omega) only [Nat.add_zero, Nat.zero_add, Nat.zero_mul, Nat.mul_zero, mc8, mc3, nU_f, nU_k, nU_e, xbd_some, xgd_true, xlet_eq, g_in, nI_clamp, nI_leI, nI_ltI, nI_eq, nI_add, pk_mul, pk_sub, rd_e, rd_k, rd_c, i10, i01, xsm_l, xsm_r, if_pos, if_neg, l_neg1, oI_e0, nI_e0, oI_nI, ne_eq, not_true_eq_false, not_false_eq_true, and_true, true_and, and_false, false_and, or_true, true_or, or_false, false_or, if_true, if_false, lit_0, lit_1, lit_2, lit_3, lit_4, lit_5, lit_6, lit_8, lit_9, lit_10, lit_12, lit_13, lit_21, lit_29, lit_30, lit_31, lit_37, lit_101, lit_120, lit_121, lit_127, lit_169, lit_64, lit_99, lit_999, lit_676, lit_845, lit_48, lit_57, lit_32, lit_59, hk]
  have hu := s_up_lt5 hS
  have hC1 : s_C (xup (xup σ 132 3 (nI 1)) 132 4 (oI 0)) 1 N := s_C_eq (fun c hc => by simp (disch := omega) only [Nat.add_zero, Nat.zero_add, Nat.zero_mul, Nat.mul_zero, mc8, mc3, nU_f, nU_k, nU_e, xbd_some, xgd_true, xlet_eq, g_in, nI_clamp, nI_leI, nI_ltI, nI_eq, nI_add, pk_mul, pk_sub, rd_e, rd_k, rd_c, i10, i01, xsm_l, xsm_r, if_pos, if_neg, l_neg1, oI_e0, nI_e0, oI_nI, ne_eq, not_true_eq_false, not_false_eq_true, and_true, true_and, and_false, false_and, or_true, true_or, or_false, false_or, if_true, if_false, lit_0, lit_1, lit_2, lit_3, lit_4, lit_5, lit_6, lit_8, lit_9, lit_10, lit_12, lit_13, lit_21, lit_29, lit_30, lit_31, lit_37, lit_101, lit_120, lit_121, lit_127, lit_169, lit_64, lit_99, lit_999, lit_676, lit_845, lit_48, lit_57, lit_32, lit_59]) hC
  have e1 : F_X8_notOff (xup (xup σ 132 3 (nI 1)) 132 4 (oI 0)) = some (nI (s_up N)) := s_C_up hw hC1
  obtain ⟨r, f1, f2⟩ := f_little hw hy hC1
  have e132a : e132 σ (xup (xup σ 132 3 (nI 1)) 132 4 (oI 0)) := fun c a b d e => by simp (disch := omega) only [Nat.add_zero, Nat.zero_add, Nat.zero_mul, Nat.mul_zero, mc8, mc3, nU_f, nU_k, nU_e, xbd_some, xgd_true, xlet_eq, g_in, nI_clamp, nI_leI, nI_ltI, nI_eq, nI_add, pk_mul, pk_sub, rd_e, rd_k, rd_c, i10, i01, xsm_l, xsm_r, if_pos, if_neg, l_neg1, oI_e0, nI_e0, oI_nI, ne_eq, not_true_eq_false, not_false_eq_true, and_true, true_and, and_false, false_and, or_true, true_or, or_false, false_or, if_true, if_false, lit_0, lit_1, lit_2, lit_3, lit_4, lit_5, lit_6, lit_8, lit_9, lit_10, lit_12, lit_13, lit_21, lit_29, lit_30, lit_31, lit_37, lit_101, lit_120, lit_121, lit_127, lit_169, lit_64, lit_99, lit_999, lit_676, lit_845, lit_48, lit_57, lit_32, lit_59]
  rcases f2 with rfl | ⟨rfl, f2⟩
  · have hpop := popc hu (xup (xup σ 132 3 (nI 1)) 132 4 (oI 0))
    rw [up_x5 hS] at hpop
    have hwn := xct_le (p_on N) (N 0 1)
    have hL : ∃ τ, L_X5_bestSum_30 (nI (s_up N)) (nI (4 * xct (p_on N) (N 0 1))) (nI 0) (xup (xup σ 132 3 (nI 1)) 132 4 (oI 0)) = some τ ∧ e132 σ τ ∧ τ 132 3 = nI 1 ∧ PK τ N := by
      unfold L_X5_bestSum_30
      refine xloop_for (f := fun x : Int32 × xM => B_X5_bestSum_30 (nI (s_up N)) (nI (4 * xct (p_on N) (N 0 1))) x.1 x.2) (fun k x => x.1 = nI k ∧ e132 σ x.2 ∧ x.2 132 3 = nI 1 ∧ ((x.2 132 4 = oI 0 ∧ ∀ st, p_ok N st → k ≤ p_sum N st (N 0 1)) ∨ ∃ v st, x.2 132 4 = nI v ∧ v ≤ 20 ∧ p_b N v st ∧ ∀ s, s < N 0 1 → x.2 133 s = nI (st s))) (fun τ => e132 σ τ ∧ τ 132 3 = nI 1 ∧ PK τ N) (4 * xct (p_on N) (N 0 1) + 1) ?_ ?_ 6000 0 (nI 0, xup (xup σ 132 3 (nI 1)) 132 4 (oI 0)) (by omega) (by omega) ⟨rfl, e132a, by simp (disch := omega) only [Nat.add_zero, Nat.zero_add, Nat.zero_mul, Nat.mul_zero, mc8, mc3, nU_f, nU_k, nU_e, xbd_some, xgd_true, xlet_eq, g_in, nI_clamp, nI_leI, nI_ltI, nI_eq, nI_add, pk_mul, pk_sub, rd_e, rd_k, rd_c, i10, i01, xsm_l, xsm_r, if_pos, if_neg, l_neg1, oI_e0, nI_e0, oI_nI, ne_eq, not_true_eq_false, not_false_eq_true, and_true, true_and, and_false, false_and, or_true, true_or, or_false, false_or, if_true, if_false, lit_0, lit_1, lit_2, lit_3, lit_4, lit_5, lit_6, lit_8, lit_9, lit_10, lit_12, lit_13, lit_21, lit_29, lit_30, lit_31, lit_37, lit_101, lit_120, lit_121, lit_127, lit_169, lit_64, lit_99, lit_999, lit_676, lit_845, lit_48, lit_57, lit_32, lit_59], Or.inl ⟨by simp (disch := omega) only [Nat.add_zero, Nat.zero_add, Nat.zero_mul, Nat.mul_zero, mc8, mc3, nU_f, nU_k, nU_e, xbd_some, xgd_true, xlet_eq, g_in, nI_clamp, nI_leI, nI_ltI, nI_eq, nI_add, pk_mul, pk_sub, rd_e, rd_k, rd_c, i10, i01, xsm_l, xsm_r, if_pos, if_neg, l_neg1, oI_e0, nI_e0, oI_nI, ne_eq, not_true_eq_false, not_false_eq_true, and_true, true_and, and_false, false_and, or_true, true_or, or_false, false_or, if_true, if_false, lit_0, lit_1, lit_2, lit_3, lit_4, lit_5, lit_6, lit_8, lit_9, lit_10, lit_12, lit_13, lit_21, lit_29, lit_30, lit_31, lit_37, lit_101, lit_120, lit_121, lit_127, lit_169, lit_64, lit_99, lit_999, lit_676, lit_845, lit_48, lit_57, lit_32, lit_59], fun _ _ => by omega⟩⟩
      · intro k ⟨v, τ⟩ hk ⟨h1, h2, h3, h4⟩
        dsimp only at h1 h2 h3 h4 ⊢
        subst h1
        unfold B_X5_bestSum_30
        rcases h4 with ⟨h4, h5⟩ | ⟨w, st, h4, h5, h6, h7⟩
        · left
          have hCt : s_C τ 1 N := s_C_eq (fun c hc => h2 c (by omega) (by omega) (by omega) (by omega)) hC
          obtain ⟨r, υ, m1, m2, m3⟩ := f_spreads hw (N 0 1) 0 8 k (N 8) τ (by omega) (by omega) (by omega) hCt (fun j hj => absurd hj (by omega)) (fun j hj => absurd hj (by omega))
          have gd0 : ∀ st, gd N 0 k (N 8) st ↔ p_ok N st ∧ p_sum N st (N 0 1) = k := by
            intro st
            constructor
            · intro ⟨g1, g2, g3⟩
              exact ⟨g2, by rw [g3]; exact Nat.zero_add k⟩
            · intro ⟨g2, g3⟩
              exact ⟨fun j hj => absurd hj (by omega), g2, by rw [g3]; exact (Nat.zero_add k).symm⟩
          have e1 : e132 σ υ := fun c a b d e => (m2 c a b e).trans (h2 c a b d e)
          have u3 : υ 132 = τ 132 := m2 132 (by omega) (by omega) (by omega)
          rcases m3 with ⟨rfl, st, q1, q2, q3⟩ | ⟨rfl, q1, q2⟩
          · simp (disch := omega) only [Nat.add_zero, Nat.zero_add, Nat.zero_mul, Nat.mul_zero, mc8, mc3, nU_f, nU_k, nU_e, xbd_some, xgd_true, xlet_eq, g_in, nI_clamp, nI_leI, nI_ltI, nI_eq, nI_add, pk_mul, pk_sub, rd_e, rd_k, rd_c, i10, i01, xsm_l, xsm_r, if_pos, if_neg, l_neg1, oI_e0, nI_e0, oI_nI, ne_eq, not_true_eq_false, not_false_eq_true, and_true, true_and, and_false, false_and, or_true, true_or, or_false, false_or, if_true, if_false, lit_0, lit_1, lit_2, lit_3, lit_4, lit_5, lit_6, lit_8, lit_9, lit_10, lit_12, lit_13, lit_21, lit_29, lit_30, lit_31, lit_37, lit_101, lit_120, lit_121, lit_127, lit_169, lit_64, lit_99, lit_999, lit_676, lit_845, lit_48, lit_57, lit_32, lit_59, h4, m1]
            obtain ⟨z1, z2⟩ := (gd0 st).mp q1
            refine ⟨_, rfl, rfl, fun c a b d e => by simp (disch := omega) only [Nat.add_zero, Nat.zero_add, Nat.zero_mul, Nat.mul_zero, mc8, mc3, nU_f, nU_k, nU_e, xbd_some, xgd_true, xlet_eq, g_in, nI_clamp, nI_leI, nI_ltI, nI_eq, nI_add, pk_mul, pk_sub, rd_e, rd_k, rd_c, i10, i01, xsm_l, xsm_r, if_pos, if_neg, l_neg1, oI_e0, nI_e0, oI_nI, ne_eq, not_true_eq_false, not_false_eq_true, and_true, true_and, and_false, false_and, or_true, true_or, or_false, false_or, if_true, if_false, lit_0, lit_1, lit_2, lit_3, lit_4, lit_5, lit_6, lit_8, lit_9, lit_10, lit_12, lit_13, lit_21, lit_29, lit_30, lit_31, lit_37, lit_101, lit_120, lit_121, lit_127, lit_169, lit_64, lit_99, lit_999, lit_676, lit_845, lit_48, lit_57, lit_32, lit_59]; exact e1 c a b d e, by simp (disch := omega) only [Nat.add_zero, Nat.zero_add, Nat.zero_mul, Nat.mul_zero, mc8, mc3, nU_f, nU_k, nU_e, xbd_some, xgd_true, xlet_eq, g_in, nI_clamp, nI_leI, nI_ltI, nI_eq, nI_add, pk_mul, pk_sub, rd_e, rd_k, rd_c, i10, i01, xsm_l, xsm_r, if_pos, if_neg, l_neg1, oI_e0, nI_e0, oI_nI, ne_eq, not_true_eq_false, not_false_eq_true, and_true, true_and, and_false, false_and, or_true, true_or, or_false, false_or, if_true, if_false, lit_0, lit_1, lit_2, lit_3, lit_4, lit_5, lit_6, lit_8, lit_9, lit_10, lit_12, lit_13, lit_21, lit_29, lit_30, lit_31, lit_37, lit_101, lit_120, lit_121, lit_127, lit_169, lit_64, lit_99, lit_999, lit_676, lit_845, lit_48, lit_57, lit_32, lit_59]; rw [u3]; exact h3, Or.inr ⟨k, st, by simp (disch := omega) only [Nat.add_zero, Nat.zero_add, Nat.zero_mul, Nat.mul_zero, mc8, mc3, nU_f, nU_k, nU_e, xbd_some, xgd_true, xlet_eq, g_in, nI_clamp, nI_leI, nI_ltI, nI_eq, nI_add, pk_mul, pk_sub, rd_e, rd_k, rd_c, i10, i01, xsm_l, xsm_r, if_pos, if_neg, l_neg1, oI_e0, nI_e0, oI_nI, ne_eq, not_true_eq_false, not_false_eq_true, and_true, true_and, and_false, false_and, or_true, true_or, or_false, false_or, if_true, if_false, lit_0, lit_1, lit_2, lit_3, lit_4, lit_5, lit_6, lit_8, lit_9, lit_10, lit_12, lit_13, lit_21, lit_29, lit_30, lit_31, lit_37, lit_101, lit_120, lit_121, lit_127, lit_169, lit_64, lit_99, lit_999, lit_676, lit_845, lit_48, lit_57, lit_32, lit_59], by omega, ⟨z1, z2, fun st' h' => ?_⟩, fun s hs => by simp (disch := omega) only [Nat.add_zero, Nat.zero_add, Nat.zero_mul, Nat.mul_zero, mc8, mc3, nU_f, nU_k, nU_e, xbd_some, xgd_true, xlet_eq, g_in, nI_clamp, nI_leI, nI_ltI, nI_eq, nI_add, pk_mul, pk_sub, rd_e, rd_k, rd_c, i10, i01, xsm_l, xsm_r, if_pos, if_neg, l_neg1, oI_e0, nI_e0, oI_nI, ne_eq, not_true_eq_false, not_false_eq_true, and_true, true_and, and_false, false_and, or_true, true_or, or_false, false_or, if_true, if_false, lit_0, lit_1, lit_2, lit_3, lit_4, lit_5, lit_6, lit_8, lit_9, lit_10, lit_12, lit_13, lit_21, lit_29, lit_30, lit_31, lit_37, lit_101, lit_120, lit_121, lit_127, lit_169, lit_64, lit_99, lit_999, lit_676, lit_845, lit_48, lit_57, lit_32, lit_59]; exact q3 s hs⟩⟩
            have := h5 st' h'
            by_cases e : p_sum N st' (N 0 1) = k
            · exact Or.inr ⟨e.symm, q2 st' ((gd0 st').mpr ⟨h', e⟩)⟩
            · left; omega
          · simp (disch := omega) only [Nat.add_zero, Nat.zero_add, Nat.zero_mul, Nat.mul_zero, mc8, mc3, nU_f, nU_k, nU_e, xbd_some, xgd_true, xlet_eq, g_in, nI_clamp, nI_leI, nI_ltI, nI_eq, nI_add, pk_mul, pk_sub, rd_e, rd_k, rd_c, i10, i01, xsm_l, xsm_r, if_pos, if_neg, l_neg1, oI_e0, nI_e0, oI_nI, ne_eq, not_true_eq_false, not_false_eq_true, and_true, true_and, and_false, false_and, or_true, true_or, or_false, false_or, if_true, if_false, lit_0, lit_1, lit_2, lit_3, lit_4, lit_5, lit_6, lit_8, lit_9, lit_10, lit_12, lit_13, lit_21, lit_29, lit_30, lit_31, lit_37, lit_101, lit_120, lit_121, lit_127, lit_169, lit_64, lit_99, lit_999, lit_676, lit_845, lit_48, lit_57, lit_32, lit_59, h4, m1]
            refine ⟨_, rfl, rfl, e1, (congrFun u3 3).trans h3, Or.inl ⟨(congrFun u3 4).trans h4, fun st h' => ?_⟩⟩
            have := h5 st h'
            have : p_sum N st (N 0 1) ≠ k := fun e => q1 st ((gd0 st).mpr ⟨h', e⟩)
            omega
        · right
          simp (disch := omega) only [Nat.add_zero, Nat.zero_add, Nat.zero_mul, Nat.mul_zero, mc8, mc3, nU_f, nU_k, nU_e, xbd_some, xgd_true, xlet_eq, g_in, nI_clamp, nI_leI, nI_ltI, nI_eq, nI_add, pk_mul, pk_sub, rd_e, rd_k, rd_c, i10, i01, xsm_l, xsm_r, if_pos, if_neg, l_neg1, oI_e0, nI_e0, oI_nI, ne_eq, not_true_eq_false, not_false_eq_true, and_true, true_and, and_false, false_and, or_true, true_or, or_false, false_or, if_true, if_false, lit_0, lit_1, lit_2, lit_3, lit_4, lit_5, lit_6, lit_8, lit_9, lit_10, lit_12, lit_13, lit_21, lit_29, lit_30, lit_31, lit_37, lit_101, lit_120, lit_121, lit_127, lit_169, lit_64, lit_99, lit_999, lit_676, lit_845, lit_48, lit_57, lit_32, lit_59, h4]
          exact ⟨_, rfl, h2, h3, Or.inr ⟨w, st, h4, h5, h6, h7⟩⟩
      · intro ⟨v, τ⟩ ⟨h1, h2, h3, h4⟩
        dsimp only at h1 h2 h3 h4 ⊢
        subst h1
        unfold B_X5_bestSum_30
        simp (disch := omega) only [Nat.add_zero, Nat.zero_add, Nat.zero_mul, Nat.mul_zero, mc8, mc3, nU_f, nU_k, nU_e, xbd_some, xgd_true, xlet_eq, g_in, nI_clamp, nI_leI, nI_ltI, nI_eq, nI_add, pk_mul, pk_sub, rd_e, rd_k, rd_c, i10, i01, xsm_l, xsm_r, if_pos, if_neg, l_neg1, oI_e0, nI_e0, oI_nI, ne_eq, not_true_eq_false, not_false_eq_true, and_true, true_and, and_false, false_and, or_true, true_or, or_false, false_or, if_true, if_false, lit_0, lit_1, lit_2, lit_3, lit_4, lit_5, lit_6, lit_8, lit_9, lit_10, lit_12, lit_13, lit_21, lit_29, lit_30, lit_31, lit_37, lit_101, lit_120, lit_121, lit_127, lit_169, lit_64, lit_99, lit_999, lit_676, lit_845, lit_48, lit_57, lit_32, lit_59]
        refine ⟨_, rfl, h2, h3, ?_⟩
        rcases h4 with ⟨h4, h5⟩ | h4
        · refine Or.inl ⟨h4, fun st h' => ?_⟩
          have a := h5 st h'
          have b := p_sum_le h'.1 (s := 0) (N 0 1) (by omega) (Nat.le_refl _)
          have z : p_sum N st 0 = 0 := rfl
          omega
        · exact Or.inr h4
    obtain ⟨τ, g1, g2⟩ := hL
    refine ⟨τ, ?_, g2⟩
    simp (disch := omega) only [Nat.add_zero, Nat.zero_add, Nat.zero_mul, Nat.mul_zero, mc8, mc3, nU_f, nU_k, nU_e, xbd_some, xgd_true, xlet_eq, g_in, nI_clamp, nI_leI, nI_ltI, nI_eq, nI_add, pk_mul, pk_sub, rd_e, rd_k, rd_c, i10, i01, xsm_l, xsm_r, if_pos, if_neg, l_neg1, oI_e0, nI_e0, oI_nI, ne_eq, not_true_eq_false, not_false_eq_true, and_true, true_and, and_false, false_and, or_true, true_or, or_false, false_or, if_true, if_false, lit_0, lit_1, lit_2, lit_3, lit_4, lit_5, lit_6, lit_8, lit_9, lit_10, lit_12, lit_13, lit_21, lit_29, lit_30, lit_31, lit_37, lit_101, lit_120, lit_121, lit_127, lit_169, lit_64, lit_99, lit_999, lit_676, lit_845, lit_48, lit_57, lit_32, lit_59, hk, e1, f1, hpop, g1]
  · have hL : L_X5_bestSum_30 (nI (s_up N)) (oI 0) (nI 0) (xup (xup σ 132 3 (nI 1)) 132 4 (oI 0)) = some (xup (xup σ 132 3 (nI 1)) 132 4 (oI 0)) := by
      unfold L_X5_bestSum_30
      refine xfor (f := fun x : Int32 × xM => B_X5_bestSum_30 (nI (s_up N)) (oI 0) x.1 x.2) (fun k => (nI k, xup (xup σ 132 3 (nI 1)) 132 4 (oI 0))) 0 _ (fun k hk => absurd hk (by omega)) ?_ 6000 0 (by omega) (by omega)
      dsimp only
      unfold B_X5_bestSum_30
      simp (disch := omega) only [Nat.add_zero, Nat.zero_add, Nat.zero_mul, Nat.mul_zero, mc8, mc3, nU_f, nU_k, nU_e, xbd_some, xgd_true, xlet_eq, g_in, nI_clamp, nI_leI, nI_ltI, nI_eq, nI_add, pk_mul, pk_sub, rd_e, rd_k, rd_c, i10, i01, xsm_l, xsm_r, if_pos, if_neg, l_neg1, oI_e0, nI_e0, oI_nI, ne_eq, not_true_eq_false, not_false_eq_true, and_true, true_and, and_false, false_and, or_true, true_or, or_false, false_or, if_true, if_false, lit_0, lit_1, lit_2, lit_3, lit_4, lit_5, lit_6, lit_8, lit_9, lit_10, lit_12, lit_13, lit_21, lit_29, lit_30, lit_31, lit_37, lit_101, lit_120, lit_121, lit_127, lit_169, lit_64, lit_99, lit_999, lit_676, lit_845, lit_48, lit_57, lit_32, lit_59, oI0_lt]
    refine ⟨_, ?_, e132a, by simp (disch := omega) only [Nat.add_zero, Nat.zero_add, Nat.zero_mul, Nat.mul_zero, mc8, mc3, nU_f, nU_k, nU_e, xbd_some, xgd_true, xlet_eq, g_in, nI_clamp, nI_leI, nI_ltI, nI_eq, nI_add, pk_mul, pk_sub, rd_e, rd_k, rd_c, i10, i01, xsm_l, xsm_r, if_pos, if_neg, l_neg1, oI_e0, nI_e0, oI_nI, ne_eq, not_true_eq_false, not_false_eq_true, and_true, true_and, and_false, false_and, or_true, true_or, or_false, false_or, if_true, if_false, lit_0, lit_1, lit_2, lit_3, lit_4, lit_5, lit_6, lit_8, lit_9, lit_10, lit_12, lit_13, lit_21, lit_29, lit_30, lit_31, lit_37, lit_101, lit_120, lit_121, lit_127, lit_169, lit_64, lit_99, lit_999, lit_676, lit_845, lit_48, lit_57, lit_32, lit_59], Or.inl ⟨by simp (disch := omega) only [Nat.add_zero, Nat.zero_add, Nat.zero_mul, Nat.mul_zero, mc8, mc3, nU_f, nU_k, nU_e, xbd_some, xgd_true, xlet_eq, g_in, nI_clamp, nI_leI, nI_ltI, nI_eq, nI_add, pk_mul, pk_sub, rd_e, rd_k, rd_c, i10, i01, xsm_l, xsm_r, if_pos, if_neg, l_neg1, oI_e0, nI_e0, oI_nI, ne_eq, not_true_eq_false, not_false_eq_true, and_true, true_and, and_false, false_and, or_true, true_or, or_false, false_or, if_true, if_false, lit_0, lit_1, lit_2, lit_3, lit_4, lit_5, lit_6, lit_8, lit_9, lit_10, lit_12, lit_13, lit_21, lit_29, lit_30, lit_31, lit_37, lit_101, lit_120, lit_121, lit_127, lit_169, lit_64, lit_99, lit_999, lit_676, lit_845, lit_48, lit_57, lit_32, lit_59], f2⟩⟩
    simp (disch := omega) only [Nat.add_zero, Nat.zero_add, Nat.zero_mul, Nat.mul_zero, mc8, mc3, nU_f, nU_k, nU_e, xbd_some, xgd_true, xlet_eq, g_in, nI_clamp, nI_leI, nI_ltI, nI_eq, nI_add, pk_mul, pk_sub, rd_e, rd_k, rd_c, i10, i01, xsm_l, xsm_r, if_pos, if_neg, l_neg1, oI_e0, nI_e0, oI_nI, ne_eq, not_true_eq_false, not_false_eq_true, and_true, true_and, and_false, false_and, or_true, true_or, or_false, false_or, if_true, if_false, lit_0, lit_1, lit_2, lit_3, lit_4, lit_5, lit_6, lit_8, lit_9, lit_10, lit_12, lit_13, lit_21, lit_29, lit_30, lit_31, lit_37, lit_101, lit_120, lit_121, lit_127, lit_169, lit_64, lit_99, lit_999, lit_676, lit_845, lit_48, lit_57, lit_32, lit_59, hk, e1, f1, hL]
