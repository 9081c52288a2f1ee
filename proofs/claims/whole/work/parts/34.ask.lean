def xct (P : Nat → Bool) : Nat → Nat
  | 0 => 0
  | k + 1 => xct P k + (if P k = true then 1 else 0)
theorem xct_le (P : Nat → Bool) : ∀ k, xct P k ≤ k
  | 0 => Nat.le_refl 0
  | k + 1 => by
    have := xct_le P k
    unfold xct
    split <;> omega
theorem xct_t {P : Nat → Bool} {k : Nat} (h : P k = true) : xct P (k + 1) = xct P k + 1 := by simp [xct, h]
theorem xct_f {P : Nat → Bool} {k : Nat} (h : P k = false) : xct P (k + 1) = xct P k := by simp [xct, h]
theorem xmk_t {P : Nat → Bool} {k : Nat} (h : P k = true) : xmk P (k + 1) = xmk P k + 2 ^ k := by simp [xmk, h]
theorem xmk_f {P : Nat → Bool} {k : Nat} (h : P k = false) : xmk P (k + 1) = xmk P k := by simp [xmk, h]
theorem shl1 : ∀ {k : Nat}, k < 8 → nI 1 <<< (nI k &&& nI 31) = nI (2 ^ k) := by
  have h : ∀ k, k < 8 → nI 1 <<< (nI k &&& nI 31) = nI (2 ^ k) := by decide +kernel
  exact fun {k} hk => h k hk
theorem orp {m k : Nat} (hk : k < 8) (hm : m < 2 ^ k) : nI m ||| nI (2 ^ k) = nI (m + 2 ^ k) := by
  have := x_or k hk m hm
  rw [show ((1 : Int32) <<< (nI k &&& 31)) = nI (2 ^ k) from shl1 hk] at this
  exact this
theorem bitv {u k : Nat} (hu : u < 256) (hk : k < 8) : (nI u >>> (nI k &&& nI 31)) &&& nI 1 = nI (if u.testBit k = true then 1 else 0) := by
  have h : ∀ k, k < 8 → ∀ u, u < 256 → (nI u >>> (nI k &&& nI 31)) &&& nI 1 = nI (if u.testBit k = true then 1 else 0) := by decide +kernel
  exact h k hk u hu
def dif (u g : Nat) : Nat := u &&& (31 ^^^ g)
theorem andn {u g : Nat} (hu : u < 32) (hg : g < 32) : nI u &&& (nI g ^^^ oI 0) = nI (dif u g) := by
  have h : ∀ u, u < 32 → ∀ g, g < 32 → nI u &&& (nI g ^^^ oI 0) = nI (dif u g) := by decide +kernel
  exact h u hu g hg
theorem dif_lt {u g : Nat} (hu : u < 32) : dif u g < 32 := by
  unfold dif
  exact Nat.lt_of_le_of_lt Nat.and_le_left hu
theorem dif_bit {u g k : Nat} (hg : g < 32) (hk : k < 5) : (dif u g).testBit k = (u.testBit k && !g.testBit k) := by
  unfold dif
  rw [Nat.testBit_and, Nat.testBit_xor]
  have : Nat.testBit 31 k = true := by
    have h : ∀ k, k < 5 → Nat.testBit 31 k = true := by decide
    exact h k hk
  rw [this]
  cases g.testBit k <;> cases u.testBit k <;> rfl
theorem p2_lt {k : Nat} (h : k < 5) : 2 ^ k < 32 := by
  have h2 : ∀ k, k < 5 → 2 ^ k < 32 := by decide
  exact h2 k h
theorem p2_bit {s k : Nat} : (2 ^ s).testBit k = decide (s = k) := Nat.testBit_two_pow
theorem s_up_lt5 {N : xN} (h : N 0 1 ≤ 5) : s_up N < 32 := by
  have h1 := xmk_lt (fun s => !decide (N 9 s = 2)) (N 0 1)
  have h2 : 2 ^ (N 0 1) ≤ 2 ^ 5 := Nat.pow_le_pow_right (by omega) h
  unfold s_up
  omega
theorem s_om_lt5 {N : xN} (h : N 0 1 ≤ 5) (u : Nat) (st : Nat → Nat) : s_om N u st < 32 := by
  have h1 := xmk_lt (s_ov N u st) (N 0 1)
  have h2 : 2 ^ (N 0 1) ≤ 2 ^ 5 := Nat.pow_le_pow_right (by omega) h
  unfold s_om
  omega
theorem f_pa {σ : xM} {N : xN} {a s : Nat} (hw : s_wf N) (hC : s_C σ 1 N) (ha : a < N 0 0) (hs : s < N 0 1) : F_X4_presentApparent (nI a) (nI s) σ = some (oI (s_sm N (s_up N) (N 8) a s)) := by
  obtain ⟨hA, hS, hT, hQ⟩ := hw.1
  have c0 := s_C_0 hC
  obtain ⟨x1, x2, x3, x4⟩ := c0.2.2.2.1 s hs
  obtain ⟨h6, h7, h8, h9⟩ := hw.2.2.2.2.1 s hs
  have h3 := (hw.2.1 a ha).2.1
  have y2 := (c0.2.1 a ha).2.1
  have hd := s_C_7 hC a (N 6 s) ha h6
  have hdl := s_di_lt hw.2.2.1 hA (show a < 8 by omega) (show N 6 s < 8 by omega)
  have hsl := f_stepLen (σ := σ) (N := N) (show a < 8 by omega) y2 h3
  unfold F_X4_presentApparent s_sm
  rw [s_up_bit hs]
  by_cases hz : s_di N a (N 6 s) = 0
  · rw [if_pos (Or.inl hz)]
    simp (disch := omega) only [Nat.add_zero, Nat.zero_add, Nat.zero_mul, Nat.mul_zero, mc8, mc3, nU_f, nU_k, nU_e, xbd_some, xgd_true, xlet_eq, g_in, nI_clamp, nI_leI, nI_ltI, nI_eq, nI_add, pk_mul, pk_sub, rd_e, rd_k, rd_c, i10, i01, xsm_l, xsm_r, if_pos, if_neg, l_neg1, oI_e0, nI_e0, oI_nI, ne_eq, not_true_eq_false, not_false_eq_true, and_true, true_and, and_false, false_and, or_true, true_or, or_false, false_or, if_true, if_false, lit_0, lit_1, lit_2, lit_3, lit_4, lit_5, lit_6, lit_8, lit_9, lit_10, lit_12, lit_13, lit_21, lit_29, lit_30, lit_31, lit_37, lit_101, lit_120, lit_121, lit_127, lit_169, lit_64, lit_99, lit_999, lit_676, lit_845, lit_48, lit_57, lit_32, lit_59, x1, f_dist, hd]
  by_cases h92 : N 9 s = 2
  · rw [if_pos (Or.inr (by simp [h92]))]
    simp (disch := omega) only [Nat.add_zero, Nat.zero_add, Nat.zero_mul, Nat.mul_zero, mc8, mc3, nU_f, nU_k, nU_e, xbd_some, xgd_true, xlet_eq, g_in, nI_clamp, nI_leI, nI_ltI, nI_eq, nI_add, pk_mul, pk_sub, rd_e, rd_k, rd_c, i10, i01, xsm_l, xsm_r, if_pos, if_neg, l_neg1, oI_e0, nI_e0, oI_nI, ne_eq, not_true_eq_false, not_false_eq_true, and_true, true_and, and_false, false_and, or_true, true_or, or_false, false_or, if_true, if_false, lit_0, lit_1, lit_2, lit_3, lit_4, lit_5, lit_6, lit_8, lit_9, lit_10, lit_12, lit_13, lit_21, lit_29, lit_30, lit_31, lit_37, lit_101, lit_120, lit_121, lit_127, lit_169, lit_64, lit_99, lit_999, lit_676, lit_845, lit_48, lit_57, lit_32, lit_59, x1, f_dist, hd, x4]
  rw [if_neg (by simp [hz, h92])]
  obtain ⟨d, hd'⟩ : ∃ d, s_di N a (N 6 s) = d + 1 := ⟨s_di N a (N 6 s) - 1, by omega⟩
  rw [hd'] at hd ⊢
  by_cases h31 : N 3 a = 1
  · rw [if_pos h31] at hsl ⊢
    simp (disch := omega) only [Nat.add_zero, Nat.zero_add, Nat.zero_mul, Nat.mul_zero, mc8, mc3, nU_f, nU_k, nU_e, xbd_some, xgd_true, xlet_eq, g_in, nI_clamp, nI_leI, nI_ltI, nI_eq, nI_add, pk_mul, pk_sub, rd_e, rd_k, rd_c, i10, i01, xsm_l, xsm_r, if_pos, if_neg, l_neg1, oI_e0, nI_e0, oI_nI, ne_eq, not_true_eq_false, not_false_eq_true, and_true, true_and, and_false, false_and, or_true, true_or, or_false, false_or, if_true, if_false, lit_0, lit_1, lit_2, lit_3, lit_4, lit_5, lit_6, lit_8, lit_9, lit_10, lit_12, lit_13, lit_21, lit_29, lit_30, lit_31, lit_37, lit_101, lit_120, lit_121, lit_127, lit_169, lit_64, lit_99, lit_999, lit_676, lit_845, lit_48, lit_57, lit_32, lit_59, x1, x3, f_dist, hd, x4, oI_s, hsl, Nat.zero_mul]
  · rw [if_neg h31] at hsl ⊢
    simp (disch := omega) only [Nat.add_zero, Nat.zero_add, Nat.zero_mul, Nat.mul_zero, mc8, mc3, nU_f, nU_k, nU_e, xbd_some, xgd_true, xlet_eq, g_in, nI_clamp, nI_leI, nI_ltI, nI_eq, nI_add, pk_mul, pk_sub, rd_e, rd_k, rd_c, i10, i01, xsm_l, xsm_r, if_pos, if_neg, l_neg1, oI_e0, nI_e0, oI_nI, ne_eq, not_true_eq_false, not_false_eq_true, and_true, true_and, and_false, false_and, or_true, true_or, or_false, false_or, if_true, if_false, lit_0, lit_1, lit_2, lit_3, lit_4, lit_5, lit_6, lit_8, lit_9, lit_10, lit_12, lit_13, lit_21, lit_29, lit_30, lit_31, lit_37, lit_101, lit_120, lit_121, lit_127, lit_169, lit_64, lit_99, lit_999, lit_676, lit_845, lit_48, lit_57, lit_32, lit_59, x1, x3, f_dist, hd, x4, oI_s, hsl]
    rw [show d + 1 + 3 * N 8 s = d + 3 * N 8 s + 1 by omega, oI_s]
def v_rch (N : xN) (a : Nat) : Nat := xct (fun s => !decide (s_sm N (s_up N) (N 8) a s = 0)) (N 0 1)
def v_frm (N : xN) (a : Nat) : Nat := xct (fun i => decide (N 10 i = a)) (N 0 2)
def v_ats (N : xN) (s : Nat) : Nat := xct (fun i => decide (N 11 i = s)) (N 0 2)
def v_cau (N : xN) (u : Nat) (st : Nat → Nat) (s : Nat) : Nat := xmk (fun a => decide (s_ct N u st a = s + 1)) (N 0 0)
theorem s_sm_lt {N : xN} {a s u : Nat} {st : Nat → Nat} (hw : s_wf N) (ha : a < N 0 0) (hs : s < N 0 1) (hst : st s ≤ 4) : s_sm N u st a s < 2500 := by
  obtain ⟨hA, hS, hT, hQ⟩ := hw.1
  obtain ⟨h6, h7, h8, h9⟩ := hw.2.2.2.2.1 s hs
  have hdl := s_di_lt hw.2.2.1 hA (show a < 8 by omega) (show N 6 s < 8 by omega)
  unfold s_sm
  split
  · omega
  · split <;> omega
theorem f_rch {σ : xM} {N : xN} {a : Nat} (hw : s_wf N) (hC : s_C σ 1 N) (ha : a < N 0 0) : F_X4_sitesInReach (nI a) σ = some (nI (v_rch N a)) := by
  have hS := hw.1.2.1
  have c8 : σ 8 0 = nI (N 0 1) := (s_C_0 hC).1.2.1
  have hL : L_X4_sitesInReach_4 (nI a) 0 0 σ = some (nI (v_rch N a)) := by
    unfold L_X4_sitesInReach_4 v_rch
    refine xfor (f := fun s : Int32 × Int32 => B_X4_sitesInReach_4 (nI a) s.1 s.2 σ) (fun k => (nI (xct (fun s => !decide (s_sm N (s_up N) (N 8) a s = 0)) k), nI k)) (N 0 1) _ (fun k hk => ?_) ?_ 6000 0 (by omega) (by omega)
    · have pa := f_pa hw hC ha hk
      have hl := s_sm_lt hw (u := s_up N) (st := N 8) ha hk (hw.2.2.2.2.1 k hk).2.2.1
      dsimp only
      unfold B_X4_sitesInReach_4
      by_cases h : s_sm N (s_up N) (N 8) a k = 0
      · rw [xct_f (by simp [h])]
        simp (disch := omega) only [Nat.add_zero, Nat.zero_add, Nat.zero_mul, Nat.mul_zero, mc8, mc3, nU_f, nU_k, nU_e, xbd_some, xgd_true, xlet_eq, g_in, nI_clamp, nI_leI, nI_ltI, nI_eq, nI_add, pk_mul, pk_sub, rd_e, rd_k, rd_c, i10, i01, xsm_l, xsm_r, if_pos, if_neg, l_neg1, oI_e0, nI_e0, oI_nI, ne_eq, not_true_eq_false, not_false_eq_true, and_true, true_and, and_false, false_and, or_true, true_or, or_false, false_or, if_true, if_false, lit_0, lit_1, lit_2, lit_3, lit_4, lit_5, lit_6, lit_8, lit_9, lit_10, lit_12, lit_13, lit_21, lit_29, lit_30, lit_31, lit_37, lit_101, lit_120, lit_121, lit_127, lit_169, lit_64, lit_99, lit_999, lit_676, lit_845, lit_48, lit_57, lit_32, lit_59, c8, pa]
      · rw [xct_t (by simp [h])]
        simp (disch := omega) only [Nat.add_zero, Nat.zero_add, Nat.zero_mul, Nat.mul_zero, mc8, mc3, nU_f, nU_k, nU_e, xbd_some, xgd_true, xlet_eq, g_in, nI_clamp, nI_leI, nI_ltI, nI_eq, nI_add, pk_mul, pk_sub, rd_e, rd_k, rd_c, i10, i01, xsm_l, xsm_r, if_pos, if_neg, l_neg1, oI_e0, nI_e0, oI_nI, ne_eq, not_true_eq_false, not_false_eq_true, and_true, true_and, and_false, false_and, or_true, true_or, or_false, false_or, if_true, if_false, lit_0, lit_1, lit_2, lit_3, lit_4, lit_5, lit_6, lit_8, lit_9, lit_10, lit_12, lit_13, lit_21, lit_29, lit_30, lit_31, lit_37, lit_101, lit_120, lit_121, lit_127, lit_169, lit_64, lit_99, lit_999, lit_676, lit_845, lit_48, lit_57, lit_32, lit_59, c8, pa]
    · dsimp only
      unfold B_X4_sitesInReach_4
      simp (disch := omega) only [Nat.add_zero, Nat.zero_add, Nat.zero_mul, Nat.mul_zero, mc8, mc3, nU_f, nU_k, nU_e, xbd_some, xgd_true, xlet_eq, g_in, nI_clamp, nI_leI, nI_ltI, nI_eq, nI_add, pk_mul, pk_sub, rd_e, rd_k, rd_c, i10, i01, xsm_l, xsm_r, if_pos, if_neg, l_neg1, oI_e0, nI_e0, oI_nI, ne_eq, not_true_eq_false, not_false_eq_true, and_true, true_and, and_false, false_and, or_true, true_or, or_false, false_or, if_true, if_false, lit_0, lit_1, lit_2, lit_3, lit_4, lit_5, lit_6, lit_8, lit_9, lit_10, lit_12, lit_13, lit_21, lit_29, lit_30, lit_31, lit_37, lit_101, lit_120, lit_121, lit_127, lit_169, lit_64, lit_99, lit_999, lit_676, lit_845, lit_48, lit_57, lit_32, lit_59, c8]
  unfold F_X4_sitesInReach
  rw [xbd_s hL]
theorem f_frm {σ : xM} {N : xN} {a : Nat} (hw : s_wf N) (hC : s_C σ 1 N) (ha : a < N 0 0) : F_X7_countOfArea (nI a) σ = some (nI (v_frm N a)) := by
  have hA := hw.1.1
  have hT := hw.1.2.2.1
  have c8 : σ 14 0 = nI (N 0 2) := (s_C_0 hC).1.2.2.2.1
  have hL : L_X7_countOfArea_4 (nI a) 0 0 σ = some (nI (v_frm N a)) := by
    unfold L_X7_countOfArea_4 v_frm
    refine xfor (f := fun s : Int32 × Int32 => B_X7_countOfArea_4 (nI a) s.1 s.2 σ) (fun k => (nI (xct (fun i => decide (N 10 i = a)) k), nI k)) (N 0 2) _ (fun k hk => ?_) ?_ 6000 0 (by omega) (by omega)
    · have x1 := ((s_C_0 hC).2.2.2.2.2 k hk).1
      have b1 := (hw.2.2.2.2.2.1 k hk).1
      dsimp only
      unfold B_X7_countOfArea_4
      by_cases h : N 10 k = a
      · rw [xct_t (by simp [h])]
        simp (disch := omega) only [Nat.add_zero, Nat.zero_add, Nat.zero_mul, Nat.mul_zero, mc8, mc3, nU_f, nU_k, nU_e, xbd_some, xgd_true, xlet_eq, g_in, nI_clamp, nI_leI, nI_ltI, nI_eq, nI_add, pk_mul, pk_sub, rd_e, rd_k, rd_c, i10, i01, xsm_l, xsm_r, if_pos, if_neg, l_neg1, oI_e0, nI_e0, oI_nI, ne_eq, not_true_eq_false, not_false_eq_true, and_true, true_and, and_false, false_and, or_true, true_or, or_false, false_or, if_true, if_false, lit_0, lit_1, lit_2, lit_3, lit_4, lit_5, lit_6, lit_8, lit_9, lit_10, lit_12, lit_13, lit_21, lit_29, lit_30, lit_31, lit_37, lit_101, lit_120, lit_121, lit_127, lit_169, lit_64, lit_99, lit_999, lit_676, lit_845, lit_48, lit_57, lit_32, lit_59, c8, x1]
      · rw [xct_f (by simp [h])]
        simp (disch := omega) only [Nat.add_zero, Nat.zero_add, Nat.zero_mul, Nat.mul_zero, mc8, mc3, nU_f, nU_k, nU_e, xbd_some, xgd_true, xlet_eq, g_in, nI_clamp, nI_leI, nI_ltI, nI_eq, nI_add, pk_mul, pk_sub, rd_e, rd_k, rd_c, i10, i01, xsm_l, xsm_r, if_pos, if_neg, l_neg1, oI_e0, nI_e0, oI_nI, ne_eq, not_true_eq_false, not_false_eq_true, and_true, true_and, and_false, false_and, or_true, true_or, or_false, false_or, if_true, if_false, lit_0, lit_1, lit_2, lit_3, lit_4, lit_5, lit_6, lit_8, lit_9, lit_10, lit_12, lit_13, lit_21, lit_29, lit_30, lit_31, lit_37, lit_101, lit_120, lit_121, lit_127, lit_169, lit_64, lit_99, lit_999, lit_676, lit_845, lit_48, lit_57, lit_32, lit_59, c8, x1]
    · dsimp only
      unfold B_X7_countOfArea_4
      simp (disch := omega) only [Nat.add_zero, Nat.zero_add, Nat.zero_mul, Nat.mul_zero, mc8, mc3, nU_f, nU_k, nU_e, xbd_some, xgd_true, xlet_eq, g_in, nI_clamp, nI_leI, nI_ltI, nI_eq, nI_add, pk_mul, pk_sub, rd_e, rd_k, rd_c, i10, i01, xsm_l, xsm_r, if_pos, if_neg, l_neg1, oI_e0, nI_e0, oI_nI, ne_eq, not_true_eq_false, not_false_eq_true, and_true, true_and, and_false, false_and, or_true, true_or, or_false, false_or, if_true, if_false, lit_0, lit_1, lit_2, lit_3, lit_4, lit_5, lit_6, lit_8, lit_9, lit_10, lit_12, lit_13, lit_21, lit_29, lit_30, lit_31, lit_37, lit_101, lit_120, lit_121, lit_127, lit_169, lit_64, lit_99, lit_999, lit_676, lit_845, lit_48, lit_57, lit_32, lit_59, c8]
  unfold F_X7_countOfArea
  rw [xbd_s hL]
theorem f_ats {σ : xM} {N : xN} {a : Nat} (hw : s_wf N) (hC : s_C σ 1 N) (ha : a < N 0 1) : F_X7_countAtSite (nI a) σ = some (nI (v_ats N a)) := by
  have hA := hw.1.2.1
  have hT := hw.1.2.2.1
  have c8 : σ 14 0 = nI (N 0 2) := (s_C_0 hC).1.2.2.2.1
  have hL : L_X7_countAtSite_4 (nI a) 0 0 σ = some (nI (v_ats N a)) := by
    unfold L_X7_countAtSite_4 v_ats
    refine xfor (f := fun s : Int32 × Int32 => B_X7_countAtSite_4 (nI a) s.1 s.2 σ) (fun k => (nI (xct (fun i => decide (N 11 i = a)) k), nI k)) (N 0 2) _ (fun k hk => ?_) ?_ 6000 0 (by omega) (by omega)
    · have x1 := ((s_C_0 hC).2.2.2.2.2 k hk).2.1
      have b1 := (hw.2.2.2.2.2.1 k hk).2.1
      dsimp only
      unfold B_X7_countAtSite_4
      by_cases h : N 11 k = a
      · rw [xct_t (by simp [h])]
        simp (disch := omega) only [Nat.add_zero, Nat.zero_add, Nat.zero_mul, Nat.mul_zero, mc8, mc3, nU_f, nU_k, nU_e, xbd_some, xgd_true, xlet_eq, g_in, nI_clamp, nI_leI, nI_ltI, nI_eq, nI_add, pk_mul, pk_sub, rd_e, rd_k, rd_c, i10, i01, xsm_l, xsm_r, if_pos, if_neg, l_neg1, oI_e0, nI_e0, oI_nI, ne_eq, not_true_eq_false, not_false_eq_true, and_true, true_and, and_false, false_and, or_true, true_or, or_false, false_or, if_true, if_false, lit_0, lit_1, lit_2, lit_3, lit_4, lit_5, lit_6, lit_8, lit_9, lit_10, lit_12, lit_13, lit_21, lit_29, lit_30, lit_31, lit_37, lit_101, lit_120, lit_121, lit_127, lit_169, lit_64, lit_99, lit_999, lit_676, lit_845, lit_48, lit_57, lit_32, lit_59, c8, x1]
      · rw [xct_f (by simp [h])]
        simp (disch := omega) only [Nat.add_zero, Nat.zero_add, Nat.zero_mul, Nat.mul_zero, mc8, mc3, nU_f, nU_k, nU_e, xbd_some, xgd_true, xlet_eq, g_in, nI_clamp, nI_leI, nI_ltI, nI_eq, nI_add, pk_mul, pk_sub, rd_e, rd_k, rd_c, i10, i01, xsm_l, xsm_r, if_pos, if_neg, l_neg1, oI_e0, nI_e0, oI_nI, ne_eq, not_true_eq_false, not_false_eq_true, and_true, true_and, and_false, false_and, or_true, true_or, or_false, false_or, if_true, if_false, lit_0, lit_1, lit_2, lit_3, lit_4, lit_5, lit_6, lit_8, lit_9, lit_10, lit_12, lit_13, lit_21, lit_29, lit_30, lit_31, lit_37, lit_101, lit_120, lit_121, lit_127, lit_169, lit_64, lit_99, lit_999, lit_676, lit_845, lit_48, lit_57, lit_32, lit_59, c8, x1]
    · dsimp only
      unfold B_X7_countAtSite_4
      simp (disch := omega) only [Nat.add_zero, Nat.zero_add, Nat.zero_mul, Nat.mul_zero, mc8, mc3, nU_f, nU_k, nU_e, xbd_some, xgd_true, xlet_eq, g_in, nI_clamp, nI_leI, nI_ltI, nI_eq, nI_add, pk_mul, pk_sub, rd_e, rd_k, rd_c, i10, i01, xsm_l, xsm_r, if_pos, if_neg, l_neg1, oI_e0, nI_e0, oI_nI, ne_eq, not_true_eq_false, not_false_eq_true, and_true, true_and, and_false, false_and, or_true, true_or, or_false, false_or, if_true, if_false, lit_0, lit_1, lit_2, lit_3, lit_4, lit_5, lit_6, lit_8, lit_9, lit_10, lit_12, lit_13, lit_21, lit_29, lit_30, lit_31, lit_37, lit_101, lit_120, lit_121, lit_127, lit_169, lit_64, lit_99, lit_999, lit_676, lit_845, lit_48, lit_57, lit_32, lit_59, c8]
  unfold F_X7_countAtSite
  rw [xbd_s hL]
theorem f_cau {σ : xM} {N : xN} {u : Nat} {st : Nat → Nat} {a : Nat} (hw : s_wf N) (c2 : σ 2 0 = nI (N 0 0)) (hc : ∀ a, a < N 0 0 → σ 130 a = oI (s_ct N u st a)) (ha : a < N 0 1) : F_X4_caughtBy (nI a) σ = some (nI (v_cau N u st a)) := by
  have hA := hw.1.1
  have hS := hw.1.2.1
  have hL : L_X4_caughtBy_4 (nI a) 0 0 σ = some (nI (v_cau N u st a)) := by
    unfold L_X4_caughtBy_4 v_cau
    refine xfor (f := fun s : Int32 × Int32 => B_X4_caughtBy_4 (nI a) s.1 s.2 σ) (fun k => (nI (xmk (fun b => decide (s_ct N u st b = a + 1)) k), nI k)) (N 0 0) _ (fun k hk => ?_) ?_ 6000 0 (by omega) (by omega)
    · have x1 := hc k hk
      have b1 := s_ct_lt hw (u := u) (st := st) hk
      have hx := xmk_lt (fun b => decide (s_ct N u st b = a + 1)) k
      dsimp only
      unfold B_X4_caughtBy_4
      by_cases h : s_ct N u st k = a + 1
      · rw [xmk_t (by simp [h])]
        simp (disch := omega) only [Nat.add_zero, Nat.zero_add, Nat.zero_mul, Nat.mul_zero, mc8, mc3, nU_f, nU_k, nU_e, xbd_some, xgd_true, xlet_eq, g_in, nI_clamp, nI_leI, nI_ltI, nI_eq, nI_add, pk_mul, pk_sub, rd_e, rd_k, rd_c, i10, i01, xsm_l, xsm_r, if_pos, if_neg, l_neg1, oI_e0, nI_e0, oI_nI, ne_eq, not_true_eq_false, not_false_eq_true, and_true, true_and, and_false, false_and, or_true, true_or, or_false, false_or, if_true, if_false, lit_0, lit_1, lit_2, lit_3, lit_4, lit_5, lit_6, lit_8, lit_9, lit_10, lit_12, lit_13, lit_21, lit_29, lit_30, lit_31, lit_37, lit_101, lit_120, lit_121, lit_127, lit_169, lit_64, lit_99, lit_999, lit_676, lit_845, lit_48, lit_57, lit_32, lit_59, c2, x1, shl1, orp]
      · rw [xmk_f (by simp [h])]
        simp (disch := omega) only [Nat.add_zero, Nat.zero_add, Nat.zero_mul, Nat.mul_zero, mc8, mc3, nU_f, nU_k, nU_e, xbd_some, xgd_true, xlet_eq, g_in, nI_clamp, nI_leI, nI_ltI, nI_eq, nI_add, pk_mul, pk_sub, rd_e, rd_k, rd_c, i10, i01, xsm_l, xsm_r, if_pos, if_neg, l_neg1, oI_e0, nI_e0, oI_nI, ne_eq, not_true_eq_false, not_false_eq_true, and_true, true_and, and_false, false_and, or_true, true_or, or_false, false_or, if_true, if_false, lit_0, lit_1, lit_2, lit_3, lit_4, lit_5, lit_6, lit_8, lit_9, lit_10, lit_12, lit_13, lit_21, lit_29, lit_30, lit_31, lit_37, lit_101, lit_120, lit_121, lit_127, lit_169, lit_64, lit_99, lit_999, lit_676, lit_845, lit_48, lit_57, lit_32, lit_59, c2, x1]
    · dsimp only
      unfold B_X4_caughtBy_4
      simp (disch := omega) only [Nat.add_zero, Nat.zero_add, Nat.zero_mul, Nat.mul_zero, mc8, mc3, nU_f, nU_k, nU_e, xbd_some, xgd_true, xlet_eq, g_in, nI_clamp, nI_leI, nI_ltI, nI_eq, nI_add, pk_mul, pk_sub, rd_e, rd_k, rd_c, i10, i01, xsm_l, xsm_r, if_pos, if_neg, l_neg1, oI_e0, nI_e0, oI_nI, ne_eq, not_true_eq_false, not_false_eq_true, and_true, true_and, and_false, false_and, or_true, true_or, or_false, false_or, if_true, if_false, lit_0, lit_1, lit_2, lit_3, lit_4, lit_5, lit_6, lit_8, lit_9, lit_10, lit_12, lit_13, lit_21, lit_29, lit_30, lit_31, lit_37, lit_101, lit_120, lit_121, lit_127, lit_169, lit_64, lit_99, lit_999, lit_676, lit_845, lit_48, lit_57, lit_32, lit_59, c2]
  unfold F_X4_caughtBy
  rw [xbd_s hL]
theorem f_plc {σ : xM} {N : xN} {s : Nat} (hw : s_wf N) (hC : s_C σ 1 N) (hs : s < N 0 1) : F_X8_placeInQueue (nI s) σ = some (oI (q_p N s (N 0 7))) := by
  have hS := hw.1.2.1
  have hQ := hw.1.2.2.2
  have c8 : σ 8 1 = nI (N 0 7) := (s_C_0 hC).1.2.2.1
  have hL : ∃ e, L_X8_placeInQueue_2 (nI s) 0 σ = some e ∧ ((q_p N s (N 0 7) = 0 ∧ e = .inr ()) ∨ ∃ p, q_p N s (N 0 7) = p + 1 ∧ e = .inl (nI p)) := by
    unfold L_X8_placeInQueue_2
    refine xloop_for (f := fun x : Int32 => B_X8_placeInQueue_2 (nI s) x σ) (fun k x => x = nI k ∧ q_p N s k = 0) (fun e => (q_p N s (N 0 7) = 0 ∧ e = .inr ()) ∨ ∃ p, q_p N s (N 0 7) = p + 1 ∧ e = .inl (nI p)) (N 0 7) ?_ ?_ 6000 0 0 (by omega) (by omega) ⟨rfl, rfl⟩
    · intro k x hk ⟨h1, h2⟩
      subst h1
      have x1 := (s_C_0 hC).2.2.2.2.1 k hk
      have b1 := (hw.2.2.2.2.2.2.1 k hk).1
      unfold B_X8_placeInQueue_2
      by_cases h : N 1 k = s
      · right
        have e : q_p N s (k + 1) = k + 1 := by unfold q_p; rw [if_neg (by omega), if_pos h]
        have e2 := q_p_st (N := N) (s := s) (k := k + 1) (by omega) (N 0 7) (by omega)
        simp (disch := omega) only [Nat.add_zero, Nat.zero_add, Nat.zero_mul, Nat.mul_zero, mc8, mc3, nU_f, nU_k, nU_e, xbd_some, xgd_true, xlet_eq, g_in, nI_clamp, nI_leI, nI_ltI, nI_eq, nI_add, pk_mul, pk_sub, rd_e, rd_k, rd_c, i10, i01, xsm_l, xsm_r, if_pos, if_neg, l_neg1, oI_e0, nI_e0, oI_nI, ne_eq, not_true_eq_false, not_false_eq_true, and_true, true_and, and_false, false_and, or_true, true_or, or_false, false_or, if_true, if_false, lit_0, lit_1, lit_2, lit_3, lit_4, lit_5, lit_6, lit_8, lit_9, lit_10, lit_12, lit_13, lit_21, lit_29, lit_30, lit_31, lit_37, lit_101, lit_120, lit_121, lit_127, lit_169, lit_64, lit_99, lit_999, lit_676, lit_845, lit_48, lit_57, lit_32, lit_59, c8, x1]
        exact ⟨_, rfl, Or.inr ⟨k, by omega, rfl⟩⟩
      · left
        have e : q_p N s (k + 1) = 0 := by unfold q_p; rw [if_neg (by omega), if_neg h]
        simp (disch := omega) only [Nat.add_zero, Nat.zero_add, Nat.zero_mul, Nat.mul_zero, mc8, mc3, nU_f, nU_k, nU_e, xbd_some, xgd_true, xlet_eq, g_in, nI_clamp, nI_leI, nI_ltI, nI_eq, nI_add, pk_mul, pk_sub, rd_e, rd_k, rd_c, i10, i01, xsm_l, xsm_r, if_pos, if_neg, l_neg1, oI_e0, nI_e0, oI_nI, ne_eq, not_true_eq_false, not_false_eq_true, and_true, true_and, and_false, false_and, or_true, true_or, or_false, false_or, if_true, if_false, lit_0, lit_1, lit_2, lit_3, lit_4, lit_5, lit_6, lit_8, lit_9, lit_10, lit_12, lit_13, lit_21, lit_29, lit_30, lit_31, lit_37, lit_101, lit_120, lit_121, lit_127, lit_169, lit_64, lit_99, lit_999, lit_676, lit_845, lit_48, lit_57, lit_32, lit_59, c8, x1]
        exact ⟨_, rfl, rfl, e⟩
    · intro x ⟨h1, h2⟩
      subst h1
      unfold B_X8_placeInQueue_2
      simp (disch := omega) only [Nat.add_zero, Nat.zero_add, Nat.zero_mul, Nat.mul_zero, mc8, mc3, nU_f, nU_k, nU_e, xbd_some, xgd_true, xlet_eq, g_in, nI_clamp, nI_leI, nI_ltI, nI_eq, nI_add, pk_mul, pk_sub, rd_e, rd_k, rd_c, i10, i01, xsm_l, xsm_r, if_pos, if_neg, l_neg1, oI_e0, nI_e0, oI_nI, ne_eq, not_true_eq_false, not_false_eq_true, and_true, true_and, and_false, false_and, or_true, true_or, or_false, false_or, if_true, if_false, lit_0, lit_1, lit_2, lit_3, lit_4, lit_5, lit_6, lit_8, lit_9, lit_10, lit_12, lit_13, lit_21, lit_29, lit_30, lit_31, lit_37, lit_101, lit_120, lit_121, lit_127, lit_169, lit_64, lit_99, lit_999, lit_676, lit_845, lit_48, lit_57, lit_32, lit_59, c8]
      exact ⟨_, rfl, Or.inl ⟨h2, rfl⟩⟩
  obtain ⟨e, h1, h2⟩ := hL
  unfold F_X8_placeInQueue
  rw [xbd_s h1]
  rcases h2 with ⟨h2, rfl⟩ | ⟨p, h2, rfl⟩
  · rw [h2]; rfl
  · rw [h2]; rfl
theorem f_calm {σ : xM} {N : xN} {g : Nat} (hw : s_wf N) (hC : s_C σ 1 N) (hg : g < 32) : ∃ σ', F_X2_staysCalm (nI g) σ = some (nI (if s_om N (dif (s_up N) g) (N 8) = 0 then 1 else 0), σ') ∧ s_eq s_lk σ σ' := by
  have hS := hw.1.2.1
  have hu := s_up_lt5 hS
  have hd := dif_lt (g := g) hu
  obtain ⟨σ', g1, g2, -, -⟩ := f_look11 (u := dif (s_up N) g) (s_K11 hw hC) (by omega)
  have hom := s_om_lt5 hS (dif (s_up N) g) (N 8)
  refine ⟨σ', ?_, g2⟩
  unfold F_X2_staysCalm
  rw [xbd_s (s_C_up hw hC)]
  by_cases h : s_om N (dif (s_up N) g) (N 8) = 0
  · rw [if_pos h]
    rw [h] at g1
    simp (disch := omega) only [Nat.add_zero, Nat.zero_add, Nat.zero_mul, Nat.mul_zero, mc8, mc3, nU_f, nU_k, nU_e, xbd_some, xgd_true, xlet_eq, g_in, nI_clamp, nI_leI, nI_ltI, nI_eq, nI_add, pk_mul, pk_sub, rd_e, rd_k, rd_c, i10, i01, xsm_l, xsm_r, if_pos, if_neg, l_neg1, oI_e0, nI_e0, oI_nI, ne_eq, not_true_eq_false, not_false_eq_true, and_true, true_and, and_false, false_and, or_true, true_or, or_false, false_or, if_true, if_false, lit_0, lit_1, lit_2, lit_3, lit_4, lit_5, lit_6, lit_8, lit_9, lit_10, lit_12, lit_13, lit_21, lit_29, lit_30, lit_31, lit_37, lit_101, lit_120, lit_121, lit_127, lit_169, lit_64, lit_99, lit_999, lit_676, lit_845, lit_48, lit_57, lit_32, lit_59, andn, g1]
  · rw [if_neg h]
    simp (disch := omega) only [Nat.add_zero, Nat.zero_add, Nat.zero_mul, Nat.mul_zero, mc8, mc3, nU_f, nU_k, nU_e, xbd_some, xgd_true, xlet_eq, g_in, nI_clamp, nI_leI, nI_ltI, nI_eq, nI_add, pk_mul, pk_sub, rd_e, rd_k, rd_c, i10, i01, xsm_l, xsm_r, if_pos, if_neg, l_neg1, oI_e0, nI_e0, oI_nI, ne_eq, not_true_eq_false, not_false_eq_true, and_true, true_and, and_false, false_and, or_true, true_or, or_false, false_or, if_true, if_false, lit_0, lit_1, lit_2, lit_3, lit_4, lit_5, lit_6, lit_8, lit_9, lit_10, lit_12, lit_13, lit_21, lit_29, lit_30, lit_31, lit_37, lit_101, lit_120, lit_121, lit_127, lit_169, lit_64, lit_99, lit_999, lit_676, lit_845, lit_48, lit_57, lit_32, lit_59, andn, g1]
def v_safe (N : xN) (s : Nat) : Nat := if N 9 s = 2 then 0 else if s_om N (dif (s_up N) (2 ^ s)) (N 8) = 0 then 1 else 0
theorem f_safe {σ : xM} {N : xN} {s : Nat} (hw : s_wf N) (hC : s_C σ 1 N) (hs : s < N 0 1) : ∃ σ', F_X2_isSafeToGo (nI s) σ = some (nI (v_safe N s), σ') ∧ s_eq s_lk σ σ' := by
  have hS := hw.1.2.1
  have h9 := (hw.2.2.2.2.1 s hs).2.2.2
  obtain ⟨x1, x2, x3, x4⟩ := (s_C_0 hC).2.2.2.1 s hs
  unfold F_X2_isSafeToGo v_safe
  by_cases h : N 9 s = 2
  · rw [if_pos h]
    refine ⟨σ, ?_, s_eq_rf σ⟩
    simp (disch := omega) only [Nat.add_zero, Nat.zero_add, Nat.zero_mul, Nat.mul_zero, mc8, mc3, nU_f, nU_k, nU_e, xbd_some, xgd_true, xlet_eq, g_in, nI_clamp, nI_leI, nI_ltI, nI_eq, nI_add, pk_mul, pk_sub, rd_e, rd_k, rd_c, i10, i01, xsm_l, xsm_r, if_pos, if_neg, l_neg1, oI_e0, nI_e0, oI_nI, ne_eq, not_true_eq_false, not_false_eq_true, and_true, true_and, and_false, false_and, or_true, true_or, or_false, false_or, if_true, if_false, lit_0, lit_1, lit_2, lit_3, lit_4, lit_5, lit_6, lit_8, lit_9, lit_10, lit_12, lit_13, lit_21, lit_29, lit_30, lit_31, lit_37, lit_101, lit_120, lit_121, lit_127, lit_169, lit_64, lit_99, lit_999, lit_676, lit_845, lit_48, lit_57, lit_32, lit_59, x4]
  · rw [if_neg h]
    have h2 := p2_lt (show s < 5 by omega)
    obtain ⟨σ', g1, g2⟩ := f_calm hw hC h2
    refine ⟨σ', ?_, g2⟩
    by_cases hz : s_om N (dif (s_up N) (2 ^ s)) (N 8) = 0
    · rw [if_pos hz] at g1 ⊢
      simp (disch := omega) only [Nat.add_zero, Nat.zero_add, Nat.zero_mul, Nat.mul_zero, mc8, mc3, nU_f, nU_k, nU_e, xbd_some, xgd_true, xlet_eq, g_in, nI_clamp, nI_leI, nI_ltI, nI_eq, nI_add, pk_mul, pk_sub, rd_e, rd_k, rd_c, i10, i01, xsm_l, xsm_r, if_pos, if_neg, l_neg1, oI_e0, nI_e0, oI_nI, ne_eq, not_true_eq_false, not_false_eq_true, and_true, true_and, and_false, false_and, or_true, true_or, or_false, false_or, if_true, if_false, lit_0, lit_1, lit_2, lit_3, lit_4, lit_5, lit_6, lit_8, lit_9, lit_10, lit_12, lit_13, lit_21, lit_29, lit_30, lit_31, lit_37, lit_101, lit_120, lit_121, lit_127, lit_169, lit_64, lit_99, lit_999, lit_676, lit_845, lit_48, lit_57, lit_32, lit_59, x4, shl1, g1]
    · rw [if_neg hz] at g1 ⊢
      simp (disch := omega) only [Nat.add_zero, Nat.zero_add, Nat.zero_mul, Nat.mul_zero, mc8, mc3, nU_f, nU_k, nU_e, xbd_some, xgd_true, xlet_eq, g_in, nI_clamp, nI_leI, nI_ltI, nI_eq, nI_add, pk_mul, pk_sub, rd_e, rd_k, rd_c, i10, i01, xsm_l, xsm_r, if_pos, if_neg, l_neg1, oI_e0, nI_e0, oI_nI, ne_eq, not_true_eq_false, not_false_eq_true, and_true, true_and, and_false, false_and, or_true, true_or, or_false, false_or, if_true, if_false, lit_0, lit_1, lit_2, lit_3, lit_4, lit_5, lit_6, lit_8, lit_9, lit_10, lit_12, lit_13, lit_21, lit_29, lit_30, lit_31, lit_37, lit_101, lit_120, lit_121, lit_127, lit_169, lit_64, lit_99, lit_999, lit_676, lit_845, lit_48, lit_57, lit_32, lit_59, x4, shl1, g1]
