def elA (M : Nat) : Nat → Nat → Nat → Nat
  | 0, s, _ => s
  | f + 1, s, q => if M.testBit s = true then (if q = 0 then s else elA M f (s + 1) (q - 1)) else elA M f (s + 1) q
def el (M q : Nat) : Nat := elA M 5 0 q
def fac : Nat → Nat
  | 0 => 1
  | n + 1 => (n + 1) * fac n
theorem el_1 {M q : Nat} (hM : M < 32) (hq : q < pop M) : M.testBit (el M q) = true ∧ el M q < 5 := by
  have h5 : pop M ≤ 5 := xct_le _ 5
  have h : ∀ M, M < 32 → ∀ q, q < 5 → q < pop M → M.testBit (el M q) = true := by decide +kernel
  have h2 : ∀ M, M < 32 → ∀ q, q < 5 → q < pop M → el M q < 5 := by decide +kernel
  exact ⟨h M hM q (by omega) hq, h2 M hM q (by omega) hq⟩
theorem el_2 {M s : Nat} (hM : M < 32) (hs : s < 5) (hb : M.testBit s = true) : xct (fun k => M.testBit k) s < pop M ∧ el M (xct (fun k => M.testBit k) s) = s := by
  have h : ∀ M, M < 32 → ∀ s, s < 5 → M.testBit s = true → xct (fun k => M.testBit k) s < pop M := by decide +kernel
  have h2 : ∀ M, M < 32 → ∀ s, s < 5 → M.testBit s = true → el M (xct (fun k => M.testBit k) s) = s := by decide +kernel
  exact ⟨h M hM s hs hb, h2 M hM s hs hb⟩
theorem el_3 {M q r : Nat} (hM : M < 32) (h1 : q < r) (h2 : r < pop M) : el M q < el M r := by
  have h5 : pop M ≤ 5 := xct_le _ 5
  have h : ∀ M, M < 32 → ∀ q, q < 5 → ∀ r, r < 5 → (q < r ∧ r < pop M) → el M q < el M r := by decide +kernel
  exact h M hM q (by omega) r (by omega) ⟨h1, h2⟩
theorem fac_pos : ∀ n, 0 < fac n
  | 0 => by decide
  | n + 1 => Nat.mul_pos (by omega) (fac_pos n)
def pq (set : Nat) : Nat → Nat → Nat → Nat → Nat
  | 0, _, _, _ => 0
  | d + 1, g, x, 0 => el (dif set g) (x / fac d)
  | d + 1, g, x, i + 1 => pq set d (g ||| 2 ^ el (dif set g) (x / fac d)) (x % fac d) i
theorem pq_div {d x : Nat} (h : x < fac (d + 1)) : x / fac d < d + 1 := by
  have : x < (d + 1) * fac d := h
  exact Nat.div_lt_of_lt_mul (by rw [Nat.mul_comm]; exact this)
theorem pq_wp {set : Nat} (h32 : set < 32) : ∀ (d g x : Nat), g < 32 → g &&& set = g → pop (dif set g) = d → x < fac d → wp set d g (pq set d g x)
  | 0, _, _, _, _, _, _ => trivial
  | d + 1, g, x, hg, hgs, hp, hx => by
    have hq := pq_div hx
    obtain ⟨e1, e2⟩ := el_1 (dif_lt (g := g) h32) (q := x / fac d) (by omega)
    obtain ⟨n1, n2, n3⟩ := pop_n h32 hg e2 hgs e1
    exact ⟨e2, e1, pq_wp h32 d (g ||| 2 ^ el (dif set g) (x / fac d)) (x % fac d) n3 n2 (by omega) (Nat.mod_lt _ (fac_pos d))⟩
theorem pq_sur {set : Nat} (h32 : set < 32) : ∀ (d g : Nat) (q : Nat → Nat), g < 32 → g &&& set = g → pop (dif set g) = d → wp set d g q → ∃ x, x < fac d ∧ ∀ i, i < d → pq set d g x i = q i
  | 0, _, _, _, _, _, _ => ⟨0, by decide, fun i hi => absurd hi (by omega)⟩
  | d + 1, g, q, hg, hgs, hp, hw => by
    obtain ⟨w1, w2, w3⟩ := hw
    obtain ⟨n1, n2, n3⟩ := pop_n h32 hg w1 hgs w2
    obtain ⟨e1, e2⟩ := el_2 (dif_lt (g := g) h32) w1 w2
    obtain ⟨x, hx, hxq⟩ := pq_sur h32 d _ _ n3 n2 (by omega) w3
    generalize xct (fun k => (dif set g).testBit k) (q 0) = r at *
    have hd : (r * fac d + x) / fac d = r := by
      rw [Nat.mul_comm, Nat.mul_add_div (fac_pos d), Nat.div_eq_of_lt hx, Nat.add_zero]
    have hm : (r * fac d + x) % fac d = x := by
      rw [Nat.mul_comm, Nat.mul_add_mod, Nat.mod_eq_of_lt hx]
    refine ⟨r * fac d + x, ?_, fun i hi => ?_⟩
    · show r * fac d + x < (d + 1) * fac d
      have : (r + 1) * fac d ≤ (d + 1) * fac d := Nat.mul_le_mul_right _ (by omega)
      rw [Nat.add_mul, Nat.one_mul] at this
      omega
    · cases i with
      | zero =>
        show el (dif set g) ((r * fac d + x) / fac d) = q 0
        rw [hd, e2]
      | succ i =>
        show pq set d (g ||| 2 ^ el (dif set g) ((r * fac d + x) / fac d)) ((r * fac d + x) % fac d) i = _
        rw [hd, hm, e2]
        exact hxq i (by omega)
theorem pq_mono {set : Nat} (h32 : set < 32) : ∀ (d g x y : Nat), g < 32 → g &&& set = g → pop (dif set g) = d → x < y → y < fac d → wc d (pq set d g x) < wc d (pq set d g y)
  | 0, _, x, y, _, _, _, h1, h2 => by
    have : fac 0 = 1 := rfl
    omega
  | d + 1, g, x, y, hg, hgs, hp, h1, h2 => by
    have wx := pq_wp h32 (d + 1) g x hg hgs hp (by omega)
    have wy := pq_wp h32 (d + 1) g y hg hgs hp h2
    have qx := pq_div (show x < fac (d + 1) by omega)
    have qy := pq_div h2
    have lx := wc_lt d _ _ wx.2.2
    show el (dif set g) (x / fac d) * 8 ^ d + wc d (fun i => pq set (d + 1) g x (i + 1)) < el (dif set g) (y / fac d) * 8 ^ d + wc d (fun i => pq set (d + 1) g y (i + 1))
    by_cases e : x / fac d = y / fac d
    · obtain ⟨e1, e2⟩ := el_1 (dif_lt (g := g) h32) (q := y / fac d) (by omega)
      obtain ⟨n1, n2, n3⟩ := pop_n h32 hg e2 hgs e1
      have dx := Nat.div_add_mod x (fac d)
      have dy := Nat.div_add_mod y (fac d)
      rw [e] at dx
      have ih := pq_mono h32 d _ (x % fac d) (y % fac d) n3 n2 (by omega) (by omega) (Nat.mod_lt _ (fac_pos d))
      have ex : (fun i => pq set (d + 1) g x (i + 1)) = pq set d (g ||| 2 ^ el (dif set g) (y / fac d)) (x % fac d) := by
        funext i
        show pq set d (g ||| 2 ^ el (dif set g) (x / fac d)) (x % fac d) i = _
        rw [e]
      have ey : (fun i => pq set (d + 1) g y (i + 1)) = pq set d (g ||| 2 ^ el (dif set g) (y / fac d)) (y % fac d) := rfl
      rw [ex, ey, e]
      omega
    · have hl : x / fac d < y / fac d := by
        have := Nat.div_le_div_right (c := fac d) (Nat.le_of_lt h1)
        omega
      have := el_3 (dif_lt (g := g) h32) hl (show y / fac d < pop (dif set g) by omega)
      have : (el (dif set g) (x / fac d) + 1) * 8 ^ d ≤ el (dif set g) (y / fac d) * 8 ^ d := Nat.mul_le_mul_right _ this
      rw [Nat.add_mul, Nat.one_mul] at this
      have lx' : wc d (fun i => pq set (d + 1) g x (i + 1)) < 8 ^ d := lx
      omega
theorem m_size {v : Nat} (h : v < 32) (σ : xM) : F_X11_size (nI v) σ = some (nI (pop v)) := by
  have hh : ∀ v, v < 32 → F_X11_size (nI v) xM0 = some (nI (pop v)) := by decide +kernel
  exact hh v h
theorem m_lo11 {m : Nat} (h : m < 6) (a b : Int32) (σ : xM) : L_X11_laysOrder_11 a b (nI m) (nI 1) (nI 1) σ = some (nI (fac (m - 1))) := by
  have hh : ∀ m, m < 6 → L_X11_laysOrder_11 0 0 (nI m) (nI 1) (nI 1) xM0 = some (nI (fac (m - 1))) := by decide +kernel
  exact hh m h
theorem m_on7 {m : Nat} (h : m < 6) (a b : Int32) (σ : xM) : L_X11_orderNow_7 a b (nI m) (nI 1) (nI 2) σ = some (nI (fac m)) := by
  have hh : ∀ m, m < 6 → L_X11_orderNow_7 0 0 (nI m) (nI 1) (nI 2) xM0 = some (nI (fac m)) := by decide +kernel
  exact hh m h
theorem m_lo35 {M q : Nat} (hM : M < 32) (hq : q < pop M) (a b c d : Int32) (σ : xM) : L_X11_laysOrder_35 (nI M) a b c d (nI q) (nI 0) σ = some (nI (el M q)) := by
  have h5 : pop M ≤ 5 := xct_le _ 5
  have hh : ∀ M, M < 32 → ∀ q, q < 5 → q < pop M → L_X11_laysOrder_35 (nI M) 0 0 0 0 (nI q) (nI 0) xM0 = some (nI (el M q)) := by decide +kernel
  exact hh M hM q (by omega) hq
theorem dif_dif {set g s : Nat} (h1 : set < 32) (h2 : g < 32) (hs : s < 5) : dif (dif set g) (2 ^ s) = dif set (g ||| 2 ^ s) := by
  have h : ∀ set, set < 32 → ∀ g, g < 32 → ∀ s, s < 5 → dif (dif set g) (2 ^ s) = dif set (g ||| 2 ^ s) := by decide +kernel
  exact h set h1 g h2 s hs
theorem fac_le {d : Nat} (h : d < 6) : fac d ≤ 120 := by
  have h2 : ∀ d, d < 6 → fac d ≤ 120 := by decide
  exact h2 d h
theorem fac_div {d : Nat} (h0 : 0 < d) : fac d / d = fac (d - 1) := by
  obtain ⟨e, rfl⟩ : ∃ e, d = e + 1 := ⟨d - 1, by omega⟩
  show (e + 1) * fac e / (e + 1) = _
  rw [Nat.mul_div_cancel_left _ (by omega)]
  rfl
theorem dif_0 {set : Nat} (h : set < 32) : dif set 0 = set := by
  have h2 : ∀ set, set < 32 → dif set 0 = set := by decide
  exact h2 set h
theorem m_layO {σ : xM} {set x : Nat} (h32 : set < 32) (hx : x < fac (pop set)) : ∃ τ, F_X11_laysOrder (nI set) (nI x) σ = some τ ∧ (∀ c, c ≠ 151 → τ c = σ c) ∧ ∀ i, i < pop set → τ 151 i = nI (pq set (pop set) 0 x i) := by
  have hm : pop set ≤ 5 := xct_le _ 5
  generalize hM : pop set = m at *
  have hL : ∃ τ, L_X11_laysOrder_22 (nI m) (nI set) (nI x) (nI (fac (m - 1))) (nI 0) σ = some τ ∧ (∀ c, c ≠ 151 → τ c = σ c) ∧ ∀ i, i < m → τ 151 i = nI (pq set m 0 x i) := by
    unfold L_X11_laysOrder_22
    refine xloop_for (f := fun s : Int32 × Int32 × Int32 × Int32 × xM => B_X11_laysOrder_22 (nI m) s.1 s.2.1 s.2.2.1 s.2.2.2.1 s.2.2.2.2) (fun k s => s.2.2.2.1 = nI k ∧ s.2.2.1 = nI (fac (m - k - 1)) ∧ (∀ c, c ≠ 151 → s.2.2.2.2 c = σ c) ∧ (∀ i, i < k → s.2.2.2.2 151 i = nI (pq set m 0 x i)) ∧ ∃ g y, s.1 = nI (dif set g) ∧ s.2.1 = nI y ∧ g < 32 ∧ g &&& set = g ∧ pop (dif set g) = m - k ∧ y < fac (m - k) ∧ ∀ i, i < m - k → pq set m 0 x (k + i) = pq set (m - k) g y i) (fun τ => (∀ c, c ≠ 151 → τ c = σ c) ∧ ∀ i, i < m → τ 151 i = nI (pq set m 0 x i)) m ?_ ?_ 6000 0 (nI set, nI x, nI (fac (m - 1)), nI 0, σ) (by omega) (by omega) ⟨rfl, rfl, fun _ _ => rfl, fun i hi => absurd hi (by omega), 0, x, by rw [dif_0 h32], rfl, by omega, Nat.zero_and set, by rw [dif_0 h32, hM]; omega, hx, fun i _ => by rw [Nat.zero_add, Nat.sub_zero]⟩
    · intro k ⟨v3, v4, v5, v7, τ⟩ hk ⟨h1, h2, h3, h4, g, y, h5, h6, hg, hgs, hp, hy, he⟩
      dsimp only at h1 h2 h3 h4 h5 h6 ⊢
      subst h1 h2 h5 h6
      left
      obtain ⟨d, hd⟩ : ∃ d, m - k = d + 1 := ⟨m - k - 1, by omega⟩
      rw [hd] at hp hy he ⊢
      rw [Nat.add_sub_cancel]
      have hq := pq_div hy
      have hdl := dif_lt (g := g) h32
      obtain ⟨e1, e2⟩ := el_1 hdl (q := y / fac d) (by omega)
      obtain ⟨n1, n2, n3⟩ := pop_n h32 hg e2 hgs e1
      have hf := fac_le (d := d) (by omega)
      have hf2 := fac_le (d := d + 1) (by omega)
      have hfp := fac_pos d
      have lo := fun a b c e => m_lo35 (M := dif set g) (q := y / fac d) hdl (by omega) a b c e τ
      have p2 := p2_lt e2
      have hmod : y - y / fac d * fac d = y % fac d := by
        have := Nat.div_add_mod y (fac d)
        rw [Nat.mul_comm] at this
        omega
      have hle : y / fac d * fac d ≤ y := Nat.div_mul_le_self y (fac d)
      have hdd := dif_dif h32 hg e2
      have h0 := he 0 (by omega)
      rw [Nat.add_zero] at h0
      have h0' : pq set (d + 1) g y 0 = el (dif set g) (y / fac d) := rfl
      have ml := Nat.mod_lt y hfp
      have g0 : (!decide (fac d = 0)) = true := by
        rw [decide_eq_false (by omega)]
        rfl
      have ed : m - 1 - k = d := by omega
      have e9 : m - (k + 1) = d := by omega
      have hdvl : y / fac d ≤ y := Nat.div_le_self _ _
      unfold B_X11_laysOrder_22
      have inv : (∀ c, c ≠ 151 → xup τ 151 k (nI (el (dif set g) (y / fac d))) c = σ c) ∧ (∀ i, i < k + 1 → xup τ 151 k (nI (el (dif set g) (y / fac d))) 151 i = nI (pq set m 0 x i)) ∧ ∃ g' y', nI (dif set (g ||| 2 ^ el (dif set g) (y / fac d))) = nI (dif set g') ∧ nI (y % fac d) = nI y' ∧ g' < 32 ∧ g' &&& set = g' ∧ pop (dif set g') = d ∧ y' < fac d ∧ ∀ i, i < d → pq set m 0 x (k + 1 + i) = pq set d g' y' i := by
        refine ⟨fun c hc => by simp (disch := omega) only [Nat.add_zero, Nat.zero_add, Nat.zero_mul, Nat.mul_zero, mc8, mc3, nU_f, nU_k, nU_e, xbd_some, xgd_true, xlet_eq, g_in, nI_clamp, nI_leI, nI_ltI, nI_eq, nI_add, pk_mul, pk_sub, rd_e, rd_k, rd_c, i10, i01, xsm_l, xsm_r, if_pos, if_neg, l_neg1, oI_e0, nI_e0, oI_nI, ne_eq, not_true_eq_false, not_false_eq_true, and_true, true_and, and_false, false_and, or_true, true_or, or_false, false_or, if_true, if_false, lit_0, lit_1, lit_2, lit_3, lit_4, lit_5, lit_6, lit_8, lit_9, lit_10, lit_12, lit_13, lit_21, lit_29, lit_30, lit_31, lit_37, lit_101, lit_120, lit_121, lit_127, lit_169, lit_64, lit_99, lit_999, lit_676, lit_845, lit_48, lit_57, lit_32, lit_59]; exact h3 c hc, fun i hi => ?_, g ||| 2 ^ el (dif set g) (y / fac d), y % fac d, rfl, rfl, n3, n2, by omega, ml, fun i hi => ?_⟩
        · by_cases e : i = k
          · subst e
            rw [rd_e rfl, h0, h0']
          · simp (disch := omega) only [Nat.add_zero, Nat.zero_add, Nat.zero_mul, Nat.mul_zero, mc8, mc3, nU_f, nU_k, nU_e, xbd_some, xgd_true, xlet_eq, g_in, nI_clamp, nI_leI, nI_ltI, nI_eq, nI_add, pk_mul, pk_sub, rd_e, rd_k, rd_c, i10, i01, xsm_l, xsm_r, if_pos, if_neg, l_neg1, oI_e0, nI_e0, oI_nI, ne_eq, not_true_eq_false, not_false_eq_true, and_true, true_and, and_false, false_and, or_true, true_or, or_false, false_or, if_true, if_false, lit_0, lit_1, lit_2, lit_3, lit_4, lit_5, lit_6, lit_8, lit_9, lit_10, lit_12, lit_13, lit_21, lit_29, lit_30, lit_31, lit_37, lit_101, lit_120, lit_121, lit_127, lit_169, lit_64, lit_99, lit_999, lit_676, lit_845, lit_48, lit_57, lit_32, lit_59]
            exact h4 i (by omega)
        · rw [show k + 1 + i = k + (i + 1) by omega, he (i + 1) (by omega)]
          rfl
      by_cases hd0 : d = 0
      · simp (disch := omega) only [Nat.add_zero, Nat.zero_add, Nat.zero_mul, Nat.mul_zero, mc8, mc3, nU_f, nU_k, nU_e, xbd_some, xgd_true, xlet_eq, g_in, nI_clamp, nI_leI, nI_ltI, nI_eq, nI_add, pk_mul, pk_sub, rd_e, rd_k, rd_c, i10, i01, xsm_l, xsm_r, if_pos, if_neg, l_neg1, oI_e0, nI_e0, oI_nI, ne_eq, not_true_eq_false, not_false_eq_true, and_true, true_and, and_false, false_and, or_true, true_or, or_false, false_or, if_true, if_false, lit_0, lit_1, lit_2, lit_3, lit_4, lit_5, lit_6, lit_8, lit_9, lit_10, lit_12, lit_13, lit_21, lit_29, lit_30, lit_31, lit_37, lit_101, lit_120, lit_121, lit_127, lit_169, lit_64, lit_99, lit_999, lit_676, lit_845, lit_48, lit_57, lit_32, lit_59, g0, pk_div, hmod, lo, ed, shl1, andn, hdd]
        refine ⟨_, rfl, rfl, ?_, ?_⟩
        · rw [e9, hd0]
          rfl
        · dsimp only
          rw [e9]
          exact inv
      · have gd : (!decide (d = 0)) = true := by
          rw [decide_eq_false hd0]
          rfl
        have fd := fac_div (d := d) (by omega)
        simp (disch := omega) only [Nat.add_zero, Nat.zero_add, Nat.zero_mul, Nat.mul_zero, mc8, mc3, nU_f, nU_k, nU_e, xbd_some, xgd_true, xlet_eq, g_in, nI_clamp, nI_leI, nI_ltI, nI_eq, nI_add, pk_mul, pk_sub, rd_e, rd_k, rd_c, i10, i01, xsm_l, xsm_r, if_pos, if_neg, l_neg1, oI_e0, nI_e0, oI_nI, ne_eq, not_true_eq_false, not_false_eq_true, and_true, true_and, and_false, false_and, or_true, true_or, or_false, false_or, if_true, if_false, lit_0, lit_1, lit_2, lit_3, lit_4, lit_5, lit_6, lit_8, lit_9, lit_10, lit_12, lit_13, lit_21, lit_29, lit_30, lit_31, lit_37, lit_101, lit_120, lit_121, lit_127, lit_169, lit_64, lit_99, lit_999, lit_676, lit_845, lit_48, lit_57, lit_32, lit_59, g0, pk_div, hmod, lo, ed, shl1, andn, hdd, gd, fd]
        refine ⟨_, rfl, rfl, ?_, ?_⟩
        · rw [e9]
        · dsimp only
          rw [e9]
          exact inv
    · intro ⟨v3, v4, v5, v7, τ⟩ ⟨h1, h2, h3, h4, _⟩
      dsimp only at h1 h2 h3 h4 ⊢
      subst h1 h2
      unfold B_X11_laysOrder_22
      simp (disch := omega) only [Nat.add_zero, Nat.zero_add, Nat.zero_mul, Nat.mul_zero, mc8, mc3, nU_f, nU_k, nU_e, xbd_some, xgd_true, xlet_eq, g_in, nI_clamp, nI_leI, nI_ltI, nI_eq, nI_add, pk_mul, pk_sub, rd_e, rd_k, rd_c, i10, i01, xsm_l, xsm_r, if_pos, if_neg, l_neg1, oI_e0, nI_e0, oI_nI, ne_eq, not_true_eq_false, not_false_eq_true, and_true, true_and, and_false, false_and, or_true, true_or, or_false, false_or, if_true, if_false, lit_0, lit_1, lit_2, lit_3, lit_4, lit_5, lit_6, lit_8, lit_9, lit_10, lit_12, lit_13, lit_21, lit_29, lit_30, lit_31, lit_37, lit_101, lit_120, lit_121, lit_127, lit_169, lit_64, lit_99, lit_999, lit_676, lit_845, lit_48, lit_57, lit_32, lit_59]
      exact ⟨_, rfl, h3, h4⟩
  obtain ⟨τ, g1, g2⟩ := hL
  refine ⟨τ, ?_, g2⟩
  have sz := m_size h32 σ
  rw [hM] at sz
  have l11 := m_lo11 (m := m) (by omega) (nI set) (nI x) σ
  unfold F_X11_laysOrder
  simp (disch := omega) only [Nat.add_zero, Nat.zero_add, Nat.zero_mul, Nat.mul_zero, mc8, mc3, nU_f, nU_k, nU_e, xbd_some, xgd_true, xlet_eq, g_in, nI_clamp, nI_leI, nI_ltI, nI_eq, nI_add, pk_mul, pk_sub, rd_e, rd_k, rd_c, i10, i01, xsm_l, xsm_r, if_pos, if_neg, l_neg1, oI_e0, nI_e0, oI_nI, ne_eq, not_true_eq_false, not_false_eq_true, and_true, true_and, and_false, false_and, or_true, true_or, or_false, false_or, if_true, if_false, lit_0, lit_1, lit_2, lit_3, lit_4, lit_5, lit_6, lit_8, lit_9, lit_10, lit_12, lit_13, lit_21, lit_29, lit_30, lit_31, lit_37, lit_101, lit_120, lit_121, lit_127, lit_169, lit_64, lit_99, lit_999, lit_676, lit_845, lit_48, lit_57, lit_32, lit_59, sz, l11, g1]
