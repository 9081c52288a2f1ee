theorem f_contains {u k : Nat} (hu : u < 256) (hk : k < 8) (σ : xM) : F_X4_contains (nI u) (nI k) σ = some (if u.testBit k = true then 1 else 0) := by
  unfold F_X4_contains
  by_cases h : u.testBit k = false
  · rw [if_pos ((x_bit k hk u hu).mpr h), h]
    rfl
  · rw [if_neg (fun e => h ((x_bit k hk u hu).mp e))]
    have h2 : u.testBit k = true := by simpa using h
    rw [h2]
    rfl
theorem nI_0' : (0 : Int32) = nI 0 := rfl
theorem f_stepLen {σ : xM} {N : xN} {a : Nat} (ha : a < 8) (c4 : σ 4 a = nI (N 3 a)) (h2 : N 3 a ≤ 2) : F_X4_stepLengthFrom (nI a) σ = some (nI (if N 3 a = 1 then 0 else 3)) := by
  unfold F_X4_stepLengthFrom
  rw [xgd_t (xin_nI ha (by omega)), nI_clamp (by omega), c4]
  by_cases h : N 3 a = 1
  · rw [if_pos h, h]
    rfl
  · rw [if_neg h, if_neg (show ¬ nI (N 3 a) = 1 from fun e => h ((nI_eq (show N 3 a < 2 ^ 31 by omega) (show 1 < 2 ^ 31 by omega)).mp e))]
    rfl
theorem s_cb_pos (N : xN) (u : Nat) (st : Nat → Nat) (a : Nat) : ∀ k c, s_cb N u st a k = c + 1 → s_sm N u st a c ≠ 0
  | 0, c, h => by simp [s_cb] at h
  | k + 1, c, h => by
    unfold s_cb at h
    split at h
    · next hc =>
      have : c = k := by omega
      rw [this]
      exact hc.1
    · exact s_cb_pos N u st a k c h
theorem f_cb11 {σ : xM} {N : xN} {u a : Nat} {st : Nat → Nat} (hA : N 0 0 ≤ 8) (hS : N 0 1 ≤ 5) (ha : a < N 0 0) (hu : u < 256) (hst : ∀ s, s < N 0 1 → st s ≤ 4) (h5 : ∀ j, j < 64 → N 5 j ≤ 9) (c8 : σ 8 0 = nI (N 0 1)) (c9 : ∀ s, s < N 0 1 → σ 9 s = nI (N 6 s)) (hh : ∀ s, s < N 0 1 → N 6 s < N 0 0) (c7 : ∀ a c, a < N 0 0 → c < N 0 0 → σ 7 (8 * a + c) = oI (s_di N a c)) (cs : ∀ s, s < N 0 1 → σ 11 s = nI (st s)) :
    L_X4_catchOf_11_57 (nI u) (nI a * 8) (nI (if N 3 a = 1 then 0 else 3)) (-1) 0 0 σ = some (oI (s_cb N u st a (N 0 1))) := by
  unfold L_X4_catchOf_11_57
  have sml : ∀ s, s < N 0 1 → s_sm N u st a s < 2500 := by
    intro s hs
    have h1 := s_di_lt h5 hA (show a < 8 by omega) (show N 6 s < 8 by have := hh s hs; omega)
    have h2 := hst s hs
    unfold s_sm
    split
    · omega
    · split <;> omega
  obtain ⟨e, h1, h2⟩ := xloop_for (f := fun s : Int32 × Int32 × Int32 => B_X4_catchOf_11_57 (nI u) (nI a * 8) (nI (if N 3 a = 1 then 0 else 3)) s.1 s.2.1 s.2.2 σ) (fun k s => s = (oI (s_cb N u st a k), (if s_cb N u st a k = 0 then 0 else nI (s_sm N u st a (s_cb N u st a k - 1) - 1)), nI k)) (fun e => e = oI (s_cb N u st a (N 0 1))) (N 0 1)
    (by
      intro k s hk hI
      subst hI
      left
      have e1 : nI a * 8 + σ 9 k = nI (8 * a + N 6 k) := by
        rw [c9 k hk, show (8 : Int32) = nI 8 from rfl, pk_mul, nI_add, Nat.mul_comm]
      have hhk := hh k hk
      have hd := c7 a (N 6 k) ha hhk
      have hdl := s_di_lt h5 hA (show a < 8 by omega) (show N 6 k < 8 by omega)
      have hsk := hst k hk
      have hle := s_cb_le N u st a k
      dsimp only
      unfold B_X4_catchOf_11_57
      rw [c8, if_neg (by rw [nI_leI (by omega) (by omega)]; omega), xgd_t (xin_nI (show k < 5 by omega) (by omega)), nI_clamp (show k < 2 ^ 31 by omega), e1, xgd_t (xin_nI (show 8 * a + N 6 k < 64 by omega) (by omega)), nI_clamp (show 8 * a + N 6 k < 2 ^ 31 by omega), hd, nI_1]
      by_cases hz : s_di N a (N 6 k) = 0
      · rw [if_pos ((oI_eq (by omega)).mpr hz)]
        have hs0 : s_sm N u st a k = 0 := by unfold s_sm; rw [if_pos (Or.inl hz)]
        have hc : s_cb N u st a (k + 1) = s_cb N u st a k := by
          conv => lhs; unfold s_cb
          rw [if_neg (by omega)]
        exact ⟨_, rfl, by rw [hc]⟩
      rw [if_neg (fun e => hz ((oI_eq (by omega)).mp e)), xbd_s (f_contains hu (show k < 8 by omega) σ)]
      by_cases hb : u.testBit k = true
      case neg =>
        rw [if_neg hb, if_pos rfl]
        have hs0 : s_sm N u st a k = 0 := by unfold s_sm; rw [if_pos (Or.inr (by simpa using hb))]
        have hc : s_cb N u st a (k + 1) = s_cb N u st a k := by
          conv => lhs; unfold s_cb
          rw [if_neg (by omega)]
        exact ⟨_, rfl, by rw [hc]⟩
      rw [if_pos hb, if_neg (by decide)]
      have hsm : s_sm N u st a k = s_di N a (N 6 k) + (if N 3 a = 1 then 0 else 3 * st k) := by
        unfold s_sm
        rw [if_neg]
        rw [hb]
        simp [hz]
      have hval : oI (s_di N a (N 6 k)) + nI (if N 3 a = 1 then 0 else 3) * nI (st k) = nI (s_sm N u st a k - 1) := by
        obtain ⟨d, hd2⟩ : ∃ d, s_di N a (N 6 k) = d + 1 := ⟨s_di N a (N 6 k) - 1, by omega⟩
        rw [hsm, hd2, oI_s, pk_mul, nI_add]
        congr 1
        split <;> omega
      have hpos : s_sm N u st a k ≠ 0 := by omega
      have hsl := sml k hk
      rw [xgd_t (xin_nI (show k < 5 by omega) (by omega)), cs k hk, hval]
      by_cases hc0 : s_cb N u st a k = 0
      · rw [hc0, if_pos oI_0]
        have hc : s_cb N u st a (k + 1) = k + 1 := by
          conv => lhs; unfold s_cb
          rw [if_pos ⟨hpos, Or.inl hc0⟩]
        exact ⟨_, rfl, by rw [hc, if_neg (by omega)]; rfl⟩
      obtain ⟨c, hc1⟩ : ∃ c, s_cb N u st a k = c + 1 := ⟨s_cb N u st a k - 1, by omega⟩
      have hcl : c < N 0 1 := by omega
      have hslc := sml c hcl
      have hstc := hst c hcl
      rw [hc1, oI_s, if_neg (nI_m1 (by omega)), if_neg (show ¬ c + 1 = 0 by omega), Nat.add_sub_cancel]
      have hcd : s_cb N u st a (k + 1) = if s_sm N u st a k < s_sm N u st a c ∨ (s_sm N u st a k = s_sm N u st a c ∧ st k < st c) then k + 1 else c + 1 := by
        conv => lhs; unfold s_cb
        rw [hc1, Nat.add_sub_cancel]
        by_cases hq : s_sm N u st a k < s_sm N u st a c ∨ (s_sm N u st a k = s_sm N u st a c ∧ st k < st c)
        · rw [if_pos hq, if_pos ⟨hpos, Or.inr hq⟩]
        · rw [if_neg hq, if_neg (fun z => hq (z.2.resolve_left (by omega)))]
      have hposc : s_sm N u st a c ≠ 0 := s_cb_pos N u st a k c hc1
      by_cases hl : s_sm N u st a k < s_sm N u st a c
      · rw [if_pos ((nI_ltI (by omega) (by omega)).mpr (show s_sm N u st a k - 1 < s_sm N u st a c - 1 by omega))]
        exact ⟨_, rfl, by rw [hcd, if_pos (Or.inl hl), if_neg (by omega)]; rfl⟩
      rw [if_neg (fun z => (show ¬ s_sm N u st a k - 1 < s_sm N u st a c - 1 by omega) ((nI_ltI (by omega) (by omega)).mp z))]
      by_cases he : s_sm N u st a k = s_sm N u st a c
      · rw [if_pos ((nI_eq (by omega) (by omega)).mpr (show s_sm N u st a k - 1 = s_sm N u st a c - 1 by omega)), xgd_t (xin_nI (show k < 5 by omega) (by omega)), xgd_t (xin_nI (show c < 5 by omega) (by omega)), nI_clamp (show c < 2 ^ 31 by omega), cs c hcl]
        by_cases hs2 : st c ≤ st k
        · rw [if_pos ((nI_leI (by omega) (by omega)).mpr hs2)]
          exact ⟨_, rfl, by rw [hcd, if_neg (by omega), if_neg (by omega)]; rfl⟩
        · rw [if_neg (fun z => hs2 ((nI_leI (by omega) (by omega)).mp z))]
          exact ⟨_, rfl, by rw [hcd, if_pos (Or.inr ⟨he, by omega⟩), if_neg (by omega)]; rfl⟩
      · rw [if_neg (fun z => (show ¬ s_sm N u st a k - 1 = s_sm N u st a c - 1 by omega) ((nI_eq (by omega) (by omega)).mp z))]
        exact ⟨_, rfl, by rw [hcd, if_neg (by omega), if_neg (by omega)]; rfl⟩)
    (by
      intro s hI
      subst hI
      dsimp only
      unfold B_X4_catchOf_11_57
      rw [c8, if_pos (nI_le (Nat.le_refl _) (by omega))]
      exact ⟨_, rfl, rfl⟩) 6000 0 ((-1), 0, 0) (by omega) (by omega) rfl
  rw [h1, h2]
theorem f_cb133 {σ : xM} {N : xN} {u a : Nat} {st : Nat → Nat} (hA : N 0 0 ≤ 8) (hS : N 0 1 ≤ 5) (ha : a < N 0 0) (hu : u < 256) (hst : ∀ s, s < N 0 1 → st s ≤ 4) (h5 : ∀ j, j < 64 → N 5 j ≤ 9) (c8 : σ 8 0 = nI (N 0 1)) (c9 : ∀ s, s < N 0 1 → σ 9 s = nI (N 6 s)) (hh : ∀ s, s < N 0 1 → N 6 s < N 0 0) (c7 : ∀ a c, a < N 0 0 → c < N 0 0 → σ 7 (8 * a + c) = oI (s_di N a c)) (cs : ∀ s, s < N 0 1 → σ 133 s = nI (st s)) :
    L_X4_catchOf_133_57 (nI u) (nI a * 8) (nI (if N 3 a = 1 then 0 else 3)) (-1) 0 0 σ = some (oI (s_cb N u st a (N 0 1))) := by
  unfold L_X4_catchOf_133_57
  have sml : ∀ s, s < N 0 1 → s_sm N u st a s < 2500 := by
    intro s hs
    have h1 := s_di_lt h5 hA (show a < 8 by omega) (show N 6 s < 8 by have := hh s hs; omega)
    have h2 := hst s hs
    unfold s_sm
    split
    · omega
    · split <;> omega
  obtain ⟨e, h1, h2⟩ := xloop_for (f := fun s : Int32 × Int32 × Int32 => B_X4_catchOf_133_57 (nI u) (nI a * 8) (nI (if N 3 a = 1 then 0 else 3)) s.1 s.2.1 s.2.2 σ) (fun k s => s = (oI (s_cb N u st a k), (if s_cb N u st a k = 0 then 0 else nI (s_sm N u st a (s_cb N u st a k - 1) - 1)), nI k)) (fun e => e = oI (s_cb N u st a (N 0 1))) (N 0 1)
    (by
      intro k s hk hI
      subst hI
      left
      have e1 : nI a * 8 + σ 9 k = nI (8 * a + N 6 k) := by
        rw [c9 k hk, show (8 : Int32) = nI 8 from rfl, pk_mul, nI_add, Nat.mul_comm]
      have hhk := hh k hk
      have hd := c7 a (N 6 k) ha hhk
      have hdl := s_di_lt h5 hA (show a < 8 by omega) (show N 6 k < 8 by omega)
      have hsk := hst k hk
      have hle := s_cb_le N u st a k
      dsimp only
      unfold B_X4_catchOf_133_57
      rw [c8, if_neg (by rw [nI_leI (by omega) (by omega)]; omega), xgd_t (xin_nI (show k < 5 by omega) (by omega)), nI_clamp (show k < 2 ^ 31 by omega), e1, xgd_t (xin_nI (show 8 * a + N 6 k < 64 by omega) (by omega)), nI_clamp (show 8 * a + N 6 k < 2 ^ 31 by omega), hd, nI_1]
      by_cases hz : s_di N a (N 6 k) = 0
      · rw [if_pos ((oI_eq (by omega)).mpr hz)]
        have hs0 : s_sm N u st a k = 0 := by unfold s_sm; rw [if_pos (Or.inl hz)]
        have hc : s_cb N u st a (k + 1) = s_cb N u st a k := by
          conv => lhs; unfold s_cb
          rw [if_neg (by omega)]
        exact ⟨_, rfl, by rw [hc]⟩
      rw [if_neg (fun e => hz ((oI_eq (by omega)).mp e)), xbd_s (f_contains hu (show k < 8 by omega) σ)]
      by_cases hb : u.testBit k = true
      case neg =>
        rw [if_neg hb, if_pos rfl]
        have hs0 : s_sm N u st a k = 0 := by unfold s_sm; rw [if_pos (Or.inr (by simpa using hb))]
        have hc : s_cb N u st a (k + 1) = s_cb N u st a k := by
          conv => lhs; unfold s_cb
          rw [if_neg (by omega)]
        exact ⟨_, rfl, by rw [hc]⟩
      rw [if_pos hb, if_neg (by decide)]
      have hsm : s_sm N u st a k = s_di N a (N 6 k) + (if N 3 a = 1 then 0 else 3 * st k) := by
        unfold s_sm
        rw [if_neg]
        rw [hb]
        simp [hz]
      have hval : oI (s_di N a (N 6 k)) + nI (if N 3 a = 1 then 0 else 3) * nI (st k) = nI (s_sm N u st a k - 1) := by
        obtain ⟨d, hd2⟩ : ∃ d, s_di N a (N 6 k) = d + 1 := ⟨s_di N a (N 6 k) - 1, by omega⟩
        rw [hsm, hd2, oI_s, pk_mul, nI_add]
        congr 1
        split <;> omega
      have hpos : s_sm N u st a k ≠ 0 := by omega
      have hsl := sml k hk
      rw [xgd_t (xin_nI (show k < 5 by omega) (by omega)), cs k hk, hval]
      by_cases hc0 : s_cb N u st a k = 0
      · rw [hc0, if_pos oI_0]
        have hc : s_cb N u st a (k + 1) = k + 1 := by
          conv => lhs; unfold s_cb
          rw [if_pos ⟨hpos, Or.inl hc0⟩]
        exact ⟨_, rfl, by rw [hc, if_neg (by omega)]; rfl⟩
      obtain ⟨c, hc1⟩ : ∃ c, s_cb N u st a k = c + 1 := ⟨s_cb N u st a k - 1, by omega⟩
      have hcl : c < N 0 1 := by omega
      have hslc := sml c hcl
      have hstc := hst c hcl
      rw [hc1, oI_s, if_neg (nI_m1 (by omega)), if_neg (show ¬ c + 1 = 0 by omega), Nat.add_sub_cancel]
      have hcd : s_cb N u st a (k + 1) = if s_sm N u st a k < s_sm N u st a c ∨ (s_sm N u st a k = s_sm N u st a c ∧ st k < st c) then k + 1 else c + 1 := by
        conv => lhs; unfold s_cb
        rw [hc1, Nat.add_sub_cancel]
        by_cases hq : s_sm N u st a k < s_sm N u st a c ∨ (s_sm N u st a k = s_sm N u st a c ∧ st k < st c)
        · rw [if_pos hq, if_pos ⟨hpos, Or.inr hq⟩]
        · rw [if_neg hq, if_neg (fun z => hq (z.2.resolve_left (by omega)))]
      have hposc : s_sm N u st a c ≠ 0 := s_cb_pos N u st a k c hc1
      by_cases hl : s_sm N u st a k < s_sm N u st a c
      · rw [if_pos ((nI_ltI (by omega) (by omega)).mpr (show s_sm N u st a k - 1 < s_sm N u st a c - 1 by omega))]
        exact ⟨_, rfl, by rw [hcd, if_pos (Or.inl hl), if_neg (by omega)]; rfl⟩
      rw [if_neg (fun z => (show ¬ s_sm N u st a k - 1 < s_sm N u st a c - 1 by omega) ((nI_ltI (by omega) (by omega)).mp z))]
      by_cases he : s_sm N u st a k = s_sm N u st a c
      · rw [if_pos ((nI_eq (by omega) (by omega)).mpr (show s_sm N u st a k - 1 = s_sm N u st a c - 1 by omega)), xgd_t (xin_nI (show k < 5 by omega) (by omega)), xgd_t (xin_nI (show c < 5 by omega) (by omega)), nI_clamp (show c < 2 ^ 31 by omega), cs c hcl]
        by_cases hs2 : st c ≤ st k
        · rw [if_pos ((nI_leI (by omega) (by omega)).mpr hs2)]
          exact ⟨_, rfl, by rw [hcd, if_neg (by omega), if_neg (by omega)]; rfl⟩
        · rw [if_neg (fun z => hs2 ((nI_leI (by omega) (by omega)).mp z))]
          exact ⟨_, rfl, by rw [hcd, if_pos (Or.inr ⟨he, by omega⟩), if_neg (by omega)]; rfl⟩
      · rw [if_neg (fun z => (show ¬ s_sm N u st a k - 1 = s_sm N u st a c - 1 by omega) ((nI_eq (by omega) (by omega)).mp z))]
        exact ⟨_, rfl, by rw [hcd, if_neg (by omega), if_neg (by omega)]; rfl⟩)
    (by
      intro s hI
      subst hI
      dsimp only
      unfold B_X4_catchOf_133_57
      rw [c8, if_pos (nI_le (Nat.le_refl _) (by omega))]
      exact ⟨_, rfl, rfl⟩) 6000 0 ((-1), 0, 0) (by omega) (by omega) rfl
  rw [h1, h2]
