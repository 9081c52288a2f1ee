def s_K (σ : xM) (N : xN) (c : Nat) (st : Nat → Nat) : Prop := s_wf N ∧ s_C σ 1 N ∧ ∀ s, s < N 0 1 → σ c s = nI (st s) ∧ st s ≤ 4
theorem nI_lit {n k : Nat} {x : Int32} (hx : x = nI k) (hn : n < 100000) (hk : k < 100000) : nI n = x ↔ n = k := by
  rw [hx]
  exact nI_eq (by omega) (by omega)
theorem nI_x8 (a b : Nat) : nI a * 8 + nI b = nI (8 * a + b) := by
  rw [show (8 : Int32) = nI 8 from rfl, pk_mul, nI_add, Nat.mul_comm]
theorem f_catch11 {σ : xM} {N : xN} {u a : Nat} {st : Nat → Nat} (K : s_K σ N 11 st) (ha : a < N 0 0) (hu : u < 256) : F_X4_catchOf_11 (nI a) (nI u) σ = some (oI (s_ct N u st a)) := by
  obtain ⟨⟨⟨hA, hS, hT, hQ⟩, w2, w5, w0, w6, w10, w1, w1d⟩, ⟨⟨c2, c8, c8q, c14, ct3, ct4, ct5, ct6⟩, cA, c6, c7, cS, cQ, cT⟩, hst⟩ := K
  have c2 : σ 2 0 = nI (N 0 0) := c2
  have c8 : σ 8 0 = nI (N 0 1) := c8
  have c4 : σ 4 a = nI (N 3 a) := (cA a ha).2.1
  have c5 : σ 5 a = oI (N 4 a) := (cA a ha).2.2
  have c7 : ∀ a c, a < N 0 0 → c < N 0 0 → σ 7 (8 * a + c) = oI (s_di N a c) := c7
  have c9 : ∀ s, s < N 0 1 → σ 9 s = nI (N 6 s) := fun s hs => (cS s hs).1
  have h3 := (w2 a ha).2.1
  have h4 := (w2 a ha).2.2
  have hcb := f_cb11 (u := u) (a := a) hA hS ha hu (fun s hs => (hst s hs).2) w5 c8 c9 (fun s hs => (w6 s hs).1) c7 (fun s hs => (hst s hs).1)
  have hsl := f_stepLen (σ := σ) (N := N) (show a < 8 by omega) c4 h3
  have hgo : ∀ (x : Int32), (xbd (F_X4_stepLengthFrom (nI a) σ) fun r => xbd (L_X4_catchOf_11_57 (nI u) (nI a * 8) r (-1) 0 0 σ) fun e => some e) = some (oI (s_cb N u st a (N 0 1))) := by
    intro _
    rw [xbd_s hsl, xbd_s hcb]
  unfold F_X4_catchOf_11
  rw [xgd_t (xin_nI (show a < 8 by omega) (by omega)), xgd_t (xin_nI (show a < 8 by omega) (by omega)), nI_clamp (show a < 2 ^ 31 by omega), c4, c5]
  unfold s_ct
  by_cases hm : N 3 a = 2
  case neg =>
    rw [if_neg (fun e => hm ((nI_lit (x := 2) (k := 2) rfl (by omega) (by omega)).mp e)), if_neg (fun z => hm z.1)]
    exact hgo 0
  rw [if_pos ((nI_lit (x := 2) (k := 2) rfl (by omega) (by omega)).mpr hm)]
  by_cases hl : N 4 a = 0
  · rw [hl, if_pos oI_0, if_neg (by omega)]
    exact hgo 0
  obtain ⟨c, hc⟩ : ∃ c, N 4 a = c + 1 := ⟨N 4 a - 1, by omega⟩
  rw [hc, oI_s, if_neg (nI_m1 (by omega)), xbd_s (f_contains hu (show c < 8 by omega) σ), Nat.add_sub_cancel]
  have hcS : c < N 0 1 := by omega
  have hhc := (w6 c hcS).1
  by_cases hb : u.testBit c = true
  case neg =>
    rw [if_neg hb, if_pos rfl, if_neg (fun z => z.2.2 (by unfold s_sm; rw [if_pos (Or.inr (by simpa using hb))]))]
    exact hgo 0
  rw [if_pos hb, if_neg (by decide), xgd_t (xin_nI (show c < 5 by omega) (by omega)), nI_clamp (show c < 2 ^ 31 by omega), c9 c hcS, nI_x8, xgd_t (xin_nI (show 8 * a + N 6 c < 64 by omega) (by omega)), nI_clamp (show 8 * a + N 6 c < 2 ^ 31 by omega), c7 a (N 6 c) ha hhc]
  have hdl := s_di_lt w5 hA (show a < 8 by omega) (show N 6 c < 8 by omega)
  by_cases hz : s_di N a (N 6 c) = 0
  · rw [if_pos ((oI_eq (by omega)).mpr hz), if_neg (fun z => z.2.2 (by unfold s_sm; rw [if_pos (Or.inl hz)]))]
    exact hgo 0
  · have hne : s_sm N u st a c ≠ 0 := by
      unfold s_sm
      rw [if_neg (by rw [hb]; simp [hz])]
      omega
    rw [if_neg (fun e => hz ((oI_eq (by omega)).mp e)), if_pos ⟨hm, by omega, hne⟩]
    rfl
theorem f_catch133 {σ : xM} {N : xN} {u a : Nat} {st : Nat → Nat} (K : s_K σ N 133 st) (ha : a < N 0 0) (hu : u < 256) : F_X4_catchOf_133 (nI a) (nI u) σ = some (oI (s_ct N u st a)) := by
  obtain ⟨⟨⟨hA, hS, hT, hQ⟩, w2, w5, w0, w6, w10, w1, w1d⟩, ⟨⟨c2, c8, c8q, c14, ct3, ct4, ct5, ct6⟩, cA, c6, c7, cS, cQ, cT⟩, hst⟩ := K
  have c2 : σ 2 0 = nI (N 0 0) := c2
  have c8 : σ 8 0 = nI (N 0 1) := c8
  have c4 : σ 4 a = nI (N 3 a) := (cA a ha).2.1
  have c5 : σ 5 a = oI (N 4 a) := (cA a ha).2.2
  have c7 : ∀ a c, a < N 0 0 → c < N 0 0 → σ 7 (8 * a + c) = oI (s_di N a c) := c7
  have c9 : ∀ s, s < N 0 1 → σ 9 s = nI (N 6 s) := fun s hs => (cS s hs).1
  have h3 := (w2 a ha).2.1
  have h4 := (w2 a ha).2.2
  have hcb := f_cb133 (u := u) (a := a) hA hS ha hu (fun s hs => (hst s hs).2) w5 c8 c9 (fun s hs => (w6 s hs).1) c7 (fun s hs => (hst s hs).1)
  have hsl := f_stepLen (σ := σ) (N := N) (show a < 8 by omega) c4 h3
  have hgo : ∀ (x : Int32), (xbd (F_X4_stepLengthFrom (nI a) σ) fun r => xbd (L_X4_catchOf_133_57 (nI u) (nI a * 8) r (-1) 0 0 σ) fun e => some e) = some (oI (s_cb N u st a (N 0 1))) := by
    intro _
    rw [xbd_s hsl, xbd_s hcb]
  unfold F_X4_catchOf_133
  rw [xgd_t (xin_nI (show a < 8 by omega) (by omega)), xgd_t (xin_nI (show a < 8 by omega) (by omega)), nI_clamp (show a < 2 ^ 31 by omega), c4, c5]
  unfold s_ct
  by_cases hm : N 3 a = 2
  case neg =>
    rw [if_neg (fun e => hm ((nI_lit (x := 2) (k := 2) rfl (by omega) (by omega)).mp e)), if_neg (fun z => hm z.1)]
    exact hgo 0
  rw [if_pos ((nI_lit (x := 2) (k := 2) rfl (by omega) (by omega)).mpr hm)]
  by_cases hl : N 4 a = 0
  · rw [hl, if_pos oI_0, if_neg (by omega)]
    exact hgo 0
  obtain ⟨c, hc⟩ : ∃ c, N 4 a = c + 1 := ⟨N 4 a - 1, by omega⟩
  rw [hc, oI_s, if_neg (nI_m1 (by omega)), xbd_s (f_contains hu (show c < 8 by omega) σ), Nat.add_sub_cancel]
  have hcS : c < N 0 1 := by omega
  have hhc := (w6 c hcS).1
  by_cases hb : u.testBit c = true
  case neg =>
    rw [if_neg hb, if_pos rfl, if_neg (fun z => z.2.2 (by unfold s_sm; rw [if_pos (Or.inr (by simpa using hb))]))]
    exact hgo 0
  rw [if_pos hb, if_neg (by decide), xgd_t (xin_nI (show c < 5 by omega) (by omega)), nI_clamp (show c < 2 ^ 31 by omega), c9 c hcS, nI_x8, xgd_t (xin_nI (show 8 * a + N 6 c < 64 by omega) (by omega)), nI_clamp (show 8 * a + N 6 c < 2 ^ 31 by omega), c7 a (N 6 c) ha hhc]
  have hdl := s_di_lt w5 hA (show a < 8 by omega) (show N 6 c < 8 by omega)
  by_cases hz : s_di N a (N 6 c) = 0
  · rw [if_pos ((oI_eq (by omega)).mpr hz), if_neg (fun z => z.2.2 (by unfold s_sm; rw [if_pos (Or.inl hz)]))]
    exact hgo 0
  · have hne : s_sm N u st a c ≠ 0 := by
      unfold s_sm
      rw [if_neg (by rw [hb]; simp [hz])]
      omega
    rw [if_neg (fun e => hz ((oI_eq (by omega)).mp e)), if_pos ⟨hm, by omega, hne⟩]
    rfl
theorem xmk_congr {P Q : Nat → Bool} : ∀ {n : Nat}, (∀ k, k < n → P k = Q k) → xmk P n = xmk Q n
  | 0, _ => rfl
  | n + 1, h => by
    unfold xmk
    rw [xmk_congr (fun k hk => h k (by omega)), h n (by omega)]
theorem s_C_up {σ : xM} {N : xN} (hw : s_wf N) (hC : s_C σ 1 N) : F_X8_notOff σ = some (nI (s_up N)) := by
  have h8 : σ 8 0 = nI (N 0 1) := hC.1.2.1
  have hS : N 0 1 ≤ 5 := hw.1.2.1
  rw [f_notOff hS h8]
  congr 2
  unfold s_up
  refine xmk_congr (fun n hn => ?_)
  have h12 : σ 12 n = nI (N 9 n) := (hC.2.2.2.2.1 n hn).2.2.2
  have hm := (hw.2.2.2.2.1 n hn).2.2.2
  have e : decide (σ 12 n = 2) = decide (N 9 n = 2) := decide_eq_decide.mpr (by rw [h12]; exact nI_lit (x := 2) (k := 2) rfl (by omega) (by omega))
  show (!decide (σ 12 n = 2)) = (!decide (N 9 n = 2))
  rw [e]
theorem s_up_lt {N : xN} (h : N 0 1 ≤ 5) : s_up N < 256 := by
  have h1 := xmk_lt (fun s => !decide (N 9 s = 2)) (N 0 1)
  have h2 : 2 ^ (N 0 1) ≤ 2 ^ 5 := Nat.pow_le_pow_right (by omega) h
  unfold s_up
  omega
theorem s_K11 {σ : xM} {N : xN} (hw : s_wf N) (hC : s_C σ 1 N) : s_K σ N 11 (N 8) := ⟨hw, hC, fun s hs => ⟨(hC.2.2.2.2.1 s hs).2.2.1, (hw.2.2.2.2.1 s hs).2.2.1⟩⟩
theorem f_pcatch {σ : xM} {N : xN} {a : Nat} (hw : s_wf N) (hC : s_C σ 1 N) (ha : a < N 0 0) : F_X4_presentCatch (nI a) σ = some (oI (s_ct N (s_up N) (N 8) a)) := by
  unfold F_X4_presentCatch
  rw [xbd_s (s_C_up hw hC), xbd_s (f_catch11 (s_K11 hw hC) ha (s_up_lt hw.1.2.1))]
