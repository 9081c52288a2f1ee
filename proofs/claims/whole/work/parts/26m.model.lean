theorem m_ix (s k : Nat) : ((101 : Int32) + ((4 : Int32) * nI s)) + nI k = nI (101 + 4 * s + k) := by
  rw [show (101 : Int32) = nI 101 from rfl, show (4 : Int32) = nI 4 from rfl, pk_mul, nI_add, nI_add]
theorem m_i8 (a b : Nat) : ((8 : Int32) * nI a) + nI b = nI (8 * a + b) := by
  rw [show (8 : Int32) = nI 8 from rfl, pk_mul, nI_add]
theorem m_off {x : Int32} {k : Nat} (hx : x = nI k) (a : Nat) : x + nI a = nI (k + a) := by
  rw [hx, nI_add]
def s_Mk (σ : xM) (N : xN) : Prop := s_wf N ∧ s_M (σ 142) N
def s_Mw (σ : xM) (N : xN) : Prop := ∀ a c, a < N 0 0 → c < N 0 0 → σ 146 (8 * a + c) = oI (s_di N a c)
theorem m_ofSite {σ : xM} {s k : Nat} (hs : s < 5) (hk : k < 4) : F_X11_ofSite (nI s) (nI k) σ = some (σ 142 (101 + 4 * s + k)) := by
  unfold F_X11_ofSite
  rw [m_ix, xgd_t (xin_nI (by omega) (by omega)), nI_clamp (by omega)]
theorem m_stateOf {σ : xM} {N : xN} {s : Nat} (h : s_Mk σ N) (hs : s < N 0 1) : F_X11_stateOf (nI s) σ = some (nI (N 9 s)) := by
  have hS := h.1.1.2.1
  unfold F_X11_stateOf
  rw [show ((3 : Int32)) = nI 3 from rfl, m_ix, xgd_t (xin_nI (by omega) (by omega)), nI_clamp (by omega), (h.2.2.2.2.2.1 s hs).2.2.2]
theorem m_stepOf {σ : xM} {N : xN} {s : Nat} (h : s_Mk σ N) (hs : s < N 0 1) : F_X11_stepOf (nI s) σ = some (nI (N 8 s)) := by
  have hS := h.1.1.2.1
  unfold F_X11_stepOf
  rw [show ((2 : Int32)) = nI 2 from rfl, m_ix, xgd_t (xin_nI (by omega) (by omega)), nI_clamp (by omega), (h.2.2.2.2.2.1 s hs).2.2.1]
theorem m_way {σ : xM} {N : xN} {a c : Nat} (hA : N 0 0 ≤ 8) (hw : s_Mw σ N) (ha : a < N 0 0) (hc : c < N 0 0) : F_X11_way (nI a) (nI c) σ = some (oI (s_di N a c)) := by
  unfold F_X11_way
  rw [m_i8, xgd_t (xin_nI (by omega) (by omega)), nI_clamp (by omega), hw a c ha hc]
theorem s_up_bit {N : xN} {s : Nat} (hs : s < N 0 1) : (s_up N).testBit s = !decide (N 9 s = 2) := xmk_bit _ _ s hs
theorem m_seems {σ : xM} {N : xN} {a s : Nat} (h : s_Mk σ N) (hw : s_Mw σ N) (ha : a < N 0 0) (hs : s < N 0 1) : F_X11_seemsThen (nI a) (nI s) σ = some (oI (s_sm N (s_up N) (N 8) a s)) := by
  obtain ⟨hA, hS, hT, hQ⟩ := h.1.1
  obtain ⟨h6, h7, h8, h9⟩ := h.1.2.2.2.2.1 s hs
  have hh : σ 142 (101 + 4 * s + 0) = nI (N 6 s) := (h.2.2.2.2.2.1 s hs).1
  have hof : F_X11_ofSite (nI s) 0 σ = some (nI (N 6 s)) := by
    have := m_ofSite (σ := σ) (s := s) (k := 0) (by omega) (by omega)
    rw [hh] at this
    exact this
  have hdl := s_di_lt h.1.2.2.1 hA (show a < 8 by omega) (show N 6 s < 8 by omega)
  have h21 : σ 142 (21 + a) = nI (N 3 a) := (h.2.2.2.1 a ha).2.1
  have h3 := (h.1.2.1 a ha).2.1
  unfold F_X11_seemsThen
  rw [xbd_s hof, xbd_s (m_way hA hw ha h6)]
  unfold s_sm
  by_cases hz : s_di N a (N 6 s) = 0
  · rw [if_pos ((oI_eq (by omega)).mpr hz), if_pos (Or.inl hz)]
    rfl
  rw [if_neg (fun e => hz ((oI_eq (by omega)).mp e)), xbd_s (m_stateOf h hs), s_up_bit hs]
  by_cases h92 : N 9 s = 2
  · rw [if_pos ((nI_lit (x := 2) (k := 2) rfl (by omega) (by omega)).mpr h92), if_pos (Or.inr (by simp [h92]))]
    rfl
  obtain ⟨d, hd⟩ : ∃ d, s_di N a (N 6 s) = d + 1 := ⟨s_di N a (N 6 s) - 1, by omega⟩
  rw [if_neg (fun e => h92 ((nI_lit (x := 2) (k := 2) rfl (by omega) (by omega)).mp e)), m_off (x := 21) (k := 21) rfl, xgd_t (xin_nI (by omega) (by omega)), nI_clamp (by omega), h21, if_neg (show ¬ (s_di N a (N 6 s) = 0 ∨ (!decide (N 9 s = 2)) = false) by simp [hz, h92]), hd, oI_s]
  by_cases h31 : N 3 a = 1
  · rw [if_pos ((nI_lit (x := 1) (k := 1) rfl (by omega) (by omega)).mpr h31), if_pos h31, Nat.add_zero, oI_s, show (0 : Int32) = nI 0 from rfl, nI_add, Nat.add_zero]
  · rw [if_neg (fun e => h31 ((nI_lit (x := 1) (k := 1) rfl (by omega) (by omega)).mp e)), xbd_s (m_stepOf h hs), if_neg h31, show (3 : Int32) = nI 3 from rfl, pk_mul, nI_add]
    have e : d + 1 + 3 * N 8 s = (d + 3 * N 8 s) + 1 := by omega
    rw [e, oI_s]
