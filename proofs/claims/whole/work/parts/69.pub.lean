theorem m_go2 {Fn : xM → Option (Int32 × xM)} {sp : xN → Int32 × xN} (hnow : ∀ σ N, s_wf N → s_M (σ 142) N → 0 ≤ (sp N).1 → ∃ σ', Fn σ = some ((sp N).1, σ') ∧ s_M (σ' 142) (sp N).2 ∧ m_fr σ σ') {σ : xM} {N : xN} {k : Nat} {H : Nat → xN} {L : Nat} {T : Nat → Nat} {b : Nat → Int32} (hW : IW N k H L T) (h : IM σ N k H L T b) (hp : 0 ≤ (sp N).1) : ∃ τ, (xbd (F_X11_keep σ) Fn) = some ((sp N).1, τ) ∧ ((0 ≤ (sp N).1 ∧ IM τ (sp N).2 (k_up k) (push N H) L T b) ∨ (((sp N).1 = -2 ∨ (sp N).1 = -3 ∨ (sp N).1 = -4) ∧ (sp N).2 = N ∧ IM τ N k H L T (bump b (sp N).1))) ∧ ∀ c, c < 141 → τ c = σ c := by
  obtain ⟨τ1, a1, a2, a3, a4⟩ := m_keep hW.1 (fun j hj => (hW.2.2.1 j hj).1) h
  obtain ⟨τ2, b1, b2, b3⟩ := hnow τ1 N hW.1 a2.1 hp
  refine ⟨τ2, ?_, Or.inl ⟨hp, IM_fr a2 b3 b2⟩, fun c hc => (b3 c (by omega)).trans (a3 c (by omega) (by omega))⟩
  rw [xbd_s a1, b1]
/-- the model says no -/
theorem m_no {sp : xN → Int32 × xN} {σ : xM} {N : xN} {k : Nat} {H : Nat → xN} {L : Nat} {T : Nat → Nat} {b : Nat → Int32} {r : Int32} (h : IM σ N k H L T b) (hr : r = -2 ∨ r = -3 ∨ r = -4) (e : sp N = (r, N)) : ∃ τ, (xbd (F_X11_refuses r σ) fun r5 => some (r5.1, r5.2)) = some ((sp N).1, τ) ∧ ((0 ≤ (sp N).1 ∧ IM τ (sp N).2 (k_up k) (push N H) L T b) ∨ (((sp N).1 = -2 ∨ (sp N).1 = -3 ∨ (sp N).1 = -4) ∧ (sp N).2 = N ∧ IM τ N k H L T (bump b (sp N).1))) ∧ ∀ c, c < 141 → τ c = σ c := by
  obtain ⟨τ, g1, g2, g3⟩ := IM_ref h hr
  rw [e, xbd_s g1]
  exact ⟨τ, rfl, Or.inr ⟨hr, rfl, g2⟩, g3⟩
theorem p_area (a : Int32) {σ : xM} (h : Inv σ) : ∃ (r : Int32) (σ1 σ2 : xM), F_X10_area a σ = some (r, σ1) ∧ F_X11_area a σ1 = some (r, σ2) ∧ Inv σ2 :=
  pub (w_area a) (fun σ N k H L T b hW hC => c_act (F := F_X0_addArea a) (fun σ N hw hC => c_area a hw hC) (w_area a) hW hC) (fun σ N k H L T b hW hM => m_act (Fc := F_X11_canArea a) (Fn := F_X11_areaNow a) (fun σ N hw h => m_canArea a hw h) (fun σ N hw h ok => m_areaNow a hw h ok) (w_area a) hW hM) h
theorem p_line (a c n : Int32) {σ : xM} (h : Inv σ) : ∃ (r : Int32) (σ1 σ2 : xM), F_X10_line a c n σ = some (r, σ1) ∧ F_X11_line a c n σ1 = some (r, σ2) ∧ Inv σ2 :=
  pub (w_line a c n) (fun σ N k H L T b hW hC => c_act (F := F_X0_setLine a c n) (fun σ N hw hC => c_line a c n hw hC) (w_line a c n) hW hC) (fun σ N k H L T b hW hM => m_act (Fc := F_X11_canLine a c n) (Fn := F_X11_lineNow a c n) (fun σ N hw h => m_canLine a c n hw h) (fun σ N hw h ok => m_lineNow a c n hw h ok) (w_line a c n) hW hM) h
theorem p_mood (a c : Int32) {σ : xM} (h : Inv σ) : ∃ (r : Int32) (σ1 σ2 : xM), F_X10_mood a c σ = some (r, σ1) ∧ F_X11_mood a c σ1 = some (r, σ2) ∧ Inv σ2 :=
  pub (w_mood a c) (fun σ N k H L T b hW hC => c_act (F := F_X0_setMood a c) (fun σ N hw hC => c_mood a c hw hC) (w_mood a c) hW hC) (fun σ N k H L T b hW hM => m_act (Fc := F_X11_canMood a c) (Fn := F_X11_moodNow a c) (fun σ N hw h => m_canMood a c hw h) (fun σ N hw h ok => m_moodNow a c hw h ok) (w_mood a c) hW hM) h
theorem p_site (a c : Int32) {σ : xM} (h : Inv σ) : ∃ (r : Int32) (σ1 σ2 : xM), F_X10_site a c σ = some (r, σ1) ∧ F_X11_site a c σ1 = some (r, σ2) ∧ Inv σ2 :=
  pub (w_site a c) (fun σ N k H L T b hW hC => c_act (F := F_X0_addSite a c) (fun σ N hw hC => c_site a c hw hC) (w_site a c) hW hC) (fun σ N k H L T b hW hM => m_act (Fc := F_X11_canSite a c) (Fn := F_X11_siteNow a c) (fun σ N hw h => m_canSite a c hw h) (fun σ N hw h ok => m_siteNow a c hw h ok) (w_site a c) hW hM) h
theorem p_steps (a c : Int32) {σ : xM} (h : Inv σ) : ∃ (r : Int32) (σ1 σ2 : xM), F_X10_steps a c σ = some (r, σ1) ∧ F_X11_steps a c σ1 = some (r, σ2) ∧ Inv σ2 :=
  pub (w_steps a c) (fun σ N k H L T b hW hC => c_act (F := F_X0_setStep a c) (fun σ N hw hC => c_steps a c hw hC) (w_steps a c) hW hC) (fun σ N k H L T b hW hM => m_act (Fc := F_X11_canStep a c) (Fn := F_X11_stepNow a c) (fun σ N hw h => m_canStep a c hw h) (fun σ N hw h ok => m_stepNow a c hw h ok) (w_steps a c) hW hM) h
theorem p_drains (a : Int32) {σ : xM} (h : Inv σ) : ∃ (r : Int32) (σ1 σ2 : xM), F_X10_drains a σ = some (r, σ1) ∧ F_X11_drains a σ1 = some (r, σ2) ∧ Inv σ2 :=
  pub (w_drains a) (fun σ N k H L T b hW hC => c_act (F := F_X0_startDrain a) (fun σ N hw hC => c_drains a hw hC) (w_drains a) hW hC) (fun σ N k H L T b hW hM => m_act (Fc := F_X11_canDrain a) (Fn := F_X11_drainNow a) (fun σ N hw h => m_canDrain a hw h) (fun σ N hw h ok => m_drainNow a hw h ok) (w_drains a) hW hM) h
theorem p_opens (a c n : Int32) {σ : xM} (h : Inv σ) : ∃ (r : Int32) (σ1 σ2 : xM), F_X10_opens a c n σ = some (r, σ1) ∧ F_X11_opens a c n σ1 = some (r, σ2) ∧ Inv σ2 := by
  refine pub (w_opens a c n) (fun σ N k H L T b hW hC => c_act (F := F_X0_openSession a c n) (fun σ N hw hC => c_opens a c n hw hC) (w_opens a c n) hW hC) (fun σ N k H L T b hW hM => ?_) h
  obtain ⟨τ, g1, g2, g3⟩ := m_canOpen a c n hW.1 hM.1
  have hM1 := IM_fr hM g3 g2
  unfold F_X11_opens
  rw [xbd_s g1]
  dsimp only
  rcases (w_opens a c n N hW.1 hW.2.1).2.2 with hp | ⟨hn, hs⟩
  · obtain ⟨υ, k1, k2, k3⟩ := m_go (Fn := F_X11_openNow a c n) (sp := sp_opens a c n) (fun σ N hw h ok => m_openNow a c n hw h ok) hW hM1 hp
    rw [er_p hp, if_pos (by decide)]
    exact ⟨υ, k1, Or.inl ⟨hp, k2⟩, fun d hd => (k3 d hd).trans (g3 d (by omega))⟩
  · rw [er_e hn, if_neg (er_ng hn)]
    obtain ⟨υ, k1, k2, k3⟩ := IM_ref hM1 hn
    rw [xbd_s k1]
    exact ⟨υ, rfl, Or.inr ⟨hn, hs, k2⟩, fun d hd => (k3 d hd).trans (g3 d (by omega))⟩
theorem p_wants (a w : Int32) {σ : xM} (h : Inv σ) : ∃ (r : Int32) (σ1 σ2 : xM), F_X10_wants a w σ = some (r, σ1) ∧ F_X11_wants a w σ1 = some (r, σ2) ∧ Inv σ2 := by
  refine pub (w_wants a w) (fun σ N k H L T b hW hC => c_act (F := F_X0_setDemand a w) (fun σ N hw hC => c_wants a w hw hC) (w_wants a w) hW hC) (fun σ N k H L T b hW hM => ?_) h
  have r0 := hM.1.1 0 (by omega)
  unfold F_X11_wants
  by_cases h1 : hsA a N
  case neg =>
    rw [xbd_s (iA_f r0 h1), if_pos rfl]
    exact m_no (sp := sp_wants a w) hM (Or.inl rfl) (by unfold sp_wants; rw [if_neg h1])
  rw [xbd_s (iA_t r0 h1), if_neg one0]
  by_cases h2 : 0 ≤ w ∧ w ≤ 99
  case neg =>
    rw [xbd_s (if_0_99 h2 σ), if_pos rfl]
    exact m_no (sp := sp_wants a w) hM (Or.inl rfl) (by unfold sp_wants; rw [if_pos h1, if_neg h2])
  rw [xbd_s (it_0_99 h2 σ), if_neg one0]
  refine m_go2 (sp := sp_wants a w) (fun σ N hw h ok => ?_) hW hM ?_
  · have hA := hw.1.1
    unfold sp_wants at ok ⊢
    by_cases h1 : hsA a N
    case neg => rw [if_neg h1] at ok; exact absurd ok no2
    rw [if_pos h1, if_pos h2]
    obtain ⟨x, hx, rfl⟩ := (hs_of (by omega)).mp h1
    obtain ⟨v, hv, rfl⟩ := (rg_of (n := 99) rfl (by omega)).mp h2
    have x1 := (h.2.2.1 x hx).1
    simp (disch := omega) only [Nat.add_zero, Nat.zero_add, Nat.zero_mul, Nat.mul_zero, mc8, mc3, nU_f, nU_k, nU_e, xbd_some, xgd_true, xlet_eq, g_in, nI_clamp, nI_leI, nI_ltI, nI_eq, nI_add, pk_mul, pk_sub, rd_e, rd_k, rd_c, i10, i01, xsm_l, xsm_r, if_pos, if_neg, l_neg1, oI_e0, nI_e0, oI_nI, ne_eq, not_true_eq_false, not_false_eq_true, and_true, true_and, and_false, false_and, or_true, true_or, or_false, false_or, if_true, if_false, lit_0, lit_1, lit_2, lit_3, lit_4, lit_5, lit_6, lit_8, lit_9, lit_10, lit_12, lit_13, lit_21, lit_29, lit_30, lit_31, lit_37, lit_101, lit_120, lit_121, lit_127, lit_169, lit_64, lit_99, lit_999, lit_676, lit_845, lit_48, lit_57, lit_32, lit_59, x1]
    exact ⟨_, rfl, m_f2 hw.1 h (by omega), mf_up (mf_rf σ) (by omega) _ _⟩
  · have := (w_wants a w N hW.1 hW.2.1).2.2
    unfold sp_wants at this ⊢
    rw [if_pos h1, if_pos h2] at this ⊢
    rcases this with h | ⟨h, -⟩
    · exact h
    · obtain ⟨x, hx, rfl⟩ := (hs_of (by have := hW.1.1.1; omega)).mp h1
      have hA := hW.1.1.1
      have := (hW.1.2.1 x hx).1
      dsimp only
      rw [nI_clamp (by omega)]
      exact nI_pos' (by omega)
theorem p_rooms (a w : Int32) {σ : xM} (h : Inv σ) : ∃ (r : Int32) (σ1 σ2 : xM), F_X10_rooms a w σ = some (r, σ1) ∧ F_X11_rooms a w σ1 = some (r, σ2) ∧ Inv σ2 := by
  refine pub (w_rooms a w) (fun σ N k H L T b hW hC => c_act (F := F_X0_setRoom a w) (fun σ N hw hC => c_rooms a w hw hC) (w_rooms a w) hW hC) (fun σ N k H L T b hW hM => ?_) h
  have r1 := hM.1.1 1 (by omega)
  unfold F_X11_rooms
  by_cases h1 : hsS a N
  case neg =>
    rw [xbd_s (iS_f r1 h1), if_pos rfl]
    exact m_no (sp := sp_rooms a w) hM (Or.inl rfl) (by unfold sp_rooms; rw [if_neg h1])
  rw [xbd_s (iS_t r1 h1), if_neg one0]
  by_cases h2 : 0 ≤ w ∧ w ≤ 999
  case neg =>
    rw [xbd_s (if_0_999 h2 σ), if_pos rfl]
    exact m_no (sp := sp_rooms a w) hM (Or.inl rfl) (by unfold sp_rooms; rw [if_pos h1, if_neg h2])
  rw [xbd_s (it_0_999 h2 σ), if_neg one0]
  refine m_go2 (sp := sp_rooms a w) (fun σ N hw h ok => ?_) hW hM ?_
  · have hS := hw.1.2.1
    unfold sp_rooms at ok ⊢
    by_cases h1 : hsS a N
    case neg => rw [if_neg h1] at ok; exact absurd ok no2
    rw [if_pos h1, if_pos h2]
    obtain ⟨x, hx, rfl⟩ := (hs_of (by omega)).mp h1
    obtain ⟨v, hv, rfl⟩ := (rg_of (n := 999) rfl (by omega)).mp h2
    have x2 := (h.2.2.2.2.1 x hx).2.1
    unfold F_X11_ofSite
    simp (disch := omega) only [Nat.add_zero, Nat.zero_add, Nat.zero_mul, Nat.mul_zero, mc8, mc3, nU_f, nU_k, nU_e, xbd_some, xgd_true, xlet_eq, g_in, nI_clamp, nI_leI, nI_ltI, nI_eq, nI_add, pk_mul, pk_sub, rd_e, rd_k, rd_c, i10, i01, xsm_l, xsm_r, if_pos, if_neg, l_neg1, oI_e0, nI_e0, oI_nI, ne_eq, not_true_eq_false, not_false_eq_true, and_true, true_and, and_false, false_and, or_true, true_or, or_false, false_or, if_true, if_false, lit_0, lit_1, lit_2, lit_3, lit_4, lit_5, lit_6, lit_8, lit_9, lit_10, lit_12, lit_13, lit_21, lit_29, lit_30, lit_31, lit_37, lit_101, lit_120, lit_121, lit_127, lit_169, lit_64, lit_99, lit_999, lit_676, lit_845, lit_48, lit_57, lit_32, lit_59, x2]
    exact ⟨_, rfl, m_f7 hw.1 h (by omega), mf_up (mf_rf σ) (by omega) _ _⟩
  · have hS := hW.1.1.2.1
    unfold sp_rooms
    rw [if_pos h1, if_pos h2]
    obtain ⟨x, hx, rfl⟩ := (hs_of (by omega)).mp h1
    have := (hW.1.2.2.2.2.1 x hx).2.1
    dsimp only
    rw [nI_clamp (by omega)]
    exact nI_pos' (by omega)
theorem p_cuts (a : Int32) {σ : xM} (h : Inv σ) : ∃ (r : Int32) (σ1 σ2 : xM), F_X10_cuts a σ = some (r, σ1) ∧ F_X11_cuts a σ1 = some (r, σ2) ∧ Inv σ2 := by
  refine pub (w_cuts a) (fun σ N k H L T b hW hC => c_act (F := F_X0_switchSite a) (fun σ N hw hC => c_cuts a hw hC) (w_cuts a) hW hC) (fun σ N k H L T b hW hM => ?_) h
  have r1 := hM.1.1 1 (by omega)
  unfold F_X11_cuts
  by_cases h1 : hsS a N
  case neg =>
    rw [xbd_s (iS_f r1 h1), if_pos rfl]
    exact m_no (sp := sp_cuts a) hM (Or.inl rfl) (by unfold sp_cuts; rw [if_neg h1])
  rw [xbd_s (iS_t r1 h1), if_neg one0]
  have hp : 0 ≤ (sp_cuts a N).1 := by
    unfold sp_cuts
    rw [if_pos h1]
    split
    · exact nI_pos' (by omega)
    · exact nI_pos' (by omega)
  obtain ⟨τ, k1, k2, k3⟩ := m_go (Fn := F_X11_cutNow a) (sp := sp_cuts a) (fun σ N hw h ok => m_cutNow a hw h ok) hW hM hp
  exact ⟨τ, k1, Or.inl ⟨hp, k2⟩, k3⟩
theorem p_ticks (a : Int32) {σ : xM} (h : Inv σ) : ∃ (r : Int32) (σ1 σ2 : xM), F_X10_ticks a σ = some (r, σ1) ∧ F_X11_ticks a σ1 = some (r, σ2) ∧ Inv σ2 := by
  refine pub (w_ticks a) (fun σ N k H L T b hW hC => c_act (F := F_X0_passTicks a) (fun σ N hw hC => c_ticks a hw hC) (w_ticks a) hW hC) (fun σ N k H L T b hW hM => ?_) h
  unfold F_X11_ticks
  by_cases h1 : 1 ≤ a ∧ a ≤ 30
  case neg =>
    rw [xbd_s (if_1_30 h1 σ), if_pos rfl]
    exact m_no (sp := sp_ticks a) hM (Or.inl rfl) (by unfold sp_ticks; rw [if_neg h1])
  rw [xbd_s (it_1_30 h1 σ), if_neg one0]
  have hp : 0 ≤ (sp_ticks a N).1 := by
    unfold sp_ticks
    rw [if_pos h1]
    obtain ⟨m, hm1, hm, rfl⟩ := (rg1_of (n := 30) rfl (by omega)).mp h1
    have := ticks_e (N := N) m
    have := hW.1.1.2.2.1
    dsimp only
    rw [nI_clamp (by omega)]
    exact nI_pos' (by omega)
  obtain ⟨τ, k1, k2, k3⟩ := m_go (Fn := F_X11_tickNow a) (sp := sp_ticks a) (fun σ N hw h ok => m_tickNow a hw h ok) hW hM hp
  exact ⟨τ, k1, Or.inl ⟨hp, k2⟩, k3⟩
theorem p_ends (a : Int32) {σ : xM} (h : Inv σ) : ∃ (r : Int32) (σ1 σ2 : xM), F_X10_ends a σ = some (r, σ1) ∧ F_X11_ends a σ1 = some (r, σ2) ∧ Inv σ2 := by
  refine pub (w_ends a) (fun σ N k H L T b hW hC => c_act (F := F_X0_endSession a) (fun σ N hw hC => c_ends a hw hC) (w_ends a) hW hC) (fun σ N k H L T b hW hM => ?_) h
  have r2 := hM.1.1 2 (by omega)
  have hT := hW.1.1.2.2.1
  unfold F_X11_ends
  have hin : F_X11_in (a.toInt64) 0 ((σ 142 2 - 1).toInt64) σ = some (if 0 ≤ a ∧ a ≤ σ 142 2 - 1 then 1 else 0) := lg_in a 0 (σ 142 2 - 1) σ
  rw [r2] at hin ⊢
  by_cases h1 : hsT a N
  case neg =>
    rw [if_neg h1] at hin
    rw [xbd_s hin, if_pos rfl]
    exact m_no (sp := sp_ends a) hM (Or.inl rfl) (by unfold sp_ends; rw [if_neg h1])
  rw [if_pos h1] at hin
  rw [xbd_s hin, if_neg one0]
  refine m_go2 (sp := sp_ends a) (fun σ N hw h ok => ?_) hW hM ?_
  · have hT := hw.1.2.2.1
    unfold sp_ends at ok ⊢
    by_cases h1 : hsT a N
    case neg => rw [if_neg h1] at ok; exact absurd ok no2
    rw [if_pos h1]
    obtain ⟨x, hx, rfl⟩ := (hs_of (by omega)).mp h1
    obtain ⟨τ, g1, g2, g3, g4⟩ := m_endsOne hw h hx
    rw [xbd_s g1, nI_clamp (by omega), g4]
    exact ⟨τ, rfl, g2, g3⟩
  · unfold sp_ends
    rw [if_pos h1]
    exact nI_pos' (by omega)
