theorem s_la_le {N : xN} (hw : s_wf N) (u : Nat) (st : Nat → Nat) (s : Nat) : ∀ k, k ≤ N 0 0 → s_la N u st s k ≤ 99 * k
  | 0, _ => by simp [s_la]
  | k + 1, h => by
    have h1 := s_la_le hw u st s k (by omega)
    have h2 := (hw.2.1 k (by omega)).1
    unfold s_la
    split <;> omega
theorem s_ls_le {N : xN} (hw : s_wf N) (u : Nat) (st : Nat → Nat) (s : Nat) : ∀ k, k ≤ N 0 2 → s_ls N u st s k ≤ 9 * k
  | 0, _ => by simp [s_ls]
  | k + 1, h => by
    have h1 := s_ls_le hw u st s k (by omega)
    have h2 := (hw.2.2.2.2.2.1 k (by omega)).2.2.2.1
    unfold s_ls
    split <;> omega
theorem s_ld_lt {N : xN} (hw : s_wf N) (u : Nat) (st : Nat → Nat) (s : Nat) : s_ld N u st s < 1000 := by
  have h1 := s_la_le hw u st s (N 0 0) (Nat.le_refl _)
  have h2 := s_ls_le hw u st s (N 0 2) (Nat.le_refl _)
  have h3 := hw.1
  unfold s_ld
  omega
theorem f_look11 {σ : xM} {N : xN} {u : Nat} {st : Nat → Nat} (K : s_K σ N 11 st) (hu : u < 256) : ∃ σ', F_X4_look_11 (nI u) σ = some (nI (s_om N u st), σ') ∧ s_eq s_lk σ σ' ∧ (∀ a, a < N 0 0 → σ' 130 a = oI (s_ct N u st a)) ∧ ∀ s, s < N 0 1 → σ' 131 s = nI (s_ld N u st s) := by
  obtain ⟨τ1, a1, a2, a3⟩ := f_lk6_11 (u := u) K
  obtain ⟨τ2, b1, b2, b3, b4⟩ := f_lk19_11 K hu a2 a3
  obtain ⟨τ, c1, c2, c3, c4⟩ := f_carried (u := u) (st := st) K.1 K.2.1 b2 b3 b4
  have hS : N 0 1 ≤ 5 := K.1.1.2.1
  have hL : ∃ e, L_X4_look_11_60 (nI u) 0 0 τ = some e ∧ e = nI (s_om N u st) := by
    unfold L_X4_look_11_60
    exact xloop_for (f := fun s : Int32 × Int32 => B_X4_look_11_60 (nI u) s.1 s.2 τ) (fun k s => s = (nI (xmk (s_ov N u st) k), nI k)) (fun e => e = nI (s_om N u st)) (N 0 1)
      (by
        intro k s hk hI
        subst hI
        left
        have h8 : τ 8 0 = nI (N 0 1) := by rw [c2 8 (by unfold s_lk; omega)]; exact K.2.1.1.2.1
        have h10 : τ 10 k = nI (N 7 k) := by rw [c2 10 (by unfold s_lk; omega)]; exact (K.2.1.2.2.2.2.1 k hk).2.1
        have hr := (K.1.2.2.2.2.1 k hk).2.1
        have hx := xmk_lt (s_ov N u st) k
        have hld := s_ld_lt K.1 u st k
        dsimp only
        unfold B_X4_look_11_60
        rw [h8, if_neg (fun z => absurd ((nI_leI (by omega) (by omega)).mp z) (by omega)), xbd_s (f_contains hu (show k < 8 by omega) τ), nI_1]
        by_cases hb : u.testBit k = true
        case neg =>
          rw [if_neg hb, if_pos rfl]
          have ho : s_ov N u st k = false := by unfold s_ov; simp [hb]
          exact ⟨_, rfl, by simp [xmk, ho]⟩
        rw [if_pos hb, if_neg (by decide), xgd_t (xin_nI (show k < 5 by omega) (by omega)), xgd_t (xin_nI (show k < 5 by omega) (by omega)), nI_clamp (show k < 2 ^ 31 by omega), c4 k hk, h10]
        by_cases ho : s_ld N u st k ≤ N 7 k
        · rw [if_pos ((nI_leI (by omega) (by omega)).mpr ho)]
          have ho2 : s_ov N u st k = false := by unfold s_ov; simp [hb]; omega
          exact ⟨_, rfl, by simp [xmk, ho2]⟩
        · rw [if_neg (fun z => ho ((nI_leI (by omega) (by omega)).mp z)), x_or k (by omega) _ hx]
          have ho2 : s_ov N u st k = true := by unfold s_ov; simp [hb]; omega
          exact ⟨_, rfl, by simp [xmk, ho2]⟩)
      (by
        intro s hI
        subst hI
        have h8 : τ 8 0 = nI (N 0 1) := by rw [c2 8 (by unfold s_lk; omega)]; exact K.2.1.1.2.1
        dsimp only
        unfold B_X4_look_11_60
        rw [h8, if_pos (nI_le (Nat.le_refl _) (by omega))]
        exact ⟨_, rfl, rfl⟩) 6000 0 (0, 0) (by omega) (by omega) rfl
  obtain ⟨e, d1, d2⟩ := hL
  refine ⟨τ, ?_, c2, c3, c4⟩
  unfold F_X4_look_11
  rw [xbd_s a1, xbd_s b1, xbd_s c1, xbd_s d1, d2]
theorem f_look133 {σ : xM} {N : xN} {u : Nat} {st : Nat → Nat} (K : s_K σ N 133 st) (hu : u < 256) : ∃ σ', F_X4_look_133 (nI u) σ = some (nI (s_om N u st), σ') ∧ s_eq s_lk σ σ' ∧ (∀ a, a < N 0 0 → σ' 130 a = oI (s_ct N u st a)) ∧ ∀ s, s < N 0 1 → σ' 131 s = nI (s_ld N u st s) := by
  obtain ⟨τ1, a1, a2, a3⟩ := f_lk6_133 (u := u) K
  obtain ⟨τ2, b1, b2, b3, b4⟩ := f_lk19_133 K hu a2 a3
  obtain ⟨τ, c1, c2, c3, c4⟩ := f_carried (u := u) (st := st) K.1 K.2.1 b2 b3 b4
  have hS : N 0 1 ≤ 5 := K.1.1.2.1
  have hL : ∃ e, L_X4_look_133_60 (nI u) 0 0 τ = some e ∧ e = nI (s_om N u st) := by
    unfold L_X4_look_133_60
    exact xloop_for (f := fun s : Int32 × Int32 => B_X4_look_133_60 (nI u) s.1 s.2 τ) (fun k s => s = (nI (xmk (s_ov N u st) k), nI k)) (fun e => e = nI (s_om N u st)) (N 0 1)
      (by
        intro k s hk hI
        subst hI
        left
        have h8 : τ 8 0 = nI (N 0 1) := by rw [c2 8 (by unfold s_lk; omega)]; exact K.2.1.1.2.1
        have h10 : τ 10 k = nI (N 7 k) := by rw [c2 10 (by unfold s_lk; omega)]; exact (K.2.1.2.2.2.2.1 k hk).2.1
        have hr := (K.1.2.2.2.2.1 k hk).2.1
        have hx := xmk_lt (s_ov N u st) k
        have hld := s_ld_lt K.1 u st k
        dsimp only
        unfold B_X4_look_133_60
        rw [h8, if_neg (fun z => absurd ((nI_leI (by omega) (by omega)).mp z) (by omega)), xbd_s (f_contains hu (show k < 8 by omega) τ), nI_1]
        by_cases hb : u.testBit k = true
        case neg =>
          rw [if_neg hb, if_pos rfl]
          have ho : s_ov N u st k = false := by unfold s_ov; simp [hb]
          exact ⟨_, rfl, by simp [xmk, ho]⟩
        rw [if_pos hb, if_neg (by decide), xgd_t (xin_nI (show k < 5 by omega) (by omega)), xgd_t (xin_nI (show k < 5 by omega) (by omega)), nI_clamp (show k < 2 ^ 31 by omega), c4 k hk, h10]
        by_cases ho : s_ld N u st k ≤ N 7 k
        · rw [if_pos ((nI_leI (by omega) (by omega)).mpr ho)]
          have ho2 : s_ov N u st k = false := by unfold s_ov; simp [hb]; omega
          exact ⟨_, rfl, by simp [xmk, ho2]⟩
        · rw [if_neg (fun z => ho ((nI_leI (by omega) (by omega)).mp z)), x_or k (by omega) _ hx]
          have ho2 : s_ov N u st k = true := by unfold s_ov; simp [hb]; omega
          exact ⟨_, rfl, by simp [xmk, ho2]⟩)
      (by
        intro s hI
        subst hI
        have h8 : τ 8 0 = nI (N 0 1) := by rw [c2 8 (by unfold s_lk; omega)]; exact K.2.1.1.2.1
        dsimp only
        unfold B_X4_look_133_60
        rw [h8, if_pos (nI_le (Nat.le_refl _) (by omega))]
        exact ⟨_, rfl, rfl⟩) 6000 0 (0, 0) (by omega) (by omega) rfl
  obtain ⟨e, d1, d2⟩ := hL
  refine ⟨τ, ?_, c2, c3, c4⟩
  unfold F_X4_look_133
  rw [xbd_s a1, xbd_s b1, xbd_s c1, xbd_s d1, d2]
