def s_eq (S : Nat → Prop) (σ σ' : xM) : Prop := ∀ c, ¬ S c → σ' c = σ c
def s_lk : Nat → Prop := fun c => c = 130 ∨ c = 131
theorem s_C_eq {σ σ' : xM} {N : xN} (h : ∀ c, c < 19 → σ' c = σ c) (hC : s_C σ 1 N) : s_C σ' 1 N := by
  unfold s_C at hC ⊢
  rw [h (1 + 1) (by omega), h (1 + 7) (by omega), h (1 + 13) (by omega), h 1 (by omega), h (1 + 2) (by omega), h (1 + 3) (by omega), h (1 + 4) (by omega), h (1 + 5) (by omega), h (1 + 6) (by omega), h (1 + 8) (by omega), h (1 + 9) (by omega), h (1 + 10) (by omega), h (1 + 11) (by omega), h (1 + 12) (by omega), h (1 + 14) (by omega), h (1 + 15) (by omega), h (1 + 16) (by omega), h (1 + 17) (by omega)]
  exact hC
theorem s_K_eq {σ σ' : xM} {N : xN} {c : Nat} {st : Nat → Nat} (h : s_eq s_lk σ σ') (hc : c ≠ 130 ∧ c ≠ 131) (K : s_K σ N c st) : s_K σ' N c st := by
  refine ⟨K.1, s_C_eq (fun d hd => h d (by unfold s_lk; omega)) K.2.1, fun s hs => ?_⟩
  rw [h c (by unfold s_lk; omega)]
  exact K.2.2 s hs
theorem s_eq_rf {S : Nat → Prop} (σ : xM) : s_eq S σ σ := fun _ _ => rfl
theorem s_eq_up {S : Nat → Prop} {σ σ' : xM} (h : s_eq S σ σ') {c : Nat} (hc : S c) (k : Nat) (v : Int32) : s_eq S σ (xup σ' c k v) := by
  intro d hd
  rw [xup_n σ' k v (fun e => hd (by rw [e]; exact hc))]
  exact h d hd
theorem s_ct_lt {N : xN} (hw : s_wf N) {u : Nat} {st : Nat → Nat} {a : Nat} (ha : a < N 0 0) : s_ct N u st a ≤ N 0 1 := by
  unfold s_ct
  split
  · exact (hw.2.1 a ha).2.2
  · exact s_cb_le N u st a (N 0 1)
theorem f_lk6_11 {σ : xM} {N : xN} {u : Nat} {st : Nat → Nat} (K : s_K σ N 11 st) : ∃ σ', L_X4_look_11_6 (nI u) 0 σ = some σ' ∧ s_eq s_lk σ σ' ∧ ∀ s, s < N 0 1 → σ' 131 s = nI 0 := by
  have hS : N 0 1 ≤ 5 := K.1.1.2.1
  unfold L_X4_look_11_6
  exact xloop_for (f := fun s : Int32 × xM => B_X4_look_11_6 (nI u) s.1 s.2) (fun k s => s.1 = nI k ∧ s_eq s_lk σ s.2 ∧ ∀ j, j < k → s.2 131 j = nI 0) (fun σ' => s_eq s_lk σ σ' ∧ ∀ s, s < N 0 1 → σ' 131 s = nI 0) (N 0 1)
    (by
      intro k s hk ⟨h1, h2, h3⟩
      obtain ⟨v, τ⟩ := s
      dsimp only at h1 h2 h3 ⊢
      subst h1
      left
      have c8 : τ 8 0 = nI (N 0 1) := by rw [h2 8 (by unfold s_lk; omega)]; exact K.2.1.1.2.1
      unfold B_X4_look_11_6
      rw [c8, if_neg (fun z => absurd ((nI_leI (by omega) (by omega)).mp z) (by omega)), xgd_t (xin_nI (show k < 5 by omega) (by omega)), nI_clamp (show k < 2 ^ 31 by omega), nI_1]
      refine ⟨_, rfl, rfl, s_eq_up h2 (Or.inr rfl) k 0, fun j hj => ?_⟩
      show xup τ 131 k 0 131 j = nI 0
      by_cases hjk : j = k
      · subst hjk
        exact xup_sk τ 131 j 0
      · rw [xup_sn τ 131 0 hjk]
        exact h3 j (by omega))
    (by
      intro s ⟨h1, h2, h3⟩
      obtain ⟨v, τ⟩ := s
      dsimp only at h1 h2 h3 ⊢
      subst h1
      have c8 : τ 8 0 = nI (N 0 1) := by rw [h2 8 (by unfold s_lk; omega)]; exact K.2.1.1.2.1
      unfold B_X4_look_11_6
      rw [c8, if_pos (nI_le (Nat.le_refl _) (by omega))]
      exact ⟨_, rfl, h2, h3⟩) 6000 0 (0, σ) (by omega) (by omega) ⟨rfl, s_eq_rf σ, fun j hj => absurd hj (by omega)⟩
theorem f_lk19_11 {σ σ1 : xM} {N : xN} {u : Nat} {st : Nat → Nat} (K : s_K σ N 11 st) (hu : u < 256) (e1 : s_eq s_lk σ σ1) (z1 : ∀ s, s < N 0 1 → σ1 131 s = nI 0) : ∃ σ', L_X4_look_11_19 (nI u) 0 σ1 = some σ' ∧ s_eq s_lk σ σ' ∧ (∀ a, a < N 0 0 → σ' 130 a = oI (s_ct N u st a)) ∧ ∀ s, s < N 0 1 → σ' 131 s = nI (s_la N u st s (N 0 0)) := by
  have hA : N 0 0 ≤ 8 := K.1.1.1
  have hS : N 0 1 ≤ 5 := K.1.1.2.1
  unfold L_X4_look_11_19
  exact xloop_for (f := fun s : Int32 × xM => B_X4_look_11_19 (nI u) s.1 s.2) (fun k s => s.1 = nI k ∧ s_eq s_lk σ s.2 ∧ (∀ j, j < k → s.2 130 j = oI (s_ct N u st j)) ∧ ∀ j, j < N 0 1 → s.2 131 j = nI (s_la N u st j k)) (fun σ' => s_eq s_lk σ σ' ∧ (∀ a, a < N 0 0 → σ' 130 a = oI (s_ct N u st a)) ∧ ∀ s, s < N 0 1 → σ' 131 s = nI (s_la N u st s (N 0 0))) (N 0 0)
    (by
      intro k s hk ⟨h1, h2, h3, h4⟩
      obtain ⟨v, τ⟩ := s
      dsimp only at h1 h2 h3 h4 ⊢
      subst h1
      left
      have c2 : τ 2 0 = nI (N 0 0) := by rw [h2 2 (by unfold s_lk; omega)]; exact K.2.1.1.1
      have hct := f_catch11 (s_K_eq h2 ⟨by omega, by omega⟩ K) hk hu
      have c3 : ∀ (w : Int32), xup τ 130 k w 3 k = nI (N 2 k) := by
        intro w
        rw [xup_n τ k w (by omega), h2 3 (by unfold s_lk; omega)]
        exact (K.2.1.2.1 k hk).1
      have hle := s_ct_lt K.1 (u := u) (st := st) hk
      unfold B_X4_look_11_19
      rw [c2, if_neg (fun z => absurd ((nI_leI (by omega) (by omega)).mp z) (by omega)), xbd_s hct, xgd_t (xin_nI (show k < 8 by omega) (by omega)), nI_clamp (show k < 2 ^ 31 by omega), nI_1]
      dsimp only [xlet]
      have g3 : ∀ j, j < k + 1 → xup τ 130 k (oI (s_ct N u st k)) 130 j = oI (s_ct N u st j) := by
        intro j hj
        by_cases hjk : j = k
        · subst hjk
          exact xup_sk τ 130 j _
        · rw [xup_sn τ 130 _ hjk]
          exact h3 j (by omega)
      by_cases hz : s_ct N u st k = 0
      · rw [if_pos ((oI_eq (by omega)).mpr hz)]
        refine ⟨_, rfl, rfl, s_eq_up h2 (Or.inl rfl) k _, g3, fun j hj => ?_⟩
        show xup τ 130 k (oI (s_ct N u st k)) 131 j = nI (s_la N u st j (k + 1))
        rw [xup_n τ k _ (by omega), h4 j hj]
        congr 1
        unfold s_la
        rw [if_neg (by omega), Nat.add_zero]
        cases k <;> rfl
      · obtain ⟨c, hc⟩ : ∃ c, s_ct N u st k = c + 1 := ⟨s_ct N u st k - 1, by omega⟩
        rw [if_neg (fun e => hz ((oI_eq (by omega)).mp e)), hc, oI_s, xgd_t (xin_nI (show c < 5 by omega) (by omega)), xgd_t (xin_nI (show k < 8 by omega) (by omega)), xgd_t (xin_nI (show c < 5 by omega) (by omega)), nI_clamp (show c < 2 ^ 31 by omega), c3, xup_n τ k _ (show 131 ≠ 130 by omega), h4 c (by omega), nI_add]
        rw [hc, oI_s] at g3
        refine ⟨_, rfl, rfl, s_eq_up (s_eq_up h2 (Or.inl rfl) k _) (Or.inr rfl) c _, fun j hj => ?_, fun j hj => ?_⟩
        · show xup (xup τ 130 k (nI c)) 131 c (nI (s_la N u st c k + N 2 k)) 130 j = _
          rw [xup_n _ c _ (show 130 ≠ 131 by omega)]
          exact g3 j hj
        · show xup (xup τ 130 k (nI c)) 131 c (nI (s_la N u st c k + N 2 k)) 131 j = nI (s_la N u st j (k + 1))
          have hla : s_la N u st j (k + 1) = s_la N u st j k + (if s_ct N u st k = j + 1 then N 2 k else 0) := rfl
          rw [hla, hc]
          by_cases hjc : j = c
          · subst hjc
            rw [xup_sk, if_pos rfl]
          · rw [xup_sn _ 131 _ hjc, xup_n τ k _ (show 131 ≠ 130 by omega), h4 j hj, if_neg (by omega), Nat.add_zero])
    (by
      intro s ⟨h1, h2, h3, h4⟩
      obtain ⟨v, τ⟩ := s
      dsimp only at h1 h2 h3 h4 ⊢
      subst h1
      have c2 : τ 2 0 = nI (N 0 0) := by rw [h2 2 (by unfold s_lk; omega)]; exact K.2.1.1.1
      unfold B_X4_look_11_19
      rw [c2, if_pos (nI_le (Nat.le_refl _) (by omega))]
      exact ⟨_, rfl, h2, h3, h4⟩) 6000 0 (0, σ1) (by omega) (by omega) ⟨rfl, e1, fun j hj => absurd hj (by omega), fun j hj => z1 j hj⟩
theorem f_lk6_133 {σ : xM} {N : xN} {u : Nat} {st : Nat → Nat} (K : s_K σ N 133 st) : ∃ σ', L_X4_look_133_6 (nI u) 0 σ = some σ' ∧ s_eq s_lk σ σ' ∧ ∀ s, s < N 0 1 → σ' 131 s = nI 0 := by
  have hS : N 0 1 ≤ 5 := K.1.1.2.1
  unfold L_X4_look_133_6
  exact xloop_for (f := fun s : Int32 × xM => B_X4_look_133_6 (nI u) s.1 s.2) (fun k s => s.1 = nI k ∧ s_eq s_lk σ s.2 ∧ ∀ j, j < k → s.2 131 j = nI 0) (fun σ' => s_eq s_lk σ σ' ∧ ∀ s, s < N 0 1 → σ' 131 s = nI 0) (N 0 1)
    (by
      intro k s hk ⟨h1, h2, h3⟩
      obtain ⟨v, τ⟩ := s
      dsimp only at h1 h2 h3 ⊢
      subst h1
      left
      have c8 : τ 8 0 = nI (N 0 1) := by rw [h2 8 (by unfold s_lk; omega)]; exact K.2.1.1.2.1
      unfold B_X4_look_133_6
      rw [c8, if_neg (fun z => absurd ((nI_leI (by omega) (by omega)).mp z) (by omega)), xgd_t (xin_nI (show k < 5 by omega) (by omega)), nI_clamp (show k < 2 ^ 31 by omega), nI_1]
      refine ⟨_, rfl, rfl, s_eq_up h2 (Or.inr rfl) k 0, fun j hj => ?_⟩
      show xup τ 131 k 0 131 j = nI 0
      by_cases hjk : j = k
      · subst hjk
        exact xup_sk τ 131 j 0
      · rw [xup_sn τ 131 0 hjk]
        exact h3 j (by omega))
    (by
      intro s ⟨h1, h2, h3⟩
      obtain ⟨v, τ⟩ := s
      dsimp only at h1 h2 h3 ⊢
      subst h1
      have c8 : τ 8 0 = nI (N 0 1) := by rw [h2 8 (by unfold s_lk; omega)]; exact K.2.1.1.2.1
      unfold B_X4_look_133_6
      rw [c8, if_pos (nI_le (Nat.le_refl _) (by omega))]
      exact ⟨_, rfl, h2, h3⟩) 6000 0 (0, σ) (by omega) (by omega) ⟨rfl, s_eq_rf σ, fun j hj => absurd hj (by omega)⟩
theorem f_lk19_133 {σ σ1 : xM} {N : xN} {u : Nat} {st : Nat → Nat} (K : s_K σ N 133 st) (hu : u < 256) (e1 : s_eq s_lk σ σ1) (z1 : ∀ s, s < N 0 1 → σ1 131 s = nI 0) : ∃ σ', L_X4_look_133_19 (nI u) 0 σ1 = some σ' ∧ s_eq s_lk σ σ' ∧ (∀ a, a < N 0 0 → σ' 130 a = oI (s_ct N u st a)) ∧ ∀ s, s < N 0 1 → σ' 131 s = nI (s_la N u st s (N 0 0)) := by
  have hA : N 0 0 ≤ 8 := K.1.1.1
  have hS : N 0 1 ≤ 5 := K.1.1.2.1
  unfold L_X4_look_133_19
  exact xloop_for (f := fun s : Int32 × xM => B_X4_look_133_19 (nI u) s.1 s.2) (fun k s => s.1 = nI k ∧ s_eq s_lk σ s.2 ∧ (∀ j, j < k → s.2 130 j = oI (s_ct N u st j)) ∧ ∀ j, j < N 0 1 → s.2 131 j = nI (s_la N u st j k)) (fun σ' => s_eq s_lk σ σ' ∧ (∀ a, a < N 0 0 → σ' 130 a = oI (s_ct N u st a)) ∧ ∀ s, s < N 0 1 → σ' 131 s = nI (s_la N u st s (N 0 0))) (N 0 0)
    (by
      intro k s hk ⟨h1, h2, h3, h4⟩
      obtain ⟨v, τ⟩ := s
      dsimp only at h1 h2 h3 h4 ⊢
      subst h1
      left
      have c2 : τ 2 0 = nI (N 0 0) := by rw [h2 2 (by unfold s_lk; omega)]; exact K.2.1.1.1
      have hct := f_catch133 (s_K_eq h2 ⟨by omega, by omega⟩ K) hk hu
      have c3 : ∀ (w : Int32), xup τ 130 k w 3 k = nI (N 2 k) := by
        intro w
        rw [xup_n τ k w (by omega), h2 3 (by unfold s_lk; omega)]
        exact (K.2.1.2.1 k hk).1
      have hle := s_ct_lt K.1 (u := u) (st := st) hk
      unfold B_X4_look_133_19
      rw [c2, if_neg (fun z => absurd ((nI_leI (by omega) (by omega)).mp z) (by omega)), xbd_s hct, xgd_t (xin_nI (show k < 8 by omega) (by omega)), nI_clamp (show k < 2 ^ 31 by omega), nI_1]
      dsimp only [xlet]
      have g3 : ∀ j, j < k + 1 → xup τ 130 k (oI (s_ct N u st k)) 130 j = oI (s_ct N u st j) := by
        intro j hj
        by_cases hjk : j = k
        · subst hjk
          exact xup_sk τ 130 j _
        · rw [xup_sn τ 130 _ hjk]
          exact h3 j (by omega)
      by_cases hz : s_ct N u st k = 0
      · rw [if_pos ((oI_eq (by omega)).mpr hz)]
        refine ⟨_, rfl, rfl, s_eq_up h2 (Or.inl rfl) k _, g3, fun j hj => ?_⟩
        show xup τ 130 k (oI (s_ct N u st k)) 131 j = nI (s_la N u st j (k + 1))
        rw [xup_n τ k _ (by omega), h4 j hj]
        congr 1
        unfold s_la
        rw [if_neg (by omega), Nat.add_zero]
        cases k <;> rfl
      · obtain ⟨c, hc⟩ : ∃ c, s_ct N u st k = c + 1 := ⟨s_ct N u st k - 1, by omega⟩
        rw [if_neg (fun e => hz ((oI_eq (by omega)).mp e)), hc, oI_s, xgd_t (xin_nI (show c < 5 by omega) (by omega)), xgd_t (xin_nI (show k < 8 by omega) (by omega)), xgd_t (xin_nI (show c < 5 by omega) (by omega)), nI_clamp (show c < 2 ^ 31 by omega), c3, xup_n τ k _ (show 131 ≠ 130 by omega), h4 c (by omega), nI_add]
        rw [hc, oI_s] at g3
        refine ⟨_, rfl, rfl, s_eq_up (s_eq_up h2 (Or.inl rfl) k _) (Or.inr rfl) c _, fun j hj => ?_, fun j hj => ?_⟩
        · show xup (xup τ 130 k (nI c)) 131 c (nI (s_la N u st c k + N 2 k)) 130 j = _
          rw [xup_n _ c _ (show 130 ≠ 131 by omega)]
          exact g3 j hj
        · show xup (xup τ 130 k (nI c)) 131 c (nI (s_la N u st c k + N 2 k)) 131 j = nI (s_la N u st j (k + 1))
          have hla : s_la N u st j (k + 1) = s_la N u st j k + (if s_ct N u st k = j + 1 then N 2 k else 0) := rfl
          rw [hla, hc]
          by_cases hjc : j = c
          · subst hjc
            rw [xup_sk, if_pos rfl]
          · rw [xup_sn _ 131 _ hjc, xup_n τ k _ (show 131 ≠ 130 by omega), h4 j hj, if_neg (by omega), Nat.add_zero])
    (by
      intro s ⟨h1, h2, h3, h4⟩
      obtain ⟨v, τ⟩ := s
      dsimp only at h1 h2 h3 h4 ⊢
      subst h1
      have c2 : τ 2 0 = nI (N 0 0) := by rw [h2 2 (by unfold s_lk; omega)]; exact K.2.1.1.1
      unfold B_X4_look_133_19
      rw [c2, if_pos (nI_le (Nat.le_refl _) (by omega))]
      exact ⟨_, rfl, h2, h3, h4⟩) 6000 0 (0, σ1) (by omega) (by omega) ⟨rfl, e1, fun j hj => absurd hj (by omega), fun j hj => z1 j hj⟩
