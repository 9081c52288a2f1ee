theorem f_carried {σ σ1 : xM} {N : xN} {u : Nat} {st : Nat → Nat} (hw : s_wf N) (hC : s_C σ 1 N) (e1 : s_eq s_lk σ σ1) (g1 : ∀ a, a < N 0 0 → σ1 130 a = oI (s_ct N u st a)) (g2 : ∀ s, s < N 0 1 → σ1 131 s = nI (s_la N u st s (N 0 0))) : ∃ σ', F_X4_addCarried σ1 = some σ' ∧ s_eq s_lk σ σ' ∧ (∀ a, a < N 0 0 → σ' 130 a = oI (s_ct N u st a)) ∧ ∀ s, s < N 0 1 → σ' 131 s = nI (s_ld N u st s) := by
  have hA : N 0 0 ≤ 8 := hw.1.1
  have hS : N 0 1 ≤ 5 := hw.1.2.1
  have hT : N 0 2 ≤ 12 := hw.1.2.2.1
  have hL : ∃ σ', L_X4_addCarried_6 0 σ1 = some σ' ∧ s_eq s_lk σ σ' ∧ (∀ a, a < N 0 0 → σ' 130 a = oI (s_ct N u st a)) ∧ ∀ s, s < N 0 1 → σ' 131 s = nI (s_ld N u st s) := by
    unfold L_X4_addCarried_6
    exact xloop_for (f := fun s : Int32 × xM => B_X4_addCarried_6 s.1 s.2) (fun k s => s.1 = nI k ∧ s_eq s_lk σ s.2 ∧ (∀ a, a < N 0 0 → s.2 130 a = oI (s_ct N u st a)) ∧ ∀ j, j < N 0 1 → s.2 131 j = nI (s_la N u st j (N 0 0) + s_ls N u st j k)) (fun σ' => s_eq s_lk σ σ' ∧ (∀ a, a < N 0 0 → σ' 130 a = oI (s_ct N u st a)) ∧ ∀ s, s < N 0 1 → σ' 131 s = nI (s_ld N u st s)) (N 0 2)
      (by
        intro k s hk ⟨h1, h2, h3, h4⟩
        obtain ⟨v, τ⟩ := s
        dsimp only at h1 h2 h3 h4 ⊢
        subst h1
        left
        have c14 : τ 14 0 = nI (N 0 2) := by rw [h2 14 (by unfold s_lk; omega)]; exact hC.1.2.2.2.1
        have c15 : τ 15 k = nI (N 10 k) := by rw [h2 15 (by unfold s_lk; omega)]; exact (hC.2.2.2.2.2.2 k hk).1
        have c16 : τ 16 k = nI (N 11 k) := by rw [h2 16 (by unfold s_lk; omega)]; exact (hC.2.2.2.2.2.2 k hk).2.1
        have c17 : τ 17 k = nI (N 12 k) := by rw [h2 17 (by unfold s_lk; omega)]; exact (hC.2.2.2.2.2.2 k hk).2.2.1
        obtain ⟨hf, ha, -, -, -, -⟩ := hw.2.2.2.2.2.1 k hk
        have hle := s_ct_lt hw (u := u) (st := st) hf
        have hls : ∀ j, s_ls N u st j (k + 1) = s_ls N u st j k + (if N 11 k = j ∧ s_ct N u st (N 10 k) ≠ j + 1 then N 12 k else 0) := fun _ => rfl
        have heq : oI (s_ct N u st (N 10 k)) = nI (N 11 k) ↔ s_ct N u st (N 10 k) = N 11 k + 1 := by
          cases hc : s_ct N u st (N 10 k) with
          | zero => exact ⟨fun e => absurd e.symm (nI_m1 (by omega)), fun e => by omega⟩
          | succ c => rw [oI_s, nI_eq (by omega) (by omega)]; omega
        unfold B_X4_addCarried_6
        rw [c14, if_neg (fun z => absurd ((nI_leI (by omega) (by omega)).mp z) (by omega)), xgd_t (xin_nI (show k < 12 by omega) (by omega)), xgd_t (xin_nI (show k < 12 by omega) (by omega)), nI_clamp (show k < 2 ^ 31 by omega), c15, c16, xgd_t (xin_nI (show N 10 k < 8 by omega) (by omega)), nI_clamp (show N 10 k < 2 ^ 31 by omega), h3 _ hf, nI_1]
        by_cases hq : s_ct N u st (N 10 k) = N 11 k + 1
        · rw [if_pos (heq.mpr hq)]
          refine ⟨_, rfl, rfl, h2, h3, fun j hj => ?_⟩
          show τ 131 j = _
          rw [h4 j hj, hls, if_neg (fun z => by have := z.1; have := z.2; omega), Nat.add_zero]
        · rw [if_neg (fun z => hq (heq.mp z)), xgd_t (xin_nI (show N 11 k < 5 by omega) (by omega)), xgd_t (xin_nI (show k < 12 by omega) (by omega)), xgd_t (xin_nI (show N 11 k < 5 by omega) (by omega)), nI_clamp (show N 11 k < 2 ^ 31 by omega), h4 _ ha, c17, nI_add]
          refine ⟨_, rfl, rfl, s_eq_up h2 (Or.inr rfl) (N 11 k) _, fun a ha2 => ?_, fun j hj => ?_⟩
          · show xup τ 131 (N 11 k) (nI (s_la N u st (N 11 k) (N 0 0) + s_ls N u st (N 11 k) k + N 12 k)) 130 a = _
            rw [xup_n _ _ _ (show 130 ≠ 131 by omega)]
            exact h3 a ha2
          · show xup τ 131 (N 11 k) (nI (s_la N u st (N 11 k) (N 0 0) + s_ls N u st (N 11 k) k + N 12 k)) 131 j = _
            rw [hls]
            by_cases hj2 : j = N 11 k
            · subst hj2
              rw [xup_sk, if_pos ⟨rfl, hq⟩, Nat.add_assoc]
            · rw [xup_sn _ 131 _ hj2, h4 j hj, if_neg (fun z => hj2 z.1.symm), Nat.add_zero])
      (by
        intro s ⟨h1, h2, h3, h4⟩
        obtain ⟨v, τ⟩ := s
        dsimp only at h1 h2 h3 h4 ⊢
        subst h1
        have c14 : τ 14 0 = nI (N 0 2) := by rw [h2 14 (by unfold s_lk; omega)]; exact hC.1.2.2.2.1
        unfold B_X4_addCarried_6
        rw [c14, if_pos (nI_le (Nat.le_refl _) (by omega))]
        exact ⟨_, rfl, h2, h3, h4⟩) 6000 0 (0, σ1) (by omega) (by omega) ⟨rfl, e1, g1, fun j hj => g2 j hj⟩
  obtain ⟨σ', h1, h2⟩ := hL
  refine ⟨σ', ?_, h2⟩
  unfold F_X4_addCarried
  rw [xbd_s h1]
