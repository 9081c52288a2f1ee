def p_on (N : xN) (s : Nat) : Bool := !decide (N 9 s = 2)
def p_sum (N : xN) (st : Nat → Nat) : Nat → Nat
  | 0 => 0
  | k + 1 => p_sum N st k + (if p_on N k = true then st k else 0)
def p_cd (N : xN) (st : Nat → Nat) : Nat → Nat
  | 0 => 0
  | k + 1 => if p_on N k = true then 5 * p_cd N st k + st k else p_cd N st k
def p_va (N : xN) (st : Nat → Nat) : Prop := ∀ s, s < N 0 1 → (p_on N s = true → st s ≤ 4) ∧ (p_on N s = false → st s = N 8 s)
def p_ok (N : xN) (st : Nat → Nat) : Prop := p_va N st ∧ s_om N (s_up N) st = 0
def p_b (N : xN) (v : Nat) (st : Nat → Nat) : Prop := p_ok N st ∧ p_sum N st (N 0 1) = v ∧ ∀ st', p_ok N st' → v < p_sum N st' (N 0 1) ∨ (v = p_sum N st' (N 0 1) ∧ p_cd N st (N 0 1) ≤ p_cd N st' (N 0 1))
theorem p_sum_t {N : xN} {st : Nat → Nat} {k : Nat} (h : p_on N k = true) : p_sum N st (k + 1) = p_sum N st k + st k := by simp [p_sum, h]
theorem p_sum_f {N : xN} {st : Nat → Nat} {k : Nat} (h : p_on N k = false) : p_sum N st (k + 1) = p_sum N st k := by simp [p_sum, h]
theorem p_cd_t {N : xN} {st : Nat → Nat} {k : Nat} (h : p_on N k = true) : p_cd N st (k + 1) = 5 * p_cd N st k + st k := by simp [p_cd, h]
theorem p_cd_f {N : xN} {st : Nat → Nat} {k : Nat} (h : p_on N k = false) : p_cd N st (k + 1) = p_cd N st k := by simp [p_cd, h]
theorem p_on_c (N : xN) (k : Nat) : p_on N k = true ∨ p_on N k = false := by cases p_on N k <;> simp
theorem p_sum_cg {N : xN} {st st' : Nat → Nat} : ∀ k, (∀ j, j < k → st j = st' j) → p_sum N st k = p_sum N st' k
  | 0, _ => rfl
  | k + 1, h => by
    unfold p_sum
    rw [p_sum_cg k (fun j hj => h j (by omega)), h k (by omega)]
theorem p_cd_cg {N : xN} {st st' : Nat → Nat} : ∀ k, (∀ j, j < k → st j = st' j) → p_cd N st k = p_cd N st' k
  | 0, _ => rfl
  | k + 1, h => by
    unfold p_cd
    rw [p_cd_cg k (fun j hj => h j (by omega)), h k (by omega)]
theorem p_cd_inj {N : xN} {st st' : Nat → Nat} (h1 : p_va N st) (h2 : p_va N st') : ∀ k, k ≤ N 0 1 → p_cd N st k = p_cd N st' k → ∀ j, j < k → st j = st' j
  | 0, _, _, j, hj => by omega
  | k + 1, hk, e, j, hj => by
    obtain ⟨a1, a2⟩ := h1 k (by omega)
    obtain ⟨b1, b2⟩ := h2 k (by omega)
    rcases p_on_c N k with ho | ho
    · rw [p_cd_t ho, p_cd_t ho] at e
      have := a1 ho
      have := b1 ho
      by_cases ej : j = k
      · subst ej; omega
      · exact p_cd_inj h1 h2 k (by omega) (by omega) j (by omega)
    · rw [p_cd_f ho, p_cd_f ho] at e
      by_cases ej : j = k
      · subst ej
        rw [a2 ho, b2 ho]
      · exact p_cd_inj h1 h2 k (by omega) e j (by omega)
theorem p_b_un {N : xN} {v v' : Nat} {st st' : Nat → Nat} (h : p_b N v st) (h' : p_b N v' st') : v = v' ∧ ∀ j, j < N 0 1 → st j = st' j := by
  have a := h.2.2 st' h'.1
  have b := h'.2.2 st h.1
  rw [h'.2.1] at a
  rw [h.2.1] at b
  refine ⟨by omega, p_cd_inj h.1.1 h'.1.1 _ (Nat.le_refl _) (by omega)⟩
/-- smaller at the first difference: smaller code -/
theorem p_cd_lt {N : xN} {st st' : Nat → Nat} {s : Nat} (h1 : p_va N st) (hs : s < N 0 1) (ho : p_on N s = true) (he : ∀ j, j < s → st j = st' j) (hl : st s < st' s) : ∀ k, s < k → k ≤ N 0 1 → p_cd N st k < p_cd N st' k
  | 0, h, _ => by omega
  | k + 1, h, hk => by
    by_cases e : s = k
    · subst e
      rw [p_cd_t ho, p_cd_t ho, p_cd_cg s he]
      omega
    · have ih := p_cd_lt h1 hs ho he hl k (by omega) (by omega)
      rcases p_on_c N k with hk2 | hk2
      · rw [p_cd_t hk2, p_cd_t hk2]
        have := (h1 k (by omega)).1 hk2
        omega
      · rw [p_cd_f hk2, p_cd_f hk2]
        exact ih
theorem xct_mono (P : Nat → Bool) : ∀ {a b : Nat}, a ≤ b → xct P a ≤ xct P b
  | a, 0, h => by
    have : a = 0 := by omega
    rw [this]
    exact Nat.le_refl _
  | a, b + 1, h => by
    by_cases e : a = b + 1
    · rw [e]
      exact Nat.le_refl _
    · have := xct_mono P (a := a) (b := b) (by omega)
      have : xct P b ≤ xct P (b + 1) := by
        rw [show xct P (b + 1) = xct P b + (if P b = true then 1 else 0) from rfl]
        omega
      omega
theorem p_sum_le {N : xN} {st : Nat → Nat} (h : p_va N st) {s : Nat} : ∀ k, s ≤ k → k ≤ N 0 1 → p_sum N st s ≤ p_sum N st k ∧ p_sum N st k ≤ p_sum N st s + 4 * (xct (p_on N) k - xct (p_on N) s)
  | 0, hs, _ => by
    have : s = 0 := by omega
    rw [this]
    omega
  | k + 1, hs, hk => by
    by_cases e : s = k + 1
    · rw [e]
      omega
    · have ih := p_sum_le h (s := s) k (by omega) (by omega)
      have hm := xct_mono (p_on N) (show s ≤ k by omega)
      rcases p_on_c N k with ho | ho
      · rw [p_sum_t ho, xct_t ho]
        have := (h k (by omega)).1 ho
        omega
      · rw [p_sum_f ho, xct_f ho]
        exact ih
def p_pw (N : xN) (k : Nat) : Nat := 5 ^ (xct (p_on N) (N 0 1) - xct (p_on N) k)
theorem p_pw_n (N : xN) : p_pw N (N 0 1) = 1 := by
  unfold p_pw
  rw [Nat.sub_self]
theorem p_pw_t {N : xN} {k : Nat} (hk : k < N 0 1) (h : p_on N k = true) : p_pw N k = 5 * p_pw N (k + 1) := by
  have hm := xct_mono (p_on N) (show k + 1 ≤ N 0 1 by omega)
  unfold p_pw
  rw [xct_t h] at hm ⊢
  rw [show xct (p_on N) (N 0 1) - xct (p_on N) k = xct (p_on N) (N 0 1) - (xct (p_on N) k + 1) + 1 by omega, Nat.pow_succ, Nat.mul_comm]
theorem p_pw_f {N : xN} {k : Nat} (h : p_on N k = false) : p_pw N k = p_pw N (k + 1) := by
  unfold p_pw
  rw [xct_f h]
/-- zeros behind k -/
theorem p_cd_z {N : xN} {st : Nat → Nat} (d : Nat) : ∀ k, k + d = N 0 1 → (∀ j, k ≤ j → j < N 0 1 → p_on N j = true → st j = 0) → p_cd N st (N 0 1) = p_cd N st k * p_pw N k := by
  induction d with
  | zero =>
    intro k hk _
    rw [Nat.add_zero] at hk
    rw [hk, p_pw_n, Nat.mul_one]
  | succ d ih =>
    intro k hk hz
    have := ih (k + 1) (by omega) (fun j a b c => hz j (by omega) b c)
    rw [this]
    rcases p_on_c N k with ho | ho
    · rw [p_cd_t ho, hz k (by omega) (by omega) ho, p_pw_t (by omega) ho, Nat.add_zero, Nat.mul_comm 5, Nat.mul_assoc]
    · rw [p_cd_f ho, p_pw_f ho]
/-- fours behind k -/
theorem p_cd_4 {N : xN} {st : Nat → Nat} (d : Nat) : ∀ k, k + d = N 0 1 → (∀ j, k ≤ j → j < N 0 1 → p_on N j = true → st j = 4) → p_cd N st (N 0 1) + 1 = (p_cd N st k + 1) * p_pw N k := by
  induction d with
  | zero =>
    intro k hk _
    rw [Nat.add_zero] at hk
    rw [hk, p_pw_n, Nat.mul_one]
  | succ d ih =>
    intro k hk hz
    have := ih (k + 1) (by omega) (fun j a b c => hz j (by omega) b c)
    rw [this]
    rcases p_on_c N k with ho | ho
    · rw [p_cd_t ho, hz k (by omega) (by omega) ho, p_pw_t (by omega) ho, ← Nat.mul_assoc]
      rw [show 5 * p_cd N st k + 4 + 1 = (p_cd N st k + 1) * 5 by omega]
    · rw [p_cd_f ho, p_pw_f ho]
theorem p_cd_hi {N : xN} {st : Nat → Nat} (h : p_va N st) (d : Nat) : ∀ k, k + d = N 0 1 → p_cd N st (N 0 1) < (p_cd N st k + 1) * p_pw N k := by
  induction d with
  | zero =>
    intro k hk
    rw [Nat.add_zero] at hk
    rw [hk, p_pw_n, Nat.mul_one]
    omega
  | succ d ih =>
    intro k hk
    have := ih (k + 1) (by omega)
    rcases p_on_c N k with ho | ho
    · rw [p_cd_t ho] at this
      rw [p_pw_t (by omega) ho, ← Nat.mul_assoc]
      have h4 := (h k (by omega)).1 ho
      have : (5 * p_cd N st k + st k + 1) * p_pw N (k + 1) ≤ ((p_cd N st k + 1) * 5) * p_pw N (k + 1) := Nat.mul_le_mul_right _ (by omega)
      omega
    · rw [p_cd_f ho] at this
      rw [p_pw_f ho]
      exact this
theorem p_cd_top {N : xN} {st : Nat → Nat} (h : p_va N st) : p_cd N st (N 0 1) < p_pw N 0 := by
  have := p_cd_hi h (N 0 1) 0 (by omega)
  rw [show p_cd N st 0 = 0 from rfl, Nat.zero_add, Nat.one_mul] at this
  exact this
theorem p_pw_le {N : xN} (h : N 0 1 ≤ 5) : p_pw N 0 ≤ 3125 := by
  have := xct_le (p_on N) (N 0 1)
  unfold p_pw
  have h2 : 5 ^ (xct (p_on N) (N 0 1) - xct (p_on N) 0) ≤ 5 ^ 5 := Nat.pow_le_pow_right (by omega) (by omega)
  omega
theorem p_om_cg {N : xN} {st st' : Nat → Nat} (hw : s_wf N) (h : ∀ j, j < N 0 1 → st j = st' j) : s_om N (s_up N) st' = s_om N (s_up N) st := s_om_cg ⟨⟨rfl, rfl, rfl⟩, rfl, rfl, rfl, rfl, rfl, rfl, rfl, rfl, rfl⟩ hw (fun s hs => ⟨rfl, fun _ => (h s hs).symm⟩)
theorem p_ok_cg {N : xN} {st st' : Nat → Nat} (hw : s_wf N) (h : ∀ j, j < N 0 1 → st j = st' j) (k : p_ok N st) : p_ok N st' := by
  refine ⟨fun s hs => ?_, by rw [p_om_cg hw h]; exact k.2⟩
  rw [← h s hs]
  exact k.1 s hs
