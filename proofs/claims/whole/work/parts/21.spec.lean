def s_d0 (N : xN) (a b : Nat) : Nat := if a = b then 1 else if N 5 (8 * a + b) = 0 then 0 else N 5 (8 * a + b) + 1
def s_fs (d : Nat → Nat → Nat) (m a b : Nat) : Nat := if d a m ≠ 0 ∧ d m b ≠ 0 ∧ (d a b = 0 ∨ d a m + d m b - 1 < d a b) then d a m + d m b - 1 else d a b
def s_fw (N : xN) : Nat → Nat → Nat → Nat
  | 0 => s_d0 N
  | m + 1 => s_fs (s_fw N m) m
def s_di (N : xN) (a b : Nat) : Nat := s_fw N (N 0 0) a b
theorem s_fw_diag (N : xN) : ∀ (m a : Nat), s_fw N m a a = 1
  | 0, a => by simp [s_fw, s_d0]
  | m + 1, a => by
    have h := s_fw_diag N m a
    show s_fs (s_fw N m) m a a = 1
    unfold s_fs
    rw [h]
    rw [if_neg]
    omega
theorem s_fs_row {d : Nat → Nat → Nat} {m : Nat} (h : d m m = 1) (b : Nat) : s_fs d m m b = d m b := by
  unfold s_fs
  rw [h, if_neg]
  omega
theorem s_fs_col {d : Nat → Nat → Nat} {m : Nat} (h : d m m = 1) (a : Nat) : s_fs d m a m = d a m := by
  unfold s_fs
  rw [h, if_neg]
  omega
theorem s_fw_le {N : xN} (h : ∀ j, j < 64 → N 5 j ≤ 9) : ∀ (m a b : Nat), a < 8 → b < 8 → m ≤ 8 → s_fw N m a b ≤ 9 * 2 ^ m + 1
  | 0, a, b, ha, hb, hm => by
    have := h (8 * a + b) (by omega)
    show s_d0 N a b ≤ _
    unfold s_d0
    split
    · omega
    · split <;> omega
  | m + 1, a, b, ha, hb, hm => by
    have h1 := s_fw_le h m a m ha (by omega) (by omega)
    have h2 := s_fw_le h m m b (by omega) hb (by omega)
    have h3 := s_fw_le h m a b ha hb (by omega)
    show s_fs (s_fw N m) m a b ≤ _
    unfold s_fs
    have e : 2 ^ (m + 1) = 2 ^ m + 2 ^ m := by omega
    split <;> omega
theorem s_di_lt {N : xN} (h : ∀ j, j < 64 → N 5 j ≤ 9) (hA : N 0 0 ≤ 8) {a b : Nat} (ha : a < 8) (hb : b < 8) : s_di N a b < 2400 := by
  have h1 := s_fw_le h (N 0 0) a b ha hb hA
  have h2 : 2 ^ (N 0 0) ≤ 2 ^ 8 := Nat.pow_le_pow_right (by omega) hA
  unfold s_di
  omega
/-- apparent distance, coded: 0 none -/
def s_sm (N : xN) (u : Nat) (st : Nat → Nat) (a s : Nat) : Nat := if s_di N a (N 6 s) = 0 ∨ u.testBit s = false then 0 else s_di N a (N 6 s) + (if N 3 a = 1 then 0 else 3 * st s)
def s_cb (N : xN) (u : Nat) (st : Nat → Nat) (a : Nat) : Nat → Nat
  | 0 => 0
  | k + 1 => if s_sm N u st a k ≠ 0 ∧ (s_cb N u st a k = 0 ∨ s_sm N u st a k < s_sm N u st a (s_cb N u st a k - 1) ∨ (s_sm N u st a k = s_sm N u st a (s_cb N u st a k - 1) ∧ st k < st (s_cb N u st a k - 1))) then k + 1 else s_cb N u st a k
/-- the catch, coded: 0 none -/
def s_ct (N : xN) (u : Nat) (st : Nat → Nat) (a : Nat) : Nat := if N 3 a = 2 ∧ N 4 a ≠ 0 ∧ s_sm N u st a (N 4 a - 1) ≠ 0 then N 4 a else s_cb N u st a (N 0 1)
def s_la (N : xN) (u : Nat) (st : Nat → Nat) (s : Nat) : Nat → Nat
  | 0 => 0
  | k + 1 => s_la N u st s k + (if s_ct N u st k = s + 1 then N 2 k else 0)
def s_ls (N : xN) (u : Nat) (st : Nat → Nat) (s : Nat) : Nat → Nat
  | 0 => 0
  | k + 1 => s_ls N u st s k + (if N 11 k = s ∧ s_ct N u st (N 10 k) ≠ s + 1 then N 12 k else 0)
def s_ld (N : xN) (u : Nat) (st : Nat → Nat) (s : Nat) : Nat := s_la N u st s (N 0 0) + s_ls N u st s (N 0 2)
def s_ov (N : xN) (u : Nat) (st : Nat → Nat) (s : Nat) : Bool := u.testBit s && decide (N 7 s < s_ld N u st s)
def s_up (N : xN) : Nat := xmk (fun s => !decide (N 9 s = 2)) (N 0 1)
def s_om (N : xN) (u : Nat) (st : Nat → Nat) : Nat := xmk (s_ov N u st) (N 0 1)
theorem s_cb_le (N : xN) (u : Nat) (st : Nat → Nat) (a : Nat) : ∀ k, s_cb N u st a k ≤ k
  | 0 => Nat.le_refl 0
  | k + 1 => by
    have := s_cb_le N u st a k
    unfold s_cb
    split <;> omega
def s_wf (N : xN) : Prop := (N 0 0 ≤ 8 ∧ N 0 1 ≤ 5 ∧ N 0 2 ≤ 12 ∧ N 0 7 ≤ 5) ∧ (∀ a, a < N 0 0 → N 2 a ≤ 99 ∧ N 3 a ≤ 2 ∧ N 4 a ≤ N 0 1) ∧ (∀ j, j < 64 → N 5 j ≤ 9) ∧ (∀ a b, a < 8 → b < 8 → N 0 0 ≤ a ∨ N 0 0 ≤ b → N 5 (8 * a + b) = 0) ∧ (∀ s, s < N 0 1 → N 6 s < N 0 0 ∧ N 7 s ≤ 999 ∧ N 8 s ≤ 4 ∧ N 9 s ≤ 2) ∧ (∀ i, i < N 0 2 → N 10 i < N 0 0 ∧ N 11 i < N 0 1 ∧ 1 ≤ N 12 i ∧ N 12 i ≤ 9 ∧ 1 ≤ N 13 i ∧ N 13 i ≤ 30) ∧ (∀ i, i < N 0 7 → N 1 i < N 0 1 ∧ N 9 (N 1 i) = 1) ∧ (∀ i j, i < N 0 7 → j < N 0 7 → N 1 i = N 1 j → i = j)
/-- the block of State cells at b tells N -/
def s_C (σ : xM) (b : Nat) (N : xN) : Prop := (σ (b + 1) 0 = nI (N 0 0) ∧ σ (b + 7) 0 = nI (N 0 1) ∧ σ (b + 7) 1 = nI (N 0 7) ∧ σ (b + 13) 0 = nI (N 0 2) ∧ σ b 3 = nI (N 0 3) ∧ σ b 4 = nI (N 0 4) ∧ σ b 5 = nI (N 0 5) ∧ σ b 6 = nI (N 0 6)) ∧ (∀ a, a < N 0 0 → σ (b + 2) a = nI (N 2 a) ∧ σ (b + 3) a = nI (N 3 a) ∧ σ (b + 4) a = oI (N 4 a)) ∧ (∀ j, j < 64 → σ (b + 5) j = nI (N 5 j)) ∧ (∀ a c, a < N 0 0 → c < N 0 0 → σ (b + 6) (8 * a + c) = oI (s_di N a c)) ∧ (∀ s, s < N 0 1 → σ (b + 8) s = nI (N 6 s) ∧ σ (b + 9) s = nI (N 7 s) ∧ σ (b + 10) s = nI (N 8 s) ∧ σ (b + 11) s = nI (N 9 s)) ∧ (∀ i, i < N 0 7 → σ (b + 12) i = nI (N 1 i)) ∧ (∀ i, i < N 0 2 → σ (b + 14) i = nI (N 10 i) ∧ σ (b + 15) i = nI (N 11 i) ∧ σ (b + 16) i = nI (N 12 i) ∧ σ (b + 17) i = nI (N 13 i))
/-- a row of 169 ints tells N -/
def s_M (R : Nat → Int32) (N : xN) : Prop := (∀ k, k < 8 → R k = nI (N 0 k)) ∧ (∀ i, i < N 0 7 → R (8 + i) = nI (N 1 i)) ∧ (∀ a, a < N 0 0 → R (13 + a) = nI (N 2 a) ∧ R (21 + a) = nI (N 3 a) ∧ R (29 + a) = oI (N 4 a)) ∧ (∀ j, j < 64 → R (37 + j) = nI (N 5 j)) ∧ (∀ s, s < N 0 1 → R (101 + 4 * s) = nI (N 6 s) ∧ R (101 + 4 * s + 1) = nI (N 7 s) ∧ R (101 + 4 * s + 2) = nI (N 8 s) ∧ R (101 + 4 * s + 3) = nI (N 9 s)) ∧ (∀ i, i < N 0 2 → R (121 + 4 * i) = nI (N 10 i) ∧ R (121 + 4 * i + 1) = nI (N 11 i) ∧ R (121 + 4 * i + 2) = nI (N 12 i) ∧ R (121 + 4 * i + 3) = nI (N 13 i))
