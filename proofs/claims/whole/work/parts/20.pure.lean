theorem xset_s (σ : xM) (c : Nat) (f : Nat → Int32) : xset σ c f c = f := by simp [xset]
theorem xset_n (σ : xM) {c c' : Nat} (f : Nat → Int32) (h : c' ≠ c) : xset σ c f c' = σ c' := by simp [xset, h]
theorem xup_s (σ : xM) (c k : Nat) (v : Int32) : xup σ c k v c = upd (σ c) k v := by simp [xup, xset]
theorem xup_n (σ : xM) {c c' : Nat} (k : Nat) (v : Int32) (h : c' ≠ c) : xup σ c k v c' = σ c' := by simp [xup, xset, h]
theorem xup_sk (σ : xM) (c k : Nat) (v : Int32) : xup σ c k v c k = v := by simp [xup, xset, upd]
theorem xup_sn (σ : xM) (c : Nat) {k j : Nat} (v : Int32) (h : j ≠ k) : xup σ c k v c j = σ c j := by simp [xup, xset, upd, h]
theorem xin_nI {k n : Nat} (h : k < n) (hn : n < 10000) : xin (nI k) n = true := (vp_in_dec (nI k) n).mp (vp_in_nI h (by omega))
theorem xgd_t {α : Type} {c : Bool} {a : Option α} (h : c = true) : xgd c a = a := by simp [xgd, h]
theorem xbd_s {α β : Type} {m : Option α} {a : α} {f : α → Option β} (h : m = some a) : xbd m f = f a := by rw [h]; rfl
def oI : Nat → Int32
  | 0 => -1
  | k + 1 => nI k
theorem oI_0 : oI 0 = -1 := rfl
theorem oI_s (k : Nat) : oI (k + 1) = nI k := rfl
theorem nI_m1 {k : Nat} (h : k < 100000) : ¬ nI k = (-1 : Int32) := by
  intro e
  have h1 := congrArg Int32.toInt e
  rw [nI_toInt (by omega)] at h1
  have h2 : (-1 : Int32).toInt = -1 := by decide
  omega
theorem oI_eq {k : Nat} (h : k < 100000) : oI k = (-1 : Int32) ↔ k = 0 := by
  cases k with
  | zero => exact ⟨fun _ => rfl, fun _ => rfl⟩
  | succ k => exact ⟨fun e => absurd e (nI_m1 (by omega)), fun e => by cases e⟩
theorem xloop_for {S E : Type} {f : S → Option (S ⊕ E)} (I : Nat → S → Prop) (Post : E → Prop) (n : Nat) (hs : ∀ k s, k < n → I k s → (∃ s', f s = some (.inl s') ∧ I (k + 1) s') ∨ ∃ e, f s = some (.inr e) ∧ Post e) (hf : ∀ s, I n s → ∃ e, f s = some (.inr e) ∧ Post e) : ∀ (fu k : Nat) (s : S), k ≤ n → n - k < fu → I k s → ∃ e, xloop f fu s = some e ∧ Post e
  | 0, k, s, hk, hfu, hI => by omega
  | fu + 1, k, s, hk, hfu, hI => by
    unfold xloop
    by_cases hkn : k = n
    · subst hkn
      obtain ⟨e, h1, h2⟩ := hf s hI
      exact ⟨e, by rw [h1], h2⟩
    · rcases hs k s (by omega) hI with ⟨s', h1, h2⟩ | ⟨e, h1, h2⟩
      · obtain ⟨e, h3, h4⟩ := xloop_for I Post n hs hf fu (k + 1) s' (by omega) (by omega) h2
        exact ⟨e, by rw [h1]; exact h3, h4⟩
      · exact ⟨e, by rw [h1], h2⟩
def xmk (P : Nat → Bool) : Nat → Nat
  | 0 => 0
  | k + 1 => xmk P k + (if P k = true then 2 ^ k else 0)
theorem xmk_lt (P : Nat → Bool) : ∀ n, xmk P n < 2 ^ n
  | 0 => by simp [xmk]
  | n + 1 => by
    have h := xmk_lt P n
    have e : 2 ^ (n + 1) = 2 ^ n + 2 ^ n := by omega
    unfold xmk
    split <;> omega
theorem x_or : ∀ k, k < 8 → ∀ m, m < 2 ^ k → (nI m ||| ((1 : Int32) <<< (nI k &&& 31))) = nI (m + 2 ^ k) := by decide +kernel
theorem x_bit : ∀ k, k < 8 → ∀ m, m < 256 → (((nI m >>> (nI k &&& 31)) &&& 1) = 0 ↔ m.testBit k = false) := by decide +kernel
theorem xmk_bit (P : Nat → Bool) : ∀ n k, k < n → (xmk P n).testBit k = P k
  | 0, k, h => by omega
  | n + 1, k, h => by
    unfold xmk
    by_cases hk : k = n
    · subst hk
      have h1 := xmk_lt P k
      split
      · next hp =>
        rw [hp, Nat.add_comm, Nat.testBit_two_pow_add_eq, Nat.testBit_lt_two_pow h1]
        rfl
      · next hp =>
        rw [Nat.add_zero, Nat.testBit_lt_two_pow h1]
        simpa using hp
    · have ih := xmk_bit P n k (by omega)
      split
      · rw [Nat.add_comm, Nat.testBit_two_pow_add_gt (by omega), ih]
      · rw [Nat.add_zero, ih]
abbrev xN : Type := Nat → Nat → Nat
theorem f_within (a b c : Int32) (σ : xM) : F_X10_within a b c σ = some (if b ≤ a ∧ a ≤ c then 1 else 0) := by
  unfold F_X10_within
  simp only [Int32.lt_iff_toInt_lt, Int32.le_iff_toInt_le]
  split
  · rw [if_neg (by omega)]
  · split
    · rw [if_neg (by omega)]
    · rw [if_pos (by omega)]
theorem f_notOff {σ : xM} {n : Nat} (hn : n ≤ 5) (hc : σ 8 0 = nI n) : F_X8_notOff σ = some (nI (xmk (fun s => !decide (σ 12 s = 2)) n)) := by
  unfold F_X8_notOff L_X8_notOff_4
  obtain ⟨e, h1, h2⟩ := xloop_for (f := fun s : Int32 × Int32 => B_X8_notOff_4 s.1 s.2 σ) (fun k s => s = (nI (xmk (fun s => !decide (σ 12 s = 2)) k), nI k)) (fun e => e = nI (xmk (fun s => !decide (σ 12 s = 2)) n)) n
    (by
      intro k s hk hI
      subst hI
      left
      have hx := xmk_lt (fun s => !decide (σ 12 s = 2)) k
      simp only [B_X8_notOff_4, hc, nI_leI (show n < 2 ^ 31 by omega) (show k < 2 ^ 31 by omega), xgd_t (xin_nI (show k < 5 by omega) (by omega)), nI_clamp (show k < 2 ^ 31 by omega), nI_1]
      rw [if_neg (by omega)]
      by_cases h2 : σ 12 k = 2
      · rw [if_pos h2]
        exact ⟨_, rfl, by simp [xmk, h2]⟩
      · rw [if_neg h2]
        exact ⟨_, rfl, by rw [x_or k (by omega) _ hx]; simp [xmk, h2]⟩)
    (by
      intro s hI
      subst hI
      simp only [B_X8_notOff_4, hc]
      rw [if_pos (nI_le (Nat.le_refl n) (by omega))]
      exact ⟨_, rfl, rfl⟩) 6000 0 (0, 0) (by omega) (by omega) rfl
  rw [xbd_s h1, h2]
