theorem xbd_some {α β : Type} (a : α) (f : α → Option β) : xbd (some a) f = f a := rfl
theorem xgd_true {α : Type} (a : Option α) : xgd true a = a := rfl
theorem xlet_eq {α β : Type} (a : α) (f : α → β) : xlet a f = f a := rfl
theorem g_in {α : Type} {k n : Nat} (h : k < n) (hn : n < 10000) (a : Option α) : xgd (xin (nI k) n) a = a := xgd_t (xin_nI h hn)
theorem rd_e {σ : xM} {c k j : Nat} {v : Int32} (h : j = k) : xup σ c k v c j = v := by rw [h]; exact xup_sk σ c k v
theorem rd_k {σ : xM} {c k j : Nat} {v : Int32} (h : j ≠ k) : xup σ c k v c j = σ c j := xup_sn σ c v h
theorem rd_c {σ : xM} {c k c' : Nat} {v : Int32} (h : c' ≠ c) : xup σ c k v c' = σ c' := xup_n σ k v h
theorem i10 (P : Prop) [Decidable P] : ((if P then nI 1 else nI 0) = nI 0) = ¬ P := by
  by_cases h : P
  · simp only [h, if_true, not_true_eq_false, eq_iff_iff, iff_false]; decide
  · simp [h]
theorem i01 (P : Prop) [Decidable P] : ((if P then nI 0 else nI 1) = nI 0) = P := by
  by_cases h : P
  · simp [h]
  · simp only [h, if_false, eq_iff_iff, iff_false]; decide
theorem lit_0 : (0 : Int32) = nI 0 := rfl
theorem lit_1 : (1 : Int32) = nI 1 := rfl
theorem lit_2 : (2 : Int32) = nI 2 := rfl
theorem lit_3 : (3 : Int32) = nI 3 := rfl
theorem lit_4 : (4 : Int32) = nI 4 := rfl
theorem lit_5 : (5 : Int32) = nI 5 := rfl
theorem lit_6 : (6 : Int32) = nI 6 := rfl
theorem lit_8 : (8 : Int32) = nI 8 := rfl
theorem lit_9 : (9 : Int32) = nI 9 := rfl
theorem lit_10 : (10 : Int32) = nI 10 := rfl
theorem lit_12 : (12 : Int32) = nI 12 := rfl
theorem lit_13 : (13 : Int32) = nI 13 := rfl
theorem lit_21 : (21 : Int32) = nI 21 := rfl
theorem lit_29 : (29 : Int32) = nI 29 := rfl
theorem lit_30 : (30 : Int32) = nI 30 := rfl
theorem lit_31 : (31 : Int32) = nI 31 := rfl
theorem lit_37 : (37 : Int32) = nI 37 := rfl
theorem lit_101 : (101 : Int32) = nI 101 := rfl
theorem lit_120 : (120 : Int32) = nI 120 := rfl
theorem lit_121 : (121 : Int32) = nI 121 := rfl
theorem lit_127 : (127 : Int32) = nI 127 := rfl
theorem lit_169 : (169 : Int32) = nI 169 := rfl
theorem lit_64 : (64 : Int32) = nI 64 := rfl
theorem lit_99 : (99 : Int32) = nI 99 := rfl
theorem lit_999 : (999 : Int32) = nI 999 := rfl
theorem lit_676 : (676 : Int32) = nI 676 := rfl
theorem lit_845 : (845 : Int32) = nI 845 := rfl
theorem lit_48 : (48 : Int32) = nI 48 := rfl
theorem lit_57 : (57 : Int32) = nI 57 := rfl
theorem lit_32 : (32 : Int32) = nI 32 := rfl
theorem lit_59 : (59 : Int32) = nI 59 := rfl
theorem l_neg1 : -nI 1 = oI 0 := rfl
theorem oI_e0 {k : Nat} (h : k < 100000) : (oI k = oI 0) = (k = 0) := propext (oI_eq h)
theorem nI_e0 {k : Nat} (h : k < 100000) : (nI k = oI 0) = False := eq_false (nI_m1 h)
theorem oI_nI {k c : Nat} (h : k < 100000) (hc : c < 100000) : (oI k = nI c) = (k = c + 1) := by
  cases k with
  | zero => exact propext ⟨fun e => absurd e.symm (nI_m1 hc), fun e => by omega⟩
  | succ k => rw [oI_s]; exact propext ((nI_eq (by omega) (by omega)).trans (by omega))
def nU (N : xN) (f k v : Nat) : xN := fun f' k' => if f' = f then (if k' = k then v else N f' k') else N f' k'
theorem nU_f {N : xN} {f f' k v : Nat} (h : f' ≠ f) : nU N f k v f' = N f' := by funext k'; simp [nU, h]
theorem nU_k {N : xN} {f k k' v : Nat} (h : k' ≠ k) : nU N f k v f k' = N f k' := by simp [nU, h]
theorem nU_e {N : xN} {f k k' v : Nat} (h : k' = k) : nU N f k v f k' = v := by simp [nU, h]
theorem xfor {S E : Type} {f : S → Option (S ⊕ E)} (st : Nat → S) (n : Nat) (e : E) (hs : ∀ k, k < n → f (st k) = some (.inl (st (k + 1)))) (hf : f (st n) = some (.inr e)) : ∀ (fu k : Nat), k ≤ n → n - k < fu → xloop f fu (st k) = some e
  | 0, k, hk, hfu => by omega
  | fu + 1, k, hk, hfu => by
    unfold xloop
    by_cases hkn : k = n
    · subst hkn; rw [hf]
    · rw [hs k (by omega)]
      exact xfor st n e hs hf fu (k + 1) (by omega) (by omega)
theorem hs_of {a : Int32} {n : Nat} (hn : n < 10000) : (0 ≤ a ∧ a ≤ nI n - 1) ↔ ∃ k, k < n ∧ a = nI k := by
  constructor
  · intro ⟨h1, h2⟩
    obtain ⟨j, hj, rfl⟩ := nI_of (x := a) (by rw [Int32.lt_iff_toInt_lt]; rw [Int32.le_iff_toInt_le] at h1; omega)
    refine ⟨j, ?_, rfl⟩
    rw [Int32.le_iff_toInt_le, show (1 : Int32) = nI 1 from rfl, pk_sub_toInt (by omega) (by omega), nI_toInt hj] at h2
    omega
  · intro ⟨k, hk, e⟩
    subst e
    refine ⟨nI_pos' (by omega), ?_⟩
    rw [show (1 : Int32) = nI 1 from rfl, pk_sub (by omega), nI_leI (by omega) (by omega)]
    omega
theorem rg_of {a b : Int32} {n : Nat} (hb : b = nI n) (hn : n < 10000) : (0 ≤ a ∧ a ≤ b) ↔ ∃ k, k ≤ n ∧ a = nI k := by
  subst hb
  constructor
  · intro ⟨h1, h2⟩
    obtain ⟨j, hj, rfl⟩ := nI_of (x := a) (by rw [Int32.lt_iff_toInt_lt]; rw [Int32.le_iff_toInt_le] at h1; omega)
    exact ⟨j, (nI_leI hj (by omega)).mp h2, rfl⟩
  · intro ⟨k, hk, e⟩
    subst e
    exact ⟨nI_pos' (by omega), nI_le hk (by omega)⟩
theorem rg1_of {a b : Int32} {n : Nat} (hb : b = nI n) (hn : n < 10000) : (1 ≤ a ∧ a ≤ b) ↔ ∃ k, 1 ≤ k ∧ k ≤ n ∧ a = nI k := by
  subst hb
  constructor
  · intro ⟨h1, h2⟩
    obtain ⟨j, hj, rfl⟩ := nI_of (x := a) (by rw [Int32.lt_iff_toInt_lt]; rw [Int32.le_iff_toInt_le, show ((1 : Int32).toInt) = 1 from rfl] at h1; rw [show ((0 : Int32).toInt) = 0 from rfl]; omega)
    exact ⟨j, (nI_leI (a := 1) (by omega) hj).mp h1, (nI_leI hj (by omega)).mp h2, rfl⟩
  · intro ⟨k, h1, hk, e⟩
    subst e
    exact ⟨nI_le h1 (by omega), nI_le hk (by omega)⟩
/-- one of the kit's answers of yes and no -/
theorem zok10 (P : Prop) [Decidable P] : xzok true (if P then 1 else 0) = true := by
  by_cases h : P
  · simp only [h, if_true]; decide
  · simp only [h, if_false]; decide
theorem f_has1 (a : Int32) (σ : xM) : F_X1_has a σ = some (if 0 ≤ a ∧ a ≤ σ 2 0 - 1 then 1 else 0) := by
  unfold F_X1_has
  rw [f_within, xbd_some, zok10, xgd_true]
theorem f_has8 (a : Int32) (σ : xM) : F_X8_has a σ = some (if 0 ≤ a ∧ a ≤ σ 8 0 - 1 then 1 else 0) := by
  unfold F_X8_has
  rw [f_within, xbd_some, zok10, xgd_true]
theorem f_has7 (a : Int32) (σ : xM) : F_X7_has a σ = some (if 0 ≤ a ∧ a ≤ σ 14 0 - 1 then 1 else 0) := by
  unfold F_X7_has
  rw [f_within, xbd_some, zok10, xgd_true]
theorem t64_le (a b : Int32) : a.toInt64 ≤ b.toInt64 ↔ a ≤ b := by
  rw [Int64.le_iff_toInt_le, Int32.le_iff_toInt_le, Int32.toInt_toInt64, Int32.toInt_toInt64]
theorem t64_lt (a b : Int32) : a.toInt64 < b.toInt64 ↔ a < b := by
  rw [Int64.lt_iff_toInt_lt, Int32.lt_iff_toInt_lt, Int32.toInt_toInt64, Int32.toInt_toInt64]
theorem lg_in (x y z : Int32) (σ : xM) : F_X11_in x.toInt64 y.toInt64 z.toInt64 σ = some (if y ≤ x ∧ x ≤ z then 1 else 0) := by
  unfold F_X11_in
  simp only [lg_cmp_lt, lg_cmp_gt, t64_lt]
  simp only [Int32.lt_iff_toInt_lt, Int32.le_iff_toInt_le]
  split
  · rw [if_neg (by omega)]
  · split
    · rw [if_neg (by omega)]
    · rw [if_pos (by omega)]
theorem m_in_0_99 (a : Int32) (σ : xM) : F_X11_in (a.toInt64) 0 99 σ = some (if 0 ≤ a ∧ a ≤ 99 then 1 else 0) := lg_in a 0 99 σ
theorem m_in_0_2 (a : Int32) (σ : xM) : F_X11_in (a.toInt64) 0 2 σ = some (if 0 ≤ a ∧ a ≤ 2 then 1 else 0) := lg_in a 0 2 σ
theorem m_in_0_9 (a : Int32) (σ : xM) : F_X11_in (a.toInt64) 0 9 σ = some (if 0 ≤ a ∧ a ≤ 9 then 1 else 0) := lg_in a 0 9 σ
theorem m_in_0_999 (a : Int32) (σ : xM) : F_X11_in (a.toInt64) 0 999 σ = some (if 0 ≤ a ∧ a ≤ 999 then 1 else 0) := lg_in a 0 999 σ
theorem m_in_0_4 (a : Int32) (σ : xM) : F_X11_in (a.toInt64) 0 4 σ = some (if 0 ≤ a ∧ a ≤ 4 then 1 else 0) := lg_in a 0 4 σ
theorem m_in_0_5 (a : Int32) (σ : xM) : F_X11_in (a.toInt64) 0 5 σ = some (if 0 ≤ a ∧ a ≤ 5 then 1 else 0) := lg_in a 0 5 σ
theorem m_in_1_9 (a : Int32) (σ : xM) : F_X11_in (a.toInt64) 1 9 σ = some (if 1 ≤ a ∧ a ≤ 9 then 1 else 0) := lg_in a 1 9 σ
theorem m_in_1_30 (a : Int32) (σ : xM) : F_X11_in (a.toInt64) 1 30 σ = some (if 1 ≤ a ∧ a ≤ 30 then 1 else 0) := lg_in a 1 30 σ
theorem m_in_0_12 (a : Int32) (σ : xM) : F_X11_in (a.toInt64) 0 12 σ = some (if 0 ≤ a ∧ a ≤ 12 then 1 else 0) := lg_in a 0 12 σ
theorem m_in_0_127 (a : Int32) (σ : xM) : F_X11_in (a.toInt64) 0 127 σ = some (if 0 ≤ a ∧ a ≤ 127 then 1 else 0) := lg_in a 0 127 σ
theorem m_in_48_57 (a : Int32) (σ : xM) : F_X11_in (a.toInt64) 48 57 σ = some (if 48 ≤ a ∧ a ≤ 57 then 1 else 0) := lg_in a 48 57 σ
theorem m_in_1_2 (a : Int32) (σ : xM) : F_X11_in (a.toInt64) 1 2 σ = some (if 1 ≤ a ∧ a ≤ 2 then 1 else 0) := lg_in a 1 2 σ
theorem m_in_0_1 (a : Int32) (σ : xM) : F_X11_in (a.toInt64) 0 1 σ = some (if 0 ≤ a ∧ a ≤ 1 then 1 else 0) := lg_in a 0 1 σ
theorem m_isArea (a : Int32) (σ : xM) : F_X11_isArea a σ = some (if 0 ≤ a ∧ a ≤ σ 142 0 - 1 then 1 else 0) := by
  unfold F_X11_isArea
  rw [show (0 : Int64) = (0 : Int32).toInt64 from rfl, lg_in, xbd_some, zok10, xgd_true]
theorem m_isSite (a : Int32) (σ : xM) : F_X11_isSite a σ = some (if 0 ≤ a ∧ a ≤ σ 142 1 - 1 then 1 else 0) := by
  unfold F_X11_isSite
  rw [show (0 : Int64) = (0 : Int32).toInt64 from rfl, lg_in, xbd_some, zok10, xgd_true]
theorem mc8 (a : Nat) : a * 8 = 8 * a := Nat.mul_comm a 8
theorem mc3 (a : Nat) : a * 3 = 3 * a := Nat.mul_comm a 3
