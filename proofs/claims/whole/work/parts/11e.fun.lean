def F_X10_lays (σ : xM) : Option (Int32 × xM) :=
  xbd (F_X10_mark σ) fun r1 =>
  xbd (F_X0_layPlan r1) fun r2 =>
  xbd (F_X10_settled r2.1 r2.2) fun r3 =>
  some (r3.1, r3.2)
set_option maxHeartbeats 1000000 in
set_option maxRecDepth 20000 in
theorem T_X10_lays (σ : xM) {d : Nat} {q : Int32 × xM} (hd : 14 ≤ d) (h : F_X10_lays σ = some q) : xR xT xLn d 96 [.ref 0] σ (some (.int q.1), q.2) := by
  unfold F_X10_lays at h
  show xX xT xLn d 96 0 [.ref 0] [] σ _
  refine xX_blk (w := xw_96) eT_96 1 0 (ls' := [.ref 0]) (st' := [.ref 0]) (σ' := σ) rfl ?_
  obtain ⟨r1, hr1, h⟩ := xbd_inv h
  refine xX_c0 (w := xw_96) (i := 1) (ls := [.ref 0]) (rest := []) eT_96 rfl (by omega) rfl rfl rfl (T_X10_mark σ (by omega) hr1) ?_
  refine xX_blk (w := xw_96) eT_96 3 2 (ls' := [.ref 0]) (st' := [.ref 136, .ref 0]) (σ' := r1) rfl ?_
  obtain ⟨r2, hr2, h⟩ := xbd_inv h
  refine xX_c1 (w := xw_96) (i := 5) (ls := [.ref 0]) (rest := [.ref 0]) eT_96 rfl (by omega) rfl rfl rfl (T_X0_layPlan r1 (by omega) hr2) ?_
  obtain ⟨r3, hr3, h⟩ := xbd_inv h
  refine xX_c1 (w := xw_96) (i := 6) (ls := [.ref 0]) (rest := []) eT_96 rfl (by omega) rfl rfl rfl (T_X10_settled r2.1 r2.2 (by omega) hr3) ?_
  obtain rfl := Option.some.inj h
  exact xX_ret (w := xw_96) (i := 7) eT_96 rfl rfl
def B_X2_withdraws_12 (rc : Int32 → Int32 → Int32 → xM → Option (Int32 × xM)) (p1 : Int32) (p2 : Int32) (p3 : Int32) (v4 : Int32) (σ : xM) : Option ((Int32 × xM) ⊕ ((xM) ⊕ (xM))) :=
  if (σ 8 0) ≤ v4 then
    some (.inr (.inr σ))
  else
    xbd (F_X4_contains (p1 &&& (p2 ^^^ (-1))) v4 σ) fun r4 =>
    if r4 = 0 then
      some (.inl ((v4 + 1), σ))
    else
      xbd (F_X2_staysCalm (p2 ||| ((1 : Int32) <<< (v4 &&& 31))) σ) fun r6 =>
      if r6.1 = 0 then
        some (.inl ((v4 + 1), r6.2))
      else
        xgd (xin p3 5) (
        xlet (xup r6.2 135 p3.toNatClampNeg v4) fun σ9 =>
        xbd (rc p1 (p2 ||| ((1 : Int32) <<< (v4 &&& 31))) (p3 + 1) σ9) fun r10 =>
        if r10.1 = 0 then
          some (.inl ((v4 + 1), r10.2))
        else
          some (.inr (.inl r10.2)))
def L_X2_withdraws_12 (rc : Int32 → Int32 → Int32 → xM → Option (Int32 × xM)) (p1 : Int32) (p2 : Int32) (p3 : Int32) (v4 : Int32) (σ : xM) : Option ((xM) ⊕ (xM)) := xloop (fun s : Int32 × xM => B_X2_withdraws_12 rc p1 p2 p3 s.1 s.2) 6000 (v4, σ)
set_option maxHeartbeats 1000000 in
set_option maxRecDepth 20000 in
theorem TB_X2_withdraws_12 {d : Nat} {o : Option Value × xM} {rc : Int32 → Int32 → Int32 → xM → Option (Int32 × xM)} (hrc : ∀ (a : Int32) (b : Int32) (c : Int32) (σ : xM) (q : Int32 × xM), rc a b c σ = some q → xR xT xLn (d - 1) 29 [.ref 134, .int a, .int b, .int c] σ (some (.int q.1), q.2)) (p1 : Int32) (p2 : Int32) (p3 : Int32) (v4 : Int32) (σ : xM) {q : (Int32 × xM) ⊕ ((xM) ⊕ (xM))} (hd : 4 ≤ d) (h : B_X2_withdraws_12 rc p1 p2 p3 v4 σ = some q) (hB : ∀ s', q = .inl s' → ∀ (z5 : Value), xX xT xLn d 29 12 [.ref 134, .int p1, .int p2, .int p3, .int s'.1, z5] [] s'.2 o) (hE : ∀ e', q = .inr e' → (∀ a, e' = .inl a → ∀ (z0 z1 z2 z3 z4 z5 : Value), xX xT xLn d 29 51 [z0, z1, z2, z3, z4, z5] [] a o) ∧ (∀ a, e' = .inr (a) → ∀ (z0 z1 z2 z3 z4 z5 : Value), xX xT xLn d 29 56 [z0, z1, z2, z3, z4, z5] [] a o)) (z5 : Value) : xX xT xLn d 29 12 [.ref 134, .int p1, .int p2, .int p3, .int v4, z5] [] σ o := by
  unfold B_X2_withdraws_12 at h
  refine xX_blk (w := xw_29) eT_29 6 12 (ls' := [.ref 134, .int p1, .int p2, .int p3, .int v4, .null]) (st' := [.int (σ 8 0), .int v4]) (σ' := σ) rfl ?_
  refine xX_ite (c := (σ 8 0) ≤ v4) (w := xw_29) (i := 18) (a := 56) (b := 19) (st' := []) eT_29 rfl rfl (fun hc3 => ?_) (fun hc3 => ?_)
  · rw [if_pos hc3] at h
    obtain rfl := Option.some.inj h
    exact (hE (.inr σ) rfl).2 σ rfl _ _ _ _ _ _
  · rw [if_neg hc3] at h
    refine xX_blk (w := xw_29) eT_29 12 19 (ls' := [.ref 134, .int p1, .int p2, .int p3, .int v4, .int (p2 ||| ((1 : Int32) <<< (v4 &&& 31)))]) (st' := [.int v4, .int (p1 &&& (p2 ^^^ (-1)))]) (σ' := σ) rfl ?_
    obtain ⟨r4, hr4, h⟩ := xbd_inv h
    refine xX_c1 (w := xw_29) (i := 31) (ls := [.ref 134, .int p1, .int p2, .int p3, .int v4, .int (p2 ||| ((1 : Int32) <<< (v4 &&& 31)))]) (rest := []) eT_29 rfl (by omega) rfl rfl rfl (T_X4_contains (p1 &&& (p2 ^^^ (-1))) v4 σ (by omega) hr4) ?_
    refine xX_ite (c := r4 = 0) (w := xw_29) (i := 32) (a := 54) (b := 33) (st' := []) eT_29 rfl rfl (fun hc5 => ?_) (fun hc5 => ?_)
    · rw [if_pos hc5] at h
      refine xX_blk (w := xw_29) eT_29 1 54 (ls' := [.ref 134, .int p1, .int p2, .int p3, .int (v4 + 1), .int (p2 ||| ((1 : Int32) <<< (v4 &&& 31)))]) (st' := []) (σ' := σ) rfl ?_
      refine xX_jmp (w := xw_29) (i := 55) (a := 12) (st' := []) eT_29 rfl rfl ?_
      obtain rfl := Option.some.inj h
      exact hB ((v4 + 1), σ) rfl _
    · rw [if_neg hc5] at h
      refine xX_blk (w := xw_29) eT_29 2 33 (ls' := [.ref 134, .int p1, .int p2, .int p3, .int v4, .int (p2 ||| ((1 : Int32) <<< (v4 &&& 31)))]) (st' := [.int (p2 ||| ((1 : Int32) <<< (v4 &&& 31))), .ref 134]) (σ' := σ) rfl ?_
      obtain ⟨r6, hr6, h⟩ := xbd_inv h
      refine xX_c1 (w := xw_29) (i := 35) (ls := [.ref 134, .int p1, .int p2, .int p3, .int v4, .int (p2 ||| ((1 : Int32) <<< (v4 &&& 31)))]) (rest := []) eT_29 rfl (by omega) rfl rfl rfl (T_X2_staysCalm (p2 ||| ((1 : Int32) <<< (v4 &&& 31))) σ (by omega) hr6) ?_
      refine xX_ite (c := r6.1 = 0) (w := xw_29) (i := 36) (a := 37) (b := 38) (st' := []) eT_29 rfl rfl (fun hc7 => ?_) (fun hc7 => ?_)
      · rw [if_pos hc7] at h
        refine xX_jmp (w := xw_29) (i := 37) (a := 54) (st' := []) eT_29 rfl rfl ?_
        refine xX_blk (w := xw_29) eT_29 1 54 (ls' := [.ref 134, .int p1, .int p2, .int p3, .int (v4 + 1), .int (p2 ||| ((1 : Int32) <<< (v4 &&& 31)))]) (st' := []) (σ' := r6.2) rfl ?_
        refine xX_jmp (w := xw_29) (i := 55) (a := 12) (st' := []) eT_29 rfl rfl ?_
        obtain rfl := Option.some.inj h
        exact hB ((v4 + 1), r6.2) rfl _
      · rw [if_neg hc7] at h
        refine xX_blk (w := xw_29) eT_29 4 38 (ls' := [.ref 134, .int p1, .int p2, .int p3, .int v4, .int (p2 ||| ((1 : Int32) <<< (v4 &&& 31)))]) (st' := [.int v4, .int p3, .ref 135]) (σ' := r6.2) rfl ?_
        obtain ⟨hi8, h⟩ := xgd_inv h
        refine xX_one (w := xw_29) (i := 42) (ls' := [.ref 134, .int p1, .int p2, .int p3, .int v4, .int (p2 ||| ((1 : Int32) <<< (v4 &&& 31)))]) (st' := []) (σ' := xup r6.2 135 p3.toNatClampNeg v4) eT_29 rfl (e_iast xs_135 hi8) ?_
        obtain ⟨σ9, eσ9, h⟩ := xlet_inv h
        rw [← eσ9]
        refine xX_blk (w := xw_29) eT_29 6 43 (ls' := [.ref 134, .int p1, .int p2, .int p3, .int v4, .int (p2 ||| ((1 : Int32) <<< (v4 &&& 31)))]) (st' := [.int (p3 + 1), .int (p2 ||| ((1 : Int32) <<< (v4 &&& 31))), .int p1, .ref 134]) (σ' := σ9) rfl ?_
        obtain ⟨r10, hr10, h⟩ := xbd_inv h
        refine xX_c1 (w := xw_29) (i := 49) (ls := [.ref 134, .int p1, .int p2, .int p3, .int v4, .int (p2 ||| ((1 : Int32) <<< (v4 &&& 31)))]) (rest := []) eT_29 rfl (by omega) rfl rfl rfl (hrc p1 (p2 ||| ((1 : Int32) <<< (v4 &&& 31))) (p3 + 1) σ9 _ hr10) ?_
        refine xX_ite (c := r10.1 = 0) (w := xw_29) (i := 50) (a := 54) (b := 51) (st' := []) eT_29 rfl rfl (fun hc11 => ?_) (fun hc11 => ?_)
        · rw [if_pos hc11] at h
          refine xX_blk (w := xw_29) eT_29 1 54 (ls' := [.ref 134, .int p1, .int p2, .int p3, .int (v4 + 1), .int (p2 ||| ((1 : Int32) <<< (v4 &&& 31)))]) (st' := []) (σ' := r10.2) rfl ?_
          refine xX_jmp (w := xw_29) (i := 55) (a := 12) (st' := []) eT_29 rfl rfl ?_
          obtain rfl := Option.some.inj h
          exact hB ((v4 + 1), r10.2) rfl _
        · rw [if_neg hc11] at h
          obtain rfl := Option.some.inj h
          exact (hE (.inl r10.2) rfl).1 r10.2 rfl _ _ _ _ _ _
set_option maxHeartbeats 1000000 in
set_option maxRecDepth 20000 in
theorem TL_X2_withdraws_12 {d : Nat} {o : Option Value × xM} {rc : Int32 → Int32 → Int32 → xM → Option (Int32 × xM)} (hrc : ∀ (a : Int32) (b : Int32) (c : Int32) (σ : xM) (q : Int32 × xM), rc a b c σ = some q → xR xT xLn (d - 1) 29 [.ref 134, .int a, .int b, .int c] σ (some (.int q.1), q.2)) (p1 : Int32) (p2 : Int32) (p3 : Int32) (v4 : Int32) (σ : xM) {e : (xM) ⊕ (xM)} (hd : 4 ≤ d) (h : L_X2_withdraws_12 rc p1 p2 p3 v4 σ = some e) (hE0 : ∀ a, e = .inl a → ∀ (z0 z1 z2 z3 z4 z5 : Value), xX xT xLn d 29 51 [z0, z1, z2, z3, z4, z5] [] a o) (hE1 : ∀ a, e = .inr (a) → ∀ (z0 z1 z2 z3 z4 z5 : Value), xX xT xLn d 29 56 [z0, z1, z2, z3, z4, z5] [] a o) (z5 : Value) : xX xT xLn d 29 12 [.ref 134, .int p1, .int p2, .int p3, .int v4, z5] [] σ o :=
  xloop_snd (X := fun s => ∀ (z5 : Value), xX xT xLn d 29 12 [.ref 134, .int p1, .int p2, .int p3, .int s.1, z5] [] s.2 o) (Y := fun e' => (∀ a, e' = .inl a → ∀ (z0 z1 z2 z3 z4 z5 : Value), xX xT xLn d 29 51 [z0, z1, z2, z3, z4, z5] [] a o) ∧ (∀ a, e' = .inr (a) → ∀ (z0 z1 z2 z3 z4 z5 : Value), xX xT xLn d 29 56 [z0, z1, z2, z3, z4, z5] [] a o)) (fun s q hs hB hE z5 => TB_X2_withdraws_12 hrc p1 p2 p3 s.1 s.2 hd hs hB hE z5) _ _ _ h ⟨hE0, hE1⟩ z5
def G_X2_withdraws (rc : Int32 → Int32 → Int32 → xM → Option (Int32 × xM)) (a : Int32) (b : Int32) (c : Int32) (σ : xM) : Option (Int32 × xM) :=
  if b = a then
    some (1, σ)
  else
    if c < 5 then
      xbd (L_X2_withdraws_12 rc a b c 0 σ) fun e12 =>
      xsm e12 (fun ae120 =>
        some (1, ae120))
      (fun ae121 =>
        some (0, ae121))
    else
      some (0, σ)
set_option maxHeartbeats 1000000 in
set_option maxRecDepth 20000 in
theorem TG_X2_withdraws {d : Nat} {rc : Int32 → Int32 → Int32 → xM → Option (Int32 × xM)} (hrc : ∀ (a : Int32) (b : Int32) (c : Int32) (σ : xM) (q : Int32 × xM), rc a b c σ = some q → xR xT xLn (d - 1) 29 [.ref 134, .int a, .int b, .int c] σ (some (.int q.1), q.2)) (a : Int32) (b : Int32) (c : Int32) (σ : xM) {q : Int32 × xM} (hd : 4 ≤ d) (h : G_X2_withdraws rc a b c σ = some q) : xR xT xLn d 29 [.ref 134, .int a, .int b, .int c] σ (some (.int q.1), q.2) := by
  unfold G_X2_withdraws at h
  show xX xT xLn d 29 0 [.ref 134, .int a, .int b, .int c, .null, .null] [] σ _
  refine xX_blk (w := xw_29) eT_29 2 0 (ls' := [.ref 134, .int a, .int b, .int c, .null, .null]) (st' := [.int a, .int b]) (σ' := σ) rfl ?_
  refine xX_ite (c := b = a) (w := xw_29) (i := 2) (a := 3) (b := 5) (st' := []) eT_29 rfl rfl (fun hc1 => ?_) (fun hc1 => ?_)
  · rw [if_pos hc1] at h
    refine xX_blk (w := xw_29) eT_29 1 3 (ls' := [.ref 134, .int a, .int b, .int c, .null, .null]) (st' := [.int 1]) (σ' := σ) rfl ?_
    obtain rfl := Option.some.inj h
    exact xX_ret (w := xw_29) (i := 4) eT_29 rfl (e_ret2 (by decide))
  · rw [if_neg hc1] at h
    refine xX_blk (w := xw_29) eT_29 2 5 (ls' := [.ref 134, .int a, .int b, .int c, .null, .null]) (st' := [.int 5, .int c]) (σ' := σ) rfl ?_
    refine xX_ite (c := c < 5) (w := xw_29) (i := 7) (a := 10) (b := 8) (st' := []) eT_29 rfl rfl (fun hc2 => ?_) (fun hc2 => ?_)
    · rw [if_pos hc2] at h
      refine xX_blk (w := xw_29) eT_29 2 10 (ls' := [.ref 134, .int a, .int b, .int c, .int 0, .null]) (st' := []) (σ' := σ) rfl ?_
      obtain ⟨e12, he12, h⟩ := xbd_inv h
      refine TL_X2_withdraws_12 hrc a b c 0 σ (by omega) he12 (fun ae120 hee120 z0 z1 z2 z3 z4 z5 => ?_) (fun ae121 hee121 z0 z1 z2 z3 z4 z5 => ?_) _
      · subst hee120
        rw [xsm_l] at h
        refine xX_blk (w := xw_29) eT_29 2 51 (ls' := [.null, .null, .null, .null, .null, .null]) (st' := [.int 1]) (σ' := ae120) rfl ?_
        obtain rfl := Option.some.inj h
        exact xX_ret (w := xw_29) (i := 53) eT_29 rfl (e_ret2 (by decide))
      · subst hee121
        rw [xsm_r] at h
        refine xX_blk (w := xw_29) eT_29 2 56 (ls' := [.null, .null, .null, .null, .null, .null]) (st' := [.int 0]) (σ' := ae121) rfl ?_
        obtain rfl := Option.some.inj h
        exact xX_ret (w := xw_29) (i := 58) eT_29 rfl (e_ret2 (by decide))
    · rw [if_neg hc2] at h
      refine xX_blk (w := xw_29) eT_29 1 8 (ls' := [.ref 134, .int a, .int b, .int c, .null, .null]) (st' := [.int 0]) (σ' := σ) rfl ?_
      obtain rfl := Option.some.inj h
      exact xX_ret (w := xw_29) (i := 9) eT_29 rfl (e_ret2 (by decide))
def F_X2_withdraws : Nat → Int32 → Int32 → Int32 → xM → Option (Int32 × xM)
  | 0, _, _, _, _ => none
  | n + 1, a, b, c, σ => G_X2_withdraws (F_X2_withdraws n) a b c σ
set_option maxHeartbeats 1000000 in
set_option maxRecDepth 20000 in
theorem T_X2_withdraws : ∀ (n : Nat) (a : Int32) (b : Int32) (c : Int32) (σ : xM) {d : Nat} {q : Int32 × xM} (hd : 4 + n ≤ d) (h : F_X2_withdraws n a b c σ = some q), xR xT xLn d 29 [.ref 134, .int a, .int b, .int c] σ (some (.int q.1), q.2)
  | 0, _, _, _, _, _, _, _, h => by cases h
  | n + 1, a, b, c, σ, _, _, hd, h => TG_X2_withdraws (rc := F_X2_withdraws n) (fun a b c σ q h => T_X2_withdraws n a b c σ (by omega) h) a b c σ (by omega) h
def F_X2_withdrawn (a : Int32) (b : Int32) (σ : xM) : Option (Int32 × xM) :=
  xbd (F_J_bitCount a σ) fun r1 =>
  if r1 ≤ b then
    some ((-1), σ)
  else
    xbd (F_X2_withdraws 8 a 0 0 σ) fun r3 =>
    if r3.1 = 0 then
      some ((-1), r3.2)
    else
      if 5 ≤ b then
        some ((-1), r3.2)
      else
        xgd (xin b 5) (
        some ((r3.2 135 b.toNatClampNeg), r3.2))
set_option maxHeartbeats 1000000 in
set_option maxRecDepth 20000 in
theorem T_X2_withdrawn (a : Int32) (b : Int32) (σ : xM) {d : Nat} {q : Int32 × xM} (hd : 13 ≤ d) (h : F_X2_withdrawn a b σ = some q) : xR xT xLn d 28 [.ref 134, .int a, .int b] σ (some (.int q.1), q.2) := by
  unfold F_X2_withdrawn at h
  show xX xT xLn d 28 0 [.ref 134, .int a, .int b] [] σ _
  refine xX_blk (w := xw_28) eT_28 2 0 (ls' := [.ref 134, .int a, .int b]) (st' := [.int a, .int b]) (σ' := σ) rfl ?_
  obtain ⟨r1, hr1, h⟩ := xbd_inv h
  refine xX_c1 (w := xw_28) (i := 2) (ls := [.ref 134, .int a, .int b]) (rest := [.int b]) eT_28 rfl (by omega) rfl rfl rfl (T_J_bitCount a σ (by omega) hr1) ?_
  refine xX_ite (c := r1 ≤ b) (w := xw_28) (i := 3) (a := 10) (b := 4) (st' := []) eT_28 rfl rfl (fun hc2 => ?_) (fun hc2 => ?_)
  · rw [if_pos hc2] at h
    refine xX_blk (w := xw_28) eT_28 1 10 (ls' := [.ref 134, .int a, .int b]) (st' := [.int (-1)]) (σ' := σ) rfl ?_
    obtain rfl := Option.some.inj h
    exact xX_ret (w := xw_28) (i := 11) eT_28 rfl rfl
  · rw [if_neg hc2] at h
    refine xX_blk (w := xw_28) eT_28 4 4 (ls' := [.ref 134, .int a, .int b]) (st' := [.int 0, .int 0, .int a, .ref 134]) (σ' := σ) rfl ?_
    obtain ⟨r3, hr3, h⟩ := xbd_inv h
    refine xX_c1 (w := xw_28) (i := 8) (ls := [.ref 134, .int a, .int b]) (rest := []) eT_28 rfl (by omega) rfl rfl rfl (T_X2_withdraws 8 a 0 0 σ (by omega) hr3) ?_
    refine xX_ite (c := r3.1 = 0) (w := xw_28) (i := 9) (a := 10) (b := 12) (st' := []) eT_28 rfl rfl (fun hc4 => ?_) (fun hc4 => ?_)
    · rw [if_pos hc4] at h
      refine xX_blk (w := xw_28) eT_28 1 10 (ls' := [.ref 134, .int a, .int b]) (st' := [.int (-1)]) (σ' := r3.2) rfl ?_
      obtain rfl := Option.some.inj h
      exact xX_ret (w := xw_28) (i := 11) eT_28 rfl rfl
    · rw [if_neg hc4] at h
      refine xX_blk (w := xw_28) eT_28 2 12 (ls' := [.ref 134, .int a, .int b]) (st' := [.int 5, .int b]) (σ' := r3.2) rfl ?_
      refine xX_ite (c := 5 ≤ b) (w := xw_28) (i := 14) (a := 20) (b := 15) (st' := []) eT_28 rfl rfl (fun hc5 => ?_) (fun hc5 => ?_)
      · rw [if_pos hc5] at h
        refine xX_blk (w := xw_28) eT_28 1 20 (ls' := [.ref 134, .int a, .int b]) (st' := [.int (-1)]) (σ' := r3.2) rfl ?_
        obtain rfl := Option.some.inj h
        exact xX_ret (w := xw_28) (i := 21) eT_28 rfl rfl
      · rw [if_neg hc5] at h
        refine xX_blk (w := xw_28) eT_28 3 15 (ls' := [.ref 134, .int a, .int b]) (st' := [.int b, .ref 135]) (σ' := r3.2) rfl ?_
        obtain ⟨hi6, h⟩ := xgd_inv h
        refine xX_one (w := xw_28) (i := 18) (ls' := [.ref 134, .int a, .int b]) (st' := [.int (r3.2 135 b.toNatClampNeg)]) (σ' := r3.2) eT_28 rfl (e_iald xs_135 hi6) ?_
        refine xX_jmp (w := xw_28) (i := 19) (a := 21) (st' := [.int (r3.2 135 b.toNatClampNeg)]) eT_28 rfl rfl ?_
        obtain rfl := Option.some.inj h
        exact xX_ret (w := xw_28) (i := 21) eT_28 rfl rfl
def F_X10_order (a : Int32) (b : Int32) (σ : xM) : Option (Int32 × xM) :=
  if a ≤ 0 then
    xbd (F_X10_counted (-2) σ) fun r2 =>
    some (r2.1, r2.2)
  else
    if (a >>> ((σ 8 0) &&& 31)) = 0 then
      if 0 ≤ b then
        xbd (F_X8_notOff σ) fun r5 =>
        if (a &&& (r5 ^^^ (-1))) = 0 then
          xbd (F_X2_withdrawn a b σ) fun r7 =>
          some (r7.1, r7.2)
        else
          xbd (F_X10_counted (-3) σ) fun r8 =>
          some (r8.1, r8.2)
      else
        xbd (F_X10_counted (-2) σ) fun r9 =>
        some (r9.1, r9.2)
    else
      xbd (F_X10_counted (-2) σ) fun r10 =>
      some (r10.1, r10.2)
set_option maxHeartbeats 1000000 in
set_option maxRecDepth 20000 in
theorem T_X10_order (a : Int32) (b : Int32) (σ : xM) {d : Nat} {q : Int32 × xM} (hd : 14 ≤ d) (h : F_X10_order a b σ = some q) : xR xT xLn d 97 [.ref 0, .int a, .int b] σ (some (.int q.1), q.2) := by
  unfold F_X10_order at h
  show xX xT xLn d 97 0 [.ref 0, .int a, .int b] [] σ _
  refine xX_blk (w := xw_97) eT_97 1 0 (ls' := [.ref 0, .int a, .int b]) (st' := [.int a]) (σ' := σ) rfl ?_
  refine xX_ite (c := a ≤ 0) (w := xw_97) (i := 1) (a := 11) (b := 2) (st' := []) eT_97 rfl rfl (fun hc1 => ?_) (fun hc1 => ?_)
  · rw [if_pos hc1] at h
    refine xX_blk (w := xw_97) eT_97 2 11 (ls' := [.ref 0, .int a, .int b]) (st' := [.int (-2), .ref 0]) (σ' := σ) rfl ?_
    obtain ⟨r2, hr2, h⟩ := xbd_inv h
    refine xX_c1 (w := xw_97) (i := 13) (ls := [.ref 0, .int a, .int b]) (rest := []) eT_97 rfl (by omega) rfl rfl rfl (T_X10_counted (-2) σ (by omega) hr2) ?_
    obtain rfl := Option.some.inj h
    exact xX_ret (w := xw_97) (i := 14) eT_97 rfl rfl
  · rw [if_neg hc1] at h
    refine xX_blk (w := xw_97) eT_97 6 2 (ls' := [.ref 0, .int a, .int b]) (st' := [.int (a >>> ((σ 8 0) &&& 31))]) (σ' := σ) rfl ?_
    refine xX_ite (c := (a >>> ((σ 8 0) &&& 31)) = 0) (w := xw_97) (i := 8) (a := 9) (b := 11) (st' := []) eT_97 rfl rfl (fun hc3 => ?_) (fun hc3 => ?_)
    · rw [if_pos hc3] at h
      refine xX_blk (w := xw_97) eT_97 1 9 (ls' := [.ref 0, .int a, .int b]) (st' := [.int b]) (σ' := σ) rfl ?_
      refine xX_ite (c := 0 ≤ b) (w := xw_97) (i := 10) (a := 15) (b := 11) (st' := []) eT_97 rfl rfl (fun hc4 => ?_) (fun hc4 => ?_)
      · rw [if_pos hc4] at h
        refine xX_blk (w := xw_97) eT_97 4 15 (ls' := [.ref 0, .int a, .int b]) (st' := [.ref 8, .int a]) (σ' := σ) rfl ?_
        obtain ⟨r5, hr5, h⟩ := xbd_inv h
        refine xX_c1 (w := xw_97) (i := 19) (ls := [.ref 0, .int a, .int b]) (rest := [.int a]) eT_97 rfl (by omega) rfl rfl rfl (T_X8_notOff σ (by omega) hr5) ?_
        refine xX_blk (w := xw_97) eT_97 3 20 (ls' := [.ref 0, .int a, .int b]) (st' := [.int (a &&& (r5 ^^^ (-1)))]) (σ' := σ) rfl ?_
        refine xX_ite (c := (a &&& (r5 ^^^ (-1))) = 0) (w := xw_97) (i := 23) (a := 28) (b := 24) (st' := []) eT_97 rfl rfl (fun hc6 => ?_) (fun hc6 => ?_)
        · rw [if_pos hc6] at h
          refine xX_blk (w := xw_97) eT_97 4 28 (ls' := [.ref 0, .int a, .int b]) (st' := [.int b, .int a, .ref 134]) (σ' := σ) rfl ?_
          obtain ⟨r7, hr7, h⟩ := xbd_inv h
          refine xX_c1 (w := xw_97) (i := 32) (ls := [.ref 0, .int a, .int b]) (rest := []) eT_97 rfl (by omega) rfl rfl rfl (T_X2_withdrawn a b σ (by omega) hr7) ?_
          obtain rfl := Option.some.inj h
          exact xX_ret (w := xw_97) (i := 33) eT_97 rfl rfl
        · rw [if_neg hc6] at h
          refine xX_blk (w := xw_97) eT_97 2 24 (ls' := [.ref 0, .int a, .int b]) (st' := [.int (-3), .ref 0]) (σ' := σ) rfl ?_
          obtain ⟨r8, hr8, h⟩ := xbd_inv h
          refine xX_c1 (w := xw_97) (i := 26) (ls := [.ref 0, .int a, .int b]) (rest := []) eT_97 rfl (by omega) rfl rfl rfl (T_X10_counted (-3) σ (by omega) hr8) ?_
          obtain rfl := Option.some.inj h
          exact xX_ret (w := xw_97) (i := 27) eT_97 rfl rfl
      · rw [if_neg hc4] at h
        refine xX_blk (w := xw_97) eT_97 2 11 (ls' := [.ref 0, .int a, .int b]) (st' := [.int (-2), .ref 0]) (σ' := σ) rfl ?_
        obtain ⟨r9, hr9, h⟩ := xbd_inv h
        refine xX_c1 (w := xw_97) (i := 13) (ls := [.ref 0, .int a, .int b]) (rest := []) eT_97 rfl (by omega) rfl rfl rfl (T_X10_counted (-2) σ (by omega) hr9) ?_
        obtain rfl := Option.some.inj h
        exact xX_ret (w := xw_97) (i := 14) eT_97 rfl rfl
    · rw [if_neg hc3] at h
      refine xX_blk (w := xw_97) eT_97 2 11 (ls' := [.ref 0, .int a, .int b]) (st' := [.int (-2), .ref 0]) (σ' := σ) rfl ?_
      obtain ⟨r10, hr10, h⟩ := xbd_inv h
      refine xX_c1 (w := xw_97) (i := 13) (ls := [.ref 0, .int a, .int b]) (rest := []) eT_97 rfl (by omega) rfl rfl rfl (T_X10_counted (-2) σ (by omega) hr10) ?_
      obtain rfl := Option.some.inj h
      exact xX_ret (w := xw_97) (i := 14) eT_97 rfl rfl
def B_X2_excess_22 (p2 : Int32) (v3 : Int32) (v4 : Int32) (σ : xM) : Option ((Int32 × Int32) ⊕ ((Int32))) :=
  if (σ 8 0) ≤ v4 then
    some (.inr v3)
  else
    xbd (F_X4_contains p2 v4 σ) fun r4 =>
    if r4 = 0 then
      some (.inl (v3, (v4 + 1)))
    else
      xgd (xin v4 5) (
      xgd (xin v4 5) (
      some (.inl ((v3 + (if 0 < ((σ 131 v4.toNatClampNeg) - (σ 10 v4.toNatClampNeg)) then ((σ 131 v4.toNatClampNeg) - (σ 10 v4.toNatClampNeg)) else 0)), (v4 + 1)))))
def L_X2_excess_22 (p2 : Int32) (v3 : Int32) (v4 : Int32) (σ : xM) : Option ((Int32)) := xloop (fun s : Int32 × Int32 => B_X2_excess_22 p2 s.1 s.2 σ) 6000 (v3, v4)
set_option maxHeartbeats 1000000 in
set_option maxRecDepth 20000 in
theorem TB_X2_excess_22 {d : Nat} {o : Option Value × xM} (p2 : Int32) (v3 : Int32) (v4 : Int32) (σ : xM) {q : (Int32 × Int32) ⊕ ((Int32))} (hd : 3 ≤ d) (h : B_X2_excess_22 p2 v3 v4 σ = some q) (hB : ∀ s', q = .inl s' → ∀ (z1 : Value), xX xT xLn d 31 22 [.ref 134, z1, .int p2, .int s'.1, .int s'.2] [] σ o) (hE : ∀ e', q = .inr e' → ∀ (z0 z1 z2 z4 : Value), xX xT xLn d 31 52 [z0, z1, z2, .int e', z4] [] σ o) (z1 : Value) : xX xT xLn d 31 22 [.ref 134, z1, .int p2, .int v3, .int v4] [] σ o := by
  unfold B_X2_excess_22 at h
  refine xX_blk (w := xw_31) eT_31 6 22 (ls' := [.ref 134, .null, .int p2, .int v3, .int v4]) (st' := [.int (σ 8 0), .int v4]) (σ' := σ) rfl ?_
  refine xX_ite (c := (σ 8 0) ≤ v4) (w := xw_31) (i := 28) (a := 52) (b := 29) (st' := []) eT_31 rfl rfl (fun hc3 => ?_) (fun hc3 => ?_)
  · rw [if_pos hc3] at h
    obtain rfl := Option.some.inj h
    exact hE v3 rfl _ _ _ _
  · rw [if_neg hc3] at h
    refine xX_blk (w := xw_31) eT_31 2 29 (ls' := [.ref 134, .null, .int p2, .int v3, .int v4]) (st' := [.int v4, .int p2]) (σ' := σ) rfl ?_
    obtain ⟨r4, hr4, h⟩ := xbd_inv h
    refine xX_c1 (w := xw_31) (i := 31) (ls := [.ref 134, .null, .int p2, .int v3, .int v4]) (rest := []) eT_31 rfl (by omega) rfl rfl rfl (T_X4_contains p2 v4 σ (by omega) hr4) ?_
    refine xX_ite (c := r4 = 0) (w := xw_31) (i := 32) (a := 50) (b := 33) (st' := []) eT_31 rfl rfl (fun hc5 => ?_) (fun hc5 => ?_)
    · rw [if_pos hc5] at h
      refine xX_blk (w := xw_31) eT_31 1 50 (ls' := [.ref 134, .null, .int p2, .int v3, .int (v4 + 1)]) (st' := []) (σ' := σ) rfl ?_
      refine xX_jmp (w := xw_31) (i := 51) (a := 22) (st' := []) eT_31 rfl rfl ?_
      obtain rfl := Option.some.inj h
      exact hB (v3, (v4 + 1)) rfl _
    · rw [if_neg hc5] at h
      refine xX_blk (w := xw_31) eT_31 6 33 (ls' := [.ref 134, .null, .int p2, .int v3, .int v4]) (st' := [.int v4, .ref 131, .int 0, .int v3]) (σ' := σ) rfl ?_
      obtain ⟨hi6, h⟩ := xgd_inv h
      refine xX_one (w := xw_31) (i := 39) (ls' := [.ref 134, .null, .int p2, .int v3, .int v4]) (st' := [.int (σ 131 v4.toNatClampNeg), .int 0, .int v3]) (σ' := σ) eT_31 rfl (e_iald xs_131 hi6) ?_
      refine xX_blk (w := xw_31) eT_31 5 40 (ls' := [.ref 134, .null, .int p2, .int v3, .int v4]) (st' := [.int v4, .ref 10, .int (σ 131 v4.toNatClampNeg), .int 0, .int v3]) (σ' := σ) rfl ?_
      obtain ⟨hi7, h⟩ := xgd_inv h
      refine xX_one (w := xw_31) (i := 45) (ls' := [.ref 134, .null, .int p2, .int v3, .int v4]) (st' := [.int (σ 10 v4.toNatClampNeg), .int (σ 131 v4.toNatClampNeg), .int 0, .int v3]) (σ' := σ) eT_31 rfl (e_iald xs_10 hi7) ?_
      refine xX_blk (w := xw_31) eT_31 5 46 (ls' := [.ref 134, .null, .int p2, .int (v3 + (if 0 < ((σ 131 v4.toNatClampNeg) - (σ 10 v4.toNatClampNeg)) then ((σ 131 v4.toNatClampNeg) - (σ 10 v4.toNatClampNeg)) else 0)), .int (v4 + 1)]) (st' := []) (σ' := σ) rfl ?_
      refine xX_jmp (w := xw_31) (i := 51) (a := 22) (st' := []) eT_31 rfl rfl ?_
      obtain rfl := Option.some.inj h
      exact hB ((v3 + (if 0 < ((σ 131 v4.toNatClampNeg) - (σ 10 v4.toNatClampNeg)) then ((σ 131 v4.toNatClampNeg) - (σ 10 v4.toNatClampNeg)) else 0)), (v4 + 1)) rfl _
set_option maxHeartbeats 1000000 in
set_option maxRecDepth 20000 in
theorem TL_X2_excess_22 {d : Nat} {o : Option Value × xM} (p2 : Int32) (v3 : Int32) (v4 : Int32) (σ : xM) {e : (Int32)} (hd : 3 ≤ d) (h : L_X2_excess_22 p2 v3 v4 σ = some e) (hE : ∀ (z0 z1 z2 z4 : Value), xX xT xLn d 31 52 [z0, z1, z2, .int e, z4] [] σ o) (z1 : Value) : xX xT xLn d 31 22 [.ref 134, z1, .int p2, .int v3, .int v4] [] σ o :=
  xloop_snd (X := fun s => ∀ (z1 : Value), xX xT xLn d 31 22 [.ref 134, z1, .int p2, .int s.1, .int s.2] [] σ o) (Y := fun e' => ∀ (z0 z1 z2 z4 : Value), xX xT xLn d 31 52 [z0, z1, z2, .int e', z4] [] σ o) (fun s q hs hB hE z1 => TB_X2_excess_22 p2 s.1 s.2 σ hd hs hB hE z1) _ _ _ h hE z1
def F_X2_excess (a : Int32) (σ : xM) : Option (Int32 × xM) :=
  xbd (F_X8_notOff σ) fun r1 =>
  xbd (F_X4_look_11 (r1 &&& (a ^^^ (-1))) σ) fun r2 =>
  xbd (L_X2_excess_22 (r1 &&& (a ^^^ (-1))) 0 0 r2.2) fun e8 =>
  some (e8, r2.2)
set_option maxHeartbeats 1000000 in
set_option maxRecDepth 20000 in
theorem T_X2_excess (a : Int32) (σ : xM) {d : Nat} {q : Int32 × xM} (hd : 3 ≤ d) (h : F_X2_excess a σ = some q) : xR xT xLn d 31 [.ref 134, .int a] σ (some (.int q.1), q.2) := by
  unfold F_X2_excess at h
  show xX xT xLn d 31 0 [.ref 134, .int a, .null, .null, .null] [] σ _
  refine xX_blk (w := xw_31) eT_31 3 0 (ls' := [.ref 134, .int a, .null, .null, .null]) (st' := [.ref 8]) (σ' := σ) rfl ?_
  obtain ⟨r1, hr1, h⟩ := xbd_inv h
  refine xX_c1 (w := xw_31) (i := 3) (ls := [.ref 134, .int a, .null, .null, .null]) (rest := []) eT_31 rfl (by omega) rfl rfl rfl (T_X8_notOff σ (by omega) hr1) ?_
  refine xX_blk (w := xw_31) eT_31 12 4 (ls' := [.ref 134, .int a, .int (r1 &&& (a ^^^ (-1))), .null, .null]) (st' := [.ref 11, .int (r1 &&& (a ^^^ (-1))), .ref 129]) (σ' := σ) rfl ?_
  obtain ⟨r2, hr2, h⟩ := xbd_inv h
  refine xX_c1 (w := xw_31) (i := 16) (ls := [.ref 134, .int a, .int (r1 &&& (a ^^^ (-1))), .null, .null]) (rest := []) eT_31 rfl (by omega) rfl rfl rfl (T_X4_look_11 (r1 &&& (a ^^^ (-1))) σ (by omega) hr2) ?_
  refine xX_blk (w := xw_31) eT_31 5 17 (ls' := [.ref 134, .int a, .int (r1 &&& (a ^^^ (-1))), .int 0, .int 0]) (st' := []) (σ' := r2.2) rfl ?_
  obtain ⟨e8, he8, h⟩ := xbd_inv h
  refine TL_X2_excess_22 (r1 &&& (a ^^^ (-1))) 0 0 r2.2 (by omega) he8 (fun z0 z1 z2 z4 => ?_) _
  refine xX_blk (w := xw_31) eT_31 2 52 (ls' := [.null, .null, .null, .int e8, .null]) (st' := [.int e8]) (σ' := r2.2) rfl ?_
  obtain rfl := Option.some.inj h
  exact xX_ret (w := xw_31) (i := 54) eT_31 rfl rfl
def B_X2_worstSet_11 (p1 : Int32) (p2 : Int32) (v3 : Int32) (v4 : Int32) (v5 : Int32) (σ : xM) : Option ((Int32 × Int32 × Int32 × xM) ⊕ ((Int32 × xM))) :=
  if p2 < v5 then
    some (.inr (v3, σ))
  else
    if (v5 &&& (p2 ^^^ (-1))) = 0 then
      xbd (F_J_bitCount v5 σ) fun r4 =>
      if r4 = p1 then
        xbd (F_X2_excess v5 σ) fun r6 =>
        if r6.1 ≤ v4 then
          some (.inl (v3, v4, (v5 + 1), r6.2))
        else
          some (.inl (v5, r6.1, (v5 + 1), r6.2))
      else
        some (.inl (v3, v4, (v5 + 1), σ))
    else
      some (.inl (v3, v4, (v5 + 1), σ))
def L_X2_worstSet_11 (p1 : Int32) (p2 : Int32) (v3 : Int32) (v4 : Int32) (v5 : Int32) (σ : xM) : Option ((Int32 × xM)) := xloop (fun s : Int32 × Int32 × Int32 × xM => B_X2_worstSet_11 p1 p2 s.1 s.2.1 s.2.2.1 s.2.2.2) 6000 (v3, v4, v5, σ)
set_option maxHeartbeats 1000000 in
set_option maxRecDepth 20000 in
theorem TB_X2_worstSet_11 {d : Nat} {o : Option Value × xM} (p1 : Int32) (p2 : Int32) (v3 : Int32) (v4 : Int32) (v5 : Int32) (σ : xM) {q : (Int32 × Int32 × Int32 × xM) ⊕ ((Int32 × xM))} (hd : 4 ≤ d) (h : B_X2_worstSet_11 p1 p2 v3 v4 v5 σ = some q) (hB : ∀ s', q = .inl s' → ∀ (z6 : Value), xX xT xLn d 30 11 [.ref 134, .int p1, .int p2, .int s'.1, .int s'.2.1, .int s'.2.2.1, z6] [] s'.2.2.2 o) (hE : ∀ e', q = .inr e' → ∀ (z0 z1 z2 z4 z5 z6 : Value), xX xT xLn d 30 39 [z0, z1, z2, .int e'.1, z4, z5, z6] [] e'.2 o) (z6 : Value) : xX xT xLn d 30 11 [.ref 134, .int p1, .int p2, .int v3, .int v4, .int v5, z6] [] σ o := by
  unfold B_X2_worstSet_11 at h
  refine xX_blk (w := xw_30) eT_30 3 11 (ls' := [.ref 134, .int p1, .int p2, .int v3, .int v4, .int v5, .null]) (st' := [.int p2, .int v5]) (σ' := σ) rfl ?_
  refine xX_ite (c := p2 < v5) (w := xw_30) (i := 14) (a := 39) (b := 15) (st' := []) eT_30 rfl rfl (fun hc2 => ?_) (fun hc2 => ?_)
  · rw [if_pos hc2] at h
    obtain rfl := Option.some.inj h
    exact hE (v3, σ) rfl _ _ _ _ _ _
  · rw [if_neg hc2] at h
    refine xX_blk (w := xw_30) eT_30 5 15 (ls' := [.ref 134, .int p1, .int p2, .int v3, .int v4, .int v5, .null]) (st' := [.int (v5 &&& (p2 ^^^ (-1)))]) (σ' := σ) rfl ?_
    refine xX_ite (c := (v5 &&& (p2 ^^^ (-1))) = 0) (w := xw_30) (i := 20) (a := 21) (b := 37) (st' := []) eT_30 rfl rfl (fun hc3 => ?_) (fun hc3 => ?_)
    · rw [if_pos hc3] at h
      refine xX_blk (w := xw_30) eT_30 1 21 (ls' := [.ref 134, .int p1, .int p2, .int v3, .int v4, .int v5, .null]) (st' := [.int v5]) (σ' := σ) rfl ?_
      obtain ⟨r4, hr4, h⟩ := xbd_inv h
      refine xX_c1 (w := xw_30) (i := 22) (ls := [.ref 134, .int p1, .int p2, .int v3, .int v4, .int v5, .null]) (rest := []) eT_30 rfl (by omega) rfl rfl rfl (T_J_bitCount v5 σ (by omega) hr4) ?_
      refine xX_blk (w := xw_30) eT_30 1 23 (ls' := [.ref 134, .int p1, .int p2, .int v3, .int v4, .int v5, .null]) (st' := [.int p1, .int r4]) (σ' := σ) rfl ?_
      refine xX_ite (c := r4 = p1) (w := xw_30) (i := 24) (a := 26) (b := 25) (st' := []) eT_30 rfl rfl (fun hc5 => ?_) (fun hc5 => ?_)
      · rw [if_pos hc5] at h
        refine xX_blk (w := xw_30) eT_30 2 26 (ls' := [.ref 134, .int p1, .int p2, .int v3, .int v4, .int v5, .null]) (st' := [.int v5, .ref 134]) (σ' := σ) rfl ?_
        obtain ⟨r6, hr6, h⟩ := xbd_inv h
        refine xX_c1 (w := xw_30) (i := 28) (ls := [.ref 134, .int p1, .int p2, .int v3, .int v4, .int v5, .null]) (rest := []) eT_30 rfl (by omega) rfl rfl rfl (T_X2_excess v5 σ (by omega) hr6) ?_
        refine xX_blk (w := xw_30) eT_30 3 29 (ls' := [.ref 134, .int p1, .int p2, .int v3, .int v4, .int v5, .int r6.1]) (st' := [.int v4, .int r6.1]) (σ' := r6.2) rfl ?_
        refine xX_ite (c := r6.1 ≤ v4) (w := xw_30) (i := 32) (a := 37) (b := 33) (st' := []) eT_30 rfl rfl (fun hc7 => ?_) (fun hc7 => ?_)
        · rw [if_pos hc7] at h
          refine xX_blk (w := xw_30) eT_30 1 37 (ls' := [.ref 134, .int p1, .int p2, .int v3, .int v4, .int (v5 + 1), .int r6.1]) (st' := []) (σ' := r6.2) rfl ?_
          refine xX_jmp (w := xw_30) (i := 38) (a := 11) (st' := []) eT_30 rfl rfl ?_
          obtain rfl := Option.some.inj h
          exact hB (v3, v4, (v5 + 1), r6.2) rfl _
        · rw [if_neg hc7] at h
          refine xX_blk (w := xw_30) eT_30 5 33 (ls' := [.ref 134, .int p1, .int p2, .int v5, .int r6.1, .int (v5 + 1), .int r6.1]) (st' := []) (σ' := r6.2) rfl ?_
          refine xX_jmp (w := xw_30) (i := 38) (a := 11) (st' := []) eT_30 rfl rfl ?_
          obtain rfl := Option.some.inj h
          exact hB (v5, r6.1, (v5 + 1), r6.2) rfl _
      · rw [if_neg hc5] at h
        refine xX_jmp (w := xw_30) (i := 25) (a := 37) (st' := []) eT_30 rfl rfl ?_
        refine xX_blk (w := xw_30) eT_30 1 37 (ls' := [.ref 134, .int p1, .int p2, .int v3, .int v4, .int (v5 + 1), .null]) (st' := []) (σ' := σ) rfl ?_
        refine xX_jmp (w := xw_30) (i := 38) (a := 11) (st' := []) eT_30 rfl rfl ?_
        obtain rfl := Option.some.inj h
        exact hB (v3, v4, (v5 + 1), σ) rfl _
    · rw [if_neg hc3] at h
      refine xX_blk (w := xw_30) eT_30 1 37 (ls' := [.ref 134, .int p1, .int p2, .int v3, .int v4, .int (v5 + 1), .null]) (st' := []) (σ' := σ) rfl ?_
      refine xX_jmp (w := xw_30) (i := 38) (a := 11) (st' := []) eT_30 rfl rfl ?_
      obtain rfl := Option.some.inj h
      exact hB (v3, v4, (v5 + 1), σ) rfl _
set_option maxHeartbeats 1000000 in
set_option maxRecDepth 20000 in
theorem TL_X2_worstSet_11 {d : Nat} {o : Option Value × xM} (p1 : Int32) (p2 : Int32) (v3 : Int32) (v4 : Int32) (v5 : Int32) (σ : xM) {e : (Int32 × xM)} (hd : 4 ≤ d) (h : L_X2_worstSet_11 p1 p2 v3 v4 v5 σ = some e) (hE : ∀ (z0 z1 z2 z4 z5 z6 : Value), xX xT xLn d 30 39 [z0, z1, z2, .int e.1, z4, z5, z6] [] e.2 o) (z6 : Value) : xX xT xLn d 30 11 [.ref 134, .int p1, .int p2, .int v3, .int v4, .int v5, z6] [] σ o :=
  xloop_snd (X := fun s => ∀ (z6 : Value), xX xT xLn d 30 11 [.ref 134, .int p1, .int p2, .int s.1, .int s.2.1, .int s.2.2.1, z6] [] s.2.2.2 o) (Y := fun e' => ∀ (z0 z1 z2 z4 z5 z6 : Value), xX xT xLn d 30 39 [z0, z1, z2, .int e'.1, z4, z5, z6] [] e'.2 o) (fun s q hs hB hE z6 => TB_X2_worstSet_11 p1 p2 s.1 s.2.1 s.2.2.1 s.2.2.2 hd hs hB hE z6) _ _ _ h hE z6
def F_X2_worstSet (a : Int32) (σ : xM) : Option (Int32 × xM) :=
  xbd (F_X8_notOff σ) fun r1 =>
  xbd (L_X2_worstSet_11 a r1 (-1) (-1) 1 σ) fun e8 =>
  some (e8.1, e8.2)
set_option maxHeartbeats 1000000 in
set_option maxRecDepth 20000 in
theorem T_X2_worstSet (a : Int32) (σ : xM) {d : Nat} {q : Int32 × xM} (hd : 4 ≤ d) (h : F_X2_worstSet a σ = some q) : xR xT xLn d 30 [.ref 134, .int a] σ (some (.int q.1), q.2) := by
  unfold F_X2_worstSet at h
  show xX xT xLn d 30 0 [.ref 134, .int a, .null, .null, .null, .null, .null] [] σ _
  refine xX_blk (w := xw_30) eT_30 3 0 (ls' := [.ref 134, .int a, .null, .null, .null, .null, .null]) (st' := [.ref 8]) (σ' := σ) rfl ?_
  obtain ⟨r1, hr1, h⟩ := xbd_inv h
  refine xX_c1 (w := xw_30) (i := 3) (ls := [.ref 134, .int a, .null, .null, .null, .null, .null]) (rest := []) eT_30 rfl (by omega) rfl rfl rfl (T_X8_notOff σ (by omega) hr1) ?_
  refine xX_blk (w := xw_30) eT_30 7 4 (ls' := [.ref 134, .int a, .int r1, .int (-1), .int (-1), .int 1, .null]) (st' := []) (σ' := σ) rfl ?_
  obtain ⟨e8, he8, h⟩ := xbd_inv h
  refine TL_X2_worstSet_11 a r1 (-1) (-1) 1 σ (by omega) he8 (fun z0 z1 z2 z4 z5 z6 => ?_) _
  refine xX_blk (w := xw_30) eT_30 2 39 (ls' := [.null, .null, .null, .int e8.1, .null, .null, .null]) (st' := [.int e8.1]) (σ' := e8.2) rfl ?_
  obtain rfl := Option.some.inj h
  exact xX_ret (w := xw_30) (i := 41) eT_30 rfl rfl
def F_X10_worst (a : Int32) (b : Int32) (σ : xM) : Option (Int32 × xM) :=
  xbd (F_X10_within a 1 2 σ) fun r1 =>
  if r1 = 0 then
    xbd (F_X10_counted (-2) σ) fun r3 =>
    some (r3.1, r3.2)
  else
    xbd (F_X10_within b 0 1 σ) fun r4 =>
    if r4 = 0 then
      xbd (F_X10_counted (-2) σ) fun r6 =>
      some (r6.1, r6.2)
    else
      xbd (F_X2_worstSet a σ) fun r7 =>
      if r7.1 = (-1) then
        some (r7.1, r7.2)
      else
        if b = 1 then
          some (r7.1, r7.2)
        else
          xbd (F_X2_excess r7.1 r7.2) fun r10 =>
          some (r10.1, r10.2)
set_option maxHeartbeats 1000000 in
set_option maxRecDepth 20000 in
theorem T_X10_worst (a : Int32) (b : Int32) (σ : xM) {d : Nat} {q : Int32 × xM} (hd : 5 ≤ d) (h : F_X10_worst a b σ = some q) : xR xT xLn d 98 [.ref 0, .int a, .int b] σ (some (.int q.1), q.2) := by
  unfold F_X10_worst at h
  show xX xT xLn d 98 0 [.ref 0, .int a, .int b, .null] [] σ _
  refine xX_blk (w := xw_98) eT_98 3 0 (ls' := [.ref 0, .int a, .int b, .null]) (st' := [.int 2, .int 1, .int a]) (σ' := σ) rfl ?_
  obtain ⟨r1, hr1, h⟩ := xbd_inv h
  refine xX_c1 (w := xw_98) (i := 3) (ls := [.ref 0, .int a, .int b, .null]) (rest := []) eT_98 rfl (by omega) rfl rfl rfl (T_X10_within a 1 2 σ (by omega) hr1) ?_
  refine xX_ite (c := r1 = 0) (w := xw_98) (i := 4) (a := 10) (b := 5) (st' := []) eT_98 rfl rfl (fun hc2 => ?_) (fun hc2 => ?_)
  · rw [if_pos hc2] at h
    refine xX_blk (w := xw_98) eT_98 2 10 (ls' := [.ref 0, .int a, .int b, .null]) (st' := [.int (-2), .ref 0]) (σ' := σ) rfl ?_
    obtain ⟨r3, hr3, h⟩ := xbd_inv h
    refine xX_c1 (w := xw_98) (i := 12) (ls := [.ref 0, .int a, .int b, .null]) (rest := []) eT_98 rfl (by omega) rfl rfl rfl (T_X10_counted (-2) σ (by omega) hr3) ?_
    obtain rfl := Option.some.inj h
    exact xX_ret (w := xw_98) (i := 13) eT_98 rfl rfl
  · rw [if_neg hc2] at h
    refine xX_blk (w := xw_98) eT_98 3 5 (ls' := [.ref 0, .int a, .int b, .null]) (st' := [.int 1, .int 0, .int b]) (σ' := σ) rfl ?_
    obtain ⟨r4, hr4, h⟩ := xbd_inv h
    refine xX_c1 (w := xw_98) (i := 8) (ls := [.ref 0, .int a, .int b, .null]) (rest := []) eT_98 rfl (by omega) rfl rfl rfl (T_X10_within b 0 1 σ (by omega) hr4) ?_
    refine xX_ite (c := r4 = 0) (w := xw_98) (i := 9) (a := 10) (b := 14) (st' := []) eT_98 rfl rfl (fun hc5 => ?_) (fun hc5 => ?_)
    · rw [if_pos hc5] at h
      refine xX_blk (w := xw_98) eT_98 2 10 (ls' := [.ref 0, .int a, .int b, .null]) (st' := [.int (-2), .ref 0]) (σ' := σ) rfl ?_
      obtain ⟨r6, hr6, h⟩ := xbd_inv h
      refine xX_c1 (w := xw_98) (i := 12) (ls := [.ref 0, .int a, .int b, .null]) (rest := []) eT_98 rfl (by omega) rfl rfl rfl (T_X10_counted (-2) σ (by omega) hr6) ?_
      obtain rfl := Option.some.inj h
      exact xX_ret (w := xw_98) (i := 13) eT_98 rfl rfl
    · rw [if_neg hc5] at h
      refine xX_blk (w := xw_98) eT_98 3 14 (ls' := [.ref 0, .int a, .int b, .null]) (st' := [.int a, .ref 134]) (σ' := σ) rfl ?_
      obtain ⟨r7, hr7, h⟩ := xbd_inv h
      refine xX_c1 (w := xw_98) (i := 17) (ls := [.ref 0, .int a, .int b, .null]) (rest := []) eT_98 rfl (by omega) rfl rfl rfl (T_X2_worstSet a σ (by omega) hr7) ?_
      refine xX_blk (w := xw_98) eT_98 3 18 (ls' := [.ref 0, .int a, .int b, .int r7.1]) (st' := [.int (-1), .int r7.1]) (σ' := r7.2) rfl ?_
      refine xX_ite (c := r7.1 = (-1)) (w := xw_98) (i := 21) (a := 25) (b := 22) (st' := []) eT_98 rfl rfl (fun hc8 => ?_) (fun hc8 => ?_)
      · rw [if_pos hc8] at h
        refine xX_blk (w := xw_98) eT_98 1 25 (ls' := [.ref 0, .int a, .int b, .int r7.1]) (st' := [.int r7.1]) (σ' := r7.2) rfl ?_
        refine xX_jmp (w := xw_98) (i := 26) (a := 31) (st' := [.int r7.1]) eT_98 rfl rfl ?_
        obtain rfl := Option.some.inj h
        exact xX_ret (w := xw_98) (i := 31) eT_98 rfl rfl
      · rw [if_neg hc8] at h
        refine xX_blk (w := xw_98) eT_98 2 22 (ls' := [.ref 0, .int a, .int b, .int r7.1]) (st' := [.int 1, .int b]) (σ' := r7.2) rfl ?_
        refine xX_ite (c := b = 1) (w := xw_98) (i := 24) (a := 25) (b := 27) (st' := []) eT_98 rfl rfl (fun hc9 => ?_) (fun hc9 => ?_)
        · rw [if_pos hc9] at h
          refine xX_blk (w := xw_98) eT_98 1 25 (ls' := [.ref 0, .int a, .int b, .int r7.1]) (st' := [.int r7.1]) (σ' := r7.2) rfl ?_
          refine xX_jmp (w := xw_98) (i := 26) (a := 31) (st' := [.int r7.1]) eT_98 rfl rfl ?_
          obtain rfl := Option.some.inj h
          exact xX_ret (w := xw_98) (i := 31) eT_98 rfl rfl
        · rw [if_neg hc9] at h
          refine xX_blk (w := xw_98) eT_98 3 27 (ls' := [.ref 0, .int a, .int b, .int r7.1]) (st' := [.int r7.1, .ref 134]) (σ' := r7.2) rfl ?_
          obtain ⟨r10, hr10, h⟩ := xbd_inv h
          refine xX_c1 (w := xw_98) (i := 30) (ls := [.ref 0, .int a, .int b, .int r7.1]) (rest := []) eT_98 rfl (by omega) rfl rfl rfl (T_X2_excess r7.1 r7.2 (by omega) hr10) ?_
          obtain rfl := Option.some.inj h
          exact xX_ret (w := xw_98) (i := 31) eT_98 rfl rfl
def F_X6_append (a : Int32) (σ : xM) : Option (Int32 × xM) :=
  if (σ 137 0) < 120 then
    xgd (xin (σ 137 0) 120) (
    xlet (xup σ 138 (σ 137 0).toNatClampNeg a) fun σ3 =>
    xlet (xup σ3 137 0 ((σ3 137 0) + 1)) fun σ4 =>
    some ((σ4 137 0), σ4))
  else
    some ((-4), σ)
set_option maxHeartbeats 1000000 in
set_option maxRecDepth 20000 in
theorem T_X6_append (a : Int32) (σ : xM) {d : Nat} {q : Int32 × xM} (hd : 0 ≤ d) (h : F_X6_append a σ = some q) : xR xT xLn d 53 [.ref 137, .int a] σ (some (.int q.1), q.2) := by
  unfold F_X6_append at h
  show xX xT xLn d 53 0 [.ref 137, .int a] [] σ _
  refine xX_blk (w := xw_53) eT_53 3 0 (ls' := [.ref 137, .int a]) (st' := [.int 120, .int (σ 137 0)]) (σ' := σ) rfl ?_
  refine xX_ite (c := (σ 137 0) < 120) (w := xw_53) (i := 3) (a := 6) (b := 4) (st' := []) eT_53 rfl rfl (fun hc1 => ?_) (fun hc1 => ?_)
  · rw [if_pos hc1] at h
    refine xX_blk (w := xw_53) eT_53 5 6 (ls' := [.ref 137, .int a]) (st' := [.int a, .int (σ 137 0), .ref 138]) (σ' := σ) rfl ?_
    obtain ⟨hi2, h⟩ := xgd_inv h
    refine xX_one (w := xw_53) (i := 11) (ls' := [.ref 137, .int a]) (st' := []) (σ' := xup σ 138 (σ 137 0).toNatClampNeg a) eT_53 rfl (e_iast xs_138 hi2) ?_
    obtain ⟨σ3, eσ3, h⟩ := xlet_inv h
    rw [← eσ3]
    refine xX_blk (w := xw_53) eT_53 5 12 (ls' := [.ref 137, .int a]) (st' := [.int ((σ3 137 0) + 1), .ref 137]) (σ' := σ3) rfl ?_
    refine xX_blk (w := xw_53) eT_53 1 17 (ls' := [.ref 137, .int a]) (st' := []) (σ' := xup σ3 137 0 ((σ3 137 0) + 1)) rfl ?_
    obtain ⟨σ4, eσ4, h⟩ := xlet_inv h
    rw [← eσ4]
    refine xX_blk (w := xw_53) eT_53 2 18 (ls' := [.ref 137, .int a]) (st' := [.int (σ4 137 0)]) (σ' := σ4) rfl ?_
    obtain rfl := Option.some.inj h
    exact xX_ret (w := xw_53) (i := 20) eT_53 rfl rfl
  · rw [if_neg hc1] at h
    refine xX_blk (w := xw_53) eT_53 1 4 (ls' := [.ref 137, .int a]) (st' := [.int (-4)]) (σ' := σ) rfl ?_
    obtain rfl := Option.some.inj h
    exact xX_ret (w := xw_53) (i := 5) eT_53 rfl rfl
def F_X10_type (a : Int32) (σ : xM) : Option (Int32 × xM) :=
  xbd (F_X10_within a 0 127 σ) fun r1 =>
  if r1 = 0 then
    xbd (F_X10_counted (-2) σ) fun r3 =>
    some (r3.1, r3.2)
  else
    xbd (F_X6_append a σ) fun r4 =>
    xbd (F_X10_counted r4.1 r4.2) fun r5 =>
    some (r5.1, r5.2)
set_option maxHeartbeats 1000000 in
set_option maxRecDepth 20000 in
theorem T_X10_type (a : Int32) (σ : xM) {d : Nat} {q : Int32 × xM} (hd : 1 ≤ d) (h : F_X10_type a σ = some q) : xR xT xLn d 99 [.ref 0, .int a] σ (some (.int q.1), q.2) := by
  unfold F_X10_type at h
  show xX xT xLn d 99 0 [.ref 0, .int a] [] σ _
  refine xX_blk (w := xw_99) eT_99 3 0 (ls' := [.ref 0, .int a]) (st' := [.int 127, .int 0, .int a]) (σ' := σ) rfl ?_
  obtain ⟨r1, hr1, h⟩ := xbd_inv h
  refine xX_c1 (w := xw_99) (i := 3) (ls := [.ref 0, .int a]) (rest := []) eT_99 rfl (by omega) rfl rfl rfl (T_X10_within a 0 127 σ (by omega) hr1) ?_
  refine xX_ite (c := r1 = 0) (w := xw_99) (i := 4) (a := 5) (b := 9) (st' := []) eT_99 rfl rfl (fun hc2 => ?_) (fun hc2 => ?_)
  · rw [if_pos hc2] at h
    refine xX_blk (w := xw_99) eT_99 2 5 (ls' := [.ref 0, .int a]) (st' := [.int (-2), .ref 0]) (σ' := σ) rfl ?_
    obtain ⟨r3, hr3, h⟩ := xbd_inv h
    refine xX_c1 (w := xw_99) (i := 7) (ls := [.ref 0, .int a]) (rest := []) eT_99 rfl (by omega) rfl rfl rfl (T_X10_counted (-2) σ (by omega) hr3) ?_
    obtain rfl := Option.some.inj h
    exact xX_ret (w := xw_99) (i := 8) eT_99 rfl rfl
  · rw [if_neg hc2] at h
    refine xX_blk (w := xw_99) eT_99 4 9 (ls' := [.ref 0, .int a]) (st' := [.int a, .ref 137, .ref 0]) (σ' := σ) rfl ?_
    obtain ⟨r4, hr4, h⟩ := xbd_inv h
    refine xX_c1 (w := xw_99) (i := 13) (ls := [.ref 0, .int a]) (rest := [.ref 0]) eT_99 rfl (by omega) rfl rfl rfl (T_X6_append a σ (by omega) hr4) ?_
    obtain ⟨r5, hr5, h⟩ := xbd_inv h
    refine xX_c1 (w := xw_99) (i := 14) (ls := [.ref 0, .int a]) (rest := []) eT_99 rfl (by omega) rfl rfl rfl (T_X10_counted r4.1 r4.2 (by omega) hr5) ?_
    obtain rfl := Option.some.inj h
    exact xX_ret (w := xw_99) (i := 15) eT_99 rfl rfl
def F_X6_emptied (σ : xM) : Option (Int32 × xM) :=
  xlet (xup σ 137 0 0) fun σ1 =>
  some ((σ 137 0), σ1)
set_option maxHeartbeats 1000000 in
set_option maxRecDepth 20000 in
theorem T_X6_emptied (σ : xM) {d : Nat} {q : Int32 × xM} (hd : 0 ≤ d) (h : F_X6_emptied σ = some q) : xR xT xLn d 54 [.ref 137] σ (some (.int q.1), q.2) := by
  unfold F_X6_emptied at h
  show xX xT xLn d 54 0 [.ref 137, .null] [] σ _
  refine xX_blk (w := xw_54) eT_54 5 0 (ls' := [.ref 137, .int (σ 137 0)]) (st' := [.int 0, .ref 137]) (σ' := σ) rfl ?_
  refine xX_blk (w := xw_54) eT_54 1 5 (ls' := [.ref 137, .int (σ 137 0)]) (st' := []) (σ' := xup σ 137 0 0) rfl ?_
  obtain ⟨σ1, eσ1, h⟩ := xlet_inv h
  rw [← eσ1]
  refine xX_blk (w := xw_54) eT_54 1 6 (ls' := [.ref 137, .int (σ 137 0)]) (st' := [.int (σ 137 0)]) (σ' := σ1) rfl ?_
  obtain rfl := Option.some.inj h
  exact xX_ret (w := xw_54) (i := 7) eT_54 rfl rfl
def F_X10_clear (σ : xM) : Option (Int32 × xM) :=
  xbd (F_X6_emptied σ) fun r1 =>
  some (r1.1, r1.2)
set_option maxHeartbeats 1000000 in
set_option maxRecDepth 20000 in
theorem T_X10_clear (σ : xM) {d : Nat} {q : Int32 × xM} (hd : 1 ≤ d) (h : F_X10_clear σ = some q) : xR xT xLn d 100 [.ref 0] σ (some (.int q.1), q.2) := by
  unfold F_X10_clear at h
  show xX xT xLn d 100 0 [.ref 0] [] σ _
  refine xX_blk (w := xw_100) eT_100 2 0 (ls' := [.ref 0]) (st' := [.ref 137]) (σ' := σ) rfl ?_
  obtain ⟨r1, hr1, h⟩ := xbd_inv h
  refine xX_c1 (w := xw_100) (i := 2) (ls := [.ref 0]) (rest := []) eT_100 rfl (by omega) rfl rfl rfl (T_X6_emptied σ (by omega) hr1) ?_
  obtain rfl := Option.some.inj h
  exact xX_ret (w := xw_100) (i := 3) eT_100 rfl rfl
def F_X6_numbersBehind (a : Int32) (σ : xM) : Option (Int32) :=
  if a = 97 then
    some 1
  else if a = 100 then
    some 1
  else if a = 108 then
    some 3
  else if a = 109 then
    some 2
  else if a = 111 then
    some 3
  else if a = 112 then
    some 2
  else if a = 115 then
    some 2
  else if a = 116 then
    some 1
  else if a = 120 then
    some 1
  else 
  some 0
set_option maxHeartbeats 1000000 in
set_option maxRecDepth 20000 in
theorem T_X6_numbersBehind (a : Int32) (σ : xM) {d : Nat} {q : Int32} (hd : 0 ≤ d) (h : F_X6_numbersBehind a σ = some q) : xR xT xLn d 60 [.int a] σ (some (.int q), σ) := by
  unfold F_X6_numbersBehind at h
  show xX xT xLn d 60 0 [.int a] [] σ _
  refine xX_blk (w := xw_60) eT_60 1 0 (ls' := [.int a]) (st' := [.int a]) (σ' := σ) rfl ?_
  by_cases hc1 : a = 97
  · rw [if_pos hc1] at h
    refine xX_jmp (w := xw_60) (i := 1) (a := 2) (st' := []) eT_60 rfl (e_tsw (by rw [hc1]; decide)) ?_
    refine xX_blk (w := xw_60) eT_60 1 2 (ls' := [.int a]) (st' := [.int 1]) (σ' := σ) rfl ?_
    obtain rfl := Option.some.inj h
    exact xX_ret (w := xw_60) (i := 3) eT_60 rfl rfl
  rw [if_neg hc1] at h
  by_cases hc2 : a = 100
  · rw [if_pos hc2] at h
    refine xX_jmp (w := xw_60) (i := 1) (a := 2) (st' := []) eT_60 rfl (e_tsw (by rw [hc2]; decide)) ?_
    refine xX_blk (w := xw_60) eT_60 1 2 (ls' := [.int a]) (st' := [.int 1]) (σ' := σ) rfl ?_
    obtain rfl := Option.some.inj h
    exact xX_ret (w := xw_60) (i := 3) eT_60 rfl rfl
  rw [if_neg hc2] at h
  by_cases hc3 : a = 108
  · rw [if_pos hc3] at h
    refine xX_jmp (w := xw_60) (i := 1) (a := 6) (st' := []) eT_60 rfl (e_tsw (by rw [hc3]; decide)) ?_
    refine xX_blk (w := xw_60) eT_60 1 6 (ls' := [.int a]) (st' := [.int 3]) (σ' := σ) rfl ?_
    obtain rfl := Option.some.inj h
    exact xX_ret (w := xw_60) (i := 7) eT_60 rfl rfl
  rw [if_neg hc3] at h
  by_cases hc4 : a = 109
  · rw [if_pos hc4] at h
    refine xX_jmp (w := xw_60) (i := 1) (a := 4) (st' := []) eT_60 rfl (e_tsw (by rw [hc4]; decide)) ?_
    refine xX_blk (w := xw_60) eT_60 1 4 (ls' := [.int a]) (st' := [.int 2]) (σ' := σ) rfl ?_
    obtain rfl := Option.some.inj h
    exact xX_ret (w := xw_60) (i := 5) eT_60 rfl rfl
  rw [if_neg hc4] at h
  by_cases hc5 : a = 111
  · rw [if_pos hc5] at h
    refine xX_jmp (w := xw_60) (i := 1) (a := 6) (st' := []) eT_60 rfl (e_tsw (by rw [hc5]; decide)) ?_
    refine xX_blk (w := xw_60) eT_60 1 6 (ls' := [.int a]) (st' := [.int 3]) (σ' := σ) rfl ?_
    obtain rfl := Option.some.inj h
    exact xX_ret (w := xw_60) (i := 7) eT_60 rfl rfl
  rw [if_neg hc5] at h
  by_cases hc6 : a = 112
  · rw [if_pos hc6] at h
    refine xX_jmp (w := xw_60) (i := 1) (a := 4) (st' := []) eT_60 rfl (e_tsw (by rw [hc6]; decide)) ?_
    refine xX_blk (w := xw_60) eT_60 1 4 (ls' := [.int a]) (st' := [.int 2]) (σ' := σ) rfl ?_
    obtain rfl := Option.some.inj h
    exact xX_ret (w := xw_60) (i := 5) eT_60 rfl rfl
  rw [if_neg hc6] at h
  by_cases hc7 : a = 115
  · rw [if_pos hc7] at h
    refine xX_jmp (w := xw_60) (i := 1) (a := 4) (st' := []) eT_60 rfl (e_tsw (by rw [hc7]; decide)) ?_
    refine xX_blk (w := xw_60) eT_60 1 4 (ls' := [.int a]) (st' := [.int 2]) (σ' := σ) rfl ?_
    obtain rfl := Option.some.inj h
    exact xX_ret (w := xw_60) (i := 5) eT_60 rfl rfl
  rw [if_neg hc7] at h
  by_cases hc8 : a = 116
  · rw [if_pos hc8] at h
    refine xX_jmp (w := xw_60) (i := 1) (a := 2) (st' := []) eT_60 rfl (e_tsw (by rw [hc8]; decide)) ?_
    refine xX_blk (w := xw_60) eT_60 1 2 (ls' := [.int a]) (st' := [.int 1]) (σ' := σ) rfl ?_
    obtain rfl := Option.some.inj h
    exact xX_ret (w := xw_60) (i := 3) eT_60 rfl rfl
  rw [if_neg hc8] at h
  by_cases hc9 : a = 120
  · rw [if_pos hc9] at h
    refine xX_jmp (w := xw_60) (i := 1) (a := 2) (st' := []) eT_60 rfl (e_tsw (by rw [hc9]; decide)) ?_
    refine xX_blk (w := xw_60) eT_60 1 2 (ls' := [.int a]) (st' := [.int 1]) (σ' := σ) rfl ?_
    obtain rfl := Option.some.inj h
    exact xX_ret (w := xw_60) (i := 3) eT_60 rfl rfl
  rw [if_neg hc9] at h
  refine xX_jmp (w := xw_60) (i := 1) (a := 8) (st' := []) eT_60 rfl (e_tsw (e_tswd [97, 100, 108, 109, 111, 112, 115, 116, 120] (by decide) (List.forall_mem_cons.mpr ⟨hc1, List.forall_mem_cons.mpr ⟨hc2, List.forall_mem_cons.mpr ⟨hc3, List.forall_mem_cons.mpr ⟨hc4, List.forall_mem_cons.mpr ⟨hc5, List.forall_mem_cons.mpr ⟨hc6, List.forall_mem_cons.mpr ⟨hc7, List.forall_mem_cons.mpr ⟨hc8, List.forall_mem_cons.mpr ⟨hc9, fun _ h => absurd h List.not_mem_nil⟩⟩⟩⟩⟩⟩⟩⟩⟩))) ?_
  refine xX_blk (w := xw_60) eT_60 1 8 (ls' := [.int a]) (st' := [.int 0]) (σ' := σ) rfl ?_
  obtain rfl := Option.some.inj h
  exact xX_ret (w := xw_60) (i := 9) eT_60 rfl rfl
def F_X6_begin (a : Int32) (σ : xM) : Option (xM) :=
  xgd (xin (σ 137 1) 120) (
  xlet (xup σ 139 (σ 137 1).toNatClampNeg a) fun σ2 =>
  xlet (xup σ2 137 2 0) fun σ3 =>
  xlet (xup σ3 137 3 0) fun σ4 =>
  some σ4)
set_option maxHeartbeats 1000000 in
set_option maxRecDepth 20000 in
theorem T_X6_begin (a : Int32) (σ : xM) {d : Nat} {q : xM} (hd : 0 ≤ d) (h : F_X6_begin a σ = some q) : xR xT xLn d 58 [.ref 137, .int a] σ (none, q) := by
  unfold F_X6_begin at h
  show xX xT xLn d 58 0 [.ref 137, .int a] [] σ _
  refine xX_blk (w := xw_58) eT_58 5 0 (ls' := [.ref 137, .int a]) (st' := [.int a, .int (σ 137 1), .ref 139]) (σ' := σ) rfl ?_
  obtain ⟨hi1, h⟩ := xgd_inv h
  refine xX_one (w := xw_58) (i := 5) (ls' := [.ref 137, .int a]) (st' := []) (σ' := xup σ 139 (σ 137 1).toNatClampNeg a) eT_58 rfl (e_iast xs_139 hi1) ?_
  obtain ⟨σ2, eσ2, h⟩ := xlet_inv h
  rw [← eσ2]
  refine xX_blk (w := xw_58) eT_58 2 6 (ls' := [.ref 137, .int a]) (st' := [.int 0, .ref 137]) (σ' := σ2) rfl ?_
  refine xX_blk (w := xw_58) eT_58 1 8 (ls' := [.ref 137, .int a]) (st' := []) (σ' := xup σ2 137 2 0) rfl ?_
  obtain ⟨σ3, eσ3, h⟩ := xlet_inv h
  rw [← eσ3]
  refine xX_blk (w := xw_58) eT_58 2 9 (ls' := [.ref 137, .int a]) (st' := [.int 0, .ref 137]) (σ' := σ3) rfl ?_
  refine xX_blk (w := xw_58) eT_58 1 11 (ls' := [.ref 137, .int a]) (st' := []) (σ' := xup σ3 137 3 0) rfl ?_
  obtain ⟨σ4, eσ4, h⟩ := xlet_inv h
  rw [← eσ4]
  obtain rfl := Option.some.inj h
  exact xX_ret (w := xw_58) (i := 12) eT_58 rfl rfl
def F_X6_takesDigit (a : Int32) (b : Int32) (σ : xM) : Option (Int32 × xM) :=
  xbd (F_X10_within a 48 57 σ) fun r1 =>
  if r1 = 0 then
    some (0, σ)
  else
    if (σ 137 3) < 3 then
      if (σ 137 3) = 0 then
        if (σ 137 2) < b then
          xgd (xin (((σ 137 1) * 3) + (σ 137 2)) 360) (
          xlet (xup σ 140 (((σ 137 1) * 3) + (σ 137 2)).toNatClampNeg 0) fun σ7 =>
          xlet (xup σ7 137 2 ((σ7 137 2) + 1)) fun σ8 =>
          xgd (xin ((((σ8 137 1) * 3) + (σ8 137 2)) - 1) 360) (
          xgd (xin ((((σ8 137 1) * 3) + (σ8 137 2)) - 1) 360) (
          xlet (xup σ8 140 ((((σ8 137 1) * 3) + (σ8 137 2)) - 1).toNatClampNeg ((((10 : Int32) * (σ8 140 ((((σ8 137 1) * 3) + (σ8 137 2)) - 1).toNatClampNeg)) + a) - 48)) fun σ11 =>
          xlet (xup σ11 137 3 ((σ11 137 3) + 1)) fun σ12 =>
          some (1, σ12))))
        else
          some (0, σ)
      else
        xgd (xin ((((σ 137 1) * 3) + (σ 137 2)) - 1) 360) (
        xgd (xin ((((σ 137 1) * 3) + (σ 137 2)) - 1) 360) (
        xlet (xup σ 140 ((((σ 137 1) * 3) + (σ 137 2)) - 1).toNatClampNeg ((((10 : Int32) * (σ 140 ((((σ 137 1) * 3) + (σ 137 2)) - 1).toNatClampNeg)) + a) - 48)) fun σ15 =>
        xlet (xup σ15 137 3 ((σ15 137 3) + 1)) fun σ16 =>
        some (1, σ16)))
    else
      some (0, σ)
set_option maxHeartbeats 1000000 in
set_option maxRecDepth 20000 in
theorem T_X6_takesDigit (a : Int32) (b : Int32) (σ : xM) {d : Nat} {q : Int32 × xM} (hd : 1 ≤ d) (h : F_X6_takesDigit a b σ = some q) : xR xT xLn d 59 [.ref 137, .int a, .int b] σ (some (.int q.1), q.2) := by
  unfold F_X6_takesDigit at h
  show xX xT xLn d 59 0 [.ref 137, .int a, .int b, .null] [] σ _
  refine xX_blk (w := xw_59) eT_59 3 0 (ls' := [.ref 137, .int a, .int b, .null]) (st' := [.int 57, .int 48, .int a]) (σ' := σ) rfl ?_
  obtain ⟨r1, hr1, h⟩ := xbd_inv h
  refine xX_c1 (w := xw_59) (i := 3) (ls := [.ref 137, .int a, .int b, .null]) (rest := []) eT_59 rfl (by omega) rfl rfl rfl (T_X10_within a 48 57 σ (by omega) hr1) ?_
  refine xX_ite (c := r1 = 0) (w := xw_59) (i := 4) (a := 9) (b := 5) (st' := []) eT_59 rfl rfl (fun hc2 => ?_) (fun hc2 => ?_)
  · rw [if_pos hc2] at h
    refine xX_blk (w := xw_59) eT_59 1 9 (ls' := [.ref 137, .int a, .int b, .null]) (st' := [.int 0]) (σ' := σ) rfl ?_
    obtain rfl := Option.some.inj h
    exact xX_ret (w := xw_59) (i := 10) eT_59 rfl (e_ret2 (by decide))
  · rw [if_neg hc2] at h
    refine xX_blk (w := xw_59) eT_59 3 5 (ls' := [.ref 137, .int a, .int b, .null]) (st' := [.int 3, .int (σ 137 3)]) (σ' := σ) rfl ?_
    refine xX_ite (c := (σ 137 3) < 3) (w := xw_59) (i := 8) (a := 11) (b := 9) (st' := []) eT_59 rfl rfl (fun hc3 => ?_) (fun hc3 => ?_)
    · rw [if_pos hc3] at h
      refine xX_blk (w := xw_59) eT_59 2 11 (ls' := [.ref 137, .int a, .int b, .null]) (st' := [.int (σ 137 3)]) (σ' := σ) rfl ?_
      refine xX_ite (c := (σ 137 3) = 0) (w := xw_59) (i := 13) (a := 14) (b := 37) (st' := []) eT_59 rfl rfl (fun hc4 => ?_) (fun hc4 => ?_)
      · rw [if_pos hc4] at h
        refine xX_blk (w := xw_59) eT_59 3 14 (ls' := [.ref 137, .int a, .int b, .null]) (st' := [.int b, .int (σ 137 2)]) (σ' := σ) rfl ?_
        refine xX_ite (c := (σ 137 2) < b) (w := xw_59) (i := 17) (a := 20) (b := 18) (st' := []) eT_59 rfl rfl (fun hc5 => ?_) (fun hc5 => ?_)
        · rw [if_pos hc5] at h
          refine xX_blk (w := xw_59) eT_59 10 20 (ls' := [.ref 137, .int a, .int b, .null]) (st' := [.int 0, .int (((σ 137 1) * 3) + (σ 137 2)), .ref 140]) (σ' := σ) rfl ?_
          obtain ⟨hi6, h⟩ := xgd_inv h
          refine xX_one (w := xw_59) (i := 30) (ls' := [.ref 137, .int a, .int b, .null]) (st' := []) (σ' := xup σ 140 (((σ 137 1) * 3) + (σ 137 2)).toNatClampNeg 0) eT_59 rfl (e_iast xs_140 hi6) ?_
          obtain ⟨σ7, eσ7, h⟩ := xlet_inv h
          rw [← eσ7]
          refine xX_blk (w := xw_59) eT_59 5 31 (ls' := [.ref 137, .int a, .int b, .null]) (st' := [.int ((σ7 137 2) + 1), .ref 137]) (σ' := σ7) rfl ?_
          refine xX_blk (w := xw_59) eT_59 1 36 (ls' := [.ref 137, .int a, .int b, .null]) (st' := []) (σ' := xup σ7 137 2 ((σ7 137 2) + 1)) rfl ?_
          obtain ⟨σ8, eσ8, h⟩ := xlet_inv h
          rw [← eσ8]
          refine xX_blk (w := xw_59) eT_59 17 37 (ls' := [.ref 137, .int a, .int b, .int ((((σ8 137 1) * 3) + (σ8 137 2)) - 1)]) (st' := [.int ((((σ8 137 1) * 3) + (σ8 137 2)) - 1), .ref 140, .int 10, .int ((((σ8 137 1) * 3) + (σ8 137 2)) - 1), .ref 140]) (σ' := σ8) rfl ?_
          obtain ⟨hi9, h⟩ := xgd_inv h
          refine xX_one (w := xw_59) (i := 54) (ls' := [.ref 137, .int a, .int b, .int ((((σ8 137 1) * 3) + (σ8 137 2)) - 1)]) (st' := [.int (σ8 140 ((((σ8 137 1) * 3) + (σ8 137 2)) - 1).toNatClampNeg), .int 10, .int ((((σ8 137 1) * 3) + (σ8 137 2)) - 1), .ref 140]) (σ' := σ8) eT_59 rfl (e_iald xs_140 hi9) ?_
          refine xX_blk (w := xw_59) eT_59 5 55 (ls' := [.ref 137, .int a, .int b, .int ((((σ8 137 1) * 3) + (σ8 137 2)) - 1)]) (st' := [.int ((((10 : Int32) * (σ8 140 ((((σ8 137 1) * 3) + (σ8 137 2)) - 1).toNatClampNeg)) + a) - 48), .int ((((σ8 137 1) * 3) + (σ8 137 2)) - 1), .ref 140]) (σ' := σ8) rfl ?_
          obtain ⟨hi10, h⟩ := xgd_inv h
          refine xX_one (w := xw_59) (i := 60) (ls' := [.ref 137, .int a, .int b, .int ((((σ8 137 1) * 3) + (σ8 137 2)) - 1)]) (st' := []) (σ' := xup σ8 140 ((((σ8 137 1) * 3) + (σ8 137 2)) - 1).toNatClampNeg ((((10 : Int32) * (σ8 140 ((((σ8 137 1) * 3) + (σ8 137 2)) - 1).toNatClampNeg)) + a) - 48)) eT_59 rfl (e_iast xs_140 hi10) ?_
          obtain ⟨σ11, eσ11, h⟩ := xlet_inv h
          rw [← eσ11]
          refine xX_blk (w := xw_59) eT_59 5 61 (ls' := [.ref 137, .int a, .int b, .int ((((σ8 137 1) * 3) + (σ8 137 2)) - 1)]) (st' := [.int ((σ11 137 3) + 1), .ref 137]) (σ' := σ11) rfl ?_
          refine xX_blk (w := xw_59) eT_59 1 66 (ls' := [.ref 137, .int a, .int b, .int ((((σ8 137 1) * 3) + (σ8 137 2)) - 1)]) (st' := []) (σ' := xup σ11 137 3 ((σ11 137 3) + 1)) rfl ?_
          obtain ⟨σ12, eσ12, h⟩ := xlet_inv h
          rw [← eσ12]
          refine xX_blk (w := xw_59) eT_59 1 67 (ls' := [.ref 137, .int a, .int b, .int ((((σ8 137 1) * 3) + (σ8 137 2)) - 1)]) (st' := [.int 1]) (σ' := σ12) rfl ?_
          obtain rfl := Option.some.inj h
          exact xX_ret (w := xw_59) (i := 68) eT_59 rfl (e_ret2 (by decide))
        · rw [if_neg hc5] at h
          refine xX_blk (w := xw_59) eT_59 1 18 (ls' := [.ref 137, .int a, .int b, .null]) (st' := [.int 0]) (σ' := σ) rfl ?_
          obtain rfl := Option.some.inj h
          exact xX_ret (w := xw_59) (i := 19) eT_59 rfl (e_ret2 (by decide))
      · rw [if_neg hc4] at h
        refine xX_blk (w := xw_59) eT_59 17 37 (ls' := [.ref 137, .int a, .int b, .int ((((σ 137 1) * 3) + (σ 137 2)) - 1)]) (st' := [.int ((((σ 137 1) * 3) + (σ 137 2)) - 1), .ref 140, .int 10, .int ((((σ 137 1) * 3) + (σ 137 2)) - 1), .ref 140]) (σ' := σ) rfl ?_
        obtain ⟨hi13, h⟩ := xgd_inv h
        refine xX_one (w := xw_59) (i := 54) (ls' := [.ref 137, .int a, .int b, .int ((((σ 137 1) * 3) + (σ 137 2)) - 1)]) (st' := [.int (σ 140 ((((σ 137 1) * 3) + (σ 137 2)) - 1).toNatClampNeg), .int 10, .int ((((σ 137 1) * 3) + (σ 137 2)) - 1), .ref 140]) (σ' := σ) eT_59 rfl (e_iald xs_140 hi13) ?_
        refine xX_blk (w := xw_59) eT_59 5 55 (ls' := [.ref 137, .int a, .int b, .int ((((σ 137 1) * 3) + (σ 137 2)) - 1)]) (st' := [.int ((((10 : Int32) * (σ 140 ((((σ 137 1) * 3) + (σ 137 2)) - 1).toNatClampNeg)) + a) - 48), .int ((((σ 137 1) * 3) + (σ 137 2)) - 1), .ref 140]) (σ' := σ) rfl ?_
        obtain ⟨hi14, h⟩ := xgd_inv h
        refine xX_one (w := xw_59) (i := 60) (ls' := [.ref 137, .int a, .int b, .int ((((σ 137 1) * 3) + (σ 137 2)) - 1)]) (st' := []) (σ' := xup σ 140 ((((σ 137 1) * 3) + (σ 137 2)) - 1).toNatClampNeg ((((10 : Int32) * (σ 140 ((((σ 137 1) * 3) + (σ 137 2)) - 1).toNatClampNeg)) + a) - 48)) eT_59 rfl (e_iast xs_140 hi14) ?_
        obtain ⟨σ15, eσ15, h⟩ := xlet_inv h
        rw [← eσ15]
        refine xX_blk (w := xw_59) eT_59 5 61 (ls' := [.ref 137, .int a, .int b, .int ((((σ 137 1) * 3) + (σ 137 2)) - 1)]) (st' := [.int ((σ15 137 3) + 1), .ref 137]) (σ' := σ15) rfl ?_
        refine xX_blk (w := xw_59) eT_59 1 66 (ls' := [.ref 137, .int a, .int b, .int ((((σ 137 1) * 3) + (σ 137 2)) - 1)]) (st' := []) (σ' := xup σ15 137 3 ((σ15 137 3) + 1)) rfl ?_
        obtain ⟨σ16, eσ16, h⟩ := xlet_inv h
        rw [← eσ16]
        refine xX_blk (w := xw_59) eT_59 1 67 (ls' := [.ref 137, .int a, .int b, .int ((((σ 137 1) * 3) + (σ 137 2)) - 1)]) (st' := [.int 1]) (σ' := σ16) rfl ?_
        obtain rfl := Option.some.inj h
        exact xX_ret (w := xw_59) (i := 68) eT_59 rfl (e_ret2 (by decide))
    · rw [if_neg hc3] at h
      refine xX_blk (w := xw_59) eT_59 1 9 (ls' := [.ref 137, .int a, .int b, .null]) (st' := [.int 0]) (σ' := σ) rfl ?_
      obtain rfl := Option.some.inj h
      exact xX_ret (w := xw_59) (i := 10) eT_59 rfl (e_ret2 (by decide))
def B_X6_parse_7 (v1 : Int32) (v2 : Int32) (σ : xM) : Option ((Int32 × Int32 × xM) ⊕ ((Int32 × xM) ⊕ (Int32 × xM) ⊕ (Int32 × xM))) :=
  if (σ 137 0) ≤ v2 then
    some (.inr (.inr (.inr (v1, σ))))
  else
    xgd (xin v2 120) (
    if (σ 138 v2.toNatClampNeg) = 32 then
      xlet (xup σ 137 3 0) fun σ5 =>
      some (.inl (v1, (v2 + 1), σ5))
    else
      if v1 = 0 then
        xbd (F_X6_numbersBehind (σ 138 v2.toNatClampNeg) σ) fun r7 =>
        if r7 = 0 then
          some (.inr (.inl (v2, σ)))
        else
          xbd (F_X6_begin (σ 138 v2.toNatClampNeg) σ) fun r9 =>
          some (.inl (r7, (v2 + 1), r9))
      else
        if (σ 138 v2.toNatClampNeg) = 59 then
          if (σ 137 2) = v1 then
            xlet (xup σ 137 1 ((σ 137 1) + 1)) fun σ12 =>
            some (.inl (0, (v2 + 1), σ12))
          else
            xbd (F_X6_takesDigit (σ 138 v2.toNatClampNeg) v1 σ) fun r13 =>
            if r13.1 = 0 then
              some (.inr (.inr (.inl (v2, r13.2))))
            else
              some (.inl (v1, (v2 + 1), r13.2))
        else
          xbd (F_X6_takesDigit (σ 138 v2.toNatClampNeg) v1 σ) fun r15 =>
          if r15.1 = 0 then
            some (.inr (.inr (.inl (v2, r15.2))))
          else
            some (.inl (v1, (v2 + 1), r15.2)))
def L_X6_parse_7 (v1 : Int32) (v2 : Int32) (σ : xM) : Option ((Int32 × xM) ⊕ (Int32 × xM) ⊕ (Int32 × xM)) := xloop (fun s : Int32 × Int32 × xM => B_X6_parse_7 s.1 s.2.1 s.2.2) 6000 (v1, v2, σ)
set_option maxHeartbeats 1000000 in
set_option maxRecDepth 20000 in
theorem TB_X6_parse_7 {d : Nat} {o : Option Value × xM} (v1 : Int32) (v2 : Int32) (σ : xM) {q : (Int32 × Int32 × xM) ⊕ ((Int32 × xM) ⊕ (Int32 × xM) ⊕ (Int32 × xM))} (hd : 2 ≤ d) (h : B_X6_parse_7 v1 v2 σ = some q) (hB : ∀ s', q = .inl s' → ∀ (z3 : Value), xX xT xLn d 57 7 [.ref 137, .int s'.1, .int s'.2.1, z3] [] s'.2.2 o) (hE : ∀ e', q = .inr e' → (∀ a, e' = .inl a → ∀ (z0 z1 z3 : Value), xX xT xLn d 57 31 [z0, z1, .int a.1, z3] [] a.2 o) ∧ (∀ a, e' = .inr (.inl a) → ∀ (z0 z1 z3 : Value), xX xT xLn d 57 59 [z0, z1, .int a.1, z3] [] a.2 o) ∧ (∀ a, e' = .inr (.inr (a)) → ∀ (z2 z3 : Value), xX xT xLn d 57 64 [.ref 137, .int a.1, z2, z3] [] a.2 o)) (z3 : Value) : xX xT xLn d 57 7 [.ref 137, .int v1, .int v2, z3] [] σ o := by
  unfold B_X6_parse_7 at h
  refine xX_blk (w := xw_57) eT_57 4 7 (ls' := [.ref 137, .int v1, .int v2, .null]) (st' := [.int (σ 137 0), .int v2]) (σ' := σ) rfl ?_
  refine xX_ite (c := (σ 137 0) ≤ v2) (w := xw_57) (i := 11) (a := 64) (b := 12) (st' := []) eT_57 rfl rfl (fun hc2 => ?_) (fun hc2 => ?_)
  · rw [if_pos hc2] at h
    obtain rfl := Option.some.inj h
    exact (hE (.inr (.inr (v1, σ))) rfl).2.2 (v1, σ) rfl _ _
  · rw [if_neg hc2] at h
    refine xX_blk (w := xw_57) eT_57 3 12 (ls' := [.ref 137, .int v1, .int v2, .null]) (st' := [.int v2, .ref 138]) (σ' := σ) rfl ?_
    obtain ⟨hi3, h⟩ := xgd_inv h
    refine xX_one (w := xw_57) (i := 15) (ls' := [.ref 137, .int v1, .int v2, .null]) (st' := [.int (σ 138 v2.toNatClampNeg)]) (σ' := σ) eT_57 rfl (e_iald xs_138 hi3) ?_
    refine xX_blk (w := xw_57) eT_57 3 16 (ls' := [.ref 137, .int v1, .int v2, .int (σ 138 v2.toNatClampNeg)]) (st' := [.int 32, .int (σ 138 v2.toNatClampNeg)]) (σ' := σ) rfl ?_
    refine xX_ite (c := (σ 138 v2.toNatClampNeg) = 32) (w := xw_57) (i := 19) (a := 20) (b := 24) (st' := []) eT_57 rfl rfl (fun hc4 => ?_) (fun hc4 => ?_)
    · rw [if_pos hc4] at h
      refine xX_blk (w := xw_57) eT_57 2 20 (ls' := [.ref 137, .int v1, .int v2, .int (σ 138 v2.toNatClampNeg)]) (st' := [.int 0, .ref 137]) (σ' := σ) rfl ?_
      refine xX_blk (w := xw_57) eT_57 1 22 (ls' := [.ref 137, .int v1, .int v2, .int (σ 138 v2.toNatClampNeg)]) (st' := []) (σ' := xup σ 137 3 0) rfl ?_
      obtain ⟨σ5, eσ5, h⟩ := xlet_inv h
      rw [← eσ5]
      refine xX_jmp (w := xw_57) (i := 23) (a := 62) (st' := []) eT_57 rfl rfl ?_
      refine xX_blk (w := xw_57) eT_57 1 62 (ls' := [.ref 137, .int v1, .int (v2 + 1), .int (σ 138 v2.toNatClampNeg)]) (st' := []) (σ' := σ5) rfl ?_
      refine xX_jmp (w := xw_57) (i := 63) (a := 7) (st' := []) eT_57 rfl rfl ?_
      obtain rfl := Option.some.inj h
      exact hB (v1, (v2 + 1), σ5) rfl _
    · rw [if_neg hc4] at h
      refine xX_blk (w := xw_57) eT_57 1 24 (ls' := [.ref 137, .int v1, .int v2, .int (σ 138 v2.toNatClampNeg)]) (st' := [.int v1]) (σ' := σ) rfl ?_
      refine xX_ite (c := v1 = 0) (w := xw_57) (i := 25) (a := 26) (b := 38) (st' := []) eT_57 rfl rfl (fun hc6 => ?_) (fun hc6 => ?_)
      · rw [if_pos hc6] at h
        refine xX_blk (w := xw_57) eT_57 1 26 (ls' := [.ref 137, .int v1, .int v2, .int (σ 138 v2.toNatClampNeg)]) (st' := [.int (σ 138 v2.toNatClampNeg)]) (σ' := σ) rfl ?_
        obtain ⟨r7, hr7, h⟩ := xbd_inv h
        refine xX_c1 (w := xw_57) (i := 27) (ls := [.ref 137, .int v1, .int v2, .int (σ 138 v2.toNatClampNeg)]) (rest := []) eT_57 rfl (by omega) rfl rfl rfl (T_X6_numbersBehind (σ 138 v2.toNatClampNeg) σ (by omega) hr7) ?_
        refine xX_blk (w := xw_57) eT_57 2 28 (ls' := [.ref 137, .int r7, .int v2, .int (σ 138 v2.toNatClampNeg)]) (st' := [.int r7]) (σ' := σ) rfl ?_
        refine xX_ite (c := r7 = 0) (w := xw_57) (i := 30) (a := 31) (b := 34) (st' := []) eT_57 rfl rfl (fun hc8 => ?_) (fun hc8 => ?_)
        · rw [if_pos hc8] at h
          obtain rfl := Option.some.inj h
          exact (hE (.inl (v2, σ)) rfl).1 (v2, σ) rfl _ _ _
        · rw [if_neg hc8] at h
          refine xX_blk (w := xw_57) eT_57 2 34 (ls' := [.ref 137, .int r7, .int v2, .int (σ 138 v2.toNatClampNeg)]) (st' := [.int (σ 138 v2.toNatClampNeg), .ref 137]) (σ' := σ) rfl ?_
          obtain ⟨r9, hr9, h⟩ := xbd_inv h
          refine xX_c0 (w := xw_57) (i := 36) (ls := [.ref 137, .int r7, .int v2, .int (σ 138 v2.toNatClampNeg)]) (rest := []) eT_57 rfl (by omega) rfl rfl rfl (T_X6_begin (σ 138 v2.toNatClampNeg) σ (by omega) hr9) ?_
          refine xX_jmp (w := xw_57) (i := 37) (a := 62) (st' := []) eT_57 rfl rfl ?_
          refine xX_blk (w := xw_57) eT_57 1 62 (ls' := [.ref 137, .int r7, .int (v2 + 1), .int (σ 138 v2.toNatClampNeg)]) (st' := []) (σ' := r9) rfl ?_
          refine xX_jmp (w := xw_57) (i := 63) (a := 7) (st' := []) eT_57 rfl rfl ?_
          obtain rfl := Option.some.inj h
          exact hB (r7, (v2 + 1), r9) rfl _
      · rw [if_neg hc6] at h
        refine xX_blk (w := xw_57) eT_57 2 38 (ls' := [.ref 137, .int v1, .int v2, .int (σ 138 v2.toNatClampNeg)]) (st' := [.int 59, .int (σ 138 v2.toNatClampNeg)]) (σ' := σ) rfl ?_
        refine xX_ite (c := (σ 138 v2.toNatClampNeg) = 59) (w := xw_57) (i := 40) (a := 41) (b := 54) (st' := []) eT_57 rfl rfl (fun hc10 => ?_) (fun hc10 => ?_)
        · rw [if_pos hc10] at h
          refine xX_blk (w := xw_57) eT_57 3 41 (ls' := [.ref 137, .int v1, .int v2, .int (σ 138 v2.toNatClampNeg)]) (st' := [.int v1, .int (σ 137 2)]) (σ' := σ) rfl ?_
          refine xX_ite (c := (σ 137 2) = v1) (w := xw_57) (i := 44) (a := 45) (b := 54) (st' := []) eT_57 rfl rfl (fun hc11 => ?_) (fun hc11 => ?_)
          · rw [if_pos hc11] at h
            refine xX_blk (w := xw_57) eT_57 5 45 (ls' := [.ref 137, .int v1, .int v2, .int (σ 138 v2.toNatClampNeg)]) (st' := [.int ((σ 137 1) + 1), .ref 137]) (σ' := σ) rfl ?_
            refine xX_blk (w := xw_57) eT_57 1 50 (ls' := [.ref 137, .int v1, .int v2, .int (σ 138 v2.toNatClampNeg)]) (st' := []) (σ' := xup σ 137 1 ((σ 137 1) + 1)) rfl ?_
            obtain ⟨σ12, eσ12, h⟩ := xlet_inv h
            rw [← eσ12]
            refine xX_blk (w := xw_57) eT_57 2 51 (ls' := [.ref 137, .int 0, .int v2, .int (σ 138 v2.toNatClampNeg)]) (st' := []) (σ' := σ12) rfl ?_
            refine xX_jmp (w := xw_57) (i := 53) (a := 62) (st' := []) eT_57 rfl rfl ?_
            refine xX_blk (w := xw_57) eT_57 1 62 (ls' := [.ref 137, .int 0, .int (v2 + 1), .int (σ 138 v2.toNatClampNeg)]) (st' := []) (σ' := σ12) rfl ?_
            refine xX_jmp (w := xw_57) (i := 63) (a := 7) (st' := []) eT_57 rfl rfl ?_
            obtain rfl := Option.some.inj h
            exact hB (0, (v2 + 1), σ12) rfl _
          · rw [if_neg hc11] at h
            refine xX_blk (w := xw_57) eT_57 3 54 (ls' := [.ref 137, .int v1, .int v2, .int (σ 138 v2.toNatClampNeg)]) (st' := [.int v1, .int (σ 138 v2.toNatClampNeg), .ref 137]) (σ' := σ) rfl ?_
            obtain ⟨r13, hr13, h⟩ := xbd_inv h
            refine xX_c1 (w := xw_57) (i := 57) (ls := [.ref 137, .int v1, .int v2, .int (σ 138 v2.toNatClampNeg)]) (rest := []) eT_57 rfl (by omega) rfl rfl rfl (T_X6_takesDigit (σ 138 v2.toNatClampNeg) v1 σ (by omega) hr13) ?_
            refine xX_ite (c := r13.1 = 0) (w := xw_57) (i := 58) (a := 59) (b := 62) (st' := []) eT_57 rfl rfl (fun hc14 => ?_) (fun hc14 => ?_)
            · rw [if_pos hc14] at h
              obtain rfl := Option.some.inj h
              exact (hE (.inr (.inl (v2, r13.2))) rfl).2.1 (v2, r13.2) rfl _ _ _
            · rw [if_neg hc14] at h
              refine xX_blk (w := xw_57) eT_57 1 62 (ls' := [.ref 137, .int v1, .int (v2 + 1), .int (σ 138 v2.toNatClampNeg)]) (st' := []) (σ' := r13.2) rfl ?_
              refine xX_jmp (w := xw_57) (i := 63) (a := 7) (st' := []) eT_57 rfl rfl ?_
              obtain rfl := Option.some.inj h
              exact hB (v1, (v2 + 1), r13.2) rfl _
        · rw [if_neg hc10] at h
          refine xX_blk (w := xw_57) eT_57 3 54 (ls' := [.ref 137, .int v1, .int v2, .int (σ 138 v2.toNatClampNeg)]) (st' := [.int v1, .int (σ 138 v2.toNatClampNeg), .ref 137]) (σ' := σ) rfl ?_
          obtain ⟨r15, hr15, h⟩ := xbd_inv h
          refine xX_c1 (w := xw_57) (i := 57) (ls := [.ref 137, .int v1, .int v2, .int (σ 138 v2.toNatClampNeg)]) (rest := []) eT_57 rfl (by omega) rfl rfl rfl (T_X6_takesDigit (σ 138 v2.toNatClampNeg) v1 σ (by omega) hr15) ?_
          refine xX_ite (c := r15.1 = 0) (w := xw_57) (i := 58) (a := 59) (b := 62) (st' := []) eT_57 rfl rfl (fun hc16 => ?_) (fun hc16 => ?_)
          · rw [if_pos hc16] at h
            obtain rfl := Option.some.inj h
            exact (hE (.inr (.inl (v2, r15.2))) rfl).2.1 (v2, r15.2) rfl _ _ _
          · rw [if_neg hc16] at h
            refine xX_blk (w := xw_57) eT_57 1 62 (ls' := [.ref 137, .int v1, .int (v2 + 1), .int (σ 138 v2.toNatClampNeg)]) (st' := []) (σ' := r15.2) rfl ?_
            refine xX_jmp (w := xw_57) (i := 63) (a := 7) (st' := []) eT_57 rfl rfl ?_
            obtain rfl := Option.some.inj h
            exact hB (v1, (v2 + 1), r15.2) rfl _
set_option maxHeartbeats 1000000 in
set_option maxRecDepth 20000 in
theorem TL_X6_parse_7 {d : Nat} {o : Option Value × xM} (v1 : Int32) (v2 : Int32) (σ : xM) {e : (Int32 × xM) ⊕ (Int32 × xM) ⊕ (Int32 × xM)} (hd : 2 ≤ d) (h : L_X6_parse_7 v1 v2 σ = some e) (hE0 : ∀ a, e = .inl a → ∀ (z0 z1 z3 : Value), xX xT xLn d 57 31 [z0, z1, .int a.1, z3] [] a.2 o) (hE1 : ∀ a, e = .inr (.inl a) → ∀ (z0 z1 z3 : Value), xX xT xLn d 57 59 [z0, z1, .int a.1, z3] [] a.2 o) (hE2 : ∀ a, e = .inr (.inr (a)) → ∀ (z2 z3 : Value), xX xT xLn d 57 64 [.ref 137, .int a.1, z2, z3] [] a.2 o) (z3 : Value) : xX xT xLn d 57 7 [.ref 137, .int v1, .int v2, z3] [] σ o :=
  xloop_snd (X := fun s => ∀ (z3 : Value), xX xT xLn d 57 7 [.ref 137, .int s.1, .int s.2.1, z3] [] s.2.2 o) (Y := fun e' => (∀ a, e' = .inl a → ∀ (z0 z1 z3 : Value), xX xT xLn d 57 31 [z0, z1, .int a.1, z3] [] a.2 o) ∧ (∀ a, e' = .inr (.inl a) → ∀ (z0 z1 z3 : Value), xX xT xLn d 57 59 [z0, z1, .int a.1, z3] [] a.2 o) ∧ (∀ a, e' = .inr (.inr (a)) → ∀ (z2 z3 : Value), xX xT xLn d 57 64 [.ref 137, .int a.1, z2, z3] [] a.2 o)) (fun s q hs hB hE z3 => TB_X6_parse_7 s.1 s.2.1 s.2.2 hd hs hB hE z3) _ _ _ h ⟨hE0, hE1, hE2⟩ z3
def F_X6_parse (σ : xM) : Option (Int32 × xM) :=
  xlet (xup σ 137 1 0) fun σ1 =>
  xbd (L_X6_parse_7 0 0 σ1) fun e17 =>
  xsm e17 (fun ae170 =>
    some (ae170.1, ae170.2))
  (fun s1 => xsm s1 (fun ae171 =>
    some (ae171.1, ae171.2))
  (fun ae172 =>
    if 0 < ae172.1 then
      some ((ae172.2 137 0), ae172.2)
    else
      if (ae172.2 137 1) = 0 then
        some ((ae172.2 137 0), ae172.2)
      else
        some ((-1), ae172.2)))
set_option maxHeartbeats 1000000 in
set_option maxRecDepth 20000 in
theorem T_X6_parse (σ : xM) {d : Nat} {q : Int32 × xM} (hd : 2 ≤ d) (h : F_X6_parse σ = some q) : xR xT xLn d 57 [.ref 137] σ (some (.int q.1), q.2) := by
  unfold F_X6_parse at h
  show xX xT xLn d 57 0 [.ref 137, .null, .null, .null] [] σ _
  refine xX_blk (w := xw_57) eT_57 2 0 (ls' := [.ref 137, .null, .null, .null]) (st' := [.int 0, .ref 137]) (σ' := σ) rfl ?_
  refine xX_blk (w := xw_57) eT_57 1 2 (ls' := [.ref 137, .null, .null, .null]) (st' := []) (σ' := xup σ 137 1 0) rfl ?_
  obtain ⟨σ1, eσ1, h⟩ := xlet_inv h
  rw [← eσ1]
  refine xX_blk (w := xw_57) eT_57 4 3 (ls' := [.ref 137, .int 0, .int 0, .null]) (st' := []) (σ' := σ1) rfl ?_
  obtain ⟨e17, he17, h⟩ := xbd_inv h
  refine TL_X6_parse_7 0 0 σ1 (by omega) he17 (fun ae170 hee170 z0 z1 z3 => ?_) (fun ae171 hee171 z0 z1 z3 => ?_) (fun ae172 hee172 z2 z3 => ?_) _
  · subst hee170
    rw [xsm_l] at h
    refine xX_blk (w := xw_57) eT_57 2 31 (ls' := [.null, .null, .int ae170.1, .null]) (st' := [.int ae170.1]) (σ' := ae170.2) rfl ?_
    obtain rfl := Option.some.inj h
    exact xX_ret (w := xw_57) (i := 33) eT_57 rfl rfl
  · subst hee171
    rw [xsm_r] at h
    rw [xsm_l] at h
    refine xX_blk (w := xw_57) eT_57 2 59 (ls' := [.null, .null, .int ae171.1, .null]) (st' := [.int ae171.1]) (σ' := ae171.2) rfl ?_
    obtain rfl := Option.some.inj h
    exact xX_ret (w := xw_57) (i := 61) eT_57 rfl rfl
  · subst hee172
    rw [xsm_r] at h
    rw [xsm_r] at h
    refine xX_blk (w := xw_57) eT_57 2 64 (ls' := [.ref 137, .int ae172.1, .null, .null]) (st' := [.int ae172.1]) (σ' := ae172.2) rfl ?_
    refine xX_ite (c := 0 < ae172.1) (w := xw_57) (i := 66) (a := 70) (b := 67) (st' := []) eT_57 rfl rfl (fun hc18 => ?_) (fun hc18 => ?_)
    · rw [if_pos hc18] at h
      refine xX_blk (w := xw_57) eT_57 2 70 (ls' := [.ref 137, .int ae172.1, .null, .null]) (st' := [.int (ae172.2 137 0)]) (σ' := ae172.2) rfl ?_
      refine xX_jmp (w := xw_57) (i := 72) (a := 74) (st' := [.int (ae172.2 137 0)]) eT_57 rfl rfl ?_
      obtain rfl := Option.some.inj h
      exact xX_ret (w := xw_57) (i := 74) eT_57 rfl rfl
    · rw [if_neg hc18] at h
      refine xX_blk (w := xw_57) eT_57 2 67 (ls' := [.ref 137, .int ae172.1, .null, .null]) (st' := [.int (ae172.2 137 1)]) (σ' := ae172.2) rfl ?_
      refine xX_ite (c := (ae172.2 137 1) = 0) (w := xw_57) (i := 69) (a := 70) (b := 73) (st' := []) eT_57 rfl rfl (fun hc19 => ?_) (fun hc19 => ?_)
      · rw [if_pos hc19] at h
        refine xX_blk (w := xw_57) eT_57 2 70 (ls' := [.ref 137, .int ae172.1, .null, .null]) (st' := [.int (ae172.2 137 0)]) (σ' := ae172.2) rfl ?_
        refine xX_jmp (w := xw_57) (i := 72) (a := 74) (st' := [.int (ae172.2 137 0)]) eT_57 rfl rfl ?_
        obtain rfl := Option.some.inj h
        exact xX_ret (w := xw_57) (i := 74) eT_57 rfl rfl
      · rw [if_neg hc19] at h
        refine xX_blk (w := xw_57) eT_57 1 73 (ls' := [.ref 137, .int ae172.1, .null, .null]) (st' := [.int (-1)]) (σ' := ae172.2) rfl ?_
        obtain rfl := Option.some.inj h
        exact xX_ret (w := xw_57) (i := 74) eT_57 rfl rfl
def F_X6_letter (a : Int32) (σ : xM) : Option (Int32) :=
  xgd (xin a 120) (
  some (σ 139 a.toNatClampNeg))
set_option maxHeartbeats 1000000 in
set_option maxRecDepth 20000 in
theorem T_X6_letter (a : Int32) (σ : xM) {d : Nat} {q : Int32} (hd : 0 ≤ d) (h : F_X6_letter a σ = some q) : xR xT xLn d 55 [.ref 137, .int a] σ (some (.int q), σ) := by
  unfold F_X6_letter at h
  show xX xT xLn d 55 0 [.ref 137, .int a] [] σ _
  refine xX_blk (w := xw_55) eT_55 3 0 (ls' := [.ref 137, .int a]) (st' := [.int a, .ref 139]) (σ' := σ) rfl ?_
  obtain ⟨hi1, h⟩ := xgd_inv h
  refine xX_one (w := xw_55) (i := 3) (ls' := [.ref 137, .int a]) (st' := [.int (σ 139 a.toNatClampNeg)]) (σ' := σ) eT_55 rfl (e_iald xs_139 hi1) ?_
  obtain rfl := Option.some.inj h
  exact xX_ret (w := xw_55) (i := 4) eT_55 rfl rfl
def F_X6_number (a : Int32) (b : Int32) (σ : xM) : Option (Int32) :=
  xgd (xin ((a * 3) + b) 360) (
  some (σ 140 ((a * 3) + b).toNatClampNeg))
set_option maxHeartbeats 1000000 in
set_option maxRecDepth 20000 in
theorem T_X6_number (a : Int32) (b : Int32) (σ : xM) {d : Nat} {q : Int32} (hd : 0 ≤ d) (h : F_X6_number a b σ = some q) : xR xT xLn d 56 [.ref 137, .int a, .int b] σ (some (.int q), σ) := by
  unfold F_X6_number at h
  show xX xT xLn d 56 0 [.ref 137, .int a, .int b] [] σ _
  refine xX_blk (w := xw_56) eT_56 7 0 (ls' := [.ref 137, .int a, .int b]) (st' := [.int ((a * 3) + b), .ref 140]) (σ' := σ) rfl ?_
  obtain ⟨hi1, h⟩ := xgd_inv h
  refine xX_one (w := xw_56) (i := 7) (ls' := [.ref 137, .int a, .int b]) (st' := [.int (σ 140 ((a * 3) + b).toNatClampNeg)]) (σ' := σ) eT_56 rfl (e_iald xs_140 hi1) ?_
  obtain rfl := Option.some.inj h
  exact xX_ret (w := xw_56) (i := 8) eT_56 rfl rfl
def F_X0_carryOut (a : Int32) (b : Int32) (c : Int32) (u : Int32) (σ : xM) : Option (Int32 × xM) :=
  if a = 97 then
    xbd (F_X0_addArea b σ) fun r2 =>
    some (r2.1, r2.2)
  else if a = 100 then
    xbd (F_X0_startDrain b σ) fun r4 =>
    some (r4.1, r4.2)
  else if a = 108 then
    xbd (F_X0_setLine b c u σ) fun r6 =>
    some (r6.1, r6.2)
  else if a = 109 then
    xbd (F_X0_setMood b c σ) fun r8 =>
    some (r8.1, r8.2)
  else if a = 111 then
    xbd (F_X0_openSession b c u σ) fun r10 =>
    some (r10.1, r10.2)
  else if a = 112 then
    xbd (F_X0_setStep b c σ) fun r12 =>
    some (r12.1, r12.2)
  else if a = 115 then
    xbd (F_X0_addSite b c σ) fun r14 =>
    some (r14.1, r14.2)
  else if a = 116 then
    xbd (F_X0_passTicks b σ) fun r16 =>
    some (r16.1, r16.2)
  else if a = 120 then
    xbd (F_X0_switchSite b σ) fun r18 =>
    some (r18.1, r18.2)
  else 
  some ((-2), σ)
set_option maxHeartbeats 1000000 in
set_option maxRecDepth 20000 in
theorem T_X0_carryOut (a : Int32) (b : Int32) (c : Int32) (u : Int32) (σ : xM) {d : Nat} {q : Int32 × xM} (hd : 5 ≤ d) (h : F_X0_carryOut a b c u σ = some q) : xR xT xLn d 0 [.ref 136, .int a, .int b, .int c, .int u] σ (some (.int q.1), q.2) := by
  unfold F_X0_carryOut at h
  show xX xT xLn d 0 0 [.ref 136, .int a, .int b, .int c, .int u] [] σ _
  refine xX_blk (w := xw_0) eT_0 1 0 (ls' := [.ref 136, .int a, .int b, .int c, .int u]) (st' := [.int a]) (σ' := σ) rfl ?_
  by_cases hc1 : a = 97
  · rw [if_pos hc1] at h
    refine xX_jmp (w := xw_0) (i := 1) (a := 2) (st' := []) eT_0 rfl (e_tsw (by rw [hc1]; decide)) ?_
    refine xX_blk (w := xw_0) eT_0 2 2 (ls' := [.ref 136, .int a, .int b, .int c, .int u]) (st' := [.int b, .ref 136]) (σ' := σ) rfl ?_
    obtain ⟨r2, hr2, h⟩ := xbd_inv h
    refine xX_c1 (w := xw_0) (i := 4) (ls := [.ref 136, .int a, .int b, .int c, .int u]) (rest := []) eT_0 rfl (by omega) rfl rfl rfl (T_X0_addArea b σ (by omega) hr2) ?_
    obtain rfl := Option.some.inj h
    exact xX_ret (w := xw_0) (i := 5) eT_0 rfl rfl
  rw [if_neg hc1] at h
  by_cases hc3 : a = 100
  · rw [if_pos hc3] at h
    refine xX_jmp (w := xw_0) (i := 1) (a := 33) (st' := []) eT_0 rfl (e_tsw (by rw [hc3]; decide)) ?_
    refine xX_blk (w := xw_0) eT_0 2 33 (ls' := [.ref 136, .int a, .int b, .int c, .int u]) (st' := [.int b, .ref 136]) (σ' := σ) rfl ?_
    obtain ⟨r4, hr4, h⟩ := xbd_inv h
    refine xX_c1 (w := xw_0) (i := 35) (ls := [.ref 136, .int a, .int b, .int c, .int u]) (rest := []) eT_0 rfl (by omega) rfl rfl rfl (T_X0_startDrain b σ (by omega) hr4) ?_
    obtain rfl := Option.some.inj h
    exact xX_ret (w := xw_0) (i := 36) eT_0 rfl rfl
  rw [if_neg hc3] at h
  by_cases hc5 : a = 108
  · rw [if_pos hc5] at h
    refine xX_jmp (w := xw_0) (i := 1) (a := 6) (st' := []) eT_0 rfl (e_tsw (by rw [hc5]; decide)) ?_
    refine xX_blk (w := xw_0) eT_0 4 6 (ls' := [.ref 136, .int a, .int b, .int c, .int u]) (st' := [.int u, .int c, .int b, .ref 136]) (σ' := σ) rfl ?_
    obtain ⟨r6, hr6, h⟩ := xbd_inv h
    refine xX_c1 (w := xw_0) (i := 10) (ls := [.ref 136, .int a, .int b, .int c, .int u]) (rest := []) eT_0 rfl (by omega) rfl rfl rfl (T_X0_setLine b c u σ (by omega) hr6) ?_
    obtain rfl := Option.some.inj h
    exact xX_ret (w := xw_0) (i := 11) eT_0 rfl rfl
  rw [if_neg hc5] at h
  by_cases hc7 : a = 109
  · rw [if_pos hc7] at h
    refine xX_jmp (w := xw_0) (i := 1) (a := 17) (st' := []) eT_0 rfl (e_tsw (by rw [hc7]; decide)) ?_
    refine xX_blk (w := xw_0) eT_0 3 17 (ls' := [.ref 136, .int a, .int b, .int c, .int u]) (st' := [.int c, .int b, .ref 136]) (σ' := σ) rfl ?_
    obtain ⟨r8, hr8, h⟩ := xbd_inv h
    refine xX_c1 (w := xw_0) (i := 20) (ls := [.ref 136, .int a, .int b, .int c, .int u]) (rest := []) eT_0 rfl (by omega) rfl rfl rfl (T_X0_setMood b c σ (by omega) hr8) ?_
    obtain rfl := Option.some.inj h
    exact xX_ret (w := xw_0) (i := 21) eT_0 rfl rfl
  rw [if_neg hc7] at h
  by_cases hc9 : a = 111
  · rw [if_pos hc9] at h
    refine xX_jmp (w := xw_0) (i := 1) (a := 27) (st' := []) eT_0 rfl (e_tsw (by rw [hc9]; decide)) ?_
    refine xX_blk (w := xw_0) eT_0 4 27 (ls' := [.ref 136, .int a, .int b, .int c, .int u]) (st' := [.int u, .int c, .int b, .ref 136]) (σ' := σ) rfl ?_
    obtain ⟨r10, hr10, h⟩ := xbd_inv h
    refine xX_c1 (w := xw_0) (i := 31) (ls := [.ref 136, .int a, .int b, .int c, .int u]) (rest := []) eT_0 rfl (by omega) rfl rfl rfl (T_X0_openSession b c u σ (by omega) hr10) ?_
    obtain rfl := Option.some.inj h
    exact xX_ret (w := xw_0) (i := 32) eT_0 rfl rfl
  rw [if_neg hc9] at h
  by_cases hc11 : a = 112
  · rw [if_pos hc11] at h
    refine xX_jmp (w := xw_0) (i := 1) (a := 22) (st' := []) eT_0 rfl (e_tsw (by rw [hc11]; decide)) ?_
    refine xX_blk (w := xw_0) eT_0 3 22 (ls' := [.ref 136, .int a, .int b, .int c, .int u]) (st' := [.int c, .int b, .ref 136]) (σ' := σ) rfl ?_
    obtain ⟨r12, hr12, h⟩ := xbd_inv h
    refine xX_c1 (w := xw_0) (i := 25) (ls := [.ref 136, .int a, .int b, .int c, .int u]) (rest := []) eT_0 rfl (by omega) rfl rfl rfl (T_X0_setStep b c σ (by omega) hr12) ?_
    obtain rfl := Option.some.inj h
    exact xX_ret (w := xw_0) (i := 26) eT_0 rfl rfl
  rw [if_neg hc11] at h
  by_cases hc13 : a = 115
  · rw [if_pos hc13] at h
    refine xX_jmp (w := xw_0) (i := 1) (a := 12) (st' := []) eT_0 rfl (e_tsw (by rw [hc13]; decide)) ?_
    refine xX_blk (w := xw_0) eT_0 3 12 (ls' := [.ref 136, .int a, .int b, .int c, .int u]) (st' := [.int c, .int b, .ref 136]) (σ' := σ) rfl ?_
    obtain ⟨r14, hr14, h⟩ := xbd_inv h
    refine xX_c1 (w := xw_0) (i := 15) (ls := [.ref 136, .int a, .int b, .int c, .int u]) (rest := []) eT_0 rfl (by omega) rfl rfl rfl (T_X0_addSite b c σ (by omega) hr14) ?_
    obtain rfl := Option.some.inj h
    exact xX_ret (w := xw_0) (i := 16) eT_0 rfl rfl
  rw [if_neg hc13] at h
  by_cases hc15 : a = 116
  · rw [if_pos hc15] at h
    refine xX_jmp (w := xw_0) (i := 1) (a := 41) (st' := []) eT_0 rfl (e_tsw (by rw [hc15]; decide)) ?_
    refine xX_blk (w := xw_0) eT_0 2 41 (ls' := [.ref 136, .int a, .int b, .int c, .int u]) (st' := [.int b, .ref 136]) (σ' := σ) rfl ?_
    obtain ⟨r16, hr16, h⟩ := xbd_inv h
    refine xX_c1 (w := xw_0) (i := 43) (ls := [.ref 136, .int a, .int b, .int c, .int u]) (rest := []) eT_0 rfl (by omega) rfl rfl rfl (T_X0_passTicks b σ (by omega) hr16) ?_
    obtain rfl := Option.some.inj h
    exact xX_ret (w := xw_0) (i := 44) eT_0 rfl rfl
  rw [if_neg hc15] at h
  by_cases hc17 : a = 120
  · rw [if_pos hc17] at h
    refine xX_jmp (w := xw_0) (i := 1) (a := 37) (st' := []) eT_0 rfl (e_tsw (by rw [hc17]; decide)) ?_
    refine xX_blk (w := xw_0) eT_0 2 37 (ls' := [.ref 136, .int a, .int b, .int c, .int u]) (st' := [.int b, .ref 136]) (σ' := σ) rfl ?_
    obtain ⟨r18, hr18, h⟩ := xbd_inv h
    refine xX_c1 (w := xw_0) (i := 39) (ls := [.ref 136, .int a, .int b, .int c, .int u]) (rest := []) eT_0 rfl (by omega) rfl rfl rfl (T_X0_switchSite b σ (by omega) hr18) ?_
    obtain rfl := Option.some.inj h
    exact xX_ret (w := xw_0) (i := 40) eT_0 rfl rfl
  rw [if_neg hc17] at h
  refine xX_jmp (w := xw_0) (i := 1) (a := 45) (st' := []) eT_0 rfl (e_tsw (e_tswd [97, 100, 108, 109, 111, 112, 115, 116, 120] (by decide) (List.forall_mem_cons.mpr ⟨hc1, List.forall_mem_cons.mpr ⟨hc3, List.forall_mem_cons.mpr ⟨hc5, List.forall_mem_cons.mpr ⟨hc7, List.forall_mem_cons.mpr ⟨hc9, List.forall_mem_cons.mpr ⟨hc11, List.forall_mem_cons.mpr ⟨hc13, List.forall_mem_cons.mpr ⟨hc15, List.forall_mem_cons.mpr ⟨hc17, fun _ h => absurd h List.not_mem_nil⟩⟩⟩⟩⟩⟩⟩⟩⟩))) ?_
  refine xX_blk (w := xw_0) eT_0 1 45 (ls' := [.ref 136, .int a, .int b, .int c, .int u]) (st' := [.int (-2)]) (σ' := σ) rfl ?_
  obtain rfl := Option.some.inj h
  exact xX_ret (w := xw_0) (i := 46) eT_0 rfl rfl
def F_X1_copyFrom_2_22 (σ : xM) : Option (xM) :=
  xlet (xup σ 2 0 (σ 22 0)) fun σ1 =>
  xlet (xset σ1 3 (va_cpy (σ1 23) (σ1 3) 0 0 8)) fun σ2 =>
  xlet (xset σ2 4 (va_cpy (σ2 24) (σ2 4) 0 0 8)) fun σ3 =>
  xlet (xset σ3 5 (va_cpy (σ3 25) (σ3 5) 0 0 8)) fun σ4 =>
  xlet (xset σ4 6 (va_cpy (σ4 26) (σ4 6) 0 0 64)) fun σ5 =>
  xlet (xset σ5 7 (va_cpy (σ5 27) (σ5 7) 0 0 64)) fun σ6 =>
  some σ6
set_option maxHeartbeats 1000000 in
set_option maxRecDepth 20000 in
theorem T_X1_copyFrom_2_22 (σ : xM) {d : Nat} {q : xM} (hd : 0 ≤ d) (h : F_X1_copyFrom_2_22 σ = some q) : xR xT xLn d 25 [.ref 2, .ref 22] σ (none, q) := by
  unfold F_X1_copyFrom_2_22 at h
  show xX xT xLn d 25 0 [.ref 2, .ref 22] [] σ _
  refine xX_blk (w := xw_25) eT_25 3 0 (ls' := [.ref 2, .ref 22]) (st' := [.int (σ 22 0), .ref 2]) (σ' := σ) rfl ?_
  refine xX_blk (w := xw_25) eT_25 1 3 (ls' := [.ref 2, .ref 22]) (st' := []) (σ' := xup σ 2 0 (σ 22 0)) rfl ?_
  obtain ⟨σ1, eσ1, h⟩ := xlet_inv h
  rw [← eσ1]
  refine xX_blk (w := xw_25) eT_25 7 4 (ls' := [.ref 2, .ref 22]) (st' := [.int 8, .int 0, .ref 3, .int 0, .ref 23]) (σ' := σ1) rfl ?_
  refine xX_one (w := xw_25) (i := 11) (ls' := [.ref 2, .ref 22]) (st' := []) (σ' := xset σ1 3 (va_cpy (σ1 23) (σ1 3) 0 0 8)) eT_25 rfl (e_copy xs_23 xs_3 (by decide) (by decide) (Nat.le_of_ble_eq_true rfl)) ?_
  obtain ⟨σ2, eσ2, h⟩ := xlet_inv h
  rw [← eσ2]
  refine xX_blk (w := xw_25) eT_25 7 12 (ls' := [.ref 2, .ref 22]) (st' := [.int 8, .int 0, .ref 4, .int 0, .ref 24]) (σ' := σ2) rfl ?_
  refine xX_one (w := xw_25) (i := 19) (ls' := [.ref 2, .ref 22]) (st' := []) (σ' := xset σ2 4 (va_cpy (σ2 24) (σ2 4) 0 0 8)) eT_25 rfl (e_copy xs_24 xs_4 (by decide) (by decide) (Nat.le_of_ble_eq_true rfl)) ?_
  obtain ⟨σ3, eσ3, h⟩ := xlet_inv h
  rw [← eσ3]
  refine xX_blk (w := xw_25) eT_25 7 20 (ls' := [.ref 2, .ref 22]) (st' := [.int 8, .int 0, .ref 5, .int 0, .ref 25]) (σ' := σ3) rfl ?_
  refine xX_one (w := xw_25) (i := 27) (ls' := [.ref 2, .ref 22]) (st' := []) (σ' := xset σ3 5 (va_cpy (σ3 25) (σ3 5) 0 0 8)) eT_25 rfl (e_copy xs_25 xs_5 (by decide) (by decide) (Nat.le_of_ble_eq_true rfl)) ?_
  obtain ⟨σ4, eσ4, h⟩ := xlet_inv h
  rw [← eσ4]
  refine xX_blk (w := xw_25) eT_25 7 28 (ls' := [.ref 2, .ref 22]) (st' := [.int 64, .int 0, .ref 6, .int 0, .ref 26]) (σ' := σ4) rfl ?_
  refine xX_one (w := xw_25) (i := 35) (ls' := [.ref 2, .ref 22]) (st' := []) (σ' := xset σ4 6 (va_cpy (σ4 26) (σ4 6) 0 0 64)) eT_25 rfl (e_copy xs_26 xs_6 (by decide) (by decide) (Nat.le_of_ble_eq_true rfl)) ?_
  obtain ⟨σ5, eσ5, h⟩ := xlet_inv h
  rw [← eσ5]
  refine xX_blk (w := xw_25) eT_25 7 36 (ls' := [.ref 2, .ref 22]) (st' := [.int 64, .int 0, .ref 7, .int 0, .ref 27]) (σ' := σ5) rfl ?_
  refine xX_one (w := xw_25) (i := 43) (ls' := [.ref 2, .ref 22]) (st' := []) (σ' := xset σ5 7 (va_cpy (σ5 27) (σ5 7) 0 0 64)) eT_25 rfl (e_copy xs_27 xs_7 (by decide) (by decide) (Nat.le_of_ble_eq_true rfl)) ?_
  obtain ⟨σ6, eσ6, h⟩ := xlet_inv h
  rw [← eσ6]
  obtain rfl := Option.some.inj h
  exact xX_ret (w := xw_25) (i := 44) eT_25 rfl rfl
def F_X8_copyFrom_8_28 (σ : xM) : Option (xM) :=
  xlet (xup σ 8 0 (σ 28 0)) fun σ1 =>
  xlet (xup σ1 8 1 (σ1 28 1)) fun σ2 =>
  xlet (xset σ2 9 (va_cpy (σ2 29) (σ2 9) 0 0 5)) fun σ3 =>
  xlet (xset σ3 10 (va_cpy (σ3 30) (σ3 10) 0 0 5)) fun σ4 =>
  xlet (xset σ4 11 (va_cpy (σ4 31) (σ4 11) 0 0 5)) fun σ5 =>
  xlet (xset σ5 12 (va_cpy (σ5 32) (σ5 12) 0 0 5)) fun σ6 =>
  xlet (xset σ6 13 (va_cpy (σ6 33) (σ6 13) 0 0 5)) fun σ7 =>
  some σ7
set_option maxHeartbeats 1000000 in
set_option maxRecDepth 20000 in
theorem T_X8_copyFrom_8_28 (σ : xM) {d : Nat} {q : xM} (hd : 0 ≤ d) (h : F_X8_copyFrom_8_28 σ = some q) : xR xT xLn d 76 [.ref 8, .ref 28] σ (none, q) := by
  unfold F_X8_copyFrom_8_28 at h
  show xX xT xLn d 76 0 [.ref 8, .ref 28] [] σ _
  refine xX_blk (w := xw_76) eT_76 3 0 (ls' := [.ref 8, .ref 28]) (st' := [.int (σ 28 0), .ref 8]) (σ' := σ) rfl ?_
  refine xX_blk (w := xw_76) eT_76 1 3 (ls' := [.ref 8, .ref 28]) (st' := []) (σ' := xup σ 8 0 (σ 28 0)) rfl ?_
  obtain ⟨σ1, eσ1, h⟩ := xlet_inv h
  rw [← eσ1]
  refine xX_blk (w := xw_76) eT_76 3 4 (ls' := [.ref 8, .ref 28]) (st' := [.int (σ1 28 1), .ref 8]) (σ' := σ1) rfl ?_
  refine xX_blk (w := xw_76) eT_76 1 7 (ls' := [.ref 8, .ref 28]) (st' := []) (σ' := xup σ1 8 1 (σ1 28 1)) rfl ?_
  obtain ⟨σ2, eσ2, h⟩ := xlet_inv h
  rw [← eσ2]
  refine xX_blk (w := xw_76) eT_76 7 8 (ls' := [.ref 8, .ref 28]) (st' := [.int 5, .int 0, .ref 9, .int 0, .ref 29]) (σ' := σ2) rfl ?_
  refine xX_one (w := xw_76) (i := 15) (ls' := [.ref 8, .ref 28]) (st' := []) (σ' := xset σ2 9 (va_cpy (σ2 29) (σ2 9) 0 0 5)) eT_76 rfl (e_copy xs_29 xs_9 (by decide) (by decide) (Nat.le_of_ble_eq_true rfl)) ?_
  obtain ⟨σ3, eσ3, h⟩ := xlet_inv h
  rw [← eσ3]
  refine xX_blk (w := xw_76) eT_76 7 16 (ls' := [.ref 8, .ref 28]) (st' := [.int 5, .int 0, .ref 10, .int 0, .ref 30]) (σ' := σ3) rfl ?_
  refine xX_one (w := xw_76) (i := 23) (ls' := [.ref 8, .ref 28]) (st' := []) (σ' := xset σ3 10 (va_cpy (σ3 30) (σ3 10) 0 0 5)) eT_76 rfl (e_copy xs_30 xs_10 (by decide) (by decide) (Nat.le_of_ble_eq_true rfl)) ?_
  obtain ⟨σ4, eσ4, h⟩ := xlet_inv h
  rw [← eσ4]
  refine xX_blk (w := xw_76) eT_76 7 24 (ls' := [.ref 8, .ref 28]) (st' := [.int 5, .int 0, .ref 11, .int 0, .ref 31]) (σ' := σ4) rfl ?_
  refine xX_one (w := xw_76) (i := 31) (ls' := [.ref 8, .ref 28]) (st' := []) (σ' := xset σ4 11 (va_cpy (σ4 31) (σ4 11) 0 0 5)) eT_76 rfl (e_copy xs_31 xs_11 (by decide) (by decide) (Nat.le_of_ble_eq_true rfl)) ?_
  obtain ⟨σ5, eσ5, h⟩ := xlet_inv h
  rw [← eσ5]
  refine xX_blk (w := xw_76) eT_76 7 32 (ls' := [.ref 8, .ref 28]) (st' := [.int 5, .int 0, .ref 12, .int 0, .ref 32]) (σ' := σ5) rfl ?_
  refine xX_one (w := xw_76) (i := 39) (ls' := [.ref 8, .ref 28]) (st' := []) (σ' := xset σ5 12 (va_cpy (σ5 32) (σ5 12) 0 0 5)) eT_76 rfl (e_copy xs_32 xs_12 (by decide) (by decide) (Nat.le_of_ble_eq_true rfl)) ?_
  obtain ⟨σ6, eσ6, h⟩ := xlet_inv h
  rw [← eσ6]
  refine xX_blk (w := xw_76) eT_76 7 40 (ls' := [.ref 8, .ref 28]) (st' := [.int 5, .int 0, .ref 13, .int 0, .ref 33]) (σ' := σ6) rfl ?_
  refine xX_one (w := xw_76) (i := 47) (ls' := [.ref 8, .ref 28]) (st' := []) (σ' := xset σ6 13 (va_cpy (σ6 33) (σ6 13) 0 0 5)) eT_76 rfl (e_copy xs_33 xs_13 (by decide) (by decide) (Nat.le_of_ble_eq_true rfl)) ?_
  obtain ⟨σ7, eσ7, h⟩ := xlet_inv h
  rw [← eσ7]
  obtain rfl := Option.some.inj h
  exact xX_ret (w := xw_76) (i := 48) eT_76 rfl rfl
def F_X7_copyFrom_14_34 (σ : xM) : Option (xM) :=
  xlet (xup σ 14 0 (σ 34 0)) fun σ1 =>
  xlet (xset σ1 15 (va_cpy (σ1 35) (σ1 15) 0 0 12)) fun σ2 =>
  xlet (xset σ2 16 (va_cpy (σ2 36) (σ2 16) 0 0 12)) fun σ3 =>
  xlet (xset σ3 17 (va_cpy (σ3 37) (σ3 17) 0 0 12)) fun σ4 =>
  xlet (xset σ4 18 (va_cpy (σ4 38) (σ4 18) 0 0 12)) fun σ5 =>
  some σ5
set_option maxHeartbeats 1000000 in
set_option maxRecDepth 20000 in
theorem T_X7_copyFrom_14_34 (σ : xM) {d : Nat} {q : xM} (hd : 0 ≤ d) (h : F_X7_copyFrom_14_34 σ = some q) : xR xT xLn d 67 [.ref 14, .ref 34] σ (none, q) := by
  unfold F_X7_copyFrom_14_34 at h
  show xX xT xLn d 67 0 [.ref 14, .ref 34] [] σ _
  refine xX_blk (w := xw_67) eT_67 3 0 (ls' := [.ref 14, .ref 34]) (st' := [.int (σ 34 0), .ref 14]) (σ' := σ) rfl ?_
  refine xX_blk (w := xw_67) eT_67 1 3 (ls' := [.ref 14, .ref 34]) (st' := []) (σ' := xup σ 14 0 (σ 34 0)) rfl ?_
  obtain ⟨σ1, eσ1, h⟩ := xlet_inv h
  rw [← eσ1]
  refine xX_blk (w := xw_67) eT_67 7 4 (ls' := [.ref 14, .ref 34]) (st' := [.int 12, .int 0, .ref 15, .int 0, .ref 35]) (σ' := σ1) rfl ?_
  refine xX_one (w := xw_67) (i := 11) (ls' := [.ref 14, .ref 34]) (st' := []) (σ' := xset σ1 15 (va_cpy (σ1 35) (σ1 15) 0 0 12)) eT_67 rfl (e_copy xs_35 xs_15 (by decide) (by decide) (Nat.le_of_ble_eq_true rfl)) ?_
  obtain ⟨σ2, eσ2, h⟩ := xlet_inv h
  rw [← eσ2]
  refine xX_blk (w := xw_67) eT_67 7 12 (ls' := [.ref 14, .ref 34]) (st' := [.int 12, .int 0, .ref 16, .int 0, .ref 36]) (σ' := σ2) rfl ?_
  refine xX_one (w := xw_67) (i := 19) (ls' := [.ref 14, .ref 34]) (st' := []) (σ' := xset σ2 16 (va_cpy (σ2 36) (σ2 16) 0 0 12)) eT_67 rfl (e_copy xs_36 xs_16 (by decide) (by decide) (Nat.le_of_ble_eq_true rfl)) ?_
  obtain ⟨σ3, eσ3, h⟩ := xlet_inv h
  rw [← eσ3]
  refine xX_blk (w := xw_67) eT_67 7 20 (ls' := [.ref 14, .ref 34]) (st' := [.int 12, .int 0, .ref 17, .int 0, .ref 37]) (σ' := σ3) rfl ?_
  refine xX_one (w := xw_67) (i := 27) (ls' := [.ref 14, .ref 34]) (st' := []) (σ' := xset σ3 17 (va_cpy (σ3 37) (σ3 17) 0 0 12)) eT_67 rfl (e_copy xs_37 xs_17 (by decide) (by decide) (Nat.le_of_ble_eq_true rfl)) ?_
  obtain ⟨σ4, eσ4, h⟩ := xlet_inv h
  rw [← eσ4]
  refine xX_blk (w := xw_67) eT_67 7 28 (ls' := [.ref 14, .ref 34]) (st' := [.int 12, .int 0, .ref 18, .int 0, .ref 38]) (σ' := σ4) rfl ?_
  refine xX_one (w := xw_67) (i := 35) (ls' := [.ref 14, .ref 34]) (st' := []) (σ' := xset σ4 18 (va_cpy (σ4 38) (σ4 18) 0 0 12)) eT_67 rfl (e_copy xs_38 xs_18 (by decide) (by decide) (Nat.le_of_ble_eq_true rfl)) ?_
  obtain ⟨σ5, eσ5, h⟩ := xlet_inv h
  rw [← eσ5]
  obtain rfl := Option.some.inj h
  exact xX_ret (w := xw_67) (i := 36) eT_67 rfl rfl
def F_X9_copyFrom_1_21 (σ : xM) : Option (xM) :=
  xbd (F_X1_copyFrom_2_22 σ) fun r1 =>
  xbd (F_X8_copyFrom_8_28 r1) fun r2 =>
  xbd (F_X7_copyFrom_14_34 r2) fun r3 =>
  xlet (xup r3 1 3 (r3 21 3)) fun σ4 =>
  xlet (xup σ4 1 4 (σ4 21 4)) fun σ5 =>
  xlet (xup σ5 1 5 (σ5 21 5)) fun σ6 =>
  xlet (xup σ6 1 6 (σ6 21 6)) fun σ7 =>
  some σ7
set_option maxHeartbeats 1000000 in
set_option maxRecDepth 20000 in
theorem T_X9_copyFrom_1_21 (σ : xM) {d : Nat} {q : xM} (hd : 1 ≤ d) (h : F_X9_copyFrom_1_21 σ = some q) : xR xT xLn d 77 [.ref 1, .ref 21] σ (none, q) := by
  unfold F_X9_copyFrom_1_21 at h
  show xX xT xLn d 77 0 [.ref 1, .ref 21] [] σ _
  refine xX_blk (w := xw_77) eT_77 4 0 (ls' := [.ref 1, .ref 21]) (st' := [.ref 22, .ref 2]) (σ' := σ) rfl ?_
  obtain ⟨r1, hr1, h⟩ := xbd_inv h
  refine xX_c0 (w := xw_77) (i := 4) (ls := [.ref 1, .ref 21]) (rest := []) eT_77 rfl (by omega) rfl rfl rfl (T_X1_copyFrom_2_22 σ (by omega) hr1) ?_
  refine xX_blk (w := xw_77) eT_77 4 5 (ls' := [.ref 1, .ref 21]) (st' := [.ref 28, .ref 8]) (σ' := r1) rfl ?_
  obtain ⟨r2, hr2, h⟩ := xbd_inv h
  refine xX_c0 (w := xw_77) (i := 9) (ls := [.ref 1, .ref 21]) (rest := []) eT_77 rfl (by omega) rfl rfl rfl (T_X8_copyFrom_8_28 r1 (by omega) hr2) ?_
  refine xX_blk (w := xw_77) eT_77 4 10 (ls' := [.ref 1, .ref 21]) (st' := [.ref 34, .ref 14]) (σ' := r2) rfl ?_
  obtain ⟨r3, hr3, h⟩ := xbd_inv h
  refine xX_c0 (w := xw_77) (i := 14) (ls := [.ref 1, .ref 21]) (rest := []) eT_77 rfl (by omega) rfl rfl rfl (T_X7_copyFrom_14_34 r2 (by omega) hr3) ?_
  refine xX_blk (w := xw_77) eT_77 3 15 (ls' := [.ref 1, .ref 21]) (st' := [.int (r3 21 3), .ref 1]) (σ' := r3) rfl ?_
  refine xX_blk (w := xw_77) eT_77 1 18 (ls' := [.ref 1, .ref 21]) (st' := []) (σ' := xup r3 1 3 (r3 21 3)) rfl ?_
  obtain ⟨σ4, eσ4, h⟩ := xlet_inv h
  rw [← eσ4]
  refine xX_blk (w := xw_77) eT_77 3 19 (ls' := [.ref 1, .ref 21]) (st' := [.int (σ4 21 4), .ref 1]) (σ' := σ4) rfl ?_
  refine xX_blk (w := xw_77) eT_77 1 22 (ls' := [.ref 1, .ref 21]) (st' := []) (σ' := xup σ4 1 4 (σ4 21 4)) rfl ?_
  obtain ⟨σ5, eσ5, h⟩ := xlet_inv h
  rw [← eσ5]
  refine xX_blk (w := xw_77) eT_77 3 23 (ls' := [.ref 1, .ref 21]) (st' := [.int (σ5 21 5), .ref 1]) (σ' := σ5) rfl ?_
  refine xX_blk (w := xw_77) eT_77 1 26 (ls' := [.ref 1, .ref 21]) (st' := []) (σ' := xup σ5 1 5 (σ5 21 5)) rfl ?_
  obtain ⟨σ6, eσ6, h⟩ := xlet_inv h
  rw [← eσ6]
  refine xX_blk (w := xw_77) eT_77 3 27 (ls' := [.ref 1, .ref 21]) (st' := [.int (σ6 21 6), .ref 1]) (σ' := σ6) rfl ?_
  refine xX_blk (w := xw_77) eT_77 1 30 (ls' := [.ref 1, .ref 21]) (st' := []) (σ' := xup σ6 1 6 (σ6 21 6)) rfl ?_
  obtain ⟨σ7, eσ7, h⟩ := xlet_inv h
  rw [← eσ7]
  obtain rfl := Option.some.inj h
  exact xX_ret (w := xw_77) (i := 31) eT_77 rfl rfl
def F_X1_copyFrom_2_40 (σ : xM) : Option (xM) :=
  xlet (xup σ 2 0 (σ 40 0)) fun σ1 =>
  xlet (xset σ1 3 (va_cpy (σ1 41) (σ1 3) 0 0 8)) fun σ2 =>
  xlet (xset σ2 4 (va_cpy (σ2 42) (σ2 4) 0 0 8)) fun σ3 =>
  xlet (xset σ3 5 (va_cpy (σ3 43) (σ3 5) 0 0 8)) fun σ4 =>
  xlet (xset σ4 6 (va_cpy (σ4 44) (σ4 6) 0 0 64)) fun σ5 =>
  xlet (xset σ5 7 (va_cpy (σ5 45) (σ5 7) 0 0 64)) fun σ6 =>
  some σ6
set_option maxHeartbeats 1000000 in
set_option maxRecDepth 20000 in
theorem T_X1_copyFrom_2_40 (σ : xM) {d : Nat} {q : xM} (hd : 0 ≤ d) (h : F_X1_copyFrom_2_40 σ = some q) : xR xT xLn d 25 [.ref 2, .ref 40] σ (none, q) := by
  unfold F_X1_copyFrom_2_40 at h
  show xX xT xLn d 25 0 [.ref 2, .ref 40] [] σ _
  refine xX_blk (w := xw_25) eT_25 3 0 (ls' := [.ref 2, .ref 40]) (st' := [.int (σ 40 0), .ref 2]) (σ' := σ) rfl ?_
  refine xX_blk (w := xw_25) eT_25 1 3 (ls' := [.ref 2, .ref 40]) (st' := []) (σ' := xup σ 2 0 (σ 40 0)) rfl ?_
  obtain ⟨σ1, eσ1, h⟩ := xlet_inv h
  rw [← eσ1]
  refine xX_blk (w := xw_25) eT_25 7 4 (ls' := [.ref 2, .ref 40]) (st' := [.int 8, .int 0, .ref 3, .int 0, .ref 41]) (σ' := σ1) rfl ?_
  refine xX_one (w := xw_25) (i := 11) (ls' := [.ref 2, .ref 40]) (st' := []) (σ' := xset σ1 3 (va_cpy (σ1 41) (σ1 3) 0 0 8)) eT_25 rfl (e_copy xs_41 xs_3 (by decide) (by decide) (Nat.le_of_ble_eq_true rfl)) ?_
  obtain ⟨σ2, eσ2, h⟩ := xlet_inv h
  rw [← eσ2]
  refine xX_blk (w := xw_25) eT_25 7 12 (ls' := [.ref 2, .ref 40]) (st' := [.int 8, .int 0, .ref 4, .int 0, .ref 42]) (σ' := σ2) rfl ?_
  refine xX_one (w := xw_25) (i := 19) (ls' := [.ref 2, .ref 40]) (st' := []) (σ' := xset σ2 4 (va_cpy (σ2 42) (σ2 4) 0 0 8)) eT_25 rfl (e_copy xs_42 xs_4 (by decide) (by decide) (Nat.le_of_ble_eq_true rfl)) ?_
  obtain ⟨σ3, eσ3, h⟩ := xlet_inv h
  rw [← eσ3]
  refine xX_blk (w := xw_25) eT_25 7 20 (ls' := [.ref 2, .ref 40]) (st' := [.int 8, .int 0, .ref 5, .int 0, .ref 43]) (σ' := σ3) rfl ?_
  refine xX_one (w := xw_25) (i := 27) (ls' := [.ref 2, .ref 40]) (st' := []) (σ' := xset σ3 5 (va_cpy (σ3 43) (σ3 5) 0 0 8)) eT_25 rfl (e_copy xs_43 xs_5 (by decide) (by decide) (Nat.le_of_ble_eq_true rfl)) ?_
  obtain ⟨σ4, eσ4, h⟩ := xlet_inv h
  rw [← eσ4]
  refine xX_blk (w := xw_25) eT_25 7 28 (ls' := [.ref 2, .ref 40]) (st' := [.int 64, .int 0, .ref 6, .int 0, .ref 44]) (σ' := σ4) rfl ?_
  refine xX_one (w := xw_25) (i := 35) (ls' := [.ref 2, .ref 40]) (st' := []) (σ' := xset σ4 6 (va_cpy (σ4 44) (σ4 6) 0 0 64)) eT_25 rfl (e_copy xs_44 xs_6 (by decide) (by decide) (Nat.le_of_ble_eq_true rfl)) ?_
  obtain ⟨σ5, eσ5, h⟩ := xlet_inv h
  rw [← eσ5]
  refine xX_blk (w := xw_25) eT_25 7 36 (ls' := [.ref 2, .ref 40]) (st' := [.int 64, .int 0, .ref 7, .int 0, .ref 45]) (σ' := σ5) rfl ?_
  refine xX_one (w := xw_25) (i := 43) (ls' := [.ref 2, .ref 40]) (st' := []) (σ' := xset σ5 7 (va_cpy (σ5 45) (σ5 7) 0 0 64)) eT_25 rfl (e_copy xs_45 xs_7 (by decide) (by decide) (Nat.le_of_ble_eq_true rfl)) ?_
  obtain ⟨σ6, eσ6, h⟩ := xlet_inv h
  rw [← eσ6]
  obtain rfl := Option.some.inj h
  exact xX_ret (w := xw_25) (i := 44) eT_25 rfl rfl
def F_X8_copyFrom_8_46 (σ : xM) : Option (xM) :=
  xlet (xup σ 8 0 (σ 46 0)) fun σ1 =>
  xlet (xup σ1 8 1 (σ1 46 1)) fun σ2 =>
  xlet (xset σ2 9 (va_cpy (σ2 47) (σ2 9) 0 0 5)) fun σ3 =>
  xlet (xset σ3 10 (va_cpy (σ3 48) (σ3 10) 0 0 5)) fun σ4 =>
  xlet (xset σ4 11 (va_cpy (σ4 49) (σ4 11) 0 0 5)) fun σ5 =>
  xlet (xset σ5 12 (va_cpy (σ5 50) (σ5 12) 0 0 5)) fun σ6 =>
  xlet (xset σ6 13 (va_cpy (σ6 51) (σ6 13) 0 0 5)) fun σ7 =>
  some σ7
set_option maxHeartbeats 1000000 in
set_option maxRecDepth 20000 in
theorem T_X8_copyFrom_8_46 (σ : xM) {d : Nat} {q : xM} (hd : 0 ≤ d) (h : F_X8_copyFrom_8_46 σ = some q) : xR xT xLn d 76 [.ref 8, .ref 46] σ (none, q) := by
  unfold F_X8_copyFrom_8_46 at h
  show xX xT xLn d 76 0 [.ref 8, .ref 46] [] σ _
  refine xX_blk (w := xw_76) eT_76 3 0 (ls' := [.ref 8, .ref 46]) (st' := [.int (σ 46 0), .ref 8]) (σ' := σ) rfl ?_
  refine xX_blk (w := xw_76) eT_76 1 3 (ls' := [.ref 8, .ref 46]) (st' := []) (σ' := xup σ 8 0 (σ 46 0)) rfl ?_
  obtain ⟨σ1, eσ1, h⟩ := xlet_inv h
  rw [← eσ1]
  refine xX_blk (w := xw_76) eT_76 3 4 (ls' := [.ref 8, .ref 46]) (st' := [.int (σ1 46 1), .ref 8]) (σ' := σ1) rfl ?_
  refine xX_blk (w := xw_76) eT_76 1 7 (ls' := [.ref 8, .ref 46]) (st' := []) (σ' := xup σ1 8 1 (σ1 46 1)) rfl ?_
  obtain ⟨σ2, eσ2, h⟩ := xlet_inv h
  rw [← eσ2]
  refine xX_blk (w := xw_76) eT_76 7 8 (ls' := [.ref 8, .ref 46]) (st' := [.int 5, .int 0, .ref 9, .int 0, .ref 47]) (σ' := σ2) rfl ?_
  refine xX_one (w := xw_76) (i := 15) (ls' := [.ref 8, .ref 46]) (st' := []) (σ' := xset σ2 9 (va_cpy (σ2 47) (σ2 9) 0 0 5)) eT_76 rfl (e_copy xs_47 xs_9 (by decide) (by decide) (Nat.le_of_ble_eq_true rfl)) ?_
  obtain ⟨σ3, eσ3, h⟩ := xlet_inv h
  rw [← eσ3]
  refine xX_blk (w := xw_76) eT_76 7 16 (ls' := [.ref 8, .ref 46]) (st' := [.int 5, .int 0, .ref 10, .int 0, .ref 48]) (σ' := σ3) rfl ?_
  refine xX_one (w := xw_76) (i := 23) (ls' := [.ref 8, .ref 46]) (st' := []) (σ' := xset σ3 10 (va_cpy (σ3 48) (σ3 10) 0 0 5)) eT_76 rfl (e_copy xs_48 xs_10 (by decide) (by decide) (Nat.le_of_ble_eq_true rfl)) ?_
  obtain ⟨σ4, eσ4, h⟩ := xlet_inv h
  rw [← eσ4]
  refine xX_blk (w := xw_76) eT_76 7 24 (ls' := [.ref 8, .ref 46]) (st' := [.int 5, .int 0, .ref 11, .int 0, .ref 49]) (σ' := σ4) rfl ?_
  refine xX_one (w := xw_76) (i := 31) (ls' := [.ref 8, .ref 46]) (st' := []) (σ' := xset σ4 11 (va_cpy (σ4 49) (σ4 11) 0 0 5)) eT_76 rfl (e_copy xs_49 xs_11 (by decide) (by decide) (Nat.le_of_ble_eq_true rfl)) ?_
  obtain ⟨σ5, eσ5, h⟩ := xlet_inv h
  rw [← eσ5]
  refine xX_blk (w := xw_76) eT_76 7 32 (ls' := [.ref 8, .ref 46]) (st' := [.int 5, .int 0, .ref 12, .int 0, .ref 50]) (σ' := σ5) rfl ?_
  refine xX_one (w := xw_76) (i := 39) (ls' := [.ref 8, .ref 46]) (st' := []) (σ' := xset σ5 12 (va_cpy (σ5 50) (σ5 12) 0 0 5)) eT_76 rfl (e_copy xs_50 xs_12 (by decide) (by decide) (Nat.le_of_ble_eq_true rfl)) ?_
  obtain ⟨σ6, eσ6, h⟩ := xlet_inv h
  rw [← eσ6]
  refine xX_blk (w := xw_76) eT_76 7 40 (ls' := [.ref 8, .ref 46]) (st' := [.int 5, .int 0, .ref 13, .int 0, .ref 51]) (σ' := σ6) rfl ?_
  refine xX_one (w := xw_76) (i := 47) (ls' := [.ref 8, .ref 46]) (st' := []) (σ' := xset σ6 13 (va_cpy (σ6 51) (σ6 13) 0 0 5)) eT_76 rfl (e_copy xs_51 xs_13 (by decide) (by decide) (Nat.le_of_ble_eq_true rfl)) ?_
  obtain ⟨σ7, eσ7, h⟩ := xlet_inv h
  rw [← eσ7]
  obtain rfl := Option.some.inj h
  exact xX_ret (w := xw_76) (i := 48) eT_76 rfl rfl
def F_X7_copyFrom_14_52 (σ : xM) : Option (xM) :=
  xlet (xup σ 14 0 (σ 52 0)) fun σ1 =>
  xlet (xset σ1 15 (va_cpy (σ1 53) (σ1 15) 0 0 12)) fun σ2 =>
  xlet (xset σ2 16 (va_cpy (σ2 54) (σ2 16) 0 0 12)) fun σ3 =>
  xlet (xset σ3 17 (va_cpy (σ3 55) (σ3 17) 0 0 12)) fun σ4 =>
  xlet (xset σ4 18 (va_cpy (σ4 56) (σ4 18) 0 0 12)) fun σ5 =>
  some σ5
set_option maxHeartbeats 1000000 in
set_option maxRecDepth 20000 in
theorem T_X7_copyFrom_14_52 (σ : xM) {d : Nat} {q : xM} (hd : 0 ≤ d) (h : F_X7_copyFrom_14_52 σ = some q) : xR xT xLn d 67 [.ref 14, .ref 52] σ (none, q) := by
  unfold F_X7_copyFrom_14_52 at h
  show xX xT xLn d 67 0 [.ref 14, .ref 52] [] σ _
  refine xX_blk (w := xw_67) eT_67 3 0 (ls' := [.ref 14, .ref 52]) (st' := [.int (σ 52 0), .ref 14]) (σ' := σ) rfl ?_
  refine xX_blk (w := xw_67) eT_67 1 3 (ls' := [.ref 14, .ref 52]) (st' := []) (σ' := xup σ 14 0 (σ 52 0)) rfl ?_
  obtain ⟨σ1, eσ1, h⟩ := xlet_inv h
  rw [← eσ1]
  refine xX_blk (w := xw_67) eT_67 7 4 (ls' := [.ref 14, .ref 52]) (st' := [.int 12, .int 0, .ref 15, .int 0, .ref 53]) (σ' := σ1) rfl ?_
  refine xX_one (w := xw_67) (i := 11) (ls' := [.ref 14, .ref 52]) (st' := []) (σ' := xset σ1 15 (va_cpy (σ1 53) (σ1 15) 0 0 12)) eT_67 rfl (e_copy xs_53 xs_15 (by decide) (by decide) (Nat.le_of_ble_eq_true rfl)) ?_
  obtain ⟨σ2, eσ2, h⟩ := xlet_inv h
  rw [← eσ2]
  refine xX_blk (w := xw_67) eT_67 7 12 (ls' := [.ref 14, .ref 52]) (st' := [.int 12, .int 0, .ref 16, .int 0, .ref 54]) (σ' := σ2) rfl ?_
  refine xX_one (w := xw_67) (i := 19) (ls' := [.ref 14, .ref 52]) (st' := []) (σ' := xset σ2 16 (va_cpy (σ2 54) (σ2 16) 0 0 12)) eT_67 rfl (e_copy xs_54 xs_16 (by decide) (by decide) (Nat.le_of_ble_eq_true rfl)) ?_
  obtain ⟨σ3, eσ3, h⟩ := xlet_inv h
  rw [← eσ3]
  refine xX_blk (w := xw_67) eT_67 7 20 (ls' := [.ref 14, .ref 52]) (st' := [.int 12, .int 0, .ref 17, .int 0, .ref 55]) (σ' := σ3) rfl ?_
  refine xX_one (w := xw_67) (i := 27) (ls' := [.ref 14, .ref 52]) (st' := []) (σ' := xset σ3 17 (va_cpy (σ3 55) (σ3 17) 0 0 12)) eT_67 rfl (e_copy xs_55 xs_17 (by decide) (by decide) (Nat.le_of_ble_eq_true rfl)) ?_
  obtain ⟨σ4, eσ4, h⟩ := xlet_inv h
  rw [← eσ4]
  refine xX_blk (w := xw_67) eT_67 7 28 (ls' := [.ref 14, .ref 52]) (st' := [.int 12, .int 0, .ref 18, .int 0, .ref 56]) (σ' := σ4) rfl ?_
  refine xX_one (w := xw_67) (i := 35) (ls' := [.ref 14, .ref 52]) (st' := []) (σ' := xset σ4 18 (va_cpy (σ4 56) (σ4 18) 0 0 12)) eT_67 rfl (e_copy xs_56 xs_18 (by decide) (by decide) (Nat.le_of_ble_eq_true rfl)) ?_
  obtain ⟨σ5, eσ5, h⟩ := xlet_inv h
  rw [← eσ5]
  obtain rfl := Option.some.inj h
  exact xX_ret (w := xw_67) (i := 36) eT_67 rfl rfl
def F_X9_copyFrom_1_39 (σ : xM) : Option (xM) :=
  xbd (F_X1_copyFrom_2_40 σ) fun r1 =>
  xbd (F_X8_copyFrom_8_46 r1) fun r2 =>
  xbd (F_X7_copyFrom_14_52 r2) fun r3 =>
  xlet (xup r3 1 3 (r3 39 3)) fun σ4 =>
  xlet (xup σ4 1 4 (σ4 39 4)) fun σ5 =>
  xlet (xup σ5 1 5 (σ5 39 5)) fun σ6 =>
  xlet (xup σ6 1 6 (σ6 39 6)) fun σ7 =>
  some σ7
set_option maxHeartbeats 1000000 in
set_option maxRecDepth 20000 in
theorem T_X9_copyFrom_1_39 (σ : xM) {d : Nat} {q : xM} (hd : 1 ≤ d) (h : F_X9_copyFrom_1_39 σ = some q) : xR xT xLn d 77 [.ref 1, .ref 39] σ (none, q) := by
  unfold F_X9_copyFrom_1_39 at h
  show xX xT xLn d 77 0 [.ref 1, .ref 39] [] σ _
  refine xX_blk (w := xw_77) eT_77 4 0 (ls' := [.ref 1, .ref 39]) (st' := [.ref 40, .ref 2]) (σ' := σ) rfl ?_
  obtain ⟨r1, hr1, h⟩ := xbd_inv h
  refine xX_c0 (w := xw_77) (i := 4) (ls := [.ref 1, .ref 39]) (rest := []) eT_77 rfl (by omega) rfl rfl rfl (T_X1_copyFrom_2_40 σ (by omega) hr1) ?_
  refine xX_blk (w := xw_77) eT_77 4 5 (ls' := [.ref 1, .ref 39]) (st' := [.ref 46, .ref 8]) (σ' := r1) rfl ?_
  obtain ⟨r2, hr2, h⟩ := xbd_inv h
  refine xX_c0 (w := xw_77) (i := 9) (ls := [.ref 1, .ref 39]) (rest := []) eT_77 rfl (by omega) rfl rfl rfl (T_X8_copyFrom_8_46 r1 (by omega) hr2) ?_
  refine xX_blk (w := xw_77) eT_77 4 10 (ls' := [.ref 1, .ref 39]) (st' := [.ref 52, .ref 14]) (σ' := r2) rfl ?_
  obtain ⟨r3, hr3, h⟩ := xbd_inv h
  refine xX_c0 (w := xw_77) (i := 14) (ls := [.ref 1, .ref 39]) (rest := []) eT_77 rfl (by omega) rfl rfl rfl (T_X7_copyFrom_14_52 r2 (by omega) hr3) ?_
  refine xX_blk (w := xw_77) eT_77 3 15 (ls' := [.ref 1, .ref 39]) (st' := [.int (r3 39 3), .ref 1]) (σ' := r3) rfl ?_
  refine xX_blk (w := xw_77) eT_77 1 18 (ls' := [.ref 1, .ref 39]) (st' := []) (σ' := xup r3 1 3 (r3 39 3)) rfl ?_
  obtain ⟨σ4, eσ4, h⟩ := xlet_inv h
  rw [← eσ4]
  refine xX_blk (w := xw_77) eT_77 3 19 (ls' := [.ref 1, .ref 39]) (st' := [.int (σ4 39 4), .ref 1]) (σ' := σ4) rfl ?_
  refine xX_blk (w := xw_77) eT_77 1 22 (ls' := [.ref 1, .ref 39]) (st' := []) (σ' := xup σ4 1 4 (σ4 39 4)) rfl ?_
  obtain ⟨σ5, eσ5, h⟩ := xlet_inv h
  rw [← eσ5]
  refine xX_blk (w := xw_77) eT_77 3 23 (ls' := [.ref 1, .ref 39]) (st' := [.int (σ5 39 5), .ref 1]) (σ' := σ5) rfl ?_
  refine xX_blk (w := xw_77) eT_77 1 26 (ls' := [.ref 1, .ref 39]) (st' := []) (σ' := xup σ5 1 5 (σ5 39 5)) rfl ?_
  obtain ⟨σ6, eσ6, h⟩ := xlet_inv h
  rw [← eσ6]
  refine xX_blk (w := xw_77) eT_77 3 27 (ls' := [.ref 1, .ref 39]) (st' := [.int (σ6 39 6), .ref 1]) (σ' := σ6) rfl ?_
  refine xX_blk (w := xw_77) eT_77 1 30 (ls' := [.ref 1, .ref 39]) (st' := []) (σ' := xup σ6 1 6 (σ6 39 6)) rfl ?_
  obtain ⟨σ7, eσ7, h⟩ := xlet_inv h
  rw [← eσ7]
  obtain rfl := Option.some.inj h
  exact xX_ret (w := xw_77) (i := 31) eT_77 rfl rfl
def F_X1_copyFrom_2_58 (σ : xM) : Option (xM) :=
  xlet (xup σ 2 0 (σ 58 0)) fun σ1 =>
  xlet (xset σ1 3 (va_cpy (σ1 59) (σ1 3) 0 0 8)) fun σ2 =>
  xlet (xset σ2 4 (va_cpy (σ2 60) (σ2 4) 0 0 8)) fun σ3 =>
  xlet (xset σ3 5 (va_cpy (σ3 61) (σ3 5) 0 0 8)) fun σ4 =>
  xlet (xset σ4 6 (va_cpy (σ4 62) (σ4 6) 0 0 64)) fun σ5 =>
  xlet (xset σ5 7 (va_cpy (σ5 63) (σ5 7) 0 0 64)) fun σ6 =>
  some σ6
set_option maxHeartbeats 1000000 in
set_option maxRecDepth 20000 in
theorem T_X1_copyFrom_2_58 (σ : xM) {d : Nat} {q : xM} (hd : 0 ≤ d) (h : F_X1_copyFrom_2_58 σ = some q) : xR xT xLn d 25 [.ref 2, .ref 58] σ (none, q) := by
  unfold F_X1_copyFrom_2_58 at h
  show xX xT xLn d 25 0 [.ref 2, .ref 58] [] σ _
  refine xX_blk (w := xw_25) eT_25 3 0 (ls' := [.ref 2, .ref 58]) (st' := [.int (σ 58 0), .ref 2]) (σ' := σ) rfl ?_
  refine xX_blk (w := xw_25) eT_25 1 3 (ls' := [.ref 2, .ref 58]) (st' := []) (σ' := xup σ 2 0 (σ 58 0)) rfl ?_
  obtain ⟨σ1, eσ1, h⟩ := xlet_inv h
  rw [← eσ1]
  refine xX_blk (w := xw_25) eT_25 7 4 (ls' := [.ref 2, .ref 58]) (st' := [.int 8, .int 0, .ref 3, .int 0, .ref 59]) (σ' := σ1) rfl ?_
  refine xX_one (w := xw_25) (i := 11) (ls' := [.ref 2, .ref 58]) (st' := []) (σ' := xset σ1 3 (va_cpy (σ1 59) (σ1 3) 0 0 8)) eT_25 rfl (e_copy xs_59 xs_3 (by decide) (by decide) (Nat.le_of_ble_eq_true rfl)) ?_
  obtain ⟨σ2, eσ2, h⟩ := xlet_inv h
  rw [← eσ2]
  refine xX_blk (w := xw_25) eT_25 7 12 (ls' := [.ref 2, .ref 58]) (st' := [.int 8, .int 0, .ref 4, .int 0, .ref 60]) (σ' := σ2) rfl ?_
  refine xX_one (w := xw_25) (i := 19) (ls' := [.ref 2, .ref 58]) (st' := []) (σ' := xset σ2 4 (va_cpy (σ2 60) (σ2 4) 0 0 8)) eT_25 rfl (e_copy xs_60 xs_4 (by decide) (by decide) (Nat.le_of_ble_eq_true rfl)) ?_
  obtain ⟨σ3, eσ3, h⟩ := xlet_inv h
  rw [← eσ3]
  refine xX_blk (w := xw_25) eT_25 7 20 (ls' := [.ref 2, .ref 58]) (st' := [.int 8, .int 0, .ref 5, .int 0, .ref 61]) (σ' := σ3) rfl ?_
  refine xX_one (w := xw_25) (i := 27) (ls' := [.ref 2, .ref 58]) (st' := []) (σ' := xset σ3 5 (va_cpy (σ3 61) (σ3 5) 0 0 8)) eT_25 rfl (e_copy xs_61 xs_5 (by decide) (by decide) (Nat.le_of_ble_eq_true rfl)) ?_
  obtain ⟨σ4, eσ4, h⟩ := xlet_inv h
  rw [← eσ4]
  refine xX_blk (w := xw_25) eT_25 7 28 (ls' := [.ref 2, .ref 58]) (st' := [.int 64, .int 0, .ref 6, .int 0, .ref 62]) (σ' := σ4) rfl ?_
  refine xX_one (w := xw_25) (i := 35) (ls' := [.ref 2, .ref 58]) (st' := []) (σ' := xset σ4 6 (va_cpy (σ4 62) (σ4 6) 0 0 64)) eT_25 rfl (e_copy xs_62 xs_6 (by decide) (by decide) (Nat.le_of_ble_eq_true rfl)) ?_
  obtain ⟨σ5, eσ5, h⟩ := xlet_inv h
  rw [← eσ5]
  refine xX_blk (w := xw_25) eT_25 7 36 (ls' := [.ref 2, .ref 58]) (st' := [.int 64, .int 0, .ref 7, .int 0, .ref 63]) (σ' := σ5) rfl ?_
  refine xX_one (w := xw_25) (i := 43) (ls' := [.ref 2, .ref 58]) (st' := []) (σ' := xset σ5 7 (va_cpy (σ5 63) (σ5 7) 0 0 64)) eT_25 rfl (e_copy xs_63 xs_7 (by decide) (by decide) (Nat.le_of_ble_eq_true rfl)) ?_
  obtain ⟨σ6, eσ6, h⟩ := xlet_inv h
  rw [← eσ6]
  obtain rfl := Option.some.inj h
  exact xX_ret (w := xw_25) (i := 44) eT_25 rfl rfl
