def B_X0_noteLastSites_2 (v1 : Int32) (σ : xM) : Option ((Int32 × xM) ⊕ ((xM))) :=
  if (σ 2 0) ≤ v1 then
    some (.inr σ)
  else
    xbd (F_X4_presentCatch v1 σ) fun r2 =>
    xgd (xin v1 8) (
    xlet (xup σ 5 v1.toNatClampNeg r2) fun σ4 =>
    some (.inl ((v1 + 1), σ4)))
def L_X0_noteLastSites_2 (v1 : Int32) (σ : xM) : Option ((xM)) := xloop (fun s : Int32 × xM => B_X0_noteLastSites_2 s.1 s.2) 6000 (v1, σ)
set_option maxHeartbeats 1000000 in
set_option maxRecDepth 20000 in
theorem TB_X0_noteLastSites_2 {d : Nat} {o : Option Value × xM} (v1 : Int32) (σ : xM) {q : (Int32 × xM) ⊕ ((xM))} (hd : 3 ≤ d) (h : B_X0_noteLastSites_2 v1 σ = some q) (hB : ∀ s', q = .inl s' → xX xT xLn d 17 2 [.ref 136, .int s'.1] [] s'.2 o) (hE : ∀ e', q = .inr e' → ∀ (z0 z1 : Value), xX xT xLn d 17 21 [z0, z1] [] e' o) : xX xT xLn d 17 2 [.ref 136, .int v1] [] σ o := by
  unfold B_X0_noteLastSites_2 at h
  refine xX_blk (w := xw_17) eT_17 6 2 (ls' := [.ref 136, .int v1]) (st' := [.int (σ 2 0), .int v1]) (σ' := σ) rfl ?_
  refine xX_ite (c := (σ 2 0) ≤ v1) (w := xw_17) (i := 8) (a := 21) (b := 9) (st' := []) eT_17 rfl rfl (fun hc1 => ?_) (fun hc1 => ?_)
  · rw [if_pos hc1] at h
    obtain rfl := Option.some.inj h
    exact hE σ rfl _ _
  · rw [if_neg hc1] at h
    refine xX_blk (w := xw_17) eT_17 8 9 (ls' := [.ref 136, .int v1]) (st' := [.int v1, .ref 129, .int v1, .ref 5]) (σ' := σ) rfl ?_
    obtain ⟨r2, hr2, h⟩ := xbd_inv h
    refine xX_c1 (w := xw_17) (i := 17) (ls := [.ref 136, .int v1]) (rest := [.int v1, .ref 5]) eT_17 rfl (by omega) rfl rfl rfl (T_X4_presentCatch v1 σ (by omega) hr2) ?_
    obtain ⟨hi3, h⟩ := xgd_inv h
    refine xX_one (w := xw_17) (i := 18) (ls' := [.ref 136, .int v1]) (st' := []) (σ' := xup σ 5 v1.toNatClampNeg r2) eT_17 rfl (e_iast xs_5 hi3) ?_
    obtain ⟨σ4, eσ4, h⟩ := xlet_inv h
    rw [← eσ4]
    refine xX_blk (w := xw_17) eT_17 1 19 (ls' := [.ref 136, .int (v1 + 1)]) (st' := []) (σ' := σ4) rfl ?_
    refine xX_jmp (w := xw_17) (i := 20) (a := 2) (st' := []) eT_17 rfl rfl ?_
    obtain rfl := Option.some.inj h
    exact hB ((v1 + 1), σ4) rfl
set_option maxHeartbeats 1000000 in
set_option maxRecDepth 20000 in
theorem TL_X0_noteLastSites_2 {d : Nat} {o : Option Value × xM} (v1 : Int32) (σ : xM) {e : (xM)} (hd : 3 ≤ d) (h : L_X0_noteLastSites_2 v1 σ = some e) (hE : ∀ (z0 z1 : Value), xX xT xLn d 17 21 [z0, z1] [] e o) : xX xT xLn d 17 2 [.ref 136, .int v1] [] σ o :=
  xloop_snd (X := fun s => xX xT xLn d 17 2 [.ref 136, .int s.1] [] s.2 o) (Y := fun e' => ∀ (z0 z1 : Value), xX xT xLn d 17 21 [z0, z1] [] e' o) (fun s q hs hB hE => TB_X0_noteLastSites_2 s.1 s.2 hd hs hB hE) _ _ _ h hE
def F_X0_noteLastSites (σ : xM) : Option (xM) :=
  xbd (L_X0_noteLastSites_2 0 σ) fun e5 =>
  some e5
set_option maxHeartbeats 1000000 in
set_option maxRecDepth 20000 in
theorem T_X0_noteLastSites (σ : xM) {d : Nat} {q : xM} (hd : 3 ≤ d) (h : F_X0_noteLastSites σ = some q) : xR xT xLn d 17 [.ref 136] σ (none, q) := by
  unfold F_X0_noteLastSites at h
  show xX xT xLn d 17 0 [.ref 136, .null] [] σ _
  refine xX_blk (w := xw_17) eT_17 2 0 (ls' := [.ref 136, .int 0]) (st' := []) (σ' := σ) rfl ?_
  obtain ⟨e5, he5, h⟩ := xbd_inv h
  refine TL_X0_noteLastSites_2 0 σ (by omega) he5 (fun z0 z1 => ?_)
  refine xX_blk (w := xw_17) eT_17 1 21 (ls' := [.null, .null]) (st' := []) (σ' := e5) rfl ?_
  obtain rfl := Option.some.inj h
  exact xX_ret (w := xw_17) (i := 22) eT_17 rfl rfl
def B_X0_passTicks_13 (p1 : Int32) (p2 : Int32) (v3 : Int32) (σ : xM) : Option ((Int32 × xM) ⊕ ((xM))) :=
  if p1 ≤ v3 then
    some (.inr σ)
  else
    xbd (F_X0_ageSessions σ) fun r4 =>
    xbd (F_X0_advanceDrain r4) fun r5 =>
    xbd (F_X0_noteLastSites r5) fun r6 =>
    xlet (xup r6 1 3 ((r6 1 3) + 1)) fun σ7 =>
    some (.inl ((v3 + 1), σ7))
def L_X0_passTicks_13 (p1 : Int32) (p2 : Int32) (v3 : Int32) (σ : xM) : Option ((xM)) := xloop (fun s : Int32 × xM => B_X0_passTicks_13 p1 p2 s.1 s.2) 6000 (v3, σ)
set_option maxHeartbeats 1000000 in
set_option maxRecDepth 20000 in
theorem TB_X0_passTicks_13 {d : Nat} {o : Option Value × xM} (p1 : Int32) (p2 : Int32) (v3 : Int32) (σ : xM) {q : (Int32 × xM) ⊕ ((xM))} (hd : 4 ≤ d) (h : B_X0_passTicks_13 p1 p2 v3 σ = some q) (hB : ∀ s', q = .inl s' → xX xT xLn d 13 13 [.ref 136, .int p1, .int p2, .int s'.1] [] s'.2 o) (hE : ∀ e', q = .inr e' → ∀ (z1 z3 : Value), xX xT xLn d 13 32 [.ref 136, z1, .int p2, z3] [] e' o) : xX xT xLn d 13 13 [.ref 136, .int p1, .int p2, .int v3] [] σ o := by
  unfold B_X0_passTicks_13 at h
  refine xX_blk (w := xw_13) eT_13 3 13 (ls' := [.ref 136, .int p1, .int p2, .int v3]) (st' := [.int p1, .int v3]) (σ' := σ) rfl ?_
  refine xX_ite (c := p1 ≤ v3) (w := xw_13) (i := 16) (a := 32) (b := 17) (st' := []) eT_13 rfl rfl (fun hc3 => ?_) (fun hc3 => ?_)
  · rw [if_pos hc3] at h
    obtain rfl := Option.some.inj h
    exact hE σ rfl _ _
  · rw [if_neg hc3] at h
    refine xX_blk (w := xw_13) eT_13 1 17 (ls' := [.ref 136, .int p1, .int p2, .int v3]) (st' := [.ref 136]) (σ' := σ) rfl ?_
    obtain ⟨r4, hr4, h⟩ := xbd_inv h
    refine xX_c0 (w := xw_13) (i := 18) (ls := [.ref 136, .int p1, .int p2, .int v3]) (rest := []) eT_13 rfl (by omega) rfl rfl rfl (T_X0_ageSessions σ (by omega) hr4) ?_
    refine xX_blk (w := xw_13) eT_13 1 19 (ls' := [.ref 136, .int p1, .int p2, .int v3]) (st' := [.ref 136]) (σ' := r4) rfl ?_
    obtain ⟨r5, hr5, h⟩ := xbd_inv h
    refine xX_c0 (w := xw_13) (i := 20) (ls := [.ref 136, .int p1, .int p2, .int v3]) (rest := []) eT_13 rfl (by omega) rfl rfl rfl (T_X0_advanceDrain r4 (by omega) hr5) ?_
    refine xX_blk (w := xw_13) eT_13 1 21 (ls' := [.ref 136, .int p1, .int p2, .int v3]) (st' := [.ref 136]) (σ' := r5) rfl ?_
    obtain ⟨r6, hr6, h⟩ := xbd_inv h
    refine xX_c0 (w := xw_13) (i := 22) (ls := [.ref 136, .int p1, .int p2, .int v3]) (rest := []) eT_13 rfl (by omega) rfl rfl rfl (T_X0_noteLastSites r5 (by omega) hr6) ?_
    refine xX_blk (w := xw_13) eT_13 6 23 (ls' := [.ref 136, .int p1, .int p2, .int v3]) (st' := [.int ((r6 1 3) + 1), .ref 1]) (σ' := r6) rfl ?_
    refine xX_blk (w := xw_13) eT_13 1 29 (ls' := [.ref 136, .int p1, .int p2, .int v3]) (st' := []) (σ' := xup r6 1 3 ((r6 1 3) + 1)) rfl ?_
    obtain ⟨σ7, eσ7, h⟩ := xlet_inv h
    rw [← eσ7]
    refine xX_blk (w := xw_13) eT_13 1 30 (ls' := [.ref 136, .int p1, .int p2, .int (v3 + 1)]) (st' := []) (σ' := σ7) rfl ?_
    refine xX_jmp (w := xw_13) (i := 31) (a := 13) (st' := []) eT_13 rfl rfl ?_
    obtain rfl := Option.some.inj h
    exact hB ((v3 + 1), σ7) rfl
set_option maxHeartbeats 1000000 in
set_option maxRecDepth 20000 in
theorem TL_X0_passTicks_13 {d : Nat} {o : Option Value × xM} (p1 : Int32) (p2 : Int32) (v3 : Int32) (σ : xM) {e : (xM)} (hd : 4 ≤ d) (h : L_X0_passTicks_13 p1 p2 v3 σ = some e) (hE : ∀ (z1 z3 : Value), xX xT xLn d 13 32 [.ref 136, z1, .int p2, z3] [] e o) : xX xT xLn d 13 13 [.ref 136, .int p1, .int p2, .int v3] [] σ o :=
  xloop_snd (X := fun s => xX xT xLn d 13 13 [.ref 136, .int p1, .int p2, .int s.1] [] s.2 o) (Y := fun e' => ∀ (z1 z3 : Value), xX xT xLn d 13 32 [.ref 136, z1, .int p2, z3] [] e' o) (fun s q hs hB hE => TB_X0_passTicks_13 p1 p2 s.1 s.2 hd hs hB hE) _ _ _ h hE
def F_X0_passTicks (a : Int32) (σ : xM) : Option (Int32 × xM) :=
  xbd (F_X10_within a 1 30 σ) fun r1 =>
  if r1 = 0 then
    some ((-2), σ)
  else
    xbd (L_X0_passTicks_13 a (σ 1 4) 0 σ) fun e8 =>
    some (((e8 1 4) - (σ 1 4)), e8)
set_option maxHeartbeats 1000000 in
set_option maxRecDepth 20000 in
theorem T_X0_passTicks (a : Int32) (σ : xM) {d : Nat} {q : Int32 × xM} (hd : 4 ≤ d) (h : F_X0_passTicks a σ = some q) : xR xT xLn d 13 [.ref 136, .int a] σ (some (.int q.1), q.2) := by
  unfold F_X0_passTicks at h
  show xX xT xLn d 13 0 [.ref 136, .int a, .null, .null] [] σ _
  refine xX_blk (w := xw_13) eT_13 3 0 (ls' := [.ref 136, .int a, .null, .null]) (st' := [.int 30, .int 1, .int a]) (σ' := σ) rfl ?_
  obtain ⟨r1, hr1, h⟩ := xbd_inv h
  refine xX_c1 (w := xw_13) (i := 3) (ls := [.ref 136, .int a, .null, .null]) (rest := []) eT_13 rfl (by omega) rfl rfl rfl (T_X10_within a 1 30 σ (by omega) hr1) ?_
  refine xX_ite (c := r1 = 0) (w := xw_13) (i := 4) (a := 5) (b := 7) (st' := []) eT_13 rfl rfl (fun hc2 => ?_) (fun hc2 => ?_)
  · rw [if_pos hc2] at h
    refine xX_blk (w := xw_13) eT_13 1 5 (ls' := [.ref 136, .int a, .null, .null]) (st' := [.int (-2)]) (σ' := σ) rfl ?_
    obtain rfl := Option.some.inj h
    exact xX_ret (w := xw_13) (i := 6) eT_13 rfl rfl
  · rw [if_neg hc2] at h
    refine xX_blk (w := xw_13) eT_13 6 7 (ls' := [.ref 136, .int a, .int (σ 1 4), .int 0]) (st' := []) (σ' := σ) rfl ?_
    obtain ⟨e8, he8, h⟩ := xbd_inv h
    refine TL_X0_passTicks_13 a (σ 1 4) 0 σ (by omega) he8 (fun z1 z3 => ?_)
    refine xX_blk (w := xw_13) eT_13 6 32 (ls' := [.ref 136, .null, .int (σ 1 4), .null]) (st' := [.int ((e8 1 4) - (σ 1 4))]) (σ' := e8) rfl ?_
    obtain rfl := Option.some.inj h
    exact xX_ret (w := xw_13) (i := 38) eT_13 rfl rfl
def F_X10_ticks (a : Int32) (σ : xM) : Option (Int32 × xM) :=
  xbd (F_X10_mark σ) fun r1 =>
  xbd (F_X0_passTicks a r1) fun r2 =>
  xbd (F_X10_settled r2.1 r2.2) fun r3 =>
  some (r3.1, r3.2)
set_option maxHeartbeats 1000000 in
set_option maxRecDepth 20000 in
theorem T_X10_ticks (a : Int32) (σ : xM) {d : Nat} {q : Int32 × xM} (hd : 5 ≤ d) (h : F_X10_ticks a σ = some q) : xR xT xLn d 94 [.ref 0, .int a] σ (some (.int q.1), q.2) := by
  unfold F_X10_ticks at h
  show xX xT xLn d 94 0 [.ref 0, .int a] [] σ _
  refine xX_blk (w := xw_94) eT_94 1 0 (ls' := [.ref 0, .int a]) (st' := [.ref 0]) (σ' := σ) rfl ?_
  obtain ⟨r1, hr1, h⟩ := xbd_inv h
  refine xX_c0 (w := xw_94) (i := 1) (ls := [.ref 0, .int a]) (rest := []) eT_94 rfl (by omega) rfl rfl rfl (T_X10_mark σ (by omega) hr1) ?_
  refine xX_blk (w := xw_94) eT_94 4 2 (ls' := [.ref 0, .int a]) (st' := [.int a, .ref 136, .ref 0]) (σ' := r1) rfl ?_
  obtain ⟨r2, hr2, h⟩ := xbd_inv h
  refine xX_c1 (w := xw_94) (i := 6) (ls := [.ref 0, .int a]) (rest := [.ref 0]) eT_94 rfl (by omega) rfl rfl rfl (T_X0_passTicks a r1 (by omega) hr2) ?_
  obtain ⟨r3, hr3, h⟩ := xbd_inv h
  refine xX_c1 (w := xw_94) (i := 7) (ls := [.ref 0, .int a]) (rest := []) eT_94 rfl (by omega) rfl rfl rfl (T_X10_settled r2.1 r2.2 (by omega) hr3) ?_
  obtain rfl := Option.some.inj h
  exact xX_ret (w := xw_94) (i := 8) eT_94 rfl rfl
def B_X5_roomAround_4 (p1 : Int32) (p2 : Int32) (v3 : Int32) (v4 : Int32) (σ : xM) : Option ((Int32 × Int32) ⊕ ((Int32))) :=
  if (σ 8 0) ≤ v4 then
    some (.inr v3)
  else
    xbd (F_X4_contains p2 v4 σ) fun r2 =>
    if r2 = 0 then
      some (.inl (v3, (v4 + 1)))
    else
      xgd (xin v4 5) (
      xbd (F_X1_distance p1 (σ 9 v4.toNatClampNeg) σ) fun r5 =>
      if r5 = (-1) then
        some (.inl (v3, (v4 + 1)))
      else
        xgd (xin v4 5) (
        some (.inl ((v3 + (σ 10 v4.toNatClampNeg)), (v4 + 1)))))
def L_X5_roomAround_4 (p1 : Int32) (p2 : Int32) (v3 : Int32) (v4 : Int32) (σ : xM) : Option ((Int32)) := xloop (fun s : Int32 × Int32 => B_X5_roomAround_4 p1 p2 s.1 s.2 σ) 6000 (v3, v4)
set_option maxHeartbeats 1000000 in
set_option maxRecDepth 20000 in
theorem TB_X5_roomAround_4 {d : Nat} {o : Option Value × xM} (p1 : Int32) (p2 : Int32) (v3 : Int32) (v4 : Int32) (σ : xM) {q : (Int32 × Int32) ⊕ ((Int32))} (hd : 1 ≤ d) (h : B_X5_roomAround_4 p1 p2 v3 v4 σ = some q) (hB : ∀ s', q = .inl s' → xX xT xLn d 50 4 [.ref 132, .int p1, .int p2, .int s'.1, .int s'.2] [] σ o) (hE : ∀ e', q = .inr e' → ∀ (z0 z1 z2 z4 : Value), xX xT xLn d 50 39 [z0, z1, z2, .int e', z4] [] σ o) : xX xT xLn d 50 4 [.ref 132, .int p1, .int p2, .int v3, .int v4] [] σ o := by
  unfold B_X5_roomAround_4 at h
  refine xX_blk (w := xw_50) eT_50 6 4 (ls' := [.ref 132, .int p1, .int p2, .int v3, .int v4]) (st' := [.int (σ 8 0), .int v4]) (σ' := σ) rfl ?_
  refine xX_ite (c := (σ 8 0) ≤ v4) (w := xw_50) (i := 10) (a := 39) (b := 11) (st' := []) eT_50 rfl rfl (fun hc1 => ?_) (fun hc1 => ?_)
  · rw [if_pos hc1] at h
    obtain rfl := Option.some.inj h
    exact hE v3 rfl _ _ _ _
  · rw [if_neg hc1] at h
    refine xX_blk (w := xw_50) eT_50 2 11 (ls' := [.ref 132, .int p1, .int p2, .int v3, .int v4]) (st' := [.int v4, .int p2]) (σ' := σ) rfl ?_
    obtain ⟨r2, hr2, h⟩ := xbd_inv h
    refine xX_c1 (w := xw_50) (i := 13) (ls := [.ref 132, .int p1, .int p2, .int v3, .int v4]) (rest := []) eT_50 rfl (by omega) rfl rfl rfl (T_X4_contains p2 v4 σ (by omega) hr2) ?_
    refine xX_ite (c := r2 = 0) (w := xw_50) (i := 14) (a := 37) (b := 15) (st' := []) eT_50 rfl rfl (fun hc3 => ?_) (fun hc3 => ?_)
    · rw [if_pos hc3] at h
      refine xX_blk (w := xw_50) eT_50 1 37 (ls' := [.ref 132, .int p1, .int p2, .int v3, .int (v4 + 1)]) (st' := []) (σ' := σ) rfl ?_
      refine xX_jmp (w := xw_50) (i := 38) (a := 4) (st' := []) eT_50 rfl rfl ?_
      obtain rfl := Option.some.inj h
      exact hB (v3, (v4 + 1)) rfl
    · rw [if_neg hc3] at h
      refine xX_blk (w := xw_50) eT_50 9 15 (ls' := [.ref 132, .int p1, .int p2, .int v3, .int v4]) (st' := [.int v4, .ref 9, .int p1, .ref 2]) (σ' := σ) rfl ?_
      obtain ⟨hi4, h⟩ := xgd_inv h
      refine xX_one (w := xw_50) (i := 24) (ls' := [.ref 132, .int p1, .int p2, .int v3, .int v4]) (st' := [.int (σ 9 v4.toNatClampNeg), .int p1, .ref 2]) (σ' := σ) eT_50 rfl (e_iald xs_9 hi4) ?_
      obtain ⟨r5, hr5, h⟩ := xbd_inv h
      refine xX_c1 (w := xw_50) (i := 25) (ls := [.ref 132, .int p1, .int p2, .int v3, .int v4]) (rest := []) eT_50 rfl (by omega) rfl rfl rfl (T_X1_distance p1 (σ 9 v4.toNatClampNeg) σ (by omega) hr5) ?_
      refine xX_blk (w := xw_50) eT_50 1 26 (ls' := [.ref 132, .int p1, .int p2, .int v3, .int v4]) (st' := [.int (-1), .int r5]) (σ' := σ) rfl ?_
      refine xX_ite (c := r5 = (-1)) (w := xw_50) (i := 27) (a := 37) (b := 28) (st' := []) eT_50 rfl rfl (fun hc6 => ?_) (fun hc6 => ?_)
      · rw [if_pos hc6] at h
        refine xX_blk (w := xw_50) eT_50 1 37 (ls' := [.ref 132, .int p1, .int p2, .int v3, .int (v4 + 1)]) (st' := []) (σ' := σ) rfl ?_
        refine xX_jmp (w := xw_50) (i := 38) (a := 4) (st' := []) eT_50 rfl rfl ?_
        obtain rfl := Option.some.inj h
        exact hB (v3, (v4 + 1)) rfl
      · rw [if_neg hc6] at h
        refine xX_blk (w := xw_50) eT_50 6 28 (ls' := [.ref 132, .int p1, .int p2, .int v3, .int v4]) (st' := [.int v4, .ref 10, .int v3]) (σ' := σ) rfl ?_
        obtain ⟨hi7, h⟩ := xgd_inv h
        refine xX_one (w := xw_50) (i := 34) (ls' := [.ref 132, .int p1, .int p2, .int v3, .int v4]) (st' := [.int (σ 10 v4.toNatClampNeg), .int v3]) (σ' := σ) eT_50 rfl (e_iald xs_10 hi7) ?_
        refine xX_blk (w := xw_50) eT_50 3 35 (ls' := [.ref 132, .int p1, .int p2, .int (v3 + (σ 10 v4.toNatClampNeg)), .int (v4 + 1)]) (st' := []) (σ' := σ) rfl ?_
        refine xX_jmp (w := xw_50) (i := 38) (a := 4) (st' := []) eT_50 rfl rfl ?_
        obtain rfl := Option.some.inj h
        exact hB ((v3 + (σ 10 v4.toNatClampNeg)), (v4 + 1)) rfl
set_option maxHeartbeats 1000000 in
set_option maxRecDepth 20000 in
theorem TL_X5_roomAround_4 {d : Nat} {o : Option Value × xM} (p1 : Int32) (p2 : Int32) (v3 : Int32) (v4 : Int32) (σ : xM) {e : (Int32)} (hd : 1 ≤ d) (h : L_X5_roomAround_4 p1 p2 v3 v4 σ = some e) (hE : ∀ (z0 z1 z2 z4 : Value), xX xT xLn d 50 39 [z0, z1, z2, .int e, z4] [] σ o) : xX xT xLn d 50 4 [.ref 132, .int p1, .int p2, .int v3, .int v4] [] σ o :=
  xloop_snd (X := fun s => xX xT xLn d 50 4 [.ref 132, .int p1, .int p2, .int s.1, .int s.2] [] σ o) (Y := fun e' => ∀ (z0 z1 z2 z4 : Value), xX xT xLn d 50 39 [z0, z1, z2, .int e', z4] [] σ o) (fun s q hs hB hE => TB_X5_roomAround_4 p1 p2 s.1 s.2 σ hd hs hB hE) _ _ _ h hE
def F_X5_roomAround (a : Int32) (b : Int32) (σ : xM) : Option (Int32) :=
  xbd (L_X5_roomAround_4 a b 0 0 σ) fun e8 =>
  some e8
set_option maxHeartbeats 1000000 in
set_option maxRecDepth 20000 in
theorem T_X5_roomAround (a : Int32) (b : Int32) (σ : xM) {d : Nat} {q : Int32} (hd : 1 ≤ d) (h : F_X5_roomAround a b σ = some q) : xR xT xLn d 50 [.ref 132, .int a, .int b] σ (some (.int q), σ) := by
  unfold F_X5_roomAround at h
  show xX xT xLn d 50 0 [.ref 132, .int a, .int b, .null, .null] [] σ _
  refine xX_blk (w := xw_50) eT_50 4 0 (ls' := [.ref 132, .int a, .int b, .int 0, .int 0]) (st' := []) (σ' := σ) rfl ?_
  obtain ⟨e8, he8, h⟩ := xbd_inv h
  refine TL_X5_roomAround_4 a b 0 0 σ (by omega) he8 (fun z0 z1 z2 z4 => ?_)
  refine xX_blk (w := xw_50) eT_50 2 39 (ls' := [.null, .null, .null, .int e8, .null]) (st' := [.int e8]) (σ' := σ) rfl ?_
  obtain rfl := Option.some.inj h
  exact xX_ret (w := xw_50) (i := 41) eT_50 rfl rfl
def B_X5_demandAround_4 (p1 : Int32) (v2 : Int32) (v3 : Int32) (σ : xM) : Option ((Int32 × Int32) ⊕ ((Int32))) :=
  if (σ 2 0) ≤ v3 then
    some (.inr v2)
  else
    xbd (F_X1_distance p1 v3 σ) fun r2 =>
    if r2 = (-1) then
      some (.inl (v2, (v3 + 1)))
    else
      xgd (xin v3 8) (
      some (.inl ((v2 + (σ 3 v3.toNatClampNeg)), (v3 + 1))))
def L_X5_demandAround_4 (p1 : Int32) (v2 : Int32) (v3 : Int32) (σ : xM) : Option ((Int32)) := xloop (fun s : Int32 × Int32 => B_X5_demandAround_4 p1 s.1 s.2 σ) 6000 (v2, v3)
set_option maxHeartbeats 1000000 in
set_option maxRecDepth 20000 in
theorem TB_X5_demandAround_4 {d : Nat} {o : Option Value × xM} (p1 : Int32) (v2 : Int32) (v3 : Int32) (σ : xM) {q : (Int32 × Int32) ⊕ ((Int32))} (hd : 1 ≤ d) (h : B_X5_demandAround_4 p1 v2 v3 σ = some q) (hB : ∀ s', q = .inl s' → xX xT xLn d 51 4 [.ref 132, .int p1, .int s'.1, .int s'.2] [] σ o) (hE : ∀ e', q = .inr e' → ∀ (z0 z1 z3 : Value), xX xT xLn d 51 30 [z0, z1, .int e', z3] [] σ o) : xX xT xLn d 51 4 [.ref 132, .int p1, .int v2, .int v3] [] σ o := by
  unfold B_X5_demandAround_4 at h
  refine xX_blk (w := xw_51) eT_51 6 4 (ls' := [.ref 132, .int p1, .int v2, .int v3]) (st' := [.int (σ 2 0), .int v3]) (σ' := σ) rfl ?_
  refine xX_ite (c := (σ 2 0) ≤ v3) (w := xw_51) (i := 10) (a := 30) (b := 11) (st' := []) eT_51 rfl rfl (fun hc1 => ?_) (fun hc1 => ?_)
  · rw [if_pos hc1] at h
    obtain rfl := Option.some.inj h
    exact hE v2 rfl _ _ _
  · rw [if_neg hc1] at h
    refine xX_blk (w := xw_51) eT_51 5 11 (ls' := [.ref 132, .int p1, .int v2, .int v3]) (st' := [.int v3, .int p1, .ref 2]) (σ' := σ) rfl ?_
    obtain ⟨r2, hr2, h⟩ := xbd_inv h
    refine xX_c1 (w := xw_51) (i := 16) (ls := [.ref 132, .int p1, .int v2, .int v3]) (rest := []) eT_51 rfl (by omega) rfl rfl rfl (T_X1_distance p1 v3 σ (by omega) hr2) ?_
    refine xX_blk (w := xw_51) eT_51 1 17 (ls' := [.ref 132, .int p1, .int v2, .int v3]) (st' := [.int (-1), .int r2]) (σ' := σ) rfl ?_
    refine xX_ite (c := r2 = (-1)) (w := xw_51) (i := 18) (a := 28) (b := 19) (st' := []) eT_51 rfl rfl (fun hc3 => ?_) (fun hc3 => ?_)
    · rw [if_pos hc3] at h
      refine xX_blk (w := xw_51) eT_51 1 28 (ls' := [.ref 132, .int p1, .int v2, .int (v3 + 1)]) (st' := []) (σ' := σ) rfl ?_
      refine xX_jmp (w := xw_51) (i := 29) (a := 4) (st' := []) eT_51 rfl rfl ?_
      obtain rfl := Option.some.inj h
      exact hB (v2, (v3 + 1)) rfl
    · rw [if_neg hc3] at h
      refine xX_blk (w := xw_51) eT_51 6 19 (ls' := [.ref 132, .int p1, .int v2, .int v3]) (st' := [.int v3, .ref 3, .int v2]) (σ' := σ) rfl ?_
      obtain ⟨hi4, h⟩ := xgd_inv h
      refine xX_one (w := xw_51) (i := 25) (ls' := [.ref 132, .int p1, .int v2, .int v3]) (st' := [.int (σ 3 v3.toNatClampNeg), .int v2]) (σ' := σ) eT_51 rfl (e_iald xs_3 hi4) ?_
      refine xX_blk (w := xw_51) eT_51 3 26 (ls' := [.ref 132, .int p1, .int (v2 + (σ 3 v3.toNatClampNeg)), .int (v3 + 1)]) (st' := []) (σ' := σ) rfl ?_
      refine xX_jmp (w := xw_51) (i := 29) (a := 4) (st' := []) eT_51 rfl rfl ?_
      obtain rfl := Option.some.inj h
      exact hB ((v2 + (σ 3 v3.toNatClampNeg)), (v3 + 1)) rfl
set_option maxHeartbeats 1000000 in
set_option maxRecDepth 20000 in
theorem TL_X5_demandAround_4 {d : Nat} {o : Option Value × xM} (p1 : Int32) (v2 : Int32) (v3 : Int32) (σ : xM) {e : (Int32)} (hd : 1 ≤ d) (h : L_X5_demandAround_4 p1 v2 v3 σ = some e) (hE : ∀ (z0 z1 z3 : Value), xX xT xLn d 51 30 [z0, z1, .int e, z3] [] σ o) : xX xT xLn d 51 4 [.ref 132, .int p1, .int v2, .int v3] [] σ o :=
  xloop_snd (X := fun s => xX xT xLn d 51 4 [.ref 132, .int p1, .int s.1, .int s.2] [] σ o) (Y := fun e' => ∀ (z0 z1 z3 : Value), xX xT xLn d 51 30 [z0, z1, .int e', z3] [] σ o) (fun s q hs hB hE => TB_X5_demandAround_4 p1 s.1 s.2 σ hd hs hB hE) _ _ _ h hE
def F_X5_demandAround (a : Int32) (σ : xM) : Option (Int32) :=
  xbd (L_X5_demandAround_4 a 0 0 σ) fun e5 =>
  some e5
set_option maxHeartbeats 1000000 in
set_option maxRecDepth 20000 in
theorem T_X5_demandAround (a : Int32) (σ : xM) {d : Nat} {q : Int32} (hd : 1 ≤ d) (h : F_X5_demandAround a σ = some q) : xR xT xLn d 51 [.ref 132, .int a] σ (some (.int q), σ) := by
  unfold F_X5_demandAround at h
  show xX xT xLn d 51 0 [.ref 132, .int a, .null, .null] [] σ _
  refine xX_blk (w := xw_51) eT_51 4 0 (ls' := [.ref 132, .int a, .int 0, .int 0]) (st' := []) (σ' := σ) rfl ?_
  obtain ⟨e5, he5, h⟩ := xbd_inv h
  refine TL_X5_demandAround_4 a 0 0 σ (by omega) he5 (fun z0 z1 z3 => ?_)
  refine xX_blk (w := xw_51) eT_51 2 30 (ls' := [.null, .null, .int e5, .null]) (st' := [.int e5]) (σ' := σ) rfl ?_
  obtain rfl := Option.some.inj h
  exact xX_ret (w := xw_51) (i := 32) eT_51 rfl rfl
def B_X5_hasTooLittleRoom_2 (p1 : Int32) (v2 : Int32) (σ : xM) : Option ((Int32) ⊕ ((Unit) ⊕ (Unit))) :=
  if (σ 8 0) ≤ v2 then
    some (.inr (.inr ()))
  else
    xgd (xin v2 5) (
    xbd (F_X4_contains p1 v2 σ) fun r3 =>
    if r3 = 0 then
      some (.inl (v2 + 1))
    else
      xbd (F_X5_roomAround (σ 9 v2.toNatClampNeg) p1 σ) fun r5 =>
      xbd (F_X5_demandAround (σ 9 v2.toNatClampNeg) σ) fun r6 =>
      if r6 ≤ r5 then
        some (.inl (v2 + 1))
      else
        some (.inr (.inl ())))
def L_X5_hasTooLittleRoom_2 (p1 : Int32) (v2 : Int32) (σ : xM) : Option ((Unit) ⊕ (Unit)) := xloop (fun s : Int32 => B_X5_hasTooLittleRoom_2 p1 s σ) 6000 v2
set_option maxHeartbeats 1000000 in
set_option maxRecDepth 20000 in
theorem TB_X5_hasTooLittleRoom_2 {d : Nat} {o : Option Value × xM} (p1 : Int32) (v2 : Int32) (σ : xM) {q : (Int32) ⊕ ((Unit) ⊕ (Unit))} (hd : 2 ≤ d) (h : B_X5_hasTooLittleRoom_2 p1 v2 σ = some q) (hB : ∀ s', q = .inl s' → ∀ (z3 : Value), xX xT xLn d 49 2 [.ref 132, .int p1, .int s', z3] [] σ o) (hE : ∀ e', q = .inr e' → (∀ a, e' = .inl a → ∀ (z0 z1 z2 z3 : Value), xX xT xLn d 49 28 [z0, z1, z2, z3] [] σ o) ∧ (∀ a, e' = .inr (a) → ∀ (z0 z1 z2 z3 : Value), xX xT xLn d 49 33 [z0, z1, z2, z3] [] σ o)) (z3 : Value) : xX xT xLn d 49 2 [.ref 132, .int p1, .int v2, z3] [] σ o := by
  unfold B_X5_hasTooLittleRoom_2 at h
  refine xX_blk (w := xw_49) eT_49 6 2 (ls' := [.ref 132, .int p1, .int v2, .null]) (st' := [.int (σ 8 0), .int v2]) (σ' := σ) rfl ?_
  refine xX_ite (c := (σ 8 0) ≤ v2) (w := xw_49) (i := 8) (a := 33) (b := 9) (st' := []) eT_49 rfl rfl (fun hc1 => ?_) (fun hc1 => ?_)
  · rw [if_pos hc1] at h
    obtain rfl := Option.some.inj h
    exact (hE (.inr ()) rfl).2 () rfl _ _ _ _
  · rw [if_neg hc1] at h
    refine xX_blk (w := xw_49) eT_49 5 9 (ls' := [.ref 132, .int p1, .int v2, .null]) (st' := [.int v2, .ref 9]) (σ' := σ) rfl ?_
    obtain ⟨hi2, h⟩ := xgd_inv h
    refine xX_one (w := xw_49) (i := 14) (ls' := [.ref 132, .int p1, .int v2, .null]) (st' := [.int (σ 9 v2.toNatClampNeg)]) (σ' := σ) eT_49 rfl (e_iald xs_9 hi2) ?_
    refine xX_blk (w := xw_49) eT_49 3 15 (ls' := [.ref 132, .int p1, .int v2, .int (σ 9 v2.toNatClampNeg)]) (st' := [.int v2, .int p1]) (σ' := σ) rfl ?_
    obtain ⟨r3, hr3, h⟩ := xbd_inv h
    refine xX_c1 (w := xw_49) (i := 18) (ls := [.ref 132, .int p1, .int v2, .int (σ 9 v2.toNatClampNeg)]) (rest := []) eT_49 rfl (by omega) rfl rfl rfl (T_X4_contains p1 v2 σ (by omega) hr3) ?_
    refine xX_ite (c := r3 = 0) (w := xw_49) (i := 19) (a := 31) (b := 20) (st' := []) eT_49 rfl rfl (fun hc4 => ?_) (fun hc4 => ?_)
    · rw [if_pos hc4] at h
      refine xX_blk (w := xw_49) eT_49 1 31 (ls' := [.ref 132, .int p1, .int (v2 + 1), .int (σ 9 v2.toNatClampNeg)]) (st' := []) (σ' := σ) rfl ?_
      refine xX_jmp (w := xw_49) (i := 32) (a := 2) (st' := []) eT_49 rfl rfl ?_
      obtain rfl := Option.some.inj h
      exact hB (v2 + 1) rfl _
    · rw [if_neg hc4] at h
      refine xX_blk (w := xw_49) eT_49 3 20 (ls' := [.ref 132, .int p1, .int v2, .int (σ 9 v2.toNatClampNeg)]) (st' := [.int p1, .int (σ 9 v2.toNatClampNeg), .ref 132]) (σ' := σ) rfl ?_
      obtain ⟨r5, hr5, h⟩ := xbd_inv h
      refine xX_c1 (w := xw_49) (i := 23) (ls := [.ref 132, .int p1, .int v2, .int (σ 9 v2.toNatClampNeg)]) (rest := []) eT_49 rfl (by omega) rfl rfl rfl (T_X5_roomAround (σ 9 v2.toNatClampNeg) p1 σ (by omega) hr5) ?_
      refine xX_blk (w := xw_49) eT_49 2 24 (ls' := [.ref 132, .int p1, .int v2, .int (σ 9 v2.toNatClampNeg)]) (st' := [.int (σ 9 v2.toNatClampNeg), .ref 132, .int r5]) (σ' := σ) rfl ?_
      obtain ⟨r6, hr6, h⟩ := xbd_inv h
      refine xX_c1 (w := xw_49) (i := 26) (ls := [.ref 132, .int p1, .int v2, .int (σ 9 v2.toNatClampNeg)]) (rest := [.int r5]) eT_49 rfl (by omega) rfl rfl rfl (T_X5_demandAround (σ 9 v2.toNatClampNeg) σ (by omega) hr6) ?_
      refine xX_ite (c := r6 ≤ r5) (w := xw_49) (i := 27) (a := 31) (b := 28) (st' := []) eT_49 rfl rfl (fun hc7 => ?_) (fun hc7 => ?_)
      · rw [if_pos hc7] at h
        refine xX_blk (w := xw_49) eT_49 1 31 (ls' := [.ref 132, .int p1, .int (v2 + 1), .int (σ 9 v2.toNatClampNeg)]) (st' := []) (σ' := σ) rfl ?_
        refine xX_jmp (w := xw_49) (i := 32) (a := 2) (st' := []) eT_49 rfl rfl ?_
        obtain rfl := Option.some.inj h
        exact hB (v2 + 1) rfl _
      · rw [if_neg hc7] at h
        obtain rfl := Option.some.inj h
        exact (hE (.inl ()) rfl).1 () rfl _ _ _ _
set_option maxHeartbeats 1000000 in
set_option maxRecDepth 20000 in
theorem TL_X5_hasTooLittleRoom_2 {d : Nat} {o : Option Value × xM} (p1 : Int32) (v2 : Int32) (σ : xM) {e : (Unit) ⊕ (Unit)} (hd : 2 ≤ d) (h : L_X5_hasTooLittleRoom_2 p1 v2 σ = some e) (hE0 : ∀ a, e = .inl a → ∀ (z0 z1 z2 z3 : Value), xX xT xLn d 49 28 [z0, z1, z2, z3] [] σ o) (hE1 : ∀ a, e = .inr (a) → ∀ (z0 z1 z2 z3 : Value), xX xT xLn d 49 33 [z0, z1, z2, z3] [] σ o) (z3 : Value) : xX xT xLn d 49 2 [.ref 132, .int p1, .int v2, z3] [] σ o :=
  xloop_snd (X := fun s => ∀ (z3 : Value), xX xT xLn d 49 2 [.ref 132, .int p1, .int s, z3] [] σ o) (Y := fun e' => (∀ a, e' = .inl a → ∀ (z0 z1 z2 z3 : Value), xX xT xLn d 49 28 [z0, z1, z2, z3] [] σ o) ∧ (∀ a, e' = .inr (a) → ∀ (z0 z1 z2 z3 : Value), xX xT xLn d 49 33 [z0, z1, z2, z3] [] σ o)) (fun s q hs hB hE z3 => TB_X5_hasTooLittleRoom_2 p1 s σ hd hs hB hE z3) _ _ _ h ⟨hE0, hE1⟩ z3
def F_X5_hasTooLittleRoom (a : Int32) (σ : xM) : Option (Int32) :=
  xbd (L_X5_hasTooLittleRoom_2 a 0 σ) fun e8 =>
  xsm e8 (fun ae80 =>
    some 1)
  (fun ae81 =>
    some 0)
set_option maxHeartbeats 1000000 in
set_option maxRecDepth 20000 in
theorem T_X5_hasTooLittleRoom (a : Int32) (σ : xM) {d : Nat} {q : Int32} (hd : 2 ≤ d) (h : F_X5_hasTooLittleRoom a σ = some q) : xR xT xLn d 49 [.ref 132, .int a] σ (some (.int q), σ) := by
  unfold F_X5_hasTooLittleRoom at h
  show xX xT xLn d 49 0 [.ref 132, .int a, .null, .null] [] σ _
  refine xX_blk (w := xw_49) eT_49 2 0 (ls' := [.ref 132, .int a, .int 0, .null]) (st' := []) (σ' := σ) rfl ?_
  obtain ⟨e8, he8, h⟩ := xbd_inv h
  refine TL_X5_hasTooLittleRoom_2 a 0 σ (by omega) he8 (fun ae80 hee80 z0 z1 z2 z3 => ?_) (fun ae81 hee81 z0 z1 z2 z3 => ?_) _
  · subst hee80
    rw [xsm_l] at h
    refine xX_blk (w := xw_49) eT_49 2 28 (ls' := [.null, .null, .null, .null]) (st' := [.int 1]) (σ' := σ) rfl ?_
    obtain rfl := Option.some.inj h
    exact xX_ret (w := xw_49) (i := 30) eT_49 rfl (e_ret2 (by decide))
  · subst hee81
    rw [xsm_r] at h
    refine xX_blk (w := xw_49) eT_49 2 33 (ls' := [.null, .null, .null, .null]) (st' := [.int 0]) (σ' := σ) rfl ?_
    obtain rfl := Option.some.inj h
    exact xX_ret (w := xw_49) (i := 35) eT_49 rfl (e_ret2 (by decide))
def F_J_bitCount (a : Int32) (σ : xM) : Option (Int32) :=
  some ((((((((a - ((a.toUInt32 >>> ((1 : Int32).toUInt32 &&& Int32.toUInt32 31)).toInt32 &&& 1431655765)) &&& 858993459) + (((a - ((a.toUInt32 >>> ((1 : Int32).toUInt32 &&& Int32.toUInt32 31)).toInt32 &&& 1431655765)).toUInt32 >>> ((2 : Int32).toUInt32 &&& Int32.toUInt32 31)).toInt32 &&& 858993459)) + ((((a - ((a.toUInt32 >>> ((1 : Int32).toUInt32 &&& Int32.toUInt32 31)).toInt32 &&& 1431655765)) &&& 858993459) + (((a - ((a.toUInt32 >>> ((1 : Int32).toUInt32 &&& Int32.toUInt32 31)).toInt32 &&& 1431655765)).toUInt32 >>> ((2 : Int32).toUInt32 &&& Int32.toUInt32 31)).toInt32 &&& 858993459)).toUInt32 >>> ((4 : Int32).toUInt32 &&& Int32.toUInt32 31)).toInt32) &&& 252645135) + ((((((a - ((a.toUInt32 >>> ((1 : Int32).toUInt32 &&& Int32.toUInt32 31)).toInt32 &&& 1431655765)) &&& 858993459) + (((a - ((a.toUInt32 >>> ((1 : Int32).toUInt32 &&& Int32.toUInt32 31)).toInt32 &&& 1431655765)).toUInt32 >>> ((2 : Int32).toUInt32 &&& Int32.toUInt32 31)).toInt32 &&& 858993459)) + ((((a - ((a.toUInt32 >>> ((1 : Int32).toUInt32 &&& Int32.toUInt32 31)).toInt32 &&& 1431655765)) &&& 858993459) + (((a - ((a.toUInt32 >>> ((1 : Int32).toUInt32 &&& Int32.toUInt32 31)).toInt32 &&& 1431655765)).toUInt32 >>> ((2 : Int32).toUInt32 &&& Int32.toUInt32 31)).toInt32 &&& 858993459)).toUInt32 >>> ((4 : Int32).toUInt32 &&& Int32.toUInt32 31)).toInt32) &&& 252645135).toUInt32 >>> ((8 : Int32).toUInt32 &&& Int32.toUInt32 31)).toInt32) + (((((((a - ((a.toUInt32 >>> ((1 : Int32).toUInt32 &&& Int32.toUInt32 31)).toInt32 &&& 1431655765)) &&& 858993459) + (((a - ((a.toUInt32 >>> ((1 : Int32).toUInt32 &&& Int32.toUInt32 31)).toInt32 &&& 1431655765)).toUInt32 >>> ((2 : Int32).toUInt32 &&& Int32.toUInt32 31)).toInt32 &&& 858993459)) + ((((a - ((a.toUInt32 >>> ((1 : Int32).toUInt32 &&& Int32.toUInt32 31)).toInt32 &&& 1431655765)) &&& 858993459) + (((a - ((a.toUInt32 >>> ((1 : Int32).toUInt32 &&& Int32.toUInt32 31)).toInt32 &&& 1431655765)).toUInt32 >>> ((2 : Int32).toUInt32 &&& Int32.toUInt32 31)).toInt32 &&& 858993459)).toUInt32 >>> ((4 : Int32).toUInt32 &&& Int32.toUInt32 31)).toInt32) &&& 252645135) + ((((((a - ((a.toUInt32 >>> ((1 : Int32).toUInt32 &&& Int32.toUInt32 31)).toInt32 &&& 1431655765)) &&& 858993459) + (((a - ((a.toUInt32 >>> ((1 : Int32).toUInt32 &&& Int32.toUInt32 31)).toInt32 &&& 1431655765)).toUInt32 >>> ((2 : Int32).toUInt32 &&& Int32.toUInt32 31)).toInt32 &&& 858993459)) + ((((a - ((a.toUInt32 >>> ((1 : Int32).toUInt32 &&& Int32.toUInt32 31)).toInt32 &&& 1431655765)) &&& 858993459) + (((a - ((a.toUInt32 >>> ((1 : Int32).toUInt32 &&& Int32.toUInt32 31)).toInt32 &&& 1431655765)).toUInt32 >>> ((2 : Int32).toUInt32 &&& Int32.toUInt32 31)).toInt32 &&& 858993459)).toUInt32 >>> ((4 : Int32).toUInt32 &&& Int32.toUInt32 31)).toInt32) &&& 252645135).toUInt32 >>> ((8 : Int32).toUInt32 &&& Int32.toUInt32 31)).toInt32).toUInt32 >>> ((16 : Int32).toUInt32 &&& Int32.toUInt32 31)).toInt32) &&& 63)
set_option maxHeartbeats 1000000 in
set_option maxRecDepth 20000 in
theorem T_J_bitCount (a : Int32) (σ : xM) {d : Nat} {q : Int32} (hd : 0 ≤ d) (h : F_J_bitCount a σ = some q) : xR xT xLn d 211 [.int a] σ (some (.int q), σ) := by
  unfold F_J_bitCount at h
  show xX xT xLn d 211 0 [.int a] [] σ _
  refine xX_blk (w := xw_211) eT_211 41 0 (ls' := [.int (((((((a - ((a.toUInt32 >>> ((1 : Int32).toUInt32 &&& Int32.toUInt32 31)).toInt32 &&& 1431655765)) &&& 858993459) + (((a - ((a.toUInt32 >>> ((1 : Int32).toUInt32 &&& Int32.toUInt32 31)).toInt32 &&& 1431655765)).toUInt32 >>> ((2 : Int32).toUInt32 &&& Int32.toUInt32 31)).toInt32 &&& 858993459)) + ((((a - ((a.toUInt32 >>> ((1 : Int32).toUInt32 &&& Int32.toUInt32 31)).toInt32 &&& 1431655765)) &&& 858993459) + (((a - ((a.toUInt32 >>> ((1 : Int32).toUInt32 &&& Int32.toUInt32 31)).toInt32 &&& 1431655765)).toUInt32 >>> ((2 : Int32).toUInt32 &&& Int32.toUInt32 31)).toInt32 &&& 858993459)).toUInt32 >>> ((4 : Int32).toUInt32 &&& Int32.toUInt32 31)).toInt32) &&& 252645135) + ((((((a - ((a.toUInt32 >>> ((1 : Int32).toUInt32 &&& Int32.toUInt32 31)).toInt32 &&& 1431655765)) &&& 858993459) + (((a - ((a.toUInt32 >>> ((1 : Int32).toUInt32 &&& Int32.toUInt32 31)).toInt32 &&& 1431655765)).toUInt32 >>> ((2 : Int32).toUInt32 &&& Int32.toUInt32 31)).toInt32 &&& 858993459)) + ((((a - ((a.toUInt32 >>> ((1 : Int32).toUInt32 &&& Int32.toUInt32 31)).toInt32 &&& 1431655765)) &&& 858993459) + (((a - ((a.toUInt32 >>> ((1 : Int32).toUInt32 &&& Int32.toUInt32 31)).toInt32 &&& 1431655765)).toUInt32 >>> ((2 : Int32).toUInt32 &&& Int32.toUInt32 31)).toInt32 &&& 858993459)).toUInt32 >>> ((4 : Int32).toUInt32 &&& Int32.toUInt32 31)).toInt32) &&& 252645135).toUInt32 >>> ((8 : Int32).toUInt32 &&& Int32.toUInt32 31)).toInt32) + (((((((a - ((a.toUInt32 >>> ((1 : Int32).toUInt32 &&& Int32.toUInt32 31)).toInt32 &&& 1431655765)) &&& 858993459) + (((a - ((a.toUInt32 >>> ((1 : Int32).toUInt32 &&& Int32.toUInt32 31)).toInt32 &&& 1431655765)).toUInt32 >>> ((2 : Int32).toUInt32 &&& Int32.toUInt32 31)).toInt32 &&& 858993459)) + ((((a - ((a.toUInt32 >>> ((1 : Int32).toUInt32 &&& Int32.toUInt32 31)).toInt32 &&& 1431655765)) &&& 858993459) + (((a - ((a.toUInt32 >>> ((1 : Int32).toUInt32 &&& Int32.toUInt32 31)).toInt32 &&& 1431655765)).toUInt32 >>> ((2 : Int32).toUInt32 &&& Int32.toUInt32 31)).toInt32 &&& 858993459)).toUInt32 >>> ((4 : Int32).toUInt32 &&& Int32.toUInt32 31)).toInt32) &&& 252645135) + ((((((a - ((a.toUInt32 >>> ((1 : Int32).toUInt32 &&& Int32.toUInt32 31)).toInt32 &&& 1431655765)) &&& 858993459) + (((a - ((a.toUInt32 >>> ((1 : Int32).toUInt32 &&& Int32.toUInt32 31)).toInt32 &&& 1431655765)).toUInt32 >>> ((2 : Int32).toUInt32 &&& Int32.toUInt32 31)).toInt32 &&& 858993459)) + ((((a - ((a.toUInt32 >>> ((1 : Int32).toUInt32 &&& Int32.toUInt32 31)).toInt32 &&& 1431655765)) &&& 858993459) + (((a - ((a.toUInt32 >>> ((1 : Int32).toUInt32 &&& Int32.toUInt32 31)).toInt32 &&& 1431655765)).toUInt32 >>> ((2 : Int32).toUInt32 &&& Int32.toUInt32 31)).toInt32 &&& 858993459)).toUInt32 >>> ((4 : Int32).toUInt32 &&& Int32.toUInt32 31)).toInt32) &&& 252645135).toUInt32 >>> ((8 : Int32).toUInt32 &&& Int32.toUInt32 31)).toInt32).toUInt32 >>> ((16 : Int32).toUInt32 &&& Int32.toUInt32 31)).toInt32)]) (st' := [.int ((((((((a - ((a.toUInt32 >>> ((1 : Int32).toUInt32 &&& Int32.toUInt32 31)).toInt32 &&& 1431655765)) &&& 858993459) + (((a - ((a.toUInt32 >>> ((1 : Int32).toUInt32 &&& Int32.toUInt32 31)).toInt32 &&& 1431655765)).toUInt32 >>> ((2 : Int32).toUInt32 &&& Int32.toUInt32 31)).toInt32 &&& 858993459)) + ((((a - ((a.toUInt32 >>> ((1 : Int32).toUInt32 &&& Int32.toUInt32 31)).toInt32 &&& 1431655765)) &&& 858993459) + (((a - ((a.toUInt32 >>> ((1 : Int32).toUInt32 &&& Int32.toUInt32 31)).toInt32 &&& 1431655765)).toUInt32 >>> ((2 : Int32).toUInt32 &&& Int32.toUInt32 31)).toInt32 &&& 858993459)).toUInt32 >>> ((4 : Int32).toUInt32 &&& Int32.toUInt32 31)).toInt32) &&& 252645135) + ((((((a - ((a.toUInt32 >>> ((1 : Int32).toUInt32 &&& Int32.toUInt32 31)).toInt32 &&& 1431655765)) &&& 858993459) + (((a - ((a.toUInt32 >>> ((1 : Int32).toUInt32 &&& Int32.toUInt32 31)).toInt32 &&& 1431655765)).toUInt32 >>> ((2 : Int32).toUInt32 &&& Int32.toUInt32 31)).toInt32 &&& 858993459)) + ((((a - ((a.toUInt32 >>> ((1 : Int32).toUInt32 &&& Int32.toUInt32 31)).toInt32 &&& 1431655765)) &&& 858993459) + (((a - ((a.toUInt32 >>> ((1 : Int32).toUInt32 &&& Int32.toUInt32 31)).toInt32 &&& 1431655765)).toUInt32 >>> ((2 : Int32).toUInt32 &&& Int32.toUInt32 31)).toInt32 &&& 858993459)).toUInt32 >>> ((4 : Int32).toUInt32 &&& Int32.toUInt32 31)).toInt32) &&& 252645135).toUInt32 >>> ((8 : Int32).toUInt32 &&& Int32.toUInt32 31)).toInt32) + (((((((a - ((a.toUInt32 >>> ((1 : Int32).toUInt32 &&& Int32.toUInt32 31)).toInt32 &&& 1431655765)) &&& 858993459) + (((a - ((a.toUInt32 >>> ((1 : Int32).toUInt32 &&& Int32.toUInt32 31)).toInt32 &&& 1431655765)).toUInt32 >>> ((2 : Int32).toUInt32 &&& Int32.toUInt32 31)).toInt32 &&& 858993459)) + ((((a - ((a.toUInt32 >>> ((1 : Int32).toUInt32 &&& Int32.toUInt32 31)).toInt32 &&& 1431655765)) &&& 858993459) + (((a - ((a.toUInt32 >>> ((1 : Int32).toUInt32 &&& Int32.toUInt32 31)).toInt32 &&& 1431655765)).toUInt32 >>> ((2 : Int32).toUInt32 &&& Int32.toUInt32 31)).toInt32 &&& 858993459)).toUInt32 >>> ((4 : Int32).toUInt32 &&& Int32.toUInt32 31)).toInt32) &&& 252645135) + ((((((a - ((a.toUInt32 >>> ((1 : Int32).toUInt32 &&& Int32.toUInt32 31)).toInt32 &&& 1431655765)) &&& 858993459) + (((a - ((a.toUInt32 >>> ((1 : Int32).toUInt32 &&& Int32.toUInt32 31)).toInt32 &&& 1431655765)).toUInt32 >>> ((2 : Int32).toUInt32 &&& Int32.toUInt32 31)).toInt32 &&& 858993459)) + ((((a - ((a.toUInt32 >>> ((1 : Int32).toUInt32 &&& Int32.toUInt32 31)).toInt32 &&& 1431655765)) &&& 858993459) + (((a - ((a.toUInt32 >>> ((1 : Int32).toUInt32 &&& Int32.toUInt32 31)).toInt32 &&& 1431655765)).toUInt32 >>> ((2 : Int32).toUInt32 &&& Int32.toUInt32 31)).toInt32 &&& 858993459)).toUInt32 >>> ((4 : Int32).toUInt32 &&& Int32.toUInt32 31)).toInt32) &&& 252645135).toUInt32 >>> ((8 : Int32).toUInt32 &&& Int32.toUInt32 31)).toInt32).toUInt32 >>> ((16 : Int32).toUInt32 &&& Int32.toUInt32 31)).toInt32) &&& 63)]) (σ' := σ) rfl ?_
  obtain rfl := Option.some.inj h
  exact xX_ret (w := xw_211) (i := 41) eT_211 rfl rfl
def B_X4_catchOf_133_57 (p2 : Int32) (p6 : Int32) (p8 : Int32) (v9 : Int32) (v10 : Int32) (v11 : Int32) (σ : xM) : Option ((Int32 × Int32 × Int32) ⊕ ((Int32))) :=
  if (σ 8 0) ≤ v11 then
    some (.inr v9)
  else
    xgd (xin v11 5) (
    xgd (xin (p6 + (σ 9 v11.toNatClampNeg)) 64) (
    if (σ 7 (p6 + (σ 9 v11.toNatClampNeg)).toNatClampNeg) = (-1) then
      some (.inl (v9, v10, (v11 + 1)))
    else
      xbd (F_X4_contains p2 v11 σ) fun r10 =>
      if r10 = 0 then
        some (.inl (v9, v10, (v11 + 1)))
      else
        xgd (xin v11 5) (
        if v9 = (-1) then
          some (.inl (v11, ((σ 7 (p6 + (σ 9 v11.toNatClampNeg)).toNatClampNeg) + (p8 * (σ 133 v11.toNatClampNeg))), (v11 + 1)))
        else
          if ((σ 7 (p6 + (σ 9 v11.toNatClampNeg)).toNatClampNeg) + (p8 * (σ 133 v11.toNatClampNeg))) < v10 then
            some (.inl (v11, ((σ 7 (p6 + (σ 9 v11.toNatClampNeg)).toNatClampNeg) + (p8 * (σ 133 v11.toNatClampNeg))), (v11 + 1)))
          else
            if ((σ 7 (p6 + (σ 9 v11.toNatClampNeg)).toNatClampNeg) + (p8 * (σ 133 v11.toNatClampNeg))) = v10 then
              xgd (xin v11 5) (
              xgd (xin v9 5) (
              if (σ 133 v9.toNatClampNeg) ≤ (σ 133 v11.toNatClampNeg) then
                some (.inl (v9, v10, (v11 + 1)))
              else
                some (.inl (v11, ((σ 7 (p6 + (σ 9 v11.toNatClampNeg)).toNatClampNeg) + (p8 * (σ 133 v11.toNatClampNeg))), (v11 + 1)))))
            else
              some (.inl (v9, v10, (v11 + 1))))))
def L_X4_catchOf_133_57 (p2 : Int32) (p6 : Int32) (p8 : Int32) (v9 : Int32) (v10 : Int32) (v11 : Int32) (σ : xM) : Option ((Int32)) := xloop (fun s : Int32 × Int32 × Int32 => B_X4_catchOf_133_57 p2 p6 p8 s.1 s.2.1 s.2.2 σ) 6000 (v9, v10, v11)
set_option maxHeartbeats 1000000 in
set_option maxRecDepth 20000 in
theorem TB_X4_catchOf_133_57 {d : Nat} {o : Option Value × xM} (p2 : Int32) (p6 : Int32) (p8 : Int32) (v9 : Int32) (v10 : Int32) (v11 : Int32) (σ : xM) {q : (Int32 × Int32 × Int32) ⊕ ((Int32))} (hd : 1 ≤ d) (h : B_X4_catchOf_133_57 p2 p6 p8 v9 v10 v11 σ = some q) (hB : ∀ s', q = .inl s' → ∀ (z0 z1 z7 z12 : Value), xX xT xLn d 40 57 [z0, z1, .int p2, .ref 133, .ref 8, .ref 7, .int p6, z7, .int p8, .int s'.1, .int s'.2.1, .int s'.2.2, z12] [] σ o) (hE : ∀ e', q = .inr e' → ∀ (z0 z1 z2 z3 z4 z5 z6 z7 z8 z10 z11 z12 : Value), xX xT xLn d 40 109 [z0, z1, z2, z3, z4, z5, z6, z7, z8, .int e', z10, z11, z12] [] σ o) (z0 : Value) (z1 : Value) (z7 : Value) (z12 : Value) : xX xT xLn d 40 57 [z0, z1, .int p2, .ref 133, .ref 8, .ref 7, .int p6, z7, .int p8, .int v9, .int v10, .int v11, z12] [] σ o := by
  unfold B_X4_catchOf_133_57 at h
  refine xX_blk (w := xw_40) eT_40 4 57 (ls' := [.null, .null, .int p2, .ref 133, .ref 8, .ref 7, .int p6, .null, .int p8, .int v9, .int v10, .int v11, .null]) (st' := [.int (σ 8 0), .int v11]) (σ' := σ) rfl ?_
  refine xX_ite (c := (σ 8 0) ≤ v11) (w := xw_40) (i := 61) (a := 109) (b := 62) (st' := []) eT_40 rfl rfl (fun hc6 => ?_) (fun hc6 => ?_)
  · rw [if_pos hc6] at h
    obtain rfl := Option.some.inj h
    exact hE v9 rfl _ _ _ _ _ _ _ _ _ _ _ _
  · rw [if_neg hc6] at h
    refine xX_blk (w := xw_40) eT_40 5 62 (ls' := [.null, .null, .int p2, .ref 133, .ref 8, .ref 7, .int p6, .null, .int p8, .int v9, .int v10, .int v11, .null]) (st' := [.int v11, .ref 9, .int p6, .ref 7]) (σ' := σ) rfl ?_
    obtain ⟨hi7, h⟩ := xgd_inv h
    refine xX_one (w := xw_40) (i := 67) (ls' := [.null, .null, .int p2, .ref 133, .ref 8, .ref 7, .int p6, .null, .int p8, .int v9, .int v10, .int v11, .null]) (st' := [.int (σ 9 v11.toNatClampNeg), .int p6, .ref 7]) (σ' := σ) eT_40 rfl (e_iald xs_9 hi7) ?_
    refine xX_blk (w := xw_40) eT_40 1 68 (ls' := [.null, .null, .int p2, .ref 133, .ref 8, .ref 7, .int p6, .null, .int p8, .int v9, .int v10, .int v11, .null]) (st' := [.int (p6 + (σ 9 v11.toNatClampNeg)), .ref 7]) (σ' := σ) rfl ?_
    obtain ⟨hi8, h⟩ := xgd_inv h
    refine xX_one (w := xw_40) (i := 69) (ls' := [.null, .null, .int p2, .ref 133, .ref 8, .ref 7, .int p6, .null, .int p8, .int v9, .int v10, .int v11, .null]) (st' := [.int (σ 7 (p6 + (σ 9 v11.toNatClampNeg)).toNatClampNeg)]) (σ' := σ) eT_40 rfl (e_iald xs_7 hi8) ?_
    refine xX_blk (w := xw_40) eT_40 3 70 (ls' := [.null, .null, .int p2, .ref 133, .ref 8, .ref 7, .int p6, .null, .int p8, .int v9, .int v10, .int v11, .int (σ 7 (p6 + (σ 9 v11.toNatClampNeg)).toNatClampNeg)]) (st' := [.int (-1), .int (σ 7 (p6 + (σ 9 v11.toNatClampNeg)).toNatClampNeg)]) (σ' := σ) rfl ?_
    refine xX_ite (c := (σ 7 (p6 + (σ 9 v11.toNatClampNeg)).toNatClampNeg) = (-1)) (w := xw_40) (i := 73) (a := 107) (b := 74) (st' := []) eT_40 rfl rfl (fun hc9 => ?_) (fun hc9 => ?_)
    · rw [if_pos hc9] at h
      refine xX_blk (w := xw_40) eT_40 1 107 (ls' := [.null, .null, .int p2, .ref 133, .ref 8, .ref 7, .int p6, .null, .int p8, .int v9, .int v10, .int (v11 + 1), .int (σ 7 (p6 + (σ 9 v11.toNatClampNeg)).toNatClampNeg)]) (st' := []) (σ' := σ) rfl ?_
      refine xX_jmp (w := xw_40) (i := 108) (a := 57) (st' := []) eT_40 rfl rfl ?_
      obtain rfl := Option.some.inj h
      exact hB (v9, v10, (v11 + 1)) rfl _ _ _ _
    · rw [if_neg hc9] at h
      refine xX_blk (w := xw_40) eT_40 2 74 (ls' := [.null, .null, .int p2, .ref 133, .ref 8, .ref 7, .int p6, .null, .int p8, .int v9, .int v10, .int v11, .int (σ 7 (p6 + (σ 9 v11.toNatClampNeg)).toNatClampNeg)]) (st' := [.int v11, .int p2]) (σ' := σ) rfl ?_
      obtain ⟨r10, hr10, h⟩ := xbd_inv h
      refine xX_c1 (w := xw_40) (i := 76) (ls := [.null, .null, .int p2, .ref 133, .ref 8, .ref 7, .int p6, .null, .int p8, .int v9, .int v10, .int v11, .int (σ 7 (p6 + (σ 9 v11.toNatClampNeg)).toNatClampNeg)]) (rest := []) eT_40 rfl (by omega) rfl rfl rfl (T_X4_contains p2 v11 σ (by omega) hr10) ?_
      refine xX_ite (c := r10 = 0) (w := xw_40) (i := 77) (a := 78) (b := 79) (st' := []) eT_40 rfl rfl (fun hc11 => ?_) (fun hc11 => ?_)
      · rw [if_pos hc11] at h
        refine xX_jmp (w := xw_40) (i := 78) (a := 107) (st' := []) eT_40 rfl rfl ?_
        refine xX_blk (w := xw_40) eT_40 1 107 (ls' := [.null, .null, .int p2, .ref 133, .ref 8, .ref 7, .int p6, .null, .int p8, .int v9, .int v10, .int (v11 + 1), .int (σ 7 (p6 + (σ 9 v11.toNatClampNeg)).toNatClampNeg)]) (st' := []) (σ' := σ) rfl ?_
        refine xX_jmp (w := xw_40) (i := 108) (a := 57) (st' := []) eT_40 rfl rfl ?_
        obtain rfl := Option.some.inj h
        exact hB (v9, v10, (v11 + 1)) rfl _ _ _ _
      · rw [if_neg hc11] at h
        refine xX_blk (w := xw_40) eT_40 4 79 (ls' := [.null, .null, .int p2, .ref 133, .ref 8, .ref 7, .int p6, .null, .int p8, .int v9, .int v10, .int v11, .int (σ 7 (p6 + (σ 9 v11.toNatClampNeg)).toNatClampNeg)]) (st' := [.int v11, .ref 133, .int p8, .int (σ 7 (p6 + (σ 9 v11.toNatClampNeg)).toNatClampNeg)]) (σ' := σ) rfl ?_
        obtain ⟨hi12, h⟩ := xgd_inv h
        refine xX_one (w := xw_40) (i := 83) (ls' := [.null, .null, .int p2, .ref 133, .ref 8, .ref 7, .int p6, .null, .int p8, .int v9, .int v10, .int v11, .int (σ 7 (p6 + (σ 9 v11.toNatClampNeg)).toNatClampNeg)]) (st' := [.int (σ 133 v11.toNatClampNeg), .int p8, .int (σ 7 (p6 + (σ 9 v11.toNatClampNeg)).toNatClampNeg)]) (σ' := σ) eT_40 rfl (e_iald xs_133 hi12) ?_
        refine xX_blk (w := xw_40) eT_40 5 84 (ls' := [.null, .null, .int p2, .ref 133, .ref 8, .ref 7, .int p6, .null, .int p8, .int v9, .int v10, .int v11, .int ((σ 7 (p6 + (σ 9 v11.toNatClampNeg)).toNatClampNeg) + (p8 * (σ 133 v11.toNatClampNeg)))]) (st' := [.int (-1), .int v9]) (σ' := σ) rfl ?_
        refine xX_ite (c := v9 = (-1)) (w := xw_40) (i := 89) (a := 103) (b := 90) (st' := []) eT_40 rfl rfl (fun hc13 => ?_) (fun hc13 => ?_)
        · rw [if_pos hc13] at h
          refine xX_blk (w := xw_40) eT_40 5 103 (ls' := [.null, .null, .int p2, .ref 133, .ref 8, .ref 7, .int p6, .null, .int p8, .int v11, .int ((σ 7 (p6 + (σ 9 v11.toNatClampNeg)).toNatClampNeg) + (p8 * (σ 133 v11.toNatClampNeg))), .int (v11 + 1), .int ((σ 7 (p6 + (σ 9 v11.toNatClampNeg)).toNatClampNeg) + (p8 * (σ 133 v11.toNatClampNeg)))]) (st' := []) (σ' := σ) rfl ?_
          refine xX_jmp (w := xw_40) (i := 108) (a := 57) (st' := []) eT_40 rfl rfl ?_
          obtain rfl := Option.some.inj h
          exact hB (v11, ((σ 7 (p6 + (σ 9 v11.toNatClampNeg)).toNatClampNeg) + (p8 * (σ 133 v11.toNatClampNeg))), (v11 + 1)) rfl _ _ _ _
        · rw [if_neg hc13] at h
          refine xX_blk (w := xw_40) eT_40 2 90 (ls' := [.null, .null, .int p2, .ref 133, .ref 8, .ref 7, .int p6, .null, .int p8, .int v9, .int v10, .int v11, .int ((σ 7 (p6 + (σ 9 v11.toNatClampNeg)).toNatClampNeg) + (p8 * (σ 133 v11.toNatClampNeg)))]) (st' := [.int v10, .int ((σ 7 (p6 + (σ 9 v11.toNatClampNeg)).toNatClampNeg) + (p8 * (σ 133 v11.toNatClampNeg)))]) (σ' := σ) rfl ?_
          refine xX_ite (c := ((σ 7 (p6 + (σ 9 v11.toNatClampNeg)).toNatClampNeg) + (p8 * (σ 133 v11.toNatClampNeg))) < v10) (w := xw_40) (i := 92) (a := 103) (b := 93) (st' := []) eT_40 rfl rfl (fun hc14 => ?_) (fun hc14 => ?_)
          · rw [if_pos hc14] at h
            refine xX_blk (w := xw_40) eT_40 5 103 (ls' := [.null, .null, .int p2, .ref 133, .ref 8, .ref 7, .int p6, .null, .int p8, .int v11, .int ((σ 7 (p6 + (σ 9 v11.toNatClampNeg)).toNatClampNeg) + (p8 * (σ 133 v11.toNatClampNeg))), .int (v11 + 1), .int ((σ 7 (p6 + (σ 9 v11.toNatClampNeg)).toNatClampNeg) + (p8 * (σ 133 v11.toNatClampNeg)))]) (st' := []) (σ' := σ) rfl ?_
            refine xX_jmp (w := xw_40) (i := 108) (a := 57) (st' := []) eT_40 rfl rfl ?_
            obtain rfl := Option.some.inj h
            exact hB (v11, ((σ 7 (p6 + (σ 9 v11.toNatClampNeg)).toNatClampNeg) + (p8 * (σ 133 v11.toNatClampNeg))), (v11 + 1)) rfl _ _ _ _
          · rw [if_neg hc14] at h
            refine xX_blk (w := xw_40) eT_40 2 93 (ls' := [.null, .null, .int p2, .ref 133, .ref 8, .ref 7, .int p6, .null, .int p8, .int v9, .int v10, .int v11, .int ((σ 7 (p6 + (σ 9 v11.toNatClampNeg)).toNatClampNeg) + (p8 * (σ 133 v11.toNatClampNeg)))]) (st' := [.int v10, .int ((σ 7 (p6 + (σ 9 v11.toNatClampNeg)).toNatClampNeg) + (p8 * (σ 133 v11.toNatClampNeg)))]) (σ' := σ) rfl ?_
            refine xX_ite (c := ((σ 7 (p6 + (σ 9 v11.toNatClampNeg)).toNatClampNeg) + (p8 * (σ 133 v11.toNatClampNeg))) = v10) (w := xw_40) (i := 95) (a := 96) (b := 107) (st' := []) eT_40 rfl rfl (fun hc15 => ?_) (fun hc15 => ?_)
            · rw [if_pos hc15] at h
              refine xX_blk (w := xw_40) eT_40 2 96 (ls' := [.null, .null, .int p2, .ref 133, .ref 8, .ref 7, .int p6, .null, .int p8, .int v9, .int v10, .int v11, .int ((σ 7 (p6 + (σ 9 v11.toNatClampNeg)).toNatClampNeg) + (p8 * (σ 133 v11.toNatClampNeg)))]) (st' := [.int v11, .ref 133]) (σ' := σ) rfl ?_
              obtain ⟨hi16, h⟩ := xgd_inv h
              refine xX_one (w := xw_40) (i := 98) (ls' := [.null, .null, .int p2, .ref 133, .ref 8, .ref 7, .int p6, .null, .int p8, .int v9, .int v10, .int v11, .int ((σ 7 (p6 + (σ 9 v11.toNatClampNeg)).toNatClampNeg) + (p8 * (σ 133 v11.toNatClampNeg)))]) (st' := [.int (σ 133 v11.toNatClampNeg)]) (σ' := σ) eT_40 rfl (e_iald xs_133 hi16) ?_
              refine xX_blk (w := xw_40) eT_40 2 99 (ls' := [.null, .null, .int p2, .ref 133, .ref 8, .ref 7, .int p6, .null, .int p8, .int v9, .int v10, .int v11, .int ((σ 7 (p6 + (σ 9 v11.toNatClampNeg)).toNatClampNeg) + (p8 * (σ 133 v11.toNatClampNeg)))]) (st' := [.int v9, .ref 133, .int (σ 133 v11.toNatClampNeg)]) (σ' := σ) rfl ?_
              obtain ⟨hi17, h⟩ := xgd_inv h
              refine xX_one (w := xw_40) (i := 101) (ls' := [.null, .null, .int p2, .ref 133, .ref 8, .ref 7, .int p6, .null, .int p8, .int v9, .int v10, .int v11, .int ((σ 7 (p6 + (σ 9 v11.toNatClampNeg)).toNatClampNeg) + (p8 * (σ 133 v11.toNatClampNeg)))]) (st' := [.int (σ 133 v9.toNatClampNeg), .int (σ 133 v11.toNatClampNeg)]) (σ' := σ) eT_40 rfl (e_iald xs_133 hi17) ?_
              refine xX_ite (c := (σ 133 v9.toNatClampNeg) ≤ (σ 133 v11.toNatClampNeg)) (w := xw_40) (i := 102) (a := 107) (b := 103) (st' := []) eT_40 rfl rfl (fun hc18 => ?_) (fun hc18 => ?_)
              · rw [if_pos hc18] at h
                refine xX_blk (w := xw_40) eT_40 1 107 (ls' := [.null, .null, .int p2, .ref 133, .ref 8, .ref 7, .int p6, .null, .int p8, .int v9, .int v10, .int (v11 + 1), .int ((σ 7 (p6 + (σ 9 v11.toNatClampNeg)).toNatClampNeg) + (p8 * (σ 133 v11.toNatClampNeg)))]) (st' := []) (σ' := σ) rfl ?_
                refine xX_jmp (w := xw_40) (i := 108) (a := 57) (st' := []) eT_40 rfl rfl ?_
                obtain rfl := Option.some.inj h
                exact hB (v9, v10, (v11 + 1)) rfl _ _ _ _
              · rw [if_neg hc18] at h
                refine xX_blk (w := xw_40) eT_40 5 103 (ls' := [.null, .null, .int p2, .ref 133, .ref 8, .ref 7, .int p6, .null, .int p8, .int v11, .int ((σ 7 (p6 + (σ 9 v11.toNatClampNeg)).toNatClampNeg) + (p8 * (σ 133 v11.toNatClampNeg))), .int (v11 + 1), .int ((σ 7 (p6 + (σ 9 v11.toNatClampNeg)).toNatClampNeg) + (p8 * (σ 133 v11.toNatClampNeg)))]) (st' := []) (σ' := σ) rfl ?_
                refine xX_jmp (w := xw_40) (i := 108) (a := 57) (st' := []) eT_40 rfl rfl ?_
                obtain rfl := Option.some.inj h
                exact hB (v11, ((σ 7 (p6 + (σ 9 v11.toNatClampNeg)).toNatClampNeg) + (p8 * (σ 133 v11.toNatClampNeg))), (v11 + 1)) rfl _ _ _ _
            · rw [if_neg hc15] at h
              refine xX_blk (w := xw_40) eT_40 1 107 (ls' := [.null, .null, .int p2, .ref 133, .ref 8, .ref 7, .int p6, .null, .int p8, .int v9, .int v10, .int (v11 + 1), .int ((σ 7 (p6 + (σ 9 v11.toNatClampNeg)).toNatClampNeg) + (p8 * (σ 133 v11.toNatClampNeg)))]) (st' := []) (σ' := σ) rfl ?_
              refine xX_jmp (w := xw_40) (i := 108) (a := 57) (st' := []) eT_40 rfl rfl ?_
              obtain rfl := Option.some.inj h
              exact hB (v9, v10, (v11 + 1)) rfl _ _ _ _
set_option maxHeartbeats 1000000 in
set_option maxRecDepth 20000 in
theorem TL_X4_catchOf_133_57 {d : Nat} {o : Option Value × xM} (p2 : Int32) (p6 : Int32) (p8 : Int32) (v9 : Int32) (v10 : Int32) (v11 : Int32) (σ : xM) {e : (Int32)} (hd : 1 ≤ d) (h : L_X4_catchOf_133_57 p2 p6 p8 v9 v10 v11 σ = some e) (hE : ∀ (z0 z1 z2 z3 z4 z5 z6 z7 z8 z10 z11 z12 : Value), xX xT xLn d 40 109 [z0, z1, z2, z3, z4, z5, z6, z7, z8, .int e, z10, z11, z12] [] σ o) (z0 : Value) (z1 : Value) (z7 : Value) (z12 : Value) : xX xT xLn d 40 57 [z0, z1, .int p2, .ref 133, .ref 8, .ref 7, .int p6, z7, .int p8, .int v9, .int v10, .int v11, z12] [] σ o :=
  xloop_snd (X := fun s => ∀ (z0 z1 z7 z12 : Value), xX xT xLn d 40 57 [z0, z1, .int p2, .ref 133, .ref 8, .ref 7, .int p6, z7, .int p8, .int s.1, .int s.2.1, .int s.2.2, z12] [] σ o) (Y := fun e' => ∀ (z0 z1 z2 z3 z4 z5 z6 z7 z8 z10 z11 z12 : Value), xX xT xLn d 40 109 [z0, z1, z2, z3, z4, z5, z6, z7, z8, .int e', z10, z11, z12] [] σ o) (fun s q hs hB hE z0 z1 z7 z12 => TB_X4_catchOf_133_57 p2 p6 p8 s.1 s.2.1 s.2.2 σ hd hs hB hE z0 z1 z7 z12) _ _ _ h hE z0 z1 z7 z12
def F_X4_catchOf_133 (a : Int32) (b : Int32) (σ : xM) : Option (Int32) :=
  xgd (xin a 8) (
  xgd (xin a 8) (
  if (σ 4 a.toNatClampNeg) = 2 then
    if (σ 5 a.toNatClampNeg) = (-1) then
      xbd (F_X4_stepLengthFrom a σ) fun r5 =>
      xbd (L_X4_catchOf_133_57 b (a * 8) r5 (-1) 0 0 σ) fun e19 =>
      some e19
    else
      xbd (F_X4_contains b (σ 5 a.toNatClampNeg) σ) fun r20 =>
      if r20 = 0 then
        xbd (F_X4_stepLengthFrom a σ) fun r22 =>
        xbd (L_X4_catchOf_133_57 b (a * 8) r22 (-1) 0 0 σ) fun e23 =>
        some e23
      else
        xgd (xin (σ 5 a.toNatClampNeg) 5) (
        xgd (xin ((a * 8) + (σ 9 (σ 5 a.toNatClampNeg).toNatClampNeg)) 64) (
        if (σ 7 ((a * 8) + (σ 9 (σ 5 a.toNatClampNeg).toNatClampNeg)).toNatClampNeg) = (-1) then
          xbd (F_X4_stepLengthFrom a σ) fun r27 =>
          xbd (L_X4_catchOf_133_57 b (a * 8) r27 (-1) 0 0 σ) fun e28 =>
          some e28
        else
          some (σ 5 a.toNatClampNeg)))
  else
    xbd (F_X4_stepLengthFrom a σ) fun r29 =>
    xbd (L_X4_catchOf_133_57 b (a * 8) r29 (-1) 0 0 σ) fun e30 =>
    some e30))
set_option maxHeartbeats 1000000 in
set_option maxRecDepth 20000 in
theorem T_X4_catchOf_133 (a : Int32) (b : Int32) (σ : xM) {d : Nat} {q : Int32} (hd : 1 ≤ d) (h : F_X4_catchOf_133 a b σ = some q) : xR xT xLn d 40 [.ref 129, .int a, .int b, .ref 133] σ (some (.int q), σ) := by
  unfold F_X4_catchOf_133 at h
  show xX xT xLn d 40 0 [.ref 129, .int a, .int b, .ref 133, .null, .null, .null, .null, .null, .null, .null, .null, .null] [] σ _
  refine xX_blk (w := xw_40) eT_40 18 0 (ls' := [.ref 129, .int a, .int b, .ref 133, .ref 8, .ref 7, .int (a * 8), .null, .null, .null, .null, .null, .null]) (st' := [.int a, .ref 5]) (σ' := σ) rfl ?_
  obtain ⟨hi1, h⟩ := xgd_inv h
  refine xX_one (w := xw_40) (i := 18) (ls' := [.ref 129, .int a, .int b, .ref 133, .ref 8, .ref 7, .int (a * 8), .null, .null, .null, .null, .null, .null]) (st' := [.int (σ 5 a.toNatClampNeg)]) (σ' := σ) eT_40 rfl (e_iald xs_5 hi1) ?_
  refine xX_blk (w := xw_40) eT_40 6 19 (ls' := [.ref 129, .int a, .int b, .ref 133, .ref 8, .ref 7, .int (a * 8), .int (σ 5 a.toNatClampNeg), .null, .null, .null, .null, .null]) (st' := [.int a, .ref 4]) (σ' := σ) rfl ?_
  obtain ⟨hi2, h⟩ := xgd_inv h
  refine xX_one (w := xw_40) (i := 25) (ls' := [.ref 129, .int a, .int b, .ref 133, .ref 8, .ref 7, .int (a * 8), .int (σ 5 a.toNatClampNeg), .null, .null, .null, .null, .null]) (st' := [.int (σ 4 a.toNatClampNeg)]) (σ' := σ) eT_40 rfl (e_iald xs_4 hi2) ?_
  refine xX_blk (w := xw_40) eT_40 1 26 (ls' := [.ref 129, .int a, .int b, .ref 133, .ref 8, .ref 7, .int (a * 8), .int (σ 5 a.toNatClampNeg), .null, .null, .null, .null, .null]) (st' := [.int 2, .int (σ 4 a.toNatClampNeg)]) (σ' := σ) rfl ?_
  refine xX_ite (c := (σ 4 a.toNatClampNeg) = 2) (w := xw_40) (i := 27) (a := 28) (b := 47) (st' := []) eT_40 rfl rfl (fun hc3 => ?_) (fun hc3 => ?_)
  · rw [if_pos hc3] at h
    refine xX_blk (w := xw_40) eT_40 2 28 (ls' := [.ref 129, .int a, .int b, .ref 133, .ref 8, .ref 7, .int (a * 8), .int (σ 5 a.toNatClampNeg), .null, .null, .null, .null, .null]) (st' := [.int (-1), .int (σ 5 a.toNatClampNeg)]) (σ' := σ) rfl ?_
    refine xX_ite (c := (σ 5 a.toNatClampNeg) = (-1)) (w := xw_40) (i := 30) (a := 47) (b := 31) (st' := []) eT_40 rfl rfl (fun hc4 => ?_) (fun hc4 => ?_)
    · rw [if_pos hc4] at h
      refine xX_blk (w := xw_40) eT_40 2 47 (ls' := [.ref 129, .int a, .int b, .ref 133, .ref 8, .ref 7, .int (a * 8), .int (σ 5 a.toNatClampNeg), .null, .null, .null, .null, .null]) (st' := [.int a, .ref 129]) (σ' := σ) rfl ?_
      obtain ⟨r5, hr5, h⟩ := xbd_inv h
      refine xX_c1 (w := xw_40) (i := 49) (ls := [.ref 129, .int a, .int b, .ref 133, .ref 8, .ref 7, .int (a * 8), .int (σ 5 a.toNatClampNeg), .null, .null, .null, .null, .null]) (rest := []) eT_40 rfl (by omega) rfl rfl rfl (T_X4_stepLengthFrom a σ (by omega) hr5) ?_
      refine xX_blk (w := xw_40) eT_40 7 50 (ls' := [.ref 129, .int a, .int b, .ref 133, .ref 8, .ref 7, .int (a * 8), .int (σ 5 a.toNatClampNeg), .int r5, .int (-1), .int 0, .int 0, .null]) (st' := []) (σ' := σ) rfl ?_
      obtain ⟨e19, he19, h⟩ := xbd_inv h
      refine TL_X4_catchOf_133_57 b (a * 8) r5 (-1) 0 0 σ (by omega) he19 (fun z0 z1 z2 z3 z4 z5 z6 z7 z8 z10 z11 z12 => ?_) _ _ _ _
      refine xX_blk (w := xw_40) eT_40 2 109 (ls' := [.null, .null, .null, .null, .null, .null, .null, .null, .null, .int e19, .null, .null, .null]) (st' := [.int e19]) (σ' := σ) rfl ?_
      obtain rfl := Option.some.inj h
      exact xX_ret (w := xw_40) (i := 111) eT_40 rfl rfl
    · rw [if_neg hc4] at h
      refine xX_blk (w := xw_40) eT_40 2 31 (ls' := [.ref 129, .int a, .int b, .ref 133, .ref 8, .ref 7, .int (a * 8), .int (σ 5 a.toNatClampNeg), .null, .null, .null, .null, .null]) (st' := [.int (σ 5 a.toNatClampNeg), .int b]) (σ' := σ) rfl ?_
      obtain ⟨r20, hr20, h⟩ := xbd_inv h
      refine xX_c1 (w := xw_40) (i := 33) (ls := [.ref 129, .int a, .int b, .ref 133, .ref 8, .ref 7, .int (a * 8), .int (σ 5 a.toNatClampNeg), .null, .null, .null, .null, .null]) (rest := []) eT_40 rfl (by omega) rfl rfl rfl (T_X4_contains b (σ 5 a.toNatClampNeg) σ (by omega) hr20) ?_
      refine xX_ite (c := r20 = 0) (w := xw_40) (i := 34) (a := 47) (b := 35) (st' := []) eT_40 rfl rfl (fun hc21 => ?_) (fun hc21 => ?_)
      · rw [if_pos hc21] at h
        refine xX_blk (w := xw_40) eT_40 2 47 (ls' := [.ref 129, .int a, .int b, .ref 133, .ref 8, .ref 7, .int (a * 8), .int (σ 5 a.toNatClampNeg), .null, .null, .null, .null, .null]) (st' := [.int a, .ref 129]) (σ' := σ) rfl ?_
        obtain ⟨r22, hr22, h⟩ := xbd_inv h
        refine xX_c1 (w := xw_40) (i := 49) (ls := [.ref 129, .int a, .int b, .ref 133, .ref 8, .ref 7, .int (a * 8), .int (σ 5 a.toNatClampNeg), .null, .null, .null, .null, .null]) (rest := []) eT_40 rfl (by omega) rfl rfl rfl (T_X4_stepLengthFrom a σ (by omega) hr22) ?_
        refine xX_blk (w := xw_40) eT_40 7 50 (ls' := [.ref 129, .int a, .int b, .ref 133, .ref 8, .ref 7, .int (a * 8), .int (σ 5 a.toNatClampNeg), .int r22, .int (-1), .int 0, .int 0, .null]) (st' := []) (σ' := σ) rfl ?_
        obtain ⟨e23, he23, h⟩ := xbd_inv h
        refine TL_X4_catchOf_133_57 b (a * 8) r22 (-1) 0 0 σ (by omega) he23 (fun z0 z1 z2 z3 z4 z5 z6 z7 z8 z10 z11 z12 => ?_) _ _ _ _
        refine xX_blk (w := xw_40) eT_40 2 109 (ls' := [.null, .null, .null, .null, .null, .null, .null, .null, .null, .int e23, .null, .null, .null]) (st' := [.int e23]) (σ' := σ) rfl ?_
        obtain rfl := Option.some.inj h
        exact xX_ret (w := xw_40) (i := 111) eT_40 rfl rfl
      · rw [if_neg hc21] at h
        refine xX_blk (w := xw_40) eT_40 5 35 (ls' := [.ref 129, .int a, .int b, .ref 133, .ref 8, .ref 7, .int (a * 8), .int (σ 5 a.toNatClampNeg), .null, .null, .null, .null, .null]) (st' := [.int (σ 5 a.toNatClampNeg), .ref 9, .int (a * 8), .ref 7]) (σ' := σ) rfl ?_
        obtain ⟨hi24, h⟩ := xgd_inv h
        refine xX_one (w := xw_40) (i := 40) (ls' := [.ref 129, .int a, .int b, .ref 133, .ref 8, .ref 7, .int (a * 8), .int (σ 5 a.toNatClampNeg), .null, .null, .null, .null, .null]) (st' := [.int (σ 9 (σ 5 a.toNatClampNeg).toNatClampNeg), .int (a * 8), .ref 7]) (σ' := σ) eT_40 rfl (e_iald xs_9 hi24) ?_
        refine xX_blk (w := xw_40) eT_40 1 41 (ls' := [.ref 129, .int a, .int b, .ref 133, .ref 8, .ref 7, .int (a * 8), .int (σ 5 a.toNatClampNeg), .null, .null, .null, .null, .null]) (st' := [.int ((a * 8) + (σ 9 (σ 5 a.toNatClampNeg).toNatClampNeg)), .ref 7]) (σ' := σ) rfl ?_
        obtain ⟨hi25, h⟩ := xgd_inv h
        refine xX_one (w := xw_40) (i := 42) (ls' := [.ref 129, .int a, .int b, .ref 133, .ref 8, .ref 7, .int (a * 8), .int (σ 5 a.toNatClampNeg), .null, .null, .null, .null, .null]) (st' := [.int (σ 7 ((a * 8) + (σ 9 (σ 5 a.toNatClampNeg).toNatClampNeg)).toNatClampNeg)]) (σ' := σ) eT_40 rfl (e_iald xs_7 hi25) ?_
        refine xX_blk (w := xw_40) eT_40 1 43 (ls' := [.ref 129, .int a, .int b, .ref 133, .ref 8, .ref 7, .int (a * 8), .int (σ 5 a.toNatClampNeg), .null, .null, .null, .null, .null]) (st' := [.int (-1), .int (σ 7 ((a * 8) + (σ 9 (σ 5 a.toNatClampNeg).toNatClampNeg)).toNatClampNeg)]) (σ' := σ) rfl ?_
        refine xX_ite (c := (σ 7 ((a * 8) + (σ 9 (σ 5 a.toNatClampNeg).toNatClampNeg)).toNatClampNeg) = (-1)) (w := xw_40) (i := 44) (a := 47) (b := 45) (st' := []) eT_40 rfl rfl (fun hc26 => ?_) (fun hc26 => ?_)
        · rw [if_pos hc26] at h
          refine xX_blk (w := xw_40) eT_40 2 47 (ls' := [.ref 129, .int a, .int b, .ref 133, .ref 8, .ref 7, .int (a * 8), .int (σ 5 a.toNatClampNeg), .null, .null, .null, .null, .null]) (st' := [.int a, .ref 129]) (σ' := σ) rfl ?_
          obtain ⟨r27, hr27, h⟩ := xbd_inv h
          refine xX_c1 (w := xw_40) (i := 49) (ls := [.ref 129, .int a, .int b, .ref 133, .ref 8, .ref 7, .int (a * 8), .int (σ 5 a.toNatClampNeg), .null, .null, .null, .null, .null]) (rest := []) eT_40 rfl (by omega) rfl rfl rfl (T_X4_stepLengthFrom a σ (by omega) hr27) ?_
          refine xX_blk (w := xw_40) eT_40 7 50 (ls' := [.ref 129, .int a, .int b, .ref 133, .ref 8, .ref 7, .int (a * 8), .int (σ 5 a.toNatClampNeg), .int r27, .int (-1), .int 0, .int 0, .null]) (st' := []) (σ' := σ) rfl ?_
          obtain ⟨e28, he28, h⟩ := xbd_inv h
          refine TL_X4_catchOf_133_57 b (a * 8) r27 (-1) 0 0 σ (by omega) he28 (fun z0 z1 z2 z3 z4 z5 z6 z7 z8 z10 z11 z12 => ?_) _ _ _ _
          refine xX_blk (w := xw_40) eT_40 2 109 (ls' := [.null, .null, .null, .null, .null, .null, .null, .null, .null, .int e28, .null, .null, .null]) (st' := [.int e28]) (σ' := σ) rfl ?_
          obtain rfl := Option.some.inj h
          exact xX_ret (w := xw_40) (i := 111) eT_40 rfl rfl
        · rw [if_neg hc26] at h
          refine xX_blk (w := xw_40) eT_40 1 45 (ls' := [.ref 129, .int a, .int b, .ref 133, .ref 8, .ref 7, .int (a * 8), .int (σ 5 a.toNatClampNeg), .null, .null, .null, .null, .null]) (st' := [.int (σ 5 a.toNatClampNeg)]) (σ' := σ) rfl ?_
          obtain rfl := Option.some.inj h
          exact xX_ret (w := xw_40) (i := 46) eT_40 rfl rfl
  · rw [if_neg hc3] at h
    refine xX_blk (w := xw_40) eT_40 2 47 (ls' := [.ref 129, .int a, .int b, .ref 133, .ref 8, .ref 7, .int (a * 8), .int (σ 5 a.toNatClampNeg), .null, .null, .null, .null, .null]) (st' := [.int a, .ref 129]) (σ' := σ) rfl ?_
    obtain ⟨r29, hr29, h⟩ := xbd_inv h
    refine xX_c1 (w := xw_40) (i := 49) (ls := [.ref 129, .int a, .int b, .ref 133, .ref 8, .ref 7, .int (a * 8), .int (σ 5 a.toNatClampNeg), .null, .null, .null, .null, .null]) (rest := []) eT_40 rfl (by omega) rfl rfl rfl (T_X4_stepLengthFrom a σ (by omega) hr29) ?_
    refine xX_blk (w := xw_40) eT_40 7 50 (ls' := [.ref 129, .int a, .int b, .ref 133, .ref 8, .ref 7, .int (a * 8), .int (σ 5 a.toNatClampNeg), .int r29, .int (-1), .int 0, .int 0, .null]) (st' := []) (σ' := σ) rfl ?_
    obtain ⟨e30, he30, h⟩ := xbd_inv h
    refine TL_X4_catchOf_133_57 b (a * 8) r29 (-1) 0 0 σ (by omega) he30 (fun z0 z1 z2 z3 z4 z5 z6 z7 z8 z10 z11 z12 => ?_) _ _ _ _
    refine xX_blk (w := xw_40) eT_40 2 109 (ls' := [.null, .null, .null, .null, .null, .null, .null, .null, .null, .int e30, .null, .null, .null]) (st' := [.int e30]) (σ' := σ) rfl ?_
    obtain rfl := Option.some.inj h
    exact xX_ret (w := xw_40) (i := 111) eT_40 rfl rfl
def B_X4_look_133_6 (p1 : Int32) (v4 : Int32) (σ : xM) : Option ((Int32 × xM) ⊕ ((xM))) :=
  if (σ 8 0) ≤ v4 then
    some (.inr σ)
  else
    xgd (xin v4 5) (
    xlet (xup σ 131 v4.toNatClampNeg 0) fun σ3 =>
    some (.inl ((v4 + 1), σ3)))
def L_X4_look_133_6 (p1 : Int32) (v4 : Int32) (σ : xM) : Option ((xM)) := xloop (fun s : Int32 × xM => B_X4_look_133_6 p1 s.1 s.2) 6000 (v4, σ)
set_option maxHeartbeats 1000000 in
set_option maxRecDepth 20000 in
theorem TB_X4_look_133_6 {d : Nat} {o : Option Value × xM} (p1 : Int32) (v4 : Int32) (σ : xM) {q : (Int32 × xM) ⊕ ((xM))} (hd : 0 ≤ d) (h : B_X4_look_133_6 p1 v4 σ = some q) (hB : ∀ s', q = .inl s' → ∀ (z5 : Value), xX xT xLn d 37 6 [.ref 129, .int p1, .ref 133, .ref 8, .int s'.1, z5] [] s'.2 o) (hE : ∀ e', q = .inr e' → ∀ (z4 z5 : Value), xX xT xLn d 37 18 [.ref 129, .int p1, .ref 133, .ref 8, z4, z5] [] e' o) (z5 : Value) : xX xT xLn d 37 6 [.ref 129, .int p1, .ref 133, .ref 8, .int v4, z5] [] σ o := by
  unfold B_X4_look_133_6 at h
  refine xX_blk (w := xw_37) eT_37 4 6 (ls' := [.ref 129, .int p1, .ref 133, .ref 8, .int v4, .null]) (st' := [.int (σ 8 0), .int v4]) (σ' := σ) rfl ?_
  refine xX_ite (c := (σ 8 0) ≤ v4) (w := xw_37) (i := 10) (a := 18) (b := 11) (st' := []) eT_37 rfl rfl (fun hc1 => ?_) (fun hc1 => ?_)
  · rw [if_pos hc1] at h
    obtain rfl := Option.some.inj h
    exact hE σ rfl _ _
  · rw [if_neg hc1] at h
    refine xX_blk (w := xw_37) eT_37 4 11 (ls' := [.ref 129, .int p1, .ref 133, .ref 8, .int v4, .null]) (st' := [.int 0, .int v4, .ref 131]) (σ' := σ) rfl ?_
    obtain ⟨hi2, h⟩ := xgd_inv h
    refine xX_one (w := xw_37) (i := 15) (ls' := [.ref 129, .int p1, .ref 133, .ref 8, .int v4, .null]) (st' := []) (σ' := xup σ 131 v4.toNatClampNeg 0) eT_37 rfl (e_iast xs_131 hi2) ?_
    obtain ⟨σ3, eσ3, h⟩ := xlet_inv h
    rw [← eσ3]
    refine xX_blk (w := xw_37) eT_37 1 16 (ls' := [.ref 129, .int p1, .ref 133, .ref 8, .int (v4 + 1), .null]) (st' := []) (σ' := σ3) rfl ?_
    refine xX_jmp (w := xw_37) (i := 17) (a := 6) (st' := []) eT_37 rfl rfl ?_
    obtain rfl := Option.some.inj h
    exact hB ((v4 + 1), σ3) rfl _
set_option maxHeartbeats 1000000 in
set_option maxRecDepth 20000 in
theorem TL_X4_look_133_6 {d : Nat} {o : Option Value × xM} (p1 : Int32) (v4 : Int32) (σ : xM) {e : (xM)} (hd : 0 ≤ d) (h : L_X4_look_133_6 p1 v4 σ = some e) (hE : ∀ (z4 z5 : Value), xX xT xLn d 37 18 [.ref 129, .int p1, .ref 133, .ref 8, z4, z5] [] e o) (z5 : Value) : xX xT xLn d 37 6 [.ref 129, .int p1, .ref 133, .ref 8, .int v4, z5] [] σ o :=
  xloop_snd (X := fun s => ∀ (z5 : Value), xX xT xLn d 37 6 [.ref 129, .int p1, .ref 133, .ref 8, .int s.1, z5] [] s.2 o) (Y := fun e' => ∀ (z4 z5 : Value), xX xT xLn d 37 18 [.ref 129, .int p1, .ref 133, .ref 8, z4, z5] [] e' o) (fun s q hs hB hE z5 => TB_X4_look_133_6 p1 s.1 s.2 hd hs hB hE z5) _ _ _ h hE z5
def B_X4_look_133_19 (p1 : Int32) (v4 : Int32) (σ : xM) : Option ((Int32 × xM) ⊕ ((xM))) :=
  if (σ 2 0) ≤ v4 then
    some (.inr σ)
  else
    xbd (F_X4_catchOf_133 v4 p1 σ) fun r6 =>
    xgd (xin v4 8) (
    xlet (xup σ 130 v4.toNatClampNeg r6) fun σ8 =>
    if r6 = (-1) then
      some (.inl ((v4 + 1), σ8))
    else
      xgd (xin r6 5) (
      xgd (xin v4 8) (
      xgd (xin r6 5) (
      xlet (xup σ8 131 r6.toNatClampNeg ((σ8 131 r6.toNatClampNeg) + (σ8 3 v4.toNatClampNeg))) fun σ13 =>
      some (.inl ((v4 + 1), σ13))))))
def L_X4_look_133_19 (p1 : Int32) (v4 : Int32) (σ : xM) : Option ((xM)) := xloop (fun s : Int32 × xM => B_X4_look_133_19 p1 s.1 s.2) 6000 (v4, σ)
set_option maxHeartbeats 1000000 in
set_option maxRecDepth 20000 in
theorem TB_X4_look_133_19 {d : Nat} {o : Option Value × xM} (p1 : Int32) (v4 : Int32) (σ : xM) {q : (Int32 × xM) ⊕ ((xM))} (hd : 2 ≤ d) (h : B_X4_look_133_19 p1 v4 σ = some q) (hB : ∀ s', q = .inl s' → ∀ (z5 : Value), xX xT xLn d 37 21 [.ref 129, .int p1, .ref 133, .ref 8, .int s'.1, z5] [] s'.2 o) (hE : ∀ e', q = .inr e' → ∀ (z2 z4 z5 : Value), xX xT xLn d 37 57 [.ref 129, .int p1, z2, .ref 8, z4, z5] [] e' o) (z5 : Value) : xX xT xLn d 37 21 [.ref 129, .int p1, .ref 133, .ref 8, .int v4, z5] [] σ o := by
  unfold B_X4_look_133_19 at h
  refine xX_blk (w := xw_37) eT_37 6 21 (ls' := [.ref 129, .int p1, .ref 133, .ref 8, .int v4, .null]) (st' := [.int (σ 2 0), .int v4]) (σ' := σ) rfl ?_
  refine xX_ite (c := (σ 2 0) ≤ v4) (w := xw_37) (i := 27) (a := 57) (b := 28) (st' := []) eT_37 rfl rfl (fun hc5 => ?_) (fun hc5 => ?_)
  · rw [if_pos hc5] at h
    obtain rfl := Option.some.inj h
    exact hE σ rfl _ _ _
  · rw [if_neg hc5] at h
    refine xX_blk (w := xw_37) eT_37 4 28 (ls' := [.ref 129, .int p1, .ref 133, .ref 8, .int v4, .null]) (st' := [.ref 133, .int p1, .int v4, .ref 129]) (σ' := σ) rfl ?_
    obtain ⟨r6, hr6, h⟩ := xbd_inv h
    refine xX_c1 (w := xw_37) (i := 32) (ls := [.ref 129, .int p1, .ref 133, .ref 8, .int v4, .null]) (rest := []) eT_37 rfl (by omega) rfl rfl rfl (T_X4_catchOf_133 v4 p1 σ (by omega) hr6) ?_
    refine xX_blk (w := xw_37) eT_37 5 33 (ls' := [.ref 129, .int p1, .ref 133, .ref 8, .int v4, .int r6]) (st' := [.int r6, .int v4, .ref 130]) (σ' := σ) rfl ?_
    obtain ⟨hi7, h⟩ := xgd_inv h
    refine xX_one (w := xw_37) (i := 38) (ls' := [.ref 129, .int p1, .ref 133, .ref 8, .int v4, .int r6]) (st' := []) (σ' := xup σ 130 v4.toNatClampNeg r6) eT_37 rfl (e_iast xs_130 hi7) ?_
    obtain ⟨σ8, eσ8, h⟩ := xlet_inv h
    rw [← eσ8]
    refine xX_blk (w := xw_37) eT_37 2 39 (ls' := [.ref 129, .int p1, .ref 133, .ref 8, .int v4, .int r6]) (st' := [.int (-1), .int r6]) (σ' := σ8) rfl ?_
    refine xX_ite (c := r6 = (-1)) (w := xw_37) (i := 41) (a := 55) (b := 42) (st' := []) eT_37 rfl rfl (fun hc9 => ?_) (fun hc9 => ?_)
    · rw [if_pos hc9] at h
      refine xX_blk (w := xw_37) eT_37 1 55 (ls' := [.ref 129, .int p1, .ref 133, .ref 8, .int (v4 + 1), .int r6]) (st' := []) (σ' := σ8) rfl ?_
      refine xX_jmp (w := xw_37) (i := 56) (a := 21) (st' := []) eT_37 rfl rfl ?_
      obtain rfl := Option.some.inj h
      exact hB ((v4 + 1), σ8) rfl _
    · rw [if_neg hc9] at h
      refine xX_blk (w := xw_37) eT_37 4 42 (ls' := [.ref 129, .int p1, .ref 133, .ref 8, .int v4, .int r6]) (st' := [.int r6, .ref 131, .int r6, .ref 131]) (σ' := σ8) rfl ?_
      obtain ⟨hi10, h⟩ := xgd_inv h
      refine xX_one (w := xw_37) (i := 46) (ls' := [.ref 129, .int p1, .ref 133, .ref 8, .int v4, .int r6]) (st' := [.int (σ8 131 r6.toNatClampNeg), .int r6, .ref 131]) (σ' := σ8) eT_37 rfl (e_iald xs_131 hi10) ?_
      refine xX_blk (w := xw_37) eT_37 5 47 (ls' := [.ref 129, .int p1, .ref 133, .ref 8, .int v4, .int r6]) (st' := [.int v4, .ref 3, .int (σ8 131 r6.toNatClampNeg), .int r6, .ref 131]) (σ' := σ8) rfl ?_
      obtain ⟨hi11, h⟩ := xgd_inv h
      refine xX_one (w := xw_37) (i := 52) (ls' := [.ref 129, .int p1, .ref 133, .ref 8, .int v4, .int r6]) (st' := [.int (σ8 3 v4.toNatClampNeg), .int (σ8 131 r6.toNatClampNeg), .int r6, .ref 131]) (σ' := σ8) eT_37 rfl (e_iald xs_3 hi11) ?_
      refine xX_blk (w := xw_37) eT_37 1 53 (ls' := [.ref 129, .int p1, .ref 133, .ref 8, .int v4, .int r6]) (st' := [.int ((σ8 131 r6.toNatClampNeg) + (σ8 3 v4.toNatClampNeg)), .int r6, .ref 131]) (σ' := σ8) rfl ?_
      obtain ⟨hi12, h⟩ := xgd_inv h
      refine xX_one (w := xw_37) (i := 54) (ls' := [.ref 129, .int p1, .ref 133, .ref 8, .int v4, .int r6]) (st' := []) (σ' := xup σ8 131 r6.toNatClampNeg ((σ8 131 r6.toNatClampNeg) + (σ8 3 v4.toNatClampNeg))) eT_37 rfl (e_iast xs_131 hi12) ?_
      obtain ⟨σ13, eσ13, h⟩ := xlet_inv h
      rw [← eσ13]
      refine xX_blk (w := xw_37) eT_37 1 55 (ls' := [.ref 129, .int p1, .ref 133, .ref 8, .int (v4 + 1), .int r6]) (st' := []) (σ' := σ13) rfl ?_
      refine xX_jmp (w := xw_37) (i := 56) (a := 21) (st' := []) eT_37 rfl rfl ?_
      obtain rfl := Option.some.inj h
      exact hB ((v4 + 1), σ13) rfl _
set_option maxHeartbeats 1000000 in
set_option maxRecDepth 20000 in
theorem TL_X4_look_133_19 {d : Nat} {o : Option Value × xM} (p1 : Int32) (v4 : Int32) (σ : xM) {e : (xM)} (hd : 2 ≤ d) (h : L_X4_look_133_19 p1 v4 σ = some e) (hE : ∀ (z2 z4 z5 : Value), xX xT xLn d 37 57 [.ref 129, .int p1, z2, .ref 8, z4, z5] [] e o) (z5 : Value) : xX xT xLn d 37 21 [.ref 129, .int p1, .ref 133, .ref 8, .int v4, z5] [] σ o :=
  xloop_snd (X := fun s => ∀ (z5 : Value), xX xT xLn d 37 21 [.ref 129, .int p1, .ref 133, .ref 8, .int s.1, z5] [] s.2 o) (Y := fun e' => ∀ (z2 z4 z5 : Value), xX xT xLn d 37 57 [.ref 129, .int p1, z2, .ref 8, z4, z5] [] e' o) (fun s q hs hB hE z5 => TB_X4_look_133_19 p1 s.1 s.2 hd hs hB hE z5) _ _ _ h hE z5
def B_X4_look_133_60 (p1 : Int32) (v4 : Int32) (v5 : Int32) (σ : xM) : Option ((Int32 × Int32) ⊕ ((Int32))) :=
  if (σ 8 0) ≤ v5 then
    some (.inr v4)
  else
    xbd (F_X4_contains p1 v5 σ) fun r17 =>
    if r17 = 0 then
      some (.inl (v4, (v5 + 1)))
    else
      xgd (xin v5 5) (
      xgd (xin v5 5) (
      if (σ 131 v5.toNatClampNeg) ≤ (σ 10 v5.toNatClampNeg) then
        some (.inl (v4, (v5 + 1)))
      else
        some (.inl ((v4 ||| ((1 : Int32) <<< (v5 &&& 31))), (v5 + 1)))))
def L_X4_look_133_60 (p1 : Int32) (v4 : Int32) (v5 : Int32) (σ : xM) : Option ((Int32)) := xloop (fun s : Int32 × Int32 => B_X4_look_133_60 p1 s.1 s.2 σ) 6000 (v4, v5)
set_option maxHeartbeats 1000000 in
set_option maxRecDepth 20000 in
theorem TB_X4_look_133_60 {d : Nat} {o : Option Value × xM} (p1 : Int32) (v4 : Int32) (v5 : Int32) (σ : xM) {q : (Int32 × Int32) ⊕ ((Int32))} (hd : 2 ≤ d) (h : B_X4_look_133_60 p1 v4 v5 σ = some q) (hB : ∀ s', q = .inl s' → ∀ (z2 : Value), xX xT xLn d 37 64 [.ref 129, .int p1, z2, .ref 8, .int s'.1, .int s'.2] [] σ o) (hE : ∀ e', q = .inr e' → ∀ (z0 z1 z2 z3 z5 : Value), xX xT xLn d 37 90 [z0, z1, z2, z3, .int e', z5] [] σ o) (z2 : Value) : xX xT xLn d 37 64 [.ref 129, .int p1, z2, .ref 8, .int v4, .int v5] [] σ o := by
  unfold B_X4_look_133_60 at h
  refine xX_blk (w := xw_37) eT_37 4 64 (ls' := [.ref 129, .int p1, .null, .ref 8, .int v4, .int v5]) (st' := [.int (σ 8 0), .int v5]) (σ' := σ) rfl ?_
  refine xX_ite (c := (σ 8 0) ≤ v5) (w := xw_37) (i := 68) (a := 90) (b := 69) (st' := []) eT_37 rfl rfl (fun hc16 => ?_) (fun hc16 => ?_)
  · rw [if_pos hc16] at h
    obtain rfl := Option.some.inj h
    exact hE v4 rfl _ _ _ _ _
  · rw [if_neg hc16] at h
    refine xX_blk (w := xw_37) eT_37 2 69 (ls' := [.ref 129, .int p1, .null, .ref 8, .int v4, .int v5]) (st' := [.int v5, .int p1]) (σ' := σ) rfl ?_
    obtain ⟨r17, hr17, h⟩ := xbd_inv h
    refine xX_c1 (w := xw_37) (i := 71) (ls := [.ref 129, .int p1, .null, .ref 8, .int v4, .int v5]) (rest := []) eT_37 rfl (by omega) rfl rfl rfl (T_X4_contains p1 v5 σ (by omega) hr17) ?_
    refine xX_ite (c := r17 = 0) (w := xw_37) (i := 72) (a := 88) (b := 73) (st' := []) eT_37 rfl rfl (fun hc18 => ?_) (fun hc18 => ?_)
    · rw [if_pos hc18] at h
      refine xX_blk (w := xw_37) eT_37 1 88 (ls' := [.ref 129, .int p1, .null, .ref 8, .int v4, .int (v5 + 1)]) (st' := []) (σ' := σ) rfl ?_
      refine xX_jmp (w := xw_37) (i := 89) (a := 64) (st' := []) eT_37 rfl rfl ?_
      obtain rfl := Option.some.inj h
      exact hB (v4, (v5 + 1)) rfl _
    · rw [if_neg hc18] at h
      refine xX_blk (w := xw_37) eT_37 3 73 (ls' := [.ref 129, .int p1, .null, .ref 8, .int v4, .int v5]) (st' := [.int v5, .ref 131]) (σ' := σ) rfl ?_
      obtain ⟨hi19, h⟩ := xgd_inv h
      refine xX_one (w := xw_37) (i := 76) (ls' := [.ref 129, .int p1, .null, .ref 8, .int v4, .int v5]) (st' := [.int (σ 131 v5.toNatClampNeg)]) (σ' := σ) eT_37 rfl (e_iald xs_131 hi19) ?_
      refine xX_blk (w := xw_37) eT_37 3 77 (ls' := [.ref 129, .int p1, .null, .ref 8, .int v4, .int v5]) (st' := [.int v5, .ref 10, .int (σ 131 v5.toNatClampNeg)]) (σ' := σ) rfl ?_
      obtain ⟨hi20, h⟩ := xgd_inv h
      refine xX_one (w := xw_37) (i := 80) (ls' := [.ref 129, .int p1, .null, .ref 8, .int v4, .int v5]) (st' := [.int (σ 10 v5.toNatClampNeg), .int (σ 131 v5.toNatClampNeg)]) (σ' := σ) eT_37 rfl (e_iald xs_10 hi20) ?_
      refine xX_ite (c := (σ 131 v5.toNatClampNeg) ≤ (σ 10 v5.toNatClampNeg)) (w := xw_37) (i := 81) (a := 88) (b := 82) (st' := []) eT_37 rfl rfl (fun hc21 => ?_) (fun hc21 => ?_)
      · rw [if_pos hc21] at h
        refine xX_blk (w := xw_37) eT_37 1 88 (ls' := [.ref 129, .int p1, .null, .ref 8, .int v4, .int (v5 + 1)]) (st' := []) (σ' := σ) rfl ?_
        refine xX_jmp (w := xw_37) (i := 89) (a := 64) (st' := []) eT_37 rfl rfl ?_
        obtain rfl := Option.some.inj h
        exact hB (v4, (v5 + 1)) rfl _
      · rw [if_neg hc21] at h
        refine xX_blk (w := xw_37) eT_37 7 82 (ls' := [.ref 129, .int p1, .null, .ref 8, .int (v4 ||| ((1 : Int32) <<< (v5 &&& 31))), .int (v5 + 1)]) (st' := []) (σ' := σ) rfl ?_
        refine xX_jmp (w := xw_37) (i := 89) (a := 64) (st' := []) eT_37 rfl rfl ?_
        obtain rfl := Option.some.inj h
        exact hB ((v4 ||| ((1 : Int32) <<< (v5 &&& 31))), (v5 + 1)) rfl _
set_option maxHeartbeats 1000000 in
set_option maxRecDepth 20000 in
theorem TL_X4_look_133_60 {d : Nat} {o : Option Value × xM} (p1 : Int32) (v4 : Int32) (v5 : Int32) (σ : xM) {e : (Int32)} (hd : 2 ≤ d) (h : L_X4_look_133_60 p1 v4 v5 σ = some e) (hE : ∀ (z0 z1 z2 z3 z5 : Value), xX xT xLn d 37 90 [z0, z1, z2, z3, .int e, z5] [] σ o) (z2 : Value) : xX xT xLn d 37 64 [.ref 129, .int p1, z2, .ref 8, .int v4, .int v5] [] σ o :=
  xloop_snd (X := fun s => ∀ (z2 : Value), xX xT xLn d 37 64 [.ref 129, .int p1, z2, .ref 8, .int s.1, .int s.2] [] σ o) (Y := fun e' => ∀ (z0 z1 z2 z3 z5 : Value), xX xT xLn d 37 90 [z0, z1, z2, z3, .int e', z5] [] σ o) (fun s q hs hB hE z2 => TB_X4_look_133_60 p1 s.1 s.2 σ hd hs hB hE z2) _ _ _ h hE z2
def F_X4_look_133 (a : Int32) (σ : xM) : Option (Int32 × xM) :=
  xbd (L_X4_look_133_6 a 0 σ) fun e4 =>
  xbd (L_X4_look_133_19 a 0 e4) fun e14 =>
  xbd (F_X4_addCarried e14) fun r15 =>
  xbd (L_X4_look_133_60 a 0 0 r15) fun e22 =>
  some (e22, r15)
set_option maxHeartbeats 1000000 in
set_option maxRecDepth 20000 in
theorem T_X4_look_133 (a : Int32) (σ : xM) {d : Nat} {q : Int32 × xM} (hd : 2 ≤ d) (h : F_X4_look_133 a σ = some q) : xR xT xLn d 37 [.ref 129, .int a, .ref 133] σ (some (.int q.1), q.2) := by
  unfold F_X4_look_133 at h
  show xX xT xLn d 37 0 [.ref 129, .int a, .ref 133, .null, .null, .null] [] σ _
  refine xX_blk (w := xw_37) eT_37 6 0 (ls' := [.ref 129, .int a, .ref 133, .ref 8, .int 0, .null]) (st' := []) (σ' := σ) rfl ?_
  obtain ⟨e4, he4, h⟩ := xbd_inv h
  refine TL_X4_look_133_6 a 0 σ (by omega) he4 (fun z4 z5 => ?_) _
  refine xX_blk (w := xw_37) eT_37 3 18 (ls' := [.ref 129, .int a, .ref 133, .ref 8, .int 0, .null]) (st' := []) (σ' := e4) rfl ?_
  obtain ⟨e14, he14, h⟩ := xbd_inv h
  refine TL_X4_look_133_19 a 0 e4 (by omega) he14 (fun z2 z4 z5 => ?_) _
  refine xX_blk (w := xw_37) eT_37 2 57 (ls' := [.ref 129, .int a, .null, .ref 8, .null, .null]) (st' := [.ref 129]) (σ' := e14) rfl ?_
  obtain ⟨r15, hr15, h⟩ := xbd_inv h
  refine xX_c0 (w := xw_37) (i := 59) (ls := [.ref 129, .int a, .null, .ref 8, .null, .null]) (rest := []) eT_37 rfl (by omega) rfl rfl rfl (T_X4_addCarried e14 (by omega) hr15) ?_
  refine xX_blk (w := xw_37) eT_37 4 60 (ls' := [.ref 129, .int a, .null, .ref 8, .int 0, .int 0]) (st' := []) (σ' := r15) rfl ?_
  obtain ⟨e22, he22, h⟩ := xbd_inv h
  refine TL_X4_look_133_60 a 0 0 r15 (by omega) he22 (fun z0 z1 z2 z3 z5 => ?_) _
  refine xX_blk (w := xw_37) eT_37 2 90 (ls' := [.null, .null, .null, .null, .int e22, .null]) (st' := [.int e22]) (σ' := r15) rfl ?_
  obtain rfl := Option.some.inj h
  exact xX_ret (w := xw_37) (i := 92) eT_37 rfl rfl
def B_X5_spreads_60 (rc : Int32 → Int32 → Int32 → xM → Option (Int32 × xM)) (p1 : Int32) (p2 : Int32) (p3 : Int32) (p5 : Int32) (v6 : Int32) (σ : xM) : Option ((Int32 × xM) ⊕ ((xM) ⊕ (xM))) :=
  if p5 < v6 then
    some (.inr (.inr σ))
  else
    xgd (xin p1 5) (
    xlet (xup σ 133 p1.toNatClampNeg v6) fun σ12 =>
    xbd (rc (p1 + 1) (p2 - v6) p3 σ12) fun r13 =>
    if r13.1 = 0 then
      some (.inl ((v6 + 1), r13.2))
    else
      some (.inr (.inl r13.2)))
def L_X5_spreads_60 (rc : Int32 → Int32 → Int32 → xM → Option (Int32 × xM)) (p1 : Int32) (p2 : Int32) (p3 : Int32) (p5 : Int32) (v6 : Int32) (σ : xM) : Option ((xM) ⊕ (xM)) := xloop (fun s : Int32 × xM => B_X5_spreads_60 rc p1 p2 p3 p5 s.1 s.2) 6000 (v6, σ)
set_option maxHeartbeats 1000000 in
set_option maxRecDepth 20000 in
theorem TB_X5_spreads_60 {d : Nat} {o : Option Value × xM} {rc : Int32 → Int32 → Int32 → xM → Option (Int32 × xM)} (hrc : ∀ (a : Int32) (b : Int32) (c : Int32) (σ : xM) (q : Int32 × xM), rc a b c σ = some q → xR xT xLn (d - 1) 52 [.ref 132, .int a, .int b, .int c] σ (some (.int q.1), q.2)) (p1 : Int32) (p2 : Int32) (p3 : Int32) (p5 : Int32) (v6 : Int32) (σ : xM) {q : (Int32 × xM) ⊕ ((xM) ⊕ (xM))} (hd : 1 ≤ d) (h : B_X5_spreads_60 rc p1 p2 p3 p5 v6 σ = some q) (hB : ∀ s', q = .inl s' → ∀ (z4 : Value), xX xT xLn d 52 60 [.ref 132, .int p1, .int p2, .int p3, z4, .int p5, .int s'.1] [] s'.2 o) (hE : ∀ e', q = .inr e' → (∀ a, e' = .inl a → ∀ (z0 z1 z2 z3 z4 z5 z6 : Value), xX xT xLn d 52 79 [z0, z1, z2, z3, z4, z5, z6] [] a o) ∧ (∀ a, e' = .inr (a) → ∀ (z0 z1 z2 z3 z4 z5 z6 : Value), xX xT xLn d 52 84 [z0, z1, z2, z3, z4, z5, z6] [] a o)) (z4 : Value) : xX xT xLn d 52 60 [.ref 132, .int p1, .int p2, .int p3, z4, .int p5, .int v6] [] σ o := by
  unfold B_X5_spreads_60 at h
  refine xX_blk (w := xw_52) eT_52 3 60 (ls' := [.ref 132, .int p1, .int p2, .int p3, .null, .int p5, .int v6]) (st' := [.int p5, .int v6]) (σ' := σ) rfl ?_
  refine xX_ite (c := p5 < v6) (w := xw_52) (i := 63) (a := 84) (b := 64) (st' := []) eT_52 rfl rfl (fun hc10 => ?_) (fun hc10 => ?_)
  · rw [if_pos hc10] at h
    obtain rfl := Option.some.inj h
    exact (hE (.inr σ) rfl).2 σ rfl _ _ _ _ _ _ _
  · rw [if_neg hc10] at h
    refine xX_blk (w := xw_52) eT_52 4 64 (ls' := [.ref 132, .int p1, .int p2, .int p3, .null, .int p5, .int v6]) (st' := [.int v6, .int p1, .ref 133]) (σ' := σ) rfl ?_
    obtain ⟨hi11, h⟩ := xgd_inv h
    refine xX_one (w := xw_52) (i := 68) (ls' := [.ref 132, .int p1, .int p2, .int p3, .null, .int p5, .int v6]) (st' := []) (σ' := xup σ 133 p1.toNatClampNeg v6) eT_52 rfl (e_iast xs_133 hi11) ?_
    obtain ⟨σ12, eσ12, h⟩ := xlet_inv h
    rw [← eσ12]
    refine xX_blk (w := xw_52) eT_52 8 69 (ls' := [.ref 132, .int p1, .int p2, .int p3, .null, .int p5, .int v6]) (st' := [.int p3, .int (p2 - v6), .int (p1 + 1), .ref 132]) (σ' := σ12) rfl ?_
    obtain ⟨r13, hr13, h⟩ := xbd_inv h
    refine xX_c1 (w := xw_52) (i := 77) (ls := [.ref 132, .int p1, .int p2, .int p3, .null, .int p5, .int v6]) (rest := []) eT_52 rfl (by omega) rfl rfl rfl (hrc (p1 + 1) (p2 - v6) p3 σ12 _ hr13) ?_
    refine xX_ite (c := r13.1 = 0) (w := xw_52) (i := 78) (a := 82) (b := 79) (st' := []) eT_52 rfl rfl (fun hc14 => ?_) (fun hc14 => ?_)
    · rw [if_pos hc14] at h
      refine xX_blk (w := xw_52) eT_52 1 82 (ls' := [.ref 132, .int p1, .int p2, .int p3, .null, .int p5, .int (v6 + 1)]) (st' := []) (σ' := r13.2) rfl ?_
      refine xX_jmp (w := xw_52) (i := 83) (a := 60) (st' := []) eT_52 rfl rfl ?_
      obtain rfl := Option.some.inj h
      exact hB ((v6 + 1), r13.2) rfl _
    · rw [if_neg hc14] at h
      obtain rfl := Option.some.inj h
      exact (hE (.inl r13.2) rfl).1 r13.2 rfl _ _ _ _ _ _ _
set_option maxHeartbeats 1000000 in
set_option maxRecDepth 20000 in
theorem TL_X5_spreads_60 {d : Nat} {o : Option Value × xM} {rc : Int32 → Int32 → Int32 → xM → Option (Int32 × xM)} (hrc : ∀ (a : Int32) (b : Int32) (c : Int32) (σ : xM) (q : Int32 × xM), rc a b c σ = some q → xR xT xLn (d - 1) 52 [.ref 132, .int a, .int b, .int c] σ (some (.int q.1), q.2)) (p1 : Int32) (p2 : Int32) (p3 : Int32) (p5 : Int32) (v6 : Int32) (σ : xM) {e : (xM) ⊕ (xM)} (hd : 1 ≤ d) (h : L_X5_spreads_60 rc p1 p2 p3 p5 v6 σ = some e) (hE0 : ∀ a, e = .inl a → ∀ (z0 z1 z2 z3 z4 z5 z6 : Value), xX xT xLn d 52 79 [z0, z1, z2, z3, z4, z5, z6] [] a o) (hE1 : ∀ a, e = .inr (a) → ∀ (z0 z1 z2 z3 z4 z5 z6 : Value), xX xT xLn d 52 84 [z0, z1, z2, z3, z4, z5, z6] [] a o) (z4 : Value) : xX xT xLn d 52 60 [.ref 132, .int p1, .int p2, .int p3, z4, .int p5, .int v6] [] σ o :=
  xloop_snd (X := fun s => ∀ (z4 : Value), xX xT xLn d 52 60 [.ref 132, .int p1, .int p2, .int p3, z4, .int p5, .int s.1] [] s.2 o) (Y := fun e' => (∀ a, e' = .inl a → ∀ (z0 z1 z2 z3 z4 z5 z6 : Value), xX xT xLn d 52 79 [z0, z1, z2, z3, z4, z5, z6] [] a o) ∧ (∀ a, e' = .inr (a) → ∀ (z0 z1 z2 z3 z4 z5 z6 : Value), xX xT xLn d 52 84 [z0, z1, z2, z3, z4, z5, z6] [] a o)) (fun s q hs hB hE z4 => TB_X5_spreads_60 hrc p1 p2 p3 p5 s.1 s.2 hd hs hB hE z4) _ _ _ h ⟨hE0, hE1⟩ z4
def G_X5_spreads (rc : Int32 → Int32 → Int32 → xM → Option (Int32 × xM)) (a : Int32) (b : Int32) (c : Int32) (σ : xM) : Option (Int32 × xM) :=
  if a < (σ 8 0) then
    xbd (F_X4_contains c a σ) fun r2 =>
    if r2 = 0 then
      xgd (xin a 5) (
      xgd (xin a 5) (
      xlet (xup σ 133 a.toNatClampNeg (σ 11 a.toNatClampNeg)) fun σ6 =>
      xbd (rc (a + 1) b c σ6) fun r7 =>
      xgd (xzok true r7.1) (some (r7.1, r7.2))))
    else
      xbd (F_J_bitCount (c >>> ((a + 1) &&& 31)) σ) fun r9 =>
      xbd (L_X5_spreads_60 rc a b c (if b < 4 then b else 4) (if 0 < (b - ((4 : Int32) * r9)) then (b - ((4 : Int32) * r9)) else 0) σ) fun e15 =>
      xsm e15 (fun ae150 =>
        some (1, ae150))
      (fun ae151 =>
        some (0, ae151))
  else
    if b = 0 then
      xbd (F_X4_look_133 c σ) fun r17 =>
      if r17.1 = 0 then
        some (1, r17.2)
      else
        some (0, r17.2)
    else
      some (0, σ)
set_option maxHeartbeats 1000000 in
set_option maxRecDepth 20000 in
theorem TG_X5_spreads {d : Nat} {rc : Int32 → Int32 → Int32 → xM → Option (Int32 × xM)} (hrc : ∀ (a : Int32) (b : Int32) (c : Int32) (σ : xM) (q : Int32 × xM), rc a b c σ = some q → xR xT xLn (d - 1) 52 [.ref 132, .int a, .int b, .int c] σ (some (.int q.1), q.2)) (a : Int32) (b : Int32) (c : Int32) (σ : xM) {q : Int32 × xM} (hd : 3 ≤ d) (h : G_X5_spreads rc a b c σ = some q) : xR xT xLn d 52 [.ref 132, .int a, .int b, .int c] σ (some (.int q.1), q.2) := by
  unfold G_X5_spreads at h
  show xX xT xLn d 52 0 [.ref 132, .int a, .int b, .int c, .null, .null, .null] [] σ _
  refine xX_blk (w := xw_52) eT_52 5 0 (ls' := [.ref 132, .int a, .int b, .int c, .null, .null, .null]) (st' := [.int (σ 8 0), .int a]) (σ' := σ) rfl ?_
  refine xX_ite (c := a < (σ 8 0)) (w := xw_52) (i := 5) (a := 19) (b := 6) (st' := []) eT_52 rfl rfl (fun hc1 => ?_) (fun hc1 => ?_)
  · rw [if_pos hc1] at h
    refine xX_blk (w := xw_52) eT_52 2 19 (ls' := [.ref 132, .int a, .int b, .int c, .null, .null, .null]) (st' := [.int a, .int c]) (σ' := σ) rfl ?_
    obtain ⟨r2, hr2, h⟩ := xbd_inv h
    refine xX_c1 (w := xw_52) (i := 21) (ls := [.ref 132, .int a, .int b, .int c, .null, .null, .null]) (rest := []) eT_52 rfl (by omega) rfl rfl rfl (T_X4_contains c a σ (by omega) hr2) ?_
    refine xX_ite (c := r2 = 0) (w := xw_52) (i := 22) (a := 23) (b := 41) (st' := []) eT_52 rfl rfl (fun hc3 => ?_) (fun hc3 => ?_)
    · rw [if_pos hc3] at h
      refine xX_blk (w := xw_52) eT_52 8 23 (ls' := [.ref 132, .int a, .int b, .int c, .null, .null, .null]) (st' := [.int a, .ref 11, .int a, .ref 133]) (σ' := σ) rfl ?_
      obtain ⟨hi4, h⟩ := xgd_inv h
      refine xX_one (w := xw_52) (i := 31) (ls' := [.ref 132, .int a, .int b, .int c, .null, .null, .null]) (st' := [.int (σ 11 a.toNatClampNeg), .int a, .ref 133]) (σ' := σ) eT_52 rfl (e_iald xs_11 hi4) ?_
      obtain ⟨hi5, h⟩ := xgd_inv h
      refine xX_one (w := xw_52) (i := 32) (ls' := [.ref 132, .int a, .int b, .int c, .null, .null, .null]) (st' := []) (σ' := xup σ 133 a.toNatClampNeg (σ 11 a.toNatClampNeg)) eT_52 rfl (e_iast xs_133 hi5) ?_
      obtain ⟨σ6, eσ6, h⟩ := xlet_inv h
      rw [← eσ6]
      refine xX_blk (w := xw_52) eT_52 6 33 (ls' := [.ref 132, .int a, .int b, .int c, .null, .null, .null]) (st' := [.int c, .int b, .int (a + 1), .ref 132]) (σ' := σ6) rfl ?_
      obtain ⟨r7, hr7, h⟩ := xbd_inv h
      refine xX_c1 (w := xw_52) (i := 39) (ls := [.ref 132, .int a, .int b, .int c, .null, .null, .null]) (rest := []) eT_52 rfl (by omega) rfl rfl rfl (hrc (a + 1) b c σ6 _ hr7) ?_
      obtain ⟨hi8, h⟩ := xgd_inv h
      obtain rfl := Option.some.inj h
      exact xX_ret (w := xw_52) (i := 40) eT_52 rfl (e_ret2 hi8)
    · rw [if_neg hc3] at h
      refine xX_blk (w := xw_52) eT_52 6 41 (ls' := [.ref 132, .int a, .int b, .int c, .null, .null, .null]) (st' := [.int (c >>> ((a + 1) &&& 31)), .int 4]) (σ' := σ) rfl ?_
      obtain ⟨r9, hr9, h⟩ := xbd_inv h
      refine xX_c1 (w := xw_52) (i := 47) (ls := [.ref 132, .int a, .int b, .int c, .null, .null, .null]) (rest := [.int 4]) eT_52 rfl (by omega) rfl rfl rfl (T_J_bitCount (c >>> ((a + 1) &&& 31)) σ (by omega) hr9) ?_
      refine xX_blk (w := xw_52) eT_52 12 48 (ls' := [.ref 132, .int a, .int b, .int c, .int ((4 : Int32) * r9), .int (if b < 4 then b else 4), .int (if 0 < (b - ((4 : Int32) * r9)) then (b - ((4 : Int32) * r9)) else 0)]) (st' := []) (σ' := σ) rfl ?_
      obtain ⟨e15, he15, h⟩ := xbd_inv h
      refine TL_X5_spreads_60 hrc a b c (if b < 4 then b else 4) (if 0 < (b - ((4 : Int32) * r9)) then (b - ((4 : Int32) * r9)) else 0) σ (by omega) he15 (fun ae150 hee150 z0 z1 z2 z3 z4 z5 z6 => ?_) (fun ae151 hee151 z0 z1 z2 z3 z4 z5 z6 => ?_) _
      · subst hee150
        rw [xsm_l] at h
        refine xX_blk (w := xw_52) eT_52 2 79 (ls' := [.null, .null, .null, .null, .null, .null, .null]) (st' := [.int 1]) (σ' := ae150) rfl ?_
        obtain rfl := Option.some.inj h
        exact xX_ret (w := xw_52) (i := 81) eT_52 rfl (e_ret2 (by decide))
      · subst hee151
        rw [xsm_r] at h
        refine xX_blk (w := xw_52) eT_52 2 84 (ls' := [.null, .null, .null, .null, .null, .null, .null]) (st' := [.int 0]) (σ' := ae151) rfl ?_
        obtain rfl := Option.some.inj h
        exact xX_ret (w := xw_52) (i := 86) eT_52 rfl (e_ret2 (by decide))
  · rw [if_neg hc1] at h
    refine xX_blk (w := xw_52) eT_52 1 6 (ls' := [.ref 132, .int a, .int b, .int c, .null, .null, .null]) (st' := [.int b]) (σ' := σ) rfl ?_
    refine xX_ite (c := b = 0) (w := xw_52) (i := 7) (a := 8) (b := 17) (st' := []) eT_52 rfl rfl (fun hc16 => ?_) (fun hc16 => ?_)
    · rw [if_pos hc16] at h
      refine xX_blk (w := xw_52) eT_52 5 8 (ls' := [.ref 132, .int a, .int b, .int c, .null, .null, .null]) (st' := [.ref 133, .int c, .ref 129]) (σ' := σ) rfl ?_
      obtain ⟨r17, hr17, h⟩ := xbd_inv h
      refine xX_c1 (w := xw_52) (i := 13) (ls := [.ref 132, .int a, .int b, .int c, .null, .null, .null]) (rest := []) eT_52 rfl (by omega) rfl rfl rfl (T_X4_look_133 c σ (by omega) hr17) ?_
      refine xX_ite (c := r17.1 = 0) (w := xw_52) (i := 14) (a := 15) (b := 17) (st' := []) eT_52 rfl rfl (fun hc18 => ?_) (fun hc18 => ?_)
      · rw [if_pos hc18] at h
        refine xX_blk (w := xw_52) eT_52 1 15 (ls' := [.ref 132, .int a, .int b, .int c, .null, .null, .null]) (st' := [.int 1]) (σ' := r17.2) rfl ?_
        refine xX_jmp (w := xw_52) (i := 16) (a := 18) (st' := [.int 1]) eT_52 rfl rfl ?_
        obtain rfl := Option.some.inj h
        exact xX_ret (w := xw_52) (i := 18) eT_52 rfl (e_ret2 (by decide))
      · rw [if_neg hc18] at h
        refine xX_blk (w := xw_52) eT_52 1 17 (ls' := [.ref 132, .int a, .int b, .int c, .null, .null, .null]) (st' := [.int 0]) (σ' := r17.2) rfl ?_
        obtain rfl := Option.some.inj h
        exact xX_ret (w := xw_52) (i := 18) eT_52 rfl (e_ret2 (by decide))
    · rw [if_neg hc16] at h
      refine xX_blk (w := xw_52) eT_52 1 17 (ls' := [.ref 132, .int a, .int b, .int c, .null, .null, .null]) (st' := [.int 0]) (σ' := σ) rfl ?_
      obtain rfl := Option.some.inj h
      exact xX_ret (w := xw_52) (i := 18) eT_52 rfl (e_ret2 (by decide))
def F_X5_spreads : Nat → Int32 → Int32 → Int32 → xM → Option (Int32 × xM)
  | 0, _, _, _, _ => none
  | n + 1, a, b, c, σ => G_X5_spreads (F_X5_spreads n) a b c σ
set_option maxHeartbeats 1000000 in
set_option maxRecDepth 20000 in
theorem T_X5_spreads : ∀ (n : Nat) (a : Int32) (b : Int32) (c : Int32) (σ : xM) {d : Nat} {q : Int32 × xM} (hd : 3 + n ≤ d) (h : F_X5_spreads n a b c σ = some q), xR xT xLn d 52 [.ref 132, .int a, .int b, .int c] σ (some (.int q.1), q.2)
  | 0, _, _, _, _, _, _, _, h => by cases h
  | n + 1, a, b, c, σ, _, _, hd, h => TG_X5_spreads (rc := F_X5_spreads n) (fun a b c σ q h => T_X5_spreads n a b c σ (by omega) h) a b c σ (by omega) h
def B_X5_bestSum_30 (p1 : Int32) (p2 : Int32) (v3 : Int32) (σ : xM) : Option ((Int32 × xM) ⊕ ((xM))) :=
  if p2 < v3 then
    some (.inr σ)
  else
    if (σ 132 4) = (-1) then
      xbd (F_X5_spreads 8 0 v3 p1 σ) fun r10 =>
      if r10.1 = 0 then
        some (.inl ((v3 + 1), r10.2))
      else
        xlet (xup r10.2 132 4 v3) fun σ12 =>
        some (.inl ((v3 + 1), σ12))
    else
      some (.inr σ)
def L_X5_bestSum_30 (p1 : Int32) (p2 : Int32) (v3 : Int32) (σ : xM) : Option ((xM)) := xloop (fun s : Int32 × xM => B_X5_bestSum_30 p1 p2 s.1 s.2) 6000 (v3, σ)
set_option maxHeartbeats 1000000 in
set_option maxRecDepth 20000 in
theorem TB_X5_bestSum_30 {d : Nat} {o : Option Value × xM} (p1 : Int32) (p2 : Int32) (v3 : Int32) (σ : xM) {q : (Int32 × xM) ⊕ ((xM))} (hd : 12 ≤ d) (h : B_X5_bestSum_30 p1 p2 v3 σ = some q) (hB : ∀ s', q = .inl s' → xX xT xLn d 47 30 [.ref 132, .int p1, .int p2, .int s'.1] [] s'.2 o) (hE : ∀ e', q = .inr e' → ∀ (z1 z2 z3 : Value), xX xT xLn d 47 49 [.ref 132, z1, z2, z3] [] e' o) : xX xT xLn d 47 30 [.ref 132, .int p1, .int p2, .int v3] [] σ o := by
  unfold B_X5_bestSum_30 at h
  refine xX_blk (w := xw_47) eT_47 3 30 (ls' := [.ref 132, .int p1, .int p2, .int v3]) (st' := [.int p2, .int v3]) (σ' := σ) rfl ?_
  refine xX_ite (c := p2 < v3) (w := xw_47) (i := 33) (a := 49) (b := 34) (st' := []) eT_47 rfl rfl (fun hc8 => ?_) (fun hc8 => ?_)
  · rw [if_pos hc8] at h
    obtain rfl := Option.some.inj h
    exact hE σ rfl _ _ _
  · rw [if_neg hc8] at h
    refine xX_blk (w := xw_47) eT_47 3 34 (ls' := [.ref 132, .int p1, .int p2, .int v3]) (st' := [.int (-1), .int (σ 132 4)]) (σ' := σ) rfl ?_
    refine xX_ite (c := (σ 132 4) = (-1)) (w := xw_47) (i := 37) (a := 38) (b := 49) (st' := []) eT_47 rfl rfl (fun hc9 => ?_) (fun hc9 => ?_)
    · rw [if_pos hc9] at h
      refine xX_blk (w := xw_47) eT_47 4 38 (ls' := [.ref 132, .int p1, .int p2, .int v3]) (st' := [.int p1, .int v3, .int 0, .ref 132]) (σ' := σ) rfl ?_
      obtain ⟨r10, hr10, h⟩ := xbd_inv h
      refine xX_c1 (w := xw_47) (i := 42) (ls := [.ref 132, .int p1, .int p2, .int v3]) (rest := []) eT_47 rfl (by omega) rfl rfl rfl (T_X5_spreads 8 0 v3 p1 σ (by omega) hr10) ?_
      refine xX_ite (c := r10.1 = 0) (w := xw_47) (i := 43) (a := 47) (b := 44) (st' := []) eT_47 rfl rfl (fun hc11 => ?_) (fun hc11 => ?_)
      · rw [if_pos hc11] at h
        refine xX_blk (w := xw_47) eT_47 1 47 (ls' := [.ref 132, .int p1, .int p2, .int (v3 + 1)]) (st' := []) (σ' := r10.2) rfl ?_
        refine xX_jmp (w := xw_47) (i := 48) (a := 30) (st' := []) eT_47 rfl rfl ?_
        obtain rfl := Option.some.inj h
        exact hB ((v3 + 1), r10.2) rfl
      · rw [if_neg hc11] at h
        refine xX_blk (w := xw_47) eT_47 2 44 (ls' := [.ref 132, .int p1, .int p2, .int v3]) (st' := [.int v3, .ref 132]) (σ' := r10.2) rfl ?_
        refine xX_blk (w := xw_47) eT_47 1 46 (ls' := [.ref 132, .int p1, .int p2, .int v3]) (st' := []) (σ' := xup r10.2 132 4 v3) rfl ?_
        obtain ⟨σ12, eσ12, h⟩ := xlet_inv h
        rw [← eσ12]
        refine xX_blk (w := xw_47) eT_47 1 47 (ls' := [.ref 132, .int p1, .int p2, .int (v3 + 1)]) (st' := []) (σ' := σ12) rfl ?_
        refine xX_jmp (w := xw_47) (i := 48) (a := 30) (st' := []) eT_47 rfl rfl ?_
        obtain rfl := Option.some.inj h
        exact hB ((v3 + 1), σ12) rfl
    · rw [if_neg hc9] at h
      obtain rfl := Option.some.inj h
      exact hE σ rfl _ _ _
set_option maxHeartbeats 1000000 in
set_option maxRecDepth 20000 in
theorem TL_X5_bestSum_30 {d : Nat} {o : Option Value × xM} (p1 : Int32) (p2 : Int32) (v3 : Int32) (σ : xM) {e : (xM)} (hd : 12 ≤ d) (h : L_X5_bestSum_30 p1 p2 v3 σ = some e) (hE : ∀ (z1 z2 z3 : Value), xX xT xLn d 47 49 [.ref 132, z1, z2, z3] [] e o) : xX xT xLn d 47 30 [.ref 132, .int p1, .int p2, .int v3] [] σ o :=
  xloop_snd (X := fun s => xX xT xLn d 47 30 [.ref 132, .int p1, .int p2, .int s.1] [] s.2 o) (Y := fun e' => ∀ (z1 z2 z3 : Value), xX xT xLn d 47 49 [.ref 132, z1, z2, z3] [] e' o) (fun s q hs hB hE => TB_X5_bestSum_30 p1 p2 s.1 s.2 hd hs hB hE) _ _ _ h hE
def F_X5_bestSum (σ : xM) : Option (Int32 × xM) :=
  if (σ 132 3) = 0 then
    xlet (xup σ 132 3 1) fun σ2 =>
    xlet (xup σ2 132 4 (-1)) fun σ3 =>
    xbd (F_X8_notOff σ3) fun r4 =>
    xbd (F_X5_hasTooLittleRoom r4 σ3) fun r5 =>
    if r5 = 0 then
      xbd (F_J_bitCount r4 σ3) fun r7 =>
      xbd (L_X5_bestSum_30 r4 ((4 : Int32) * r7) 0 σ3) fun e13 =>
      some ((e13 132 4), e13)
    else
      xbd (L_X5_bestSum_30 r4 (-1) 0 σ3) fun e14 =>
      some ((e14 132 4), e14)
  else
    some ((σ 132 4), σ)
set_option maxHeartbeats 1000000 in
set_option maxRecDepth 20000 in
theorem T_X5_bestSum (σ : xM) {d : Nat} {q : Int32 × xM} (hd : 12 ≤ d) (h : F_X5_bestSum σ = some q) : xR xT xLn d 47 [.ref 132] σ (some (.int q.1), q.2) := by
  unfold F_X5_bestSum at h
  show xX xT xLn d 47 0 [.ref 132, .null, .null, .null] [] σ _
  refine xX_blk (w := xw_47) eT_47 2 0 (ls' := [.ref 132, .null, .null, .null]) (st' := [.int (σ 132 3)]) (σ' := σ) rfl ?_
  refine xX_ite (c := (σ 132 3) = 0) (w := xw_47) (i := 2) (a := 6) (b := 3) (st' := []) eT_47 rfl rfl (fun hc1 => ?_) (fun hc1 => ?_)
  · rw [if_pos hc1] at h
    refine xX_blk (w := xw_47) eT_47 2 6 (ls' := [.ref 132, .null, .null, .null]) (st' := [.int 1, .ref 132]) (σ' := σ) rfl ?_
    refine xX_blk (w := xw_47) eT_47 1 8 (ls' := [.ref 132, .null, .null, .null]) (st' := []) (σ' := xup σ 132 3 1) rfl ?_
    obtain ⟨σ2, eσ2, h⟩ := xlet_inv h
    rw [← eσ2]
    refine xX_blk (w := xw_47) eT_47 2 9 (ls' := [.ref 132, .null, .null, .null]) (st' := [.int (-1), .ref 132]) (σ' := σ2) rfl ?_
    refine xX_blk (w := xw_47) eT_47 1 11 (ls' := [.ref 132, .null, .null, .null]) (st' := []) (σ' := xup σ2 132 4 (-1)) rfl ?_
    obtain ⟨σ3, eσ3, h⟩ := xlet_inv h
    rw [← eσ3]
    refine xX_blk (w := xw_47) eT_47 3 12 (ls' := [.ref 132, .null, .null, .null]) (st' := [.ref 8]) (σ' := σ3) rfl ?_
    obtain ⟨r4, hr4, h⟩ := xbd_inv h
    refine xX_c1 (w := xw_47) (i := 15) (ls := [.ref 132, .null, .null, .null]) (rest := []) eT_47 rfl (by omega) rfl rfl rfl (T_X8_notOff σ3 (by omega) hr4) ?_
    refine xX_blk (w := xw_47) eT_47 3 16 (ls' := [.ref 132, .int r4, .null, .null]) (st' := [.int r4, .ref 132]) (σ' := σ3) rfl ?_
    obtain ⟨r5, hr5, h⟩ := xbd_inv h
    refine xX_c1 (w := xw_47) (i := 19) (ls := [.ref 132, .int r4, .null, .null]) (rest := []) eT_47 rfl (by omega) rfl rfl rfl (T_X5_hasTooLittleRoom r4 σ3 (by omega) hr5) ?_
    refine xX_ite (c := r5 = 0) (w := xw_47) (i := 20) (a := 23) (b := 21) (st' := []) eT_47 rfl rfl (fun hc6 => ?_) (fun hc6 => ?_)
    · rw [if_pos hc6] at h
      refine xX_blk (w := xw_47) eT_47 2 23 (ls' := [.ref 132, .int r4, .null, .null]) (st' := [.int r4, .int 4]) (σ' := σ3) rfl ?_
      obtain ⟨r7, hr7, h⟩ := xbd_inv h
      refine xX_c1 (w := xw_47) (i := 25) (ls := [.ref 132, .int r4, .null, .null]) (rest := [.int 4]) eT_47 rfl (by omega) rfl rfl rfl (T_J_bitCount r4 σ3 (by omega) hr7) ?_
      refine xX_blk (w := xw_47) eT_47 4 26 (ls' := [.ref 132, .int r4, .int ((4 : Int32) * r7), .int 0]) (st' := []) (σ' := σ3) rfl ?_
      obtain ⟨e13, he13, h⟩ := xbd_inv h
      refine TL_X5_bestSum_30 r4 ((4 : Int32) * r7) 0 σ3 (by omega) he13 (fun z1 z2 z3 => ?_)
      refine xX_blk (w := xw_47) eT_47 3 49 (ls' := [.ref 132, .null, .null, .null]) (st' := [.int (e13 132 4)]) (σ' := e13) rfl ?_
      obtain rfl := Option.some.inj h
      exact xX_ret (w := xw_47) (i := 52) eT_47 rfl rfl
    · rw [if_neg hc6] at h
      refine xX_blk (w := xw_47) eT_47 1 21 (ls' := [.ref 132, .int r4, .null, .null]) (st' := [.int (-1)]) (σ' := σ3) rfl ?_
      refine xX_jmp (w := xw_47) (i := 22) (a := 27) (st' := [.int (-1)]) eT_47 rfl rfl ?_
      refine xX_blk (w := xw_47) eT_47 3 27 (ls' := [.ref 132, .int r4, .int (-1), .int 0]) (st' := []) (σ' := σ3) rfl ?_
      obtain ⟨e14, he14, h⟩ := xbd_inv h
      refine TL_X5_bestSum_30 r4 (-1) 0 σ3 (by omega) he14 (fun z1 z2 z3 => ?_)
      refine xX_blk (w := xw_47) eT_47 3 49 (ls' := [.ref 132, .null, .null, .null]) (st' := [.int (e14 132 4)]) (σ' := e14) rfl ?_
      obtain rfl := Option.some.inj h
      exact xX_ret (w := xw_47) (i := 52) eT_47 rfl rfl
  · rw [if_neg hc1] at h
    refine xX_blk (w := xw_47) eT_47 2 3 (ls' := [.ref 132, .null, .null, .null]) (st' := [.int (σ 132 4)]) (σ' := σ) rfl ?_
    obtain rfl := Option.some.inj h
    exact xX_ret (w := xw_47) (i := 5) eT_47 rfl rfl
def F_X5_stepOf (a : Int32) (σ : xM) : Option (Int32) :=
  xgd (xin a 5) (
  some (σ 133 a.toNatClampNeg))
set_option maxHeartbeats 1000000 in
set_option maxRecDepth 20000 in
theorem T_X5_stepOf (a : Int32) (σ : xM) {d : Nat} {q : Int32} (hd : 0 ≤ d) (h : F_X5_stepOf a σ = some q) : xR xT xLn d 48 [.ref 132, .int a] σ (some (.int q), σ) := by
  unfold F_X5_stepOf at h
  show xX xT xLn d 48 0 [.ref 132, .int a] [] σ _
  refine xX_blk (w := xw_48) eT_48 3 0 (ls' := [.ref 132, .int a]) (st' := [.int a, .ref 133]) (σ' := σ) rfl ?_
  obtain ⟨hi1, h⟩ := xgd_inv h
  refine xX_one (w := xw_48) (i := 3) (ls' := [.ref 132, .int a]) (st' := [.int (σ 133 a.toNatClampNeg)]) (σ' := σ) eT_48 rfl (e_iald xs_133 hi1) ?_
  obtain rfl := Option.some.inj h
  exact xX_ret (w := xw_48) (i := 4) eT_48 rfl rfl
def F_X10_plan (a : Int32) (σ : xM) : Option (Int32 × xM) :=
  if a = (-1) then
    xbd (F_X5_bestSum σ) fun r2 =>
    if r2.1 = (-1) then
      some (r2.1, r2.2)
    else
      if a = (-1) then
        some (r2.1, r2.2)
      else
        xbd (F_X5_stepOf a r2.2) fun r5 =>
        some (r5, r2.2)
  else
    xbd (F_X8_has a σ) fun r6 =>
    if r6 = 0 then
      xbd (F_X10_counted (-2) σ) fun r8 =>
      some (r8.1, r8.2)
    else
      xbd (F_X5_bestSum σ) fun r9 =>
      if r9.1 = (-1) then
        some (r9.1, r9.2)
      else
        if a = (-1) then
          some (r9.1, r9.2)
        else
          xbd (F_X5_stepOf a r9.2) fun r12 =>
          some (r12, r9.2)
set_option maxHeartbeats 1000000 in
set_option maxRecDepth 20000 in
theorem T_X10_plan (a : Int32) (σ : xM) {d : Nat} {q : Int32 × xM} (hd : 13 ≤ d) (h : F_X10_plan a σ = some q) : xR xT xLn d 95 [.ref 0, .int a] σ (some (.int q.1), q.2) := by
  unfold F_X10_plan at h
  show xX xT xLn d 95 0 [.ref 0, .int a, .null] [] σ _
  refine xX_blk (w := xw_95) eT_95 2 0 (ls' := [.ref 0, .int a, .null]) (st' := [.int (-1), .int a]) (σ' := σ) rfl ?_
  refine xX_ite (c := a = (-1)) (w := xw_95) (i := 2) (a := 13) (b := 3) (st' := []) eT_95 rfl rfl (fun hc1 => ?_) (fun hc1 => ?_)
  · rw [if_pos hc1] at h
    refine xX_blk (w := xw_95) eT_95 2 13 (ls' := [.ref 0, .int a, .null]) (st' := [.ref 132]) (σ' := σ) rfl ?_
    obtain ⟨r2, hr2, h⟩ := xbd_inv h
    refine xX_c1 (w := xw_95) (i := 15) (ls := [.ref 0, .int a, .null]) (rest := []) eT_95 rfl (by omega) rfl rfl rfl (T_X5_bestSum σ (by omega) hr2) ?_
    refine xX_blk (w := xw_95) eT_95 3 16 (ls' := [.ref 0, .int a, .int r2.1]) (st' := [.int (-1), .int r2.1]) (σ' := r2.2) rfl ?_
    refine xX_ite (c := r2.1 = (-1)) (w := xw_95) (i := 19) (a := 23) (b := 20) (st' := []) eT_95 rfl rfl (fun hc3 => ?_) (fun hc3 => ?_)
    · rw [if_pos hc3] at h
      refine xX_blk (w := xw_95) eT_95 1 23 (ls' := [.ref 0, .int a, .int r2.1]) (st' := [.int r2.1]) (σ' := r2.2) rfl ?_
      refine xX_jmp (w := xw_95) (i := 24) (a := 29) (st' := [.int r2.1]) eT_95 rfl rfl ?_
      obtain rfl := Option.some.inj h
      exact xX_ret (w := xw_95) (i := 29) eT_95 rfl rfl
    · rw [if_neg hc3] at h
      refine xX_blk (w := xw_95) eT_95 2 20 (ls' := [.ref 0, .int a, .int r2.1]) (st' := [.int (-1), .int a]) (σ' := r2.2) rfl ?_
      refine xX_ite (c := a = (-1)) (w := xw_95) (i := 22) (a := 23) (b := 25) (st' := []) eT_95 rfl rfl (fun hc4 => ?_) (fun hc4 => ?_)
      · rw [if_pos hc4] at h
        refine xX_blk (w := xw_95) eT_95 1 23 (ls' := [.ref 0, .int a, .int r2.1]) (st' := [.int r2.1]) (σ' := r2.2) rfl ?_
        refine xX_jmp (w := xw_95) (i := 24) (a := 29) (st' := [.int r2.1]) eT_95 rfl rfl ?_
        obtain rfl := Option.some.inj h
        exact xX_ret (w := xw_95) (i := 29) eT_95 rfl rfl
      · rw [if_neg hc4] at h
        refine xX_blk (w := xw_95) eT_95 3 25 (ls' := [.ref 0, .int a, .int r2.1]) (st' := [.int a, .ref 132]) (σ' := r2.2) rfl ?_
        obtain ⟨r5, hr5, h⟩ := xbd_inv h
        refine xX_c1 (w := xw_95) (i := 28) (ls := [.ref 0, .int a, .int r2.1]) (rest := []) eT_95 rfl (by omega) rfl rfl rfl (T_X5_stepOf a r2.2 (by omega) hr5) ?_
        obtain rfl := Option.some.inj h
        exact xX_ret (w := xw_95) (i := 29) eT_95 rfl rfl
  · rw [if_neg hc1] at h
    refine xX_blk (w := xw_95) eT_95 4 3 (ls' := [.ref 0, .int a, .null]) (st' := [.int a, .ref 8]) (σ' := σ) rfl ?_
    obtain ⟨r6, hr6, h⟩ := xbd_inv h
    refine xX_c1 (w := xw_95) (i := 7) (ls := [.ref 0, .int a, .null]) (rest := []) eT_95 rfl (by omega) rfl rfl rfl (T_X8_has a σ (by omega) hr6) ?_
    refine xX_ite (c := r6 = 0) (w := xw_95) (i := 8) (a := 9) (b := 13) (st' := []) eT_95 rfl rfl (fun hc7 => ?_) (fun hc7 => ?_)
    · rw [if_pos hc7] at h
      refine xX_blk (w := xw_95) eT_95 2 9 (ls' := [.ref 0, .int a, .null]) (st' := [.int (-2), .ref 0]) (σ' := σ) rfl ?_
      obtain ⟨r8, hr8, h⟩ := xbd_inv h
      refine xX_c1 (w := xw_95) (i := 11) (ls := [.ref 0, .int a, .null]) (rest := []) eT_95 rfl (by omega) rfl rfl rfl (T_X10_counted (-2) σ (by omega) hr8) ?_
      obtain rfl := Option.some.inj h
      exact xX_ret (w := xw_95) (i := 12) eT_95 rfl rfl
    · rw [if_neg hc7] at h
      refine xX_blk (w := xw_95) eT_95 2 13 (ls' := [.ref 0, .int a, .null]) (st' := [.ref 132]) (σ' := σ) rfl ?_
      obtain ⟨r9, hr9, h⟩ := xbd_inv h
      refine xX_c1 (w := xw_95) (i := 15) (ls := [.ref 0, .int a, .null]) (rest := []) eT_95 rfl (by omega) rfl rfl rfl (T_X5_bestSum σ (by omega) hr9) ?_
      refine xX_blk (w := xw_95) eT_95 3 16 (ls' := [.ref 0, .int a, .int r9.1]) (st' := [.int (-1), .int r9.1]) (σ' := r9.2) rfl ?_
      refine xX_ite (c := r9.1 = (-1)) (w := xw_95) (i := 19) (a := 23) (b := 20) (st' := []) eT_95 rfl rfl (fun hc10 => ?_) (fun hc10 => ?_)
      · rw [if_pos hc10] at h
        refine xX_blk (w := xw_95) eT_95 1 23 (ls' := [.ref 0, .int a, .int r9.1]) (st' := [.int r9.1]) (σ' := r9.2) rfl ?_
        refine xX_jmp (w := xw_95) (i := 24) (a := 29) (st' := [.int r9.1]) eT_95 rfl rfl ?_
        obtain rfl := Option.some.inj h
        exact xX_ret (w := xw_95) (i := 29) eT_95 rfl rfl
      · rw [if_neg hc10] at h
        refine xX_blk (w := xw_95) eT_95 2 20 (ls' := [.ref 0, .int a, .int r9.1]) (st' := [.int (-1), .int a]) (σ' := r9.2) rfl ?_
        refine xX_ite (c := a = (-1)) (w := xw_95) (i := 22) (a := 23) (b := 25) (st' := []) eT_95 rfl rfl (fun hc11 => ?_) (fun hc11 => ?_)
        · rw [if_pos hc11] at h
          refine xX_blk (w := xw_95) eT_95 1 23 (ls' := [.ref 0, .int a, .int r9.1]) (st' := [.int r9.1]) (σ' := r9.2) rfl ?_
          refine xX_jmp (w := xw_95) (i := 24) (a := 29) (st' := [.int r9.1]) eT_95 rfl rfl ?_
          obtain rfl := Option.some.inj h
          exact xX_ret (w := xw_95) (i := 29) eT_95 rfl rfl
        · rw [if_neg hc11] at h
          refine xX_blk (w := xw_95) eT_95 3 25 (ls' := [.ref 0, .int a, .int r9.1]) (st' := [.int a, .ref 132]) (σ' := r9.2) rfl ?_
          obtain ⟨r12, hr12, h⟩ := xbd_inv h
          refine xX_c1 (w := xw_95) (i := 28) (ls := [.ref 0, .int a, .int r9.1]) (rest := []) eT_95 rfl (by omega) rfl rfl rfl (T_X5_stepOf a r9.2 (by omega) hr12) ?_
          obtain rfl := Option.some.inj h
          exact xX_ret (w := xw_95) (i := 29) eT_95 rfl rfl
def B_X0_layPlan_11 (p1 : Int32) (v2 : Int32) (σ : xM) : Option ((Int32 × xM) ⊕ ((xM))) :=
  if (σ 8 0) ≤ v2 then
    some (.inr σ)
  else
    xbd (F_X5_stepOf v2 σ) fun r4 =>
    xgd (xin v2 5) (
    xlet (xup σ 11 v2.toNatClampNeg r4) fun σ6 =>
    some (.inl ((v2 + 1), σ6)))
def L_X0_layPlan_11 (p1 : Int32) (v2 : Int32) (σ : xM) : Option ((xM)) := xloop (fun s : Int32 × xM => B_X0_layPlan_11 p1 s.1 s.2) 6000 (v2, σ)
set_option maxHeartbeats 1000000 in
set_option maxRecDepth 20000 in
theorem TB_X0_layPlan_11 {d : Nat} {o : Option Value × xM} (p1 : Int32) (v2 : Int32) (σ : xM) {q : (Int32 × xM) ⊕ ((xM))} (hd : 13 ≤ d) (h : B_X0_layPlan_11 p1 v2 σ = some q) (hB : ∀ s', q = .inl s' → xX xT xLn d 12 11 [.ref 136, .int p1, .int s'.1] [] s'.2 o) (hE : ∀ e', q = .inr e' → ∀ (z0 z2 : Value), xX xT xLn d 12 30 [z0, .int p1, z2] [] e' o) : xX xT xLn d 12 11 [.ref 136, .int p1, .int v2] [] σ o := by
  unfold B_X0_layPlan_11 at h
  refine xX_blk (w := xw_12) eT_12 6 11 (ls' := [.ref 136, .int p1, .int v2]) (st' := [.int (σ 8 0), .int v2]) (σ' := σ) rfl ?_
  refine xX_ite (c := (σ 8 0) ≤ v2) (w := xw_12) (i := 17) (a := 30) (b := 18) (st' := []) eT_12 rfl rfl (fun hc3 => ?_) (fun hc3 => ?_)
  · rw [if_pos hc3] at h
    obtain rfl := Option.some.inj h
    exact hE σ rfl _ _
  · rw [if_neg hc3] at h
    refine xX_blk (w := xw_12) eT_12 8 18 (ls' := [.ref 136, .int p1, .int v2]) (st' := [.int v2, .ref 132, .int v2, .ref 11]) (σ' := σ) rfl ?_
    obtain ⟨r4, hr4, h⟩ := xbd_inv h
    refine xX_c1 (w := xw_12) (i := 26) (ls := [.ref 136, .int p1, .int v2]) (rest := [.int v2, .ref 11]) eT_12 rfl (by omega) rfl rfl rfl (T_X5_stepOf v2 σ (by omega) hr4) ?_
    obtain ⟨hi5, h⟩ := xgd_inv h
    refine xX_one (w := xw_12) (i := 27) (ls' := [.ref 136, .int p1, .int v2]) (st' := []) (σ' := xup σ 11 v2.toNatClampNeg r4) eT_12 rfl (e_iast xs_11 hi5) ?_
    obtain ⟨σ6, eσ6, h⟩ := xlet_inv h
    rw [← eσ6]
    refine xX_blk (w := xw_12) eT_12 1 28 (ls' := [.ref 136, .int p1, .int (v2 + 1)]) (st' := []) (σ' := σ6) rfl ?_
    refine xX_jmp (w := xw_12) (i := 29) (a := 11) (st' := []) eT_12 rfl rfl ?_
    obtain rfl := Option.some.inj h
    exact hB ((v2 + 1), σ6) rfl
set_option maxHeartbeats 1000000 in
set_option maxRecDepth 20000 in
theorem TL_X0_layPlan_11 {d : Nat} {o : Option Value × xM} (p1 : Int32) (v2 : Int32) (σ : xM) {e : (xM)} (hd : 13 ≤ d) (h : L_X0_layPlan_11 p1 v2 σ = some e) (hE : ∀ (z0 z2 : Value), xX xT xLn d 12 30 [z0, .int p1, z2] [] e o) : xX xT xLn d 12 11 [.ref 136, .int p1, .int v2] [] σ o :=
  xloop_snd (X := fun s => xX xT xLn d 12 11 [.ref 136, .int p1, .int s.1] [] s.2 o) (Y := fun e' => ∀ (z0 z2 : Value), xX xT xLn d 12 30 [z0, .int p1, z2] [] e' o) (fun s q hs hB hE => TB_X0_layPlan_11 p1 s.1 s.2 hd hs hB hE) _ _ _ h hE
def F_X0_layPlan (σ : xM) : Option (Int32 × xM) :=
  xbd (F_X5_bestSum σ) fun r1 =>
  if r1.1 = (-1) then
    some ((-3), r1.2)
  else
    xbd (L_X0_layPlan_11 r1.1 0 r1.2) fun e7 =>
    some (r1.1, e7)
set_option maxHeartbeats 1000000 in
set_option maxRecDepth 20000 in
theorem T_X0_layPlan (σ : xM) {d : Nat} {q : Int32 × xM} (hd : 13 ≤ d) (h : F_X0_layPlan σ = some q) : xR xT xLn d 12 [.ref 136] σ (some (.int q.1), q.2) := by
  unfold F_X0_layPlan at h
  show xX xT xLn d 12 0 [.ref 136, .null, .null] [] σ _
  refine xX_blk (w := xw_12) eT_12 2 0 (ls' := [.ref 136, .null, .null]) (st' := [.ref 132]) (σ' := σ) rfl ?_
  obtain ⟨r1, hr1, h⟩ := xbd_inv h
  refine xX_c1 (w := xw_12) (i := 2) (ls := [.ref 136, .null, .null]) (rest := []) eT_12 rfl (by omega) rfl rfl rfl (T_X5_bestSum σ (by omega) hr1) ?_
  refine xX_blk (w := xw_12) eT_12 3 3 (ls' := [.ref 136, .int r1.1, .null]) (st' := [.int (-1), .int r1.1]) (σ' := r1.2) rfl ?_
  refine xX_ite (c := r1.1 = (-1)) (w := xw_12) (i := 6) (a := 7) (b := 9) (st' := []) eT_12 rfl rfl (fun hc2 => ?_) (fun hc2 => ?_)
  · rw [if_pos hc2] at h
    refine xX_blk (w := xw_12) eT_12 1 7 (ls' := [.ref 136, .int r1.1, .null]) (st' := [.int (-3)]) (σ' := r1.2) rfl ?_
    obtain rfl := Option.some.inj h
    exact xX_ret (w := xw_12) (i := 8) eT_12 rfl rfl
  · rw [if_neg hc2] at h
    refine xX_blk (w := xw_12) eT_12 2 9 (ls' := [.ref 136, .int r1.1, .int 0]) (st' := []) (σ' := r1.2) rfl ?_
    obtain ⟨e7, he7, h⟩ := xbd_inv h
    refine TL_X0_layPlan_11 r1.1 0 r1.2 (by omega) he7 (fun z0 z2 => ?_)
    refine xX_blk (w := xw_12) eT_12 2 30 (ls' := [.null, .int r1.1, .null]) (st' := [.int r1.1]) (σ' := e7) rfl ?_
    obtain rfl := Option.some.inj h
    exact xX_ret (w := xw_12) (i := 32) eT_12 rfl rfl
