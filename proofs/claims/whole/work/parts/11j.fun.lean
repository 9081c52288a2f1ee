def F_X11_plan (a : Int32) (σ : xM) : Option (Int32 × xM) :=
  if a = (-1) then
    xbd (F_X11_findsPlan σ) fun r2 =>
    if a = (-1) then
      some (r2.1, r2.2)
    else
      if r2.1 = (-1) then
        some (r2.1, r2.2)
      else
        xgd (xin a 5) (
        some ((r2.2 149 a.toNatClampNeg), r2.2))
  else
    xbd (F_X11_isSite a σ) fun r6 =>
    if r6 = 0 then
      xbd (F_X11_refuses (-2) σ) fun r8 =>
      some (r8.1, r8.2)
    else
      xbd (F_X11_findsPlan σ) fun r9 =>
      if a = (-1) then
        some (r9.1, r9.2)
      else
        if r9.1 = (-1) then
          some (r9.1, r9.2)
        else
          xgd (xin a 5) (
          some ((r9.2 149 a.toNatClampNeg), r9.2))
set_option maxHeartbeats 1000000 in
set_option maxRecDepth 20000 in
theorem T_X11_plan (a : Int32) (σ : xM) {d : Nat} {q : Int32 × xM} (hd : 6 ≤ d) (h : F_X11_plan a σ = some q) : xR xT xLn d 185 [.ref 141, .int a] σ (some (.int q.1), q.2) := by
  unfold F_X11_plan at h
  show xX xT xLn d 185 0 [.ref 141, .int a, .null] [] σ _
  refine xX_blk (w := xw_185) eT_185 2 0 (ls' := [.ref 141, .int a, .null]) (st' := [.int (-1), .int a]) (σ' := σ) rfl ?_
  refine xX_ite (c := a = (-1)) (w := xw_185) (i := 2) (a := 11) (b := 3) (st' := []) eT_185 rfl rfl (fun hc1 => ?_) (fun hc1 => ?_)
  · rw [if_pos hc1] at h
    refine xX_blk (w := xw_185) eT_185 1 11 (ls' := [.ref 141, .int a, .null]) (st' := [.ref 141]) (σ' := σ) rfl ?_
    obtain ⟨r2, hr2, h⟩ := xbd_inv h
    refine xX_c1 (w := xw_185) (i := 12) (ls := [.ref 141, .int a, .null]) (rest := []) eT_185 rfl (by omega) rfl rfl rfl (T_X11_findsPlan σ (by omega) hr2) ?_
    refine xX_blk (w := xw_185) eT_185 3 13 (ls' := [.ref 141, .int a, .int r2.1]) (st' := [.int (-1), .int a]) (σ' := r2.2) rfl ?_
    refine xX_ite (c := a = (-1)) (w := xw_185) (i := 16) (a := 20) (b := 17) (st' := []) eT_185 rfl rfl (fun hc3 => ?_) (fun hc3 => ?_)
    · rw [if_pos hc3] at h
      refine xX_blk (w := xw_185) eT_185 1 20 (ls' := [.ref 141, .int a, .int r2.1]) (st' := [.int r2.1]) (σ' := r2.2) rfl ?_
      refine xX_jmp (w := xw_185) (i := 21) (a := 26) (st' := [.int r2.1]) eT_185 rfl rfl ?_
      obtain rfl := Option.some.inj h
      exact xX_ret (w := xw_185) (i := 26) eT_185 rfl rfl
    · rw [if_neg hc3] at h
      refine xX_blk (w := xw_185) eT_185 2 17 (ls' := [.ref 141, .int a, .int r2.1]) (st' := [.int (-1), .int r2.1]) (σ' := r2.2) rfl ?_
      refine xX_ite (c := r2.1 = (-1)) (w := xw_185) (i := 19) (a := 20) (b := 22) (st' := []) eT_185 rfl rfl (fun hc4 => ?_) (fun hc4 => ?_)
      · rw [if_pos hc4] at h
        refine xX_blk (w := xw_185) eT_185 1 20 (ls' := [.ref 141, .int a, .int r2.1]) (st' := [.int r2.1]) (σ' := r2.2) rfl ?_
        refine xX_jmp (w := xw_185) (i := 21) (a := 26) (st' := [.int r2.1]) eT_185 rfl rfl ?_
        obtain rfl := Option.some.inj h
        exact xX_ret (w := xw_185) (i := 26) eT_185 rfl rfl
      · rw [if_neg hc4] at h
        refine xX_blk (w := xw_185) eT_185 3 22 (ls' := [.ref 141, .int a, .int r2.1]) (st' := [.int a, .ref 149]) (σ' := r2.2) rfl ?_
        obtain ⟨hi5, h⟩ := xgd_inv h
        refine xX_one (w := xw_185) (i := 25) (ls' := [.ref 141, .int a, .int r2.1]) (st' := [.int (r2.2 149 a.toNatClampNeg)]) (σ' := r2.2) eT_185 rfl (e_iald xs_149 hi5) ?_
        obtain rfl := Option.some.inj h
        exact xX_ret (w := xw_185) (i := 26) eT_185 rfl rfl
  · rw [if_neg hc1] at h
    refine xX_blk (w := xw_185) eT_185 2 3 (ls' := [.ref 141, .int a, .null]) (st' := [.int a, .ref 141]) (σ' := σ) rfl ?_
    obtain ⟨r6, hr6, h⟩ := xbd_inv h
    refine xX_c1 (w := xw_185) (i := 5) (ls := [.ref 141, .int a, .null]) (rest := []) eT_185 rfl (by omega) rfl rfl rfl (T_X11_isSite a σ (by omega) hr6) ?_
    refine xX_ite (c := r6 = 0) (w := xw_185) (i := 6) (a := 7) (b := 11) (st' := []) eT_185 rfl rfl (fun hc7 => ?_) (fun hc7 => ?_)
    · rw [if_pos hc7] at h
      refine xX_blk (w := xw_185) eT_185 2 7 (ls' := [.ref 141, .int a, .null]) (st' := [.int (-2), .ref 141]) (σ' := σ) rfl ?_
      obtain ⟨r8, hr8, h⟩ := xbd_inv h
      refine xX_c1 (w := xw_185) (i := 9) (ls := [.ref 141, .int a, .null]) (rest := []) eT_185 rfl (by omega) rfl rfl rfl (T_X11_refuses (-2) σ (by omega) hr8) ?_
      obtain rfl := Option.some.inj h
      exact xX_ret (w := xw_185) (i := 10) eT_185 rfl rfl
    · rw [if_neg hc7] at h
      refine xX_blk (w := xw_185) eT_185 1 11 (ls' := [.ref 141, .int a, .null]) (st' := [.ref 141]) (σ' := σ) rfl ?_
      obtain ⟨r9, hr9, h⟩ := xbd_inv h
      refine xX_c1 (w := xw_185) (i := 12) (ls := [.ref 141, .int a, .null]) (rest := []) eT_185 rfl (by omega) rfl rfl rfl (T_X11_findsPlan σ (by omega) hr9) ?_
      refine xX_blk (w := xw_185) eT_185 3 13 (ls' := [.ref 141, .int a, .int r9.1]) (st' := [.int (-1), .int a]) (σ' := r9.2) rfl ?_
      refine xX_ite (c := a = (-1)) (w := xw_185) (i := 16) (a := 20) (b := 17) (st' := []) eT_185 rfl rfl (fun hc10 => ?_) (fun hc10 => ?_)
      · rw [if_pos hc10] at h
        refine xX_blk (w := xw_185) eT_185 1 20 (ls' := [.ref 141, .int a, .int r9.1]) (st' := [.int r9.1]) (σ' := r9.2) rfl ?_
        refine xX_jmp (w := xw_185) (i := 21) (a := 26) (st' := [.int r9.1]) eT_185 rfl rfl ?_
        obtain rfl := Option.some.inj h
        exact xX_ret (w := xw_185) (i := 26) eT_185 rfl rfl
      · rw [if_neg hc10] at h
        refine xX_blk (w := xw_185) eT_185 2 17 (ls' := [.ref 141, .int a, .int r9.1]) (st' := [.int (-1), .int r9.1]) (σ' := r9.2) rfl ?_
        refine xX_ite (c := r9.1 = (-1)) (w := xw_185) (i := 19) (a := 20) (b := 22) (st' := []) eT_185 rfl rfl (fun hc11 => ?_) (fun hc11 => ?_)
        · rw [if_pos hc11] at h
          refine xX_blk (w := xw_185) eT_185 1 20 (ls' := [.ref 141, .int a, .int r9.1]) (st' := [.int r9.1]) (σ' := r9.2) rfl ?_
          refine xX_jmp (w := xw_185) (i := 21) (a := 26) (st' := [.int r9.1]) eT_185 rfl rfl ?_
          obtain rfl := Option.some.inj h
          exact xX_ret (w := xw_185) (i := 26) eT_185 rfl rfl
        · rw [if_neg hc11] at h
          refine xX_blk (w := xw_185) eT_185 3 22 (ls' := [.ref 141, .int a, .int r9.1]) (st' := [.int a, .ref 149]) (σ' := r9.2) rfl ?_
          obtain ⟨hi12, h⟩ := xgd_inv h
          refine xX_one (w := xw_185) (i := 25) (ls' := [.ref 141, .int a, .int r9.1]) (st' := [.int (r9.2 149 a.toNatClampNeg)]) (σ' := r9.2) eT_185 rfl (e_iald xs_149 hi12) ?_
          obtain rfl := Option.some.inj h
          exact xX_ret (w := xw_185) (i := 26) eT_185 rfl rfl
def B_X11_lays_14 (p1 : Int32) (v2 : Int32) (σ : xM) : Option ((Int32 × xM) ⊕ ((xM))) :=
  if (σ 142 1) ≤ v2 then
    some (.inr σ)
  else
    xgd (xin v2 5) (
    xbd (F_X11_putsStep v2 (σ 149 v2.toNatClampNeg) σ) fun r7 =>
    some (.inl ((v2 + 1), r7)))
def L_X11_lays_14 (p1 : Int32) (v2 : Int32) (σ : xM) : Option ((xM)) := xloop (fun s : Int32 × xM => B_X11_lays_14 p1 s.1 s.2) 6000 (v2, σ)
set_option maxHeartbeats 1000000 in
set_option maxRecDepth 20000 in
theorem TB_X11_lays_14 {d : Nat} {o : Option Value × xM} (p1 : Int32) (v2 : Int32) (σ : xM) {q : (Int32 × xM) ⊕ ((xM))} (hd : 6 ≤ d) (h : B_X11_lays_14 p1 v2 σ = some q) (hB : ∀ s', q = .inl s' → xX xT xLn d 186 14 [.ref 141, .int p1, .int s'.1] [] s'.2 o) (hE : ∀ e', q = .inr e' → ∀ (z0 z2 : Value), xX xT xLn d 186 30 [z0, .int p1, z2] [] e' o) : xX xT xLn d 186 14 [.ref 141, .int p1, .int v2] [] σ o := by
  unfold B_X11_lays_14 at h
  refine xX_blk (w := xw_186) eT_186 5 14 (ls' := [.ref 141, .int p1, .int v2]) (st' := [.int 1, .ref 142, .int v2]) (σ' := σ) rfl ?_
  refine xX_one (w := xw_186) (i := 19) (ls' := [.ref 141, .int p1, .int v2]) (st' := [.int (σ 142 1), .int v2]) (σ' := σ) eT_186 rfl (e_ialK xs_142 (by decide) (by decide)) ?_
  refine xX_ite (c := (σ 142 1) ≤ v2) (w := xw_186) (i := 20) (a := 30) (b := 21) (st' := []) eT_186 rfl rfl (fun hc5 => ?_) (fun hc5 => ?_)
  · rw [if_pos hc5] at h
    obtain rfl := Option.some.inj h
    exact hE σ rfl _ _
  · rw [if_neg hc5] at h
    refine xX_blk (w := xw_186) eT_186 5 21 (ls' := [.ref 141, .int p1, .int v2]) (st' := [.int v2, .ref 149, .int v2, .ref 141]) (σ' := σ) rfl ?_
    obtain ⟨hi6, h⟩ := xgd_inv h
    refine xX_one (w := xw_186) (i := 26) (ls' := [.ref 141, .int p1, .int v2]) (st' := [.int (σ 149 v2.toNatClampNeg), .int v2, .ref 141]) (σ' := σ) eT_186 rfl (e_iald xs_149 hi6) ?_
    obtain ⟨r7, hr7, h⟩ := xbd_inv h
    refine xX_c0 (w := xw_186) (i := 27) (ls := [.ref 141, .int p1, .int v2]) (rest := []) eT_186 rfl (by omega) rfl rfl rfl (T_X11_putsStep v2 (σ 149 v2.toNatClampNeg) σ (by omega) hr7) ?_
    refine xX_blk (w := xw_186) eT_186 1 28 (ls' := [.ref 141, .int p1, .int (v2 + 1)]) (st' := []) (σ' := r7) rfl ?_
    refine xX_jmp (w := xw_186) (i := 29) (a := 14) (st' := []) eT_186 rfl rfl ?_
    obtain rfl := Option.some.inj h
    exact hB ((v2 + 1), r7) rfl
set_option maxHeartbeats 1000000 in
set_option maxRecDepth 20000 in
theorem TL_X11_lays_14 {d : Nat} {o : Option Value × xM} (p1 : Int32) (v2 : Int32) (σ : xM) {e : (xM)} (hd : 6 ≤ d) (h : L_X11_lays_14 p1 v2 σ = some e) (hE : ∀ (z0 z2 : Value), xX xT xLn d 186 30 [z0, .int p1, z2] [] e o) : xX xT xLn d 186 14 [.ref 141, .int p1, .int v2] [] σ o :=
  xloop_snd (X := fun s => xX xT xLn d 186 14 [.ref 141, .int p1, .int s.1] [] s.2 o) (Y := fun e' => ∀ (z0 z2 : Value), xX xT xLn d 186 30 [z0, .int p1, z2] [] e' o) (fun s q hs hB hE => TB_X11_lays_14 p1 s.1 s.2 hd hs hB hE) _ _ _ h hE
def F_X11_lays (σ : xM) : Option (Int32 × xM) :=
  xbd (F_X11_findsPlan σ) fun r1 =>
  if r1.1 = (-1) then
    xbd (F_X11_refuses (-3) r1.2) fun r3 =>
    some (r3.1, r3.2)
  else
    xbd (F_X11_keep r1.2) fun r4 =>
    xbd (L_X11_lays_14 r1.1 0 r4) fun e8 =>
    some (r1.1, e8)
set_option maxHeartbeats 1000000 in
set_option maxRecDepth 20000 in
theorem T_X11_lays (σ : xM) {d : Nat} {q : Int32 × xM} (hd : 6 ≤ d) (h : F_X11_lays σ = some q) : xR xT xLn d 186 [.ref 141] σ (some (.int q.1), q.2) := by
  unfold F_X11_lays at h
  show xX xT xLn d 186 0 [.ref 141, .null, .null] [] σ _
  refine xX_blk (w := xw_186) eT_186 1 0 (ls' := [.ref 141, .null, .null]) (st' := [.ref 141]) (σ' := σ) rfl ?_
  obtain ⟨r1, hr1, h⟩ := xbd_inv h
  refine xX_c1 (w := xw_186) (i := 1) (ls := [.ref 141, .null, .null]) (rest := []) eT_186 rfl (by omega) rfl rfl rfl (T_X11_findsPlan σ (by omega) hr1) ?_
  refine xX_blk (w := xw_186) eT_186 3 2 (ls' := [.ref 141, .int r1.1, .null]) (st' := [.int (-1), .int r1.1]) (σ' := r1.2) rfl ?_
  refine xX_ite (c := r1.1 = (-1)) (w := xw_186) (i := 5) (a := 6) (b := 10) (st' := []) eT_186 rfl rfl (fun hc2 => ?_) (fun hc2 => ?_)
  · rw [if_pos hc2] at h
    refine xX_blk (w := xw_186) eT_186 2 6 (ls' := [.ref 141, .int r1.1, .null]) (st' := [.int (-3), .ref 141]) (σ' := r1.2) rfl ?_
    obtain ⟨r3, hr3, h⟩ := xbd_inv h
    refine xX_c1 (w := xw_186) (i := 8) (ls := [.ref 141, .int r1.1, .null]) (rest := []) eT_186 rfl (by omega) rfl rfl rfl (T_X11_refuses (-3) r1.2 (by omega) hr3) ?_
    obtain rfl := Option.some.inj h
    exact xX_ret (w := xw_186) (i := 9) eT_186 rfl rfl
  · rw [if_neg hc2] at h
    refine xX_blk (w := xw_186) eT_186 1 10 (ls' := [.ref 141, .int r1.1, .null]) (st' := [.ref 141]) (σ' := r1.2) rfl ?_
    obtain ⟨r4, hr4, h⟩ := xbd_inv h
    refine xX_c0 (w := xw_186) (i := 11) (ls := [.ref 141, .int r1.1, .null]) (rest := []) eT_186 rfl (by omega) rfl rfl rfl (T_X11_keep r1.2 (by omega) hr4) ?_
    refine xX_blk (w := xw_186) eT_186 2 12 (ls' := [.ref 141, .int r1.1, .int 0]) (st' := []) (σ' := r4) rfl ?_
    obtain ⟨e8, he8, h⟩ := xbd_inv h
    refine TL_X11_lays_14 r1.1 0 r4 (by omega) he8 (fun z0 z2 => ?_)
    refine xX_blk (w := xw_186) eT_186 2 30 (ls' := [.null, .int r1.1, .null]) (st' := [.int r1.1]) (σ' := e8) rfl ?_
    obtain rfl := Option.some.inj h
    exact xX_ret (w := xw_186) (i := 32) eT_186 rfl rfl
def B_X11_areOn_4 (p1 : Int32) (v2 : Int32) (v3 : Int32) (σ : xM) : Option ((Int32 × Int32) ⊕ ((Int32))) :=
  if (σ 142 1) ≤ v3 then
    some (.inr v2)
  else
    if v2 = 0 then
      some (.inl (0, (v3 + 1)))
    else
      if ((p1 >>> (v3 &&& 31)) &&& 1) = 0 then
        some (.inl (1, (v3 + 1)))
      else
        xbd (F_X11_stateOf v3 σ) fun r4 =>
        if r4 = 2 then
          some (.inl (0, (v3 + 1)))
        else
          some (.inl (1, (v3 + 1)))
def L_X11_areOn_4 (p1 : Int32) (v2 : Int32) (v3 : Int32) (σ : xM) : Option ((Int32)) := xloop (fun s : Int32 × Int32 => B_X11_areOn_4 p1 s.1 s.2 σ) 6000 (v2, v3)
set_option maxHeartbeats 1000000 in
set_option maxRecDepth 20000 in
theorem TB_X11_areOn_4 {d : Nat} {o : Option Value × xM} (p1 : Int32) (v2 : Int32) (v3 : Int32) (σ : xM) {q : (Int32 × Int32) ⊕ ((Int32))} (hd : 1 ≤ d) (h : B_X11_areOn_4 p1 v2 v3 σ = some q) (hB : ∀ s', q = .inl s' → xX xT xLn d 191 4 [.ref 141, .int p1, .int s'.1, .int s'.2] [] σ o) (hE : ∀ e', q = .inr e' → ∀ (z0 z1 z3 : Value), xX xT xLn d 191 30 [z0, z1, .int e', z3] [] σ o) : xX xT xLn d 191 4 [.ref 141, .int p1, .int v2, .int v3] [] σ o := by
  unfold B_X11_areOn_4 at h
  refine xX_blk (w := xw_191) eT_191 5 4 (ls' := [.ref 141, .int p1, .int v2, .int v3]) (st' := [.int 1, .ref 142, .int v3]) (σ' := σ) rfl ?_
  refine xX_one (w := xw_191) (i := 9) (ls' := [.ref 141, .int p1, .int v2, .int v3]) (st' := [.int (σ 142 1), .int v3]) (σ' := σ) eT_191 rfl (e_ialK xs_142 (by decide) (by decide)) ?_
  refine xX_ite (c := (σ 142 1) ≤ v3) (w := xw_191) (i := 10) (a := 30) (b := 11) (st' := []) eT_191 rfl rfl (fun hc1 => ?_) (fun hc1 => ?_)
  · rw [if_pos hc1] at h
    obtain rfl := Option.some.inj h
    exact hE v2 rfl _ _ _
  · rw [if_neg hc1] at h
    refine xX_blk (w := xw_191) eT_191 1 11 (ls' := [.ref 141, .int p1, .int v2, .int v3]) (st' := [.int v2]) (σ' := σ) rfl ?_
    refine xX_ite (c := v2 = 0) (w := xw_191) (i := 12) (a := 26) (b := 13) (st' := []) eT_191 rfl rfl (fun hc2 => ?_) (fun hc2 => ?_)
    · rw [if_pos hc2] at h
      refine xX_blk (w := xw_191) eT_191 3 26 (ls' := [.ref 141, .int p1, .int 0, .int (v3 + 1)]) (st' := []) (σ' := σ) rfl ?_
      refine xX_jmp (w := xw_191) (i := 29) (a := 4) (st' := []) eT_191 rfl rfl ?_
      obtain rfl := Option.some.inj h
      exact hB (0, (v3 + 1)) rfl
    · rw [if_neg hc2] at h
      refine xX_blk (w := xw_191) eT_191 5 13 (ls' := [.ref 141, .int p1, .int v2, .int v3]) (st' := [.int ((p1 >>> (v3 &&& 31)) &&& 1)]) (σ' := σ) rfl ?_
      refine xX_ite (c := ((p1 >>> (v3 &&& 31)) &&& 1) = 0) (w := xw_191) (i := 18) (a := 24) (b := 19) (st' := []) eT_191 rfl rfl (fun hc3 => ?_) (fun hc3 => ?_)
      · rw [if_pos hc3] at h
        refine xX_blk (w := xw_191) eT_191 1 24 (ls' := [.ref 141, .int p1, .int v2, .int v3]) (st' := [.int 1]) (σ' := σ) rfl ?_
        refine xX_jmp (w := xw_191) (i := 25) (a := 27) (st' := [.int 1]) eT_191 rfl rfl ?_
        refine xX_blk (w := xw_191) eT_191 2 27 (ls' := [.ref 141, .int p1, .int 1, .int (v3 + 1)]) (st' := []) (σ' := σ) rfl ?_
        refine xX_jmp (w := xw_191) (i := 29) (a := 4) (st' := []) eT_191 rfl rfl ?_
        obtain rfl := Option.some.inj h
        exact hB (1, (v3 + 1)) rfl
      · rw [if_neg hc3] at h
        refine xX_blk (w := xw_191) eT_191 2 19 (ls' := [.ref 141, .int p1, .int v2, .int v3]) (st' := [.int v3, .ref 141]) (σ' := σ) rfl ?_
        obtain ⟨r4, hr4, h⟩ := xbd_inv h
        refine xX_c1 (w := xw_191) (i := 21) (ls := [.ref 141, .int p1, .int v2, .int v3]) (rest := []) eT_191 rfl (by omega) rfl rfl rfl (T_X11_stateOf v3 σ (by omega) hr4) ?_
        refine xX_blk (w := xw_191) eT_191 1 22 (ls' := [.ref 141, .int p1, .int v2, .int v3]) (st' := [.int 2, .int r4]) (σ' := σ) rfl ?_
        refine xX_ite (c := r4 = 2) (w := xw_191) (i := 23) (a := 26) (b := 24) (st' := []) eT_191 rfl rfl (fun hc5 => ?_) (fun hc5 => ?_)
        · rw [if_pos hc5] at h
          refine xX_blk (w := xw_191) eT_191 3 26 (ls' := [.ref 141, .int p1, .int 0, .int (v3 + 1)]) (st' := []) (σ' := σ) rfl ?_
          refine xX_jmp (w := xw_191) (i := 29) (a := 4) (st' := []) eT_191 rfl rfl ?_
          obtain rfl := Option.some.inj h
          exact hB (0, (v3 + 1)) rfl
        · rw [if_neg hc5] at h
          refine xX_blk (w := xw_191) eT_191 1 24 (ls' := [.ref 141, .int p1, .int v2, .int v3]) (st' := [.int 1]) (σ' := σ) rfl ?_
          refine xX_jmp (w := xw_191) (i := 25) (a := 27) (st' := [.int 1]) eT_191 rfl rfl ?_
          refine xX_blk (w := xw_191) eT_191 2 27 (ls' := [.ref 141, .int p1, .int 1, .int (v3 + 1)]) (st' := []) (σ' := σ) rfl ?_
          refine xX_jmp (w := xw_191) (i := 29) (a := 4) (st' := []) eT_191 rfl rfl ?_
          obtain rfl := Option.some.inj h
          exact hB (1, (v3 + 1)) rfl
set_option maxHeartbeats 1000000 in
set_option maxRecDepth 20000 in
theorem TL_X11_areOn_4 {d : Nat} {o : Option Value × xM} (p1 : Int32) (v2 : Int32) (v3 : Int32) (σ : xM) {e : (Int32)} (hd : 1 ≤ d) (h : L_X11_areOn_4 p1 v2 v3 σ = some e) (hE : ∀ (z0 z1 z3 : Value), xX xT xLn d 191 30 [z0, z1, .int e, z3] [] σ o) : xX xT xLn d 191 4 [.ref 141, .int p1, .int v2, .int v3] [] σ o :=
  xloop_snd (X := fun s => xX xT xLn d 191 4 [.ref 141, .int p1, .int s.1, .int s.2] [] σ o) (Y := fun e' => ∀ (z0 z1 z3 : Value), xX xT xLn d 191 30 [z0, z1, .int e', z3] [] σ o) (fun s q hs hB hE => TB_X11_areOn_4 p1 s.1 s.2 σ hd hs hB hE) _ _ _ h hE
def F_X11_areOn (a : Int32) (σ : xM) : Option (Int32) :=
  xbd (L_X11_areOn_4 a 1 0 σ) fun e6 =>
  xgd (xzok true e6) (some e6)
set_option maxHeartbeats 1000000 in
set_option maxRecDepth 20000 in
theorem T_X11_areOn (a : Int32) (σ : xM) {d : Nat} {q : Int32} (hd : 1 ≤ d) (h : F_X11_areOn a σ = some q) : xR xT xLn d 191 [.ref 141, .int a] σ (some (.int q), σ) := by
  unfold F_X11_areOn at h
  show xX xT xLn d 191 0 [.ref 141, .int a, .null, .null] [] σ _
  refine xX_blk (w := xw_191) eT_191 4 0 (ls' := [.ref 141, .int a, .int 1, .int 0]) (st' := []) (σ' := σ) rfl ?_
  obtain ⟨e6, he6, h⟩ := xbd_inv h
  refine TL_X11_areOn_4 a 1 0 σ (by omega) he6 (fun z0 z1 z3 => ?_)
  refine xX_blk (w := xw_191) eT_191 2 30 (ls' := [.null, .null, .int e6, .null]) (st' := [.int e6]) (σ' := σ) rfl ?_
  obtain ⟨hi7, h⟩ := xgd_inv h
  obtain rfl := Option.some.inj h
  exact xX_ret (w := xw_191) (i := 32) eT_191 rfl (e_ret2 hi7)
def B_X11_size_4 (p0 : Int32) (v1 : Int32) (v2 : Int32) (σ : xM) : Option ((Int32 × Int32) ⊕ ((Int32))) :=
  if 5 ≤ v2 then
    some (.inr v1)
  else
    some (.inl ((v1 + ((p0 >>> (v2 &&& 31)) &&& 1)), (v2 + 1)))
def L_X11_size_4 (p0 : Int32) (v1 : Int32) (v2 : Int32) (σ : xM) : Option ((Int32)) := xloop (fun s : Int32 × Int32 => B_X11_size_4 p0 s.1 s.2 σ) 6000 (v1, v2)
set_option maxHeartbeats 1000000 in
set_option maxRecDepth 20000 in
theorem TB_X11_size_4 {d : Nat} {o : Option Value × xM} (p0 : Int32) (v1 : Int32) (v2 : Int32) (σ : xM) {q : (Int32 × Int32) ⊕ ((Int32))} (hd : 0 ≤ d) (h : B_X11_size_4 p0 v1 v2 σ = some q) (hB : ∀ s', q = .inl s' → xX xT xLn d 187 4 [.int p0, .int s'.1, .int s'.2] [] σ o) (hE : ∀ e', q = .inr e' → ∀ (z0 z2 : Value), xX xT xLn d 187 18 [z0, .int e', z2] [] σ o) : xX xT xLn d 187 4 [.int p0, .int v1, .int v2] [] σ o := by
  unfold B_X11_size_4 at h
  refine xX_blk (w := xw_187) eT_187 3 4 (ls' := [.int p0, .int v1, .int v2]) (st' := [.int 5, .int v2]) (σ' := σ) rfl ?_
  refine xX_ite (c := 5 ≤ v2) (w := xw_187) (i := 7) (a := 18) (b := 8) (st' := []) eT_187 rfl rfl (fun hc1 => ?_) (fun hc1 => ?_)
  · rw [if_pos hc1] at h
    obtain rfl := Option.some.inj h
    exact hE v1 rfl _ _
  · rw [if_neg hc1] at h
    refine xX_blk (w := xw_187) eT_187 9 8 (ls' := [.int p0, .int (v1 + ((p0 >>> (v2 &&& 31)) &&& 1)), .int (v2 + 1)]) (st' := []) (σ' := σ) rfl ?_
    refine xX_jmp (w := xw_187) (i := 17) (a := 4) (st' := []) eT_187 rfl rfl ?_
    obtain rfl := Option.some.inj h
    exact hB ((v1 + ((p0 >>> (v2 &&& 31)) &&& 1)), (v2 + 1)) rfl
set_option maxHeartbeats 1000000 in
set_option maxRecDepth 20000 in
theorem TL_X11_size_4 {d : Nat} {o : Option Value × xM} (p0 : Int32) (v1 : Int32) (v2 : Int32) (σ : xM) {e : (Int32)} (hd : 0 ≤ d) (h : L_X11_size_4 p0 v1 v2 σ = some e) (hE : ∀ (z0 z2 : Value), xX xT xLn d 187 18 [z0, .int e, z2] [] σ o) : xX xT xLn d 187 4 [.int p0, .int v1, .int v2] [] σ o :=
  xloop_snd (X := fun s => xX xT xLn d 187 4 [.int p0, .int s.1, .int s.2] [] σ o) (Y := fun e' => ∀ (z0 z2 : Value), xX xT xLn d 187 18 [z0, .int e', z2] [] σ o) (fun s q hs hB hE => TB_X11_size_4 p0 s.1 s.2 σ hd hs hB hE) _ _ _ h hE
def F_X11_size (a : Int32) (σ : xM) : Option (Int32) :=
  xbd (L_X11_size_4 a 0 0 σ) fun e2 =>
  some e2
set_option maxHeartbeats 1000000 in
set_option maxRecDepth 20000 in
theorem T_X11_size (a : Int32) (σ : xM) {d : Nat} {q : Int32} (hd : 0 ≤ d) (h : F_X11_size a σ = some q) : xR xT xLn d 187 [.int a] σ (some (.int q), σ) := by
  unfold F_X11_size at h
  show xX xT xLn d 187 0 [.int a, .null, .null] [] σ _
  refine xX_blk (w := xw_187) eT_187 4 0 (ls' := [.int a, .int 0, .int 0]) (st' := []) (σ' := σ) rfl ?_
  obtain ⟨e2, he2, h⟩ := xbd_inv h
  refine TL_X11_size_4 a 0 0 σ (by omega) he2 (fun z0 z2 => ?_)
  refine xX_blk (w := xw_187) eT_187 2 18 (ls' := [.null, .int e2, .null]) (st' := [.int e2]) (σ' := σ) rfl ?_
  obtain rfl := Option.some.inj h
  exact xX_ret (w := xw_187) (i := 20) eT_187 rfl rfl
def B_X11_laysOrder_11 (p3 : Int32) (p4 : Int32) (p6 : Int32) (v5 : Int32) (v7 : Int32) (σ : xM) : Option ((Int32 × Int32) ⊕ ((Int32))) :=
  if p6 ≤ v7 then
    some (.inr v5)
  else
    some (.inl ((v5 * v7), (v7 + 1)))
def L_X11_laysOrder_11 (p3 : Int32) (p4 : Int32) (p6 : Int32) (v5 : Int32) (v7 : Int32) (σ : xM) : Option ((Int32)) := xloop (fun s : Int32 × Int32 => B_X11_laysOrder_11 p3 p4 p6 s.1 s.2 σ) 6000 (v5, v7)
set_option maxHeartbeats 1000000 in
set_option maxRecDepth 20000 in
theorem TB_X11_laysOrder_11 {d : Nat} {o : Option Value × xM} (p3 : Int32) (p4 : Int32) (p6 : Int32) (v5 : Int32) (v7 : Int32) (σ : xM) {q : (Int32 × Int32) ⊕ ((Int32))} (hd : 1 ≤ d) (h : B_X11_laysOrder_11 p3 p4 p6 v5 v7 σ = some q) (hB : ∀ s', q = .inl s' → ∀ (z1 z2 z8 z9 : Value), xX xT xLn d 188 11 [.ref 141, z1, z2, .int p3, .int p4, .int s'.1, .int p6, .int s'.2, z8, z9] [] σ o) (hE : ∀ e', q = .inr e' → ∀ (z1 z2 z7 z8 z9 : Value), xX xT xLn d 188 21 [.ref 141, z1, z2, .int p3, .int p4, .int e', .int p6, z7, z8, z9] [] σ o) (z1 : Value) (z2 : Value) (z8 : Value) (z9 : Value) : xX xT xLn d 188 11 [.ref 141, z1, z2, .int p3, .int p4, .int v5, .int p6, .int v7, z8, z9] [] σ o := by
  unfold B_X11_laysOrder_11 at h
  refine xX_blk (w := xw_188) eT_188 3 11 (ls' := [.ref 141, .null, .null, .int p3, .int p4, .int v5, .int p6, .int v7, .null, .null]) (st' := [.int p6, .int v7]) (σ' := σ) rfl ?_
  refine xX_ite (c := p6 ≤ v7) (w := xw_188) (i := 14) (a := 21) (b := 15) (st' := []) eT_188 rfl rfl (fun hc2 => ?_) (fun hc2 => ?_)
  · rw [if_pos hc2] at h
    obtain rfl := Option.some.inj h
    exact hE v5 rfl _ _ _ _ _
  · rw [if_neg hc2] at h
    refine xX_blk (w := xw_188) eT_188 5 15 (ls' := [.ref 141, .null, .null, .int p3, .int p4, .int (v5 * v7), .int p6, .int (v7 + 1), .null, .null]) (st' := []) (σ' := σ) rfl ?_
    refine xX_jmp (w := xw_188) (i := 20) (a := 11) (st' := []) eT_188 rfl rfl ?_
    obtain rfl := Option.some.inj h
    exact hB ((v5 * v7), (v7 + 1)) rfl _ _ _ _
set_option maxHeartbeats 1000000 in
set_option maxRecDepth 20000 in
theorem TL_X11_laysOrder_11 {d : Nat} {o : Option Value × xM} (p3 : Int32) (p4 : Int32) (p6 : Int32) (v5 : Int32) (v7 : Int32) (σ : xM) {e : (Int32)} (hd : 1 ≤ d) (h : L_X11_laysOrder_11 p3 p4 p6 v5 v7 σ = some e) (hE : ∀ (z1 z2 z7 z8 z9 : Value), xX xT xLn d 188 21 [.ref 141, z1, z2, .int p3, .int p4, .int e, .int p6, z7, z8, z9] [] σ o) (z1 : Value) (z2 : Value) (z8 : Value) (z9 : Value) : xX xT xLn d 188 11 [.ref 141, z1, z2, .int p3, .int p4, .int v5, .int p6, .int v7, z8, z9] [] σ o :=
  xloop_snd (X := fun s => ∀ (z1 z2 z8 z9 : Value), xX xT xLn d 188 11 [.ref 141, z1, z2, .int p3, .int p4, .int s.1, .int p6, .int s.2, z8, z9] [] σ o) (Y := fun e' => ∀ (z1 z2 z7 z8 z9 : Value), xX xT xLn d 188 21 [.ref 141, z1, z2, .int p3, .int p4, .int e', .int p6, z7, z8, z9] [] σ o) (fun s q hs hB hE z1 z2 z8 z9 => TB_X11_laysOrder_11 p3 p4 p6 s.1 s.2 σ hd hs hB hE z1 z2 z8 z9) _ _ _ h hE z1 z2 z8 z9
def B_X11_laysOrder_35 (p3 : Int32) (p4 : Int32) (p5 : Int32) (p6 : Int32) (p7 : Int32) (v8 : Int32) (v9 : Int32) (σ : xM) : Option ((Int32 × Int32) ⊕ ((Int32))) :=
  if ((p3 >>> (v9 &&& 31)) &&& 1) = 0 then
    some (.inl ((v8 - ((p3 >>> (v9 &&& 31)) &&& 1)), (v9 + 1)))
  else
    if v8 ≤ 0 then
      some (.inr v9)
    else
      some (.inl ((v8 - ((p3 >>> (v9 &&& 31)) &&& 1)), (v9 + 1)))
def L_X11_laysOrder_35 (p3 : Int32) (p4 : Int32) (p5 : Int32) (p6 : Int32) (p7 : Int32) (v8 : Int32) (v9 : Int32) (σ : xM) : Option ((Int32)) := xloop (fun s : Int32 × Int32 => B_X11_laysOrder_35 p3 p4 p5 p6 p7 s.1 s.2 σ) 6000 (v8, v9)
set_option maxHeartbeats 1000000 in
set_option maxRecDepth 20000 in
theorem TB_X11_laysOrder_35 {d : Nat} {o : Option Value × xM} (p3 : Int32) (p4 : Int32) (p5 : Int32) (p6 : Int32) (p7 : Int32) (v8 : Int32) (v9 : Int32) (σ : xM) {q : (Int32 × Int32) ⊕ ((Int32))} (hd : 1 ≤ d) (h : B_X11_laysOrder_35 p3 p4 p5 p6 p7 v8 v9 σ = some q) (hB : ∀ s', q = .inl s' → ∀ (z1 z2 : Value), xX xT xLn d 188 38 [.ref 141, z1, z2, .int p3, .int p4, .int p5, .int p6, .int p7, .int s'.1, .int s'.2] [] σ o) (hE : ∀ e', q = .inr e' → ∀ (z1 z2 z8 : Value), xX xT xLn d 188 57 [.ref 141, z1, z2, .int p3, .int p4, .int p5, .int p6, .int p7, z8, .int e'] [] σ o) (z1 : Value) (z2 : Value) : xX xT xLn d 188 38 [.ref 141, z1, z2, .int p3, .int p4, .int p5, .int p6, .int p7, .int v8, .int v9] [] σ o := by
  unfold B_X11_laysOrder_35 at h
  refine xX_blk (w := xw_188) eT_188 6 38 (ls' := [.ref 141, .null, .null, .int p3, .int p4, .int p5, .int p6, .int p7, .int v8, .int v9]) (st' := [.int ((p3 >>> (v9 &&& 31)) &&& 1)]) (σ' := σ) rfl ?_
  refine xX_ite (c := ((p3 >>> (v9 &&& 31)) &&& 1) = 0) (w := xw_188) (i := 44) (a := 47) (b := 45) (st' := []) eT_188 rfl rfl (fun hc7 => ?_) (fun hc7 => ?_)
  · rw [if_pos hc7] at h
    refine xX_blk (w := xw_188) eT_188 9 47 (ls' := [.ref 141, .null, .null, .int p3, .int p4, .int p5, .int p6, .int p7, .int (v8 - ((p3 >>> (v9 &&& 31)) &&& 1)), .int (v9 + 1)]) (st' := []) (σ' := σ) rfl ?_
    refine xX_jmp (w := xw_188) (i := 56) (a := 38) (st' := []) eT_188 rfl rfl ?_
    obtain rfl := Option.some.inj h
    exact hB ((v8 - ((p3 >>> (v9 &&& 31)) &&& 1)), (v9 + 1)) rfl _ _
  · rw [if_neg hc7] at h
    refine xX_blk (w := xw_188) eT_188 1 45 (ls' := [.ref 141, .null, .null, .int p3, .int p4, .int p5, .int p6, .int p7, .int v8, .int v9]) (st' := [.int v8]) (σ' := σ) rfl ?_
    refine xX_ite (c := v8 ≤ 0) (w := xw_188) (i := 46) (a := 57) (b := 47) (st' := []) eT_188 rfl rfl (fun hc8 => ?_) (fun hc8 => ?_)
    · rw [if_pos hc8] at h
      obtain rfl := Option.some.inj h
      exact hE v9 rfl _ _ _
    · rw [if_neg hc8] at h
      refine xX_blk (w := xw_188) eT_188 9 47 (ls' := [.ref 141, .null, .null, .int p3, .int p4, .int p5, .int p6, .int p7, .int (v8 - ((p3 >>> (v9 &&& 31)) &&& 1)), .int (v9 + 1)]) (st' := []) (σ' := σ) rfl ?_
      refine xX_jmp (w := xw_188) (i := 56) (a := 38) (st' := []) eT_188 rfl rfl ?_
      obtain rfl := Option.some.inj h
      exact hB ((v8 - ((p3 >>> (v9 &&& 31)) &&& 1)), (v9 + 1)) rfl _ _
set_option maxHeartbeats 1000000 in
set_option maxRecDepth 20000 in
theorem TL_X11_laysOrder_35 {d : Nat} {o : Option Value × xM} (p3 : Int32) (p4 : Int32) (p5 : Int32) (p6 : Int32) (p7 : Int32) (v8 : Int32) (v9 : Int32) (σ : xM) {e : (Int32)} (hd : 1 ≤ d) (h : L_X11_laysOrder_35 p3 p4 p5 p6 p7 v8 v9 σ = some e) (hE : ∀ (z1 z2 z8 : Value), xX xT xLn d 188 57 [.ref 141, z1, z2, .int p3, .int p4, .int p5, .int p6, .int p7, z8, .int e] [] σ o) (z1 : Value) (z2 : Value) : xX xT xLn d 188 38 [.ref 141, z1, z2, .int p3, .int p4, .int p5, .int p6, .int p7, .int v8, .int v9] [] σ o :=
  xloop_snd (X := fun s => ∀ (z1 z2 : Value), xX xT xLn d 188 38 [.ref 141, z1, z2, .int p3, .int p4, .int p5, .int p6, .int p7, .int s.1, .int s.2] [] σ o) (Y := fun e' => ∀ (z1 z2 z8 : Value), xX xT xLn d 188 57 [.ref 141, z1, z2, .int p3, .int p4, .int p5, .int p6, .int p7, z8, .int e'] [] σ o) (fun s q hs hB hE z1 z2 => TB_X11_laysOrder_35 p3 p4 p5 p6 p7 s.1 s.2 σ hd hs hB hE z1 z2) _ _ _ h hE z1 z2
def B_X11_laysOrder_22 (p6 : Int32) (v3 : Int32) (v4 : Int32) (v5 : Int32) (v7 : Int32) (σ : xM) : Option ((Int32 × Int32 × Int32 × Int32 × xM) ⊕ ((xM))) :=
  if p6 ≤ v7 then
    some (.inr σ)
  else
    xgd (!decide (v5 = 0)) (
    xgd (!decide (v5 = 0)) (
    xbd (L_X11_laysOrder_35 v3 (v4 - v4 / v5 * v5) v5 p6 v7 (v4 / v5) 0 σ) fun e9 =>
    xgd (xin v7 5) (
    xlet (xup σ 151 v7.toNatClampNeg e9) fun σ11 =>
    if ((p6 - 1) - v7) ≤ 0 then
      some (.inl ((v3 &&& (((1 : Int32) <<< (e9 &&& 31)) ^^^ (-1))), (v4 - v4 / v5 * v5), 1, (v7 + 1), σ11))
    else
      xgd (!decide (((p6 - 1) - v7) = 0)) (
      some (.inl ((v3 &&& (((1 : Int32) <<< (e9 &&& 31)) ^^^ (-1))), (v4 - v4 / v5 * v5), (v5 / ((p6 - 1) - v7)), (v7 + 1), σ11))))))
def L_X11_laysOrder_22 (p6 : Int32) (v3 : Int32) (v4 : Int32) (v5 : Int32) (v7 : Int32) (σ : xM) : Option ((xM)) := xloop (fun s : Int32 × Int32 × Int32 × Int32 × xM => B_X11_laysOrder_22 p6 s.1 s.2.1 s.2.2.1 s.2.2.2.1 s.2.2.2.2) 6000 (v3, v4, v5, v7, σ)
set_option maxHeartbeats 1000000 in
set_option maxRecDepth 20000 in
theorem TB_X11_laysOrder_22 {d : Nat} {o : Option Value × xM} (p6 : Int32) (v3 : Int32) (v4 : Int32) (v5 : Int32) (v7 : Int32) (σ : xM) {q : (Int32 × Int32 × Int32 × Int32 × xM) ⊕ ((xM))} (hd : 1 ≤ d) (h : B_X11_laysOrder_22 p6 v3 v4 v5 v7 σ = some q) (hB : ∀ s', q = .inl s' → ∀ (z1 z2 z8 z9 : Value), xX xT xLn d 188 24 [.ref 141, z1, z2, .int s'.1, .int s'.2.1, .int s'.2.2.1, .int p6, .int s'.2.2.2.1, z8, z9] [] s'.2.2.2.2 o) (hE : ∀ e', q = .inr e' → ∀ (z0 z1 z2 z3 z4 z5 z6 z7 z8 z9 : Value), xX xT xLn d 188 89 [z0, z1, z2, z3, z4, z5, z6, z7, z8, z9] [] e' o) (z1 : Value) (z2 : Value) (z8 : Value) (z9 : Value) : xX xT xLn d 188 24 [.ref 141, z1, z2, .int v3, .int v4, .int v5, .int p6, .int v7, z8, z9] [] σ o := by
  unfold B_X11_laysOrder_22 at h
  refine xX_blk (w := xw_188) eT_188 3 24 (ls' := [.ref 141, .null, .null, .int v3, .int v4, .int v5, .int p6, .int v7, .null, .null]) (st' := [.int p6, .int v7]) (σ' := σ) rfl ?_
  refine xX_ite (c := p6 ≤ v7) (w := xw_188) (i := 27) (a := 89) (b := 28) (st' := []) eT_188 rfl rfl (fun hc4 => ?_) (fun hc4 => ?_)
  · rw [if_pos hc4] at h
    obtain rfl := Option.some.inj h
    exact hE σ rfl _ _ _ _ _ _ _ _ _ _
  · rw [if_neg hc4] at h
    refine xX_blk (w := xw_188) eT_188 2 28 (ls' := [.ref 141, .null, .null, .int v3, .int v4, .int v5, .int p6, .int v7, .null, .null]) (st' := [.int v5, .int v4]) (σ' := σ) rfl ?_
    obtain ⟨hi5, h⟩ := xgd_inv h
    refine xX_one (w := xw_188) (i := 30) (ls' := [.ref 141, .null, .null, .int v3, .int v4, .int v5, .int p6, .int v7, .null, .null]) (st' := [.int (v4 / v5)]) (σ' := σ) eT_188 rfl (e_idiv (xnz hi5)) ?_
    refine xX_blk (w := xw_188) eT_188 3 31 (ls' := [.ref 141, .null, .null, .int v3, .int v4, .int v5, .int p6, .int v7, .int (v4 / v5), .null]) (st' := [.int v5, .int v4]) (σ' := σ) rfl ?_
    obtain ⟨hi6, h⟩ := xgd_inv h
    refine xX_one (w := xw_188) (i := 34) (ls' := [.ref 141, .null, .null, .int v3, .int v4, .int v5, .int p6, .int v7, .int (v4 / v5), .null]) (st' := [.int (v4 - v4 / v5 * v5)]) (σ' := σ) eT_188 rfl (e_irem (xnz hi6)) ?_
    refine xX_blk (w := xw_188) eT_188 3 35 (ls' := [.ref 141, .null, .null, .int v3, .int (v4 - v4 / v5 * v5), .int v5, .int p6, .int v7, .int (v4 / v5), .int 0]) (st' := []) (σ' := σ) rfl ?_
    obtain ⟨e9, he9, h⟩ := xbd_inv h
    refine TL_X11_laysOrder_35 v3 (v4 - v4 / v5 * v5) v5 p6 v7 (v4 / v5) 0 σ (by omega) he9 (fun z1 z2 z8 => ?_) _ _
    refine xX_blk (w := xw_188) eT_188 5 57 (ls' := [.ref 141, .null, .null, .int v3, .int (v4 - v4 / v5 * v5), .int v5, .int p6, .int v7, .null, .int e9]) (st' := [.int e9, .int v7, .ref 151]) (σ' := σ) rfl ?_
    obtain ⟨hi10, h⟩ := xgd_inv h
    refine xX_one (w := xw_188) (i := 62) (ls' := [.ref 141, .null, .null, .int v3, .int (v4 - v4 / v5 * v5), .int v5, .int p6, .int v7, .null, .int e9]) (st' := []) (σ' := xup σ 151 v7.toNatClampNeg e9) eT_188 rfl (e_iast xs_151 hi10) ?_
    obtain ⟨σ11, eσ11, h⟩ := xlet_inv h
    rw [← eσ11]
    refine xX_blk (w := xw_188) eT_188 13 63 (ls' := [.ref 141, .null, .null, .int (v3 &&& (((1 : Int32) <<< (e9 &&& 31)) ^^^ (-1))), .int (v4 - v4 / v5 * v5), .int v5, .int p6, .int v7, .null, .int e9]) (st' := [.int ((p6 - 1) - v7)]) (σ' := σ11) rfl ?_
    refine xX_ite (c := ((p6 - 1) - v7) ≤ 0) (w := xw_188) (i := 76) (a := 85) (b := 77) (st' := []) eT_188 rfl rfl (fun hc12 => ?_) (fun hc12 => ?_)
    · rw [if_pos hc12] at h
      refine xX_blk (w := xw_188) eT_188 3 85 (ls' := [.ref 141, .null, .null, .int (v3 &&& (((1 : Int32) <<< (e9 &&& 31)) ^^^ (-1))), .int (v4 - v4 / v5 * v5), .int 1, .int p6, .int (v7 + 1), .null, .int e9]) (st' := []) (σ' := σ11) rfl ?_
      refine xX_jmp (w := xw_188) (i := 88) (a := 24) (st' := []) eT_188 rfl rfl ?_
      obtain rfl := Option.some.inj h
      exact hB ((v3 &&& (((1 : Int32) <<< (e9 &&& 31)) ^^^ (-1))), (v4 - v4 / v5 * v5), 1, (v7 + 1), σ11) rfl _ _ _ _
    · rw [if_neg hc12] at h
      refine xX_blk (w := xw_188) eT_188 6 77 (ls' := [.ref 141, .null, .null, .int (v3 &&& (((1 : Int32) <<< (e9 &&& 31)) ^^^ (-1))), .int (v4 - v4 / v5 * v5), .int v5, .int p6, .int v7, .null, .int e9]) (st' := [.int ((p6 - 1) - v7), .int v5]) (σ' := σ11) rfl ?_
      obtain ⟨hi13, h⟩ := xgd_inv h
      refine xX_one (w := xw_188) (i := 83) (ls' := [.ref 141, .null, .null, .int (v3 &&& (((1 : Int32) <<< (e9 &&& 31)) ^^^ (-1))), .int (v4 - v4 / v5 * v5), .int v5, .int p6, .int v7, .null, .int e9]) (st' := [.int (v5 / ((p6 - 1) - v7))]) (σ' := σ11) eT_188 rfl (e_idiv (xnz hi13)) ?_
      refine xX_jmp (w := xw_188) (i := 84) (a := 86) (st' := [.int (v5 / ((p6 - 1) - v7))]) eT_188 rfl rfl ?_
      refine xX_blk (w := xw_188) eT_188 2 86 (ls' := [.ref 141, .null, .null, .int (v3 &&& (((1 : Int32) <<< (e9 &&& 31)) ^^^ (-1))), .int (v4 - v4 / v5 * v5), .int (v5 / ((p6 - 1) - v7)), .int p6, .int (v7 + 1), .null, .int e9]) (st' := []) (σ' := σ11) rfl ?_
      refine xX_jmp (w := xw_188) (i := 88) (a := 24) (st' := []) eT_188 rfl rfl ?_
      obtain rfl := Option.some.inj h
      exact hB ((v3 &&& (((1 : Int32) <<< (e9 &&& 31)) ^^^ (-1))), (v4 - v4 / v5 * v5), (v5 / ((p6 - 1) - v7)), (v7 + 1), σ11) rfl _ _ _ _
set_option maxHeartbeats 1000000 in
set_option maxRecDepth 20000 in
theorem TL_X11_laysOrder_22 {d : Nat} {o : Option Value × xM} (p6 : Int32) (v3 : Int32) (v4 : Int32) (v5 : Int32) (v7 : Int32) (σ : xM) {e : (xM)} (hd : 1 ≤ d) (h : L_X11_laysOrder_22 p6 v3 v4 v5 v7 σ = some e) (hE : ∀ (z0 z1 z2 z3 z4 z5 z6 z7 z8 z9 : Value), xX xT xLn d 188 89 [z0, z1, z2, z3, z4, z5, z6, z7, z8, z9] [] e o) (z1 : Value) (z2 : Value) (z8 : Value) (z9 : Value) : xX xT xLn d 188 24 [.ref 141, z1, z2, .int v3, .int v4, .int v5, .int p6, .int v7, z8, z9] [] σ o :=
  xloop_snd (X := fun s => ∀ (z1 z2 z8 z9 : Value), xX xT xLn d 188 24 [.ref 141, z1, z2, .int s.1, .int s.2.1, .int s.2.2.1, .int p6, .int s.2.2.2.1, z8, z9] [] s.2.2.2.2 o) (Y := fun e' => ∀ (z0 z1 z2 z3 z4 z5 z6 z7 z8 z9 : Value), xX xT xLn d 188 89 [z0, z1, z2, z3, z4, z5, z6, z7, z8, z9] [] e' o) (fun s q hs hB hE z1 z2 z8 z9 => TB_X11_laysOrder_22 p6 s.1 s.2.1 s.2.2.1 s.2.2.2.1 s.2.2.2.2 hd hs hB hE z1 z2 z8 z9) _ _ _ h hE z1 z2 z8 z9
def F_X11_laysOrder (a : Int32) (b : Int32) (σ : xM) : Option (xM) :=
  xbd (F_X11_size a σ) fun r1 =>
  xbd (L_X11_laysOrder_11 a b r1 1 1 σ) fun e3 =>
  xbd (L_X11_laysOrder_22 r1 a b e3 0 σ) fun e14 =>
  some e14
set_option maxHeartbeats 1000000 in
set_option maxRecDepth 20000 in
theorem T_X11_laysOrder (a : Int32) (b : Int32) (σ : xM) {d : Nat} {q : xM} (hd : 1 ≤ d) (h : F_X11_laysOrder a b σ = some q) : xR xT xLn d 188 [.ref 141, .int a, .int b] σ (none, q) := by
  unfold F_X11_laysOrder at h
  show xX xT xLn d 188 0 [.ref 141, .int a, .int b, .null, .null, .null, .null, .null, .null, .null] [] σ _
  refine xX_blk (w := xw_188) eT_188 7 0 (ls' := [.ref 141, .int a, .int b, .int a, .int b, .int 1, .null, .null, .null, .null]) (st' := [.int a]) (σ' := σ) rfl ?_
  obtain ⟨r1, hr1, h⟩ := xbd_inv h
  refine xX_c1 (w := xw_188) (i := 7) (ls := [.ref 141, .int a, .int b, .int a, .int b, .int 1, .null, .null, .null, .null]) (rest := []) eT_188 rfl (by omega) rfl rfl rfl (T_X11_size a σ (by omega) hr1) ?_
  refine xX_blk (w := xw_188) eT_188 3 8 (ls' := [.ref 141, .int a, .int b, .int a, .int b, .int 1, .int r1, .int 1, .null, .null]) (st' := []) (σ' := σ) rfl ?_
  obtain ⟨e3, he3, h⟩ := xbd_inv h
  refine TL_X11_laysOrder_11 a b r1 1 1 σ (by omega) he3 (fun z1 z2 z7 z8 z9 => ?_) _ _ _ _
  refine xX_blk (w := xw_188) eT_188 3 21 (ls' := [.ref 141, .null, .null, .int a, .int b, .int e3, .int r1, .int 0, .null, .null]) (st' := []) (σ' := σ) rfl ?_
  obtain ⟨e14, he14, h⟩ := xbd_inv h
  refine TL_X11_laysOrder_22 r1 a b e3 0 σ (by omega) he14 (fun z0 z1 z2 z3 z4 z5 z6 z7 z8 z9 => ?_) _ _ _ _
  refine xX_blk (w := xw_188) eT_188 1 89 (ls' := [.null, .null, .null, .null, .null, .null, .null, .null, .null, .null]) (st' := []) (σ' := e14) rfl ?_
  obtain rfl := Option.some.inj h
  exact xX_ret (w := xw_188) (i := 90) eT_188 rfl rfl
def B_X11_mayGo_4 (p1 : Int32) (p2 : Int32) (v3 : Int32) (σ : xM) : Option ((Int32 × xM) ⊕ ((xM))) :=
  if p1 ≤ v3 then
    some (.inr σ)
  else
    xgd (xin v3 5) (
    xbd (F_X11_stateOf (σ 151 v3.toNatClampNeg) σ) fun r3 =>
    xgd (xin v3 5) (
    xlet (xup σ 152 v3.toNatClampNeg r3) fun σ5 =>
    some (.inl ((v3 + 1), σ5))))
def L_X11_mayGo_4 (p1 : Int32) (p2 : Int32) (v3 : Int32) (σ : xM) : Option ((xM)) := xloop (fun s : Int32 × xM => B_X11_mayGo_4 p1 p2 s.1 s.2) 6000 (v3, σ)
set_option maxHeartbeats 1000000 in
set_option maxRecDepth 20000 in
theorem TB_X11_mayGo_4 {d : Nat} {o : Option Value × xM} (p1 : Int32) (p2 : Int32) (v3 : Int32) (σ : xM) {q : (Int32 × xM) ⊕ ((xM))} (hd : 1 ≤ d) (h : B_X11_mayGo_4 p1 p2 v3 σ = some q) (hB : ∀ s', q = .inl s' → xX xT xLn d 189 4 [.ref 141, .int p1, .int p2, .int s'.1] [] s'.2 o) (hE : ∀ e', q = .inr e' → ∀ (z3 : Value), xX xT xLn d 189 20 [.ref 141, .int p1, .int p2, z3] [] e' o) : xX xT xLn d 189 4 [.ref 141, .int p1, .int p2, .int v3] [] σ o := by
  unfold B_X11_mayGo_4 at h
  refine xX_blk (w := xw_189) eT_189 3 4 (ls' := [.ref 141, .int p1, .int p2, .int v3]) (st' := [.int p1, .int v3]) (σ' := σ) rfl ?_
  refine xX_ite (c := p1 ≤ v3) (w := xw_189) (i := 7) (a := 20) (b := 8) (st' := []) eT_189 rfl rfl (fun hc1 => ?_) (fun hc1 => ?_)
  · rw [if_pos hc1] at h
    obtain rfl := Option.some.inj h
    exact hE σ rfl _
  · rw [if_neg hc1] at h
    refine xX_blk (w := xw_189) eT_189 7 8 (ls' := [.ref 141, .int p1, .int p2, .int v3]) (st' := [.int v3, .ref 151, .ref 141, .int v3, .ref 152]) (σ' := σ) rfl ?_
    obtain ⟨hi2, h⟩ := xgd_inv h
    refine xX_one (w := xw_189) (i := 15) (ls' := [.ref 141, .int p1, .int p2, .int v3]) (st' := [.int (σ 151 v3.toNatClampNeg), .ref 141, .int v3, .ref 152]) (σ' := σ) eT_189 rfl (e_iald xs_151 hi2) ?_
    obtain ⟨r3, hr3, h⟩ := xbd_inv h
    refine xX_c1 (w := xw_189) (i := 16) (ls := [.ref 141, .int p1, .int p2, .int v3]) (rest := [.int v3, .ref 152]) eT_189 rfl (by omega) rfl rfl rfl (T_X11_stateOf (σ 151 v3.toNatClampNeg) σ (by omega) hr3) ?_
    obtain ⟨hi4, h⟩ := xgd_inv h
    refine xX_one (w := xw_189) (i := 17) (ls' := [.ref 141, .int p1, .int p2, .int v3]) (st' := []) (σ' := xup σ 152 v3.toNatClampNeg r3) eT_189 rfl (e_iast xs_152 hi4) ?_
    obtain ⟨σ5, eσ5, h⟩ := xlet_inv h
    rw [← eσ5]
    refine xX_blk (w := xw_189) eT_189 1 18 (ls' := [.ref 141, .int p1, .int p2, .int (v3 + 1)]) (st' := []) (σ' := σ5) rfl ?_
    refine xX_jmp (w := xw_189) (i := 19) (a := 4) (st' := []) eT_189 rfl rfl ?_
    obtain rfl := Option.some.inj h
    exact hB ((v3 + 1), σ5) rfl
set_option maxHeartbeats 1000000 in
set_option maxRecDepth 20000 in
theorem TL_X11_mayGo_4 {d : Nat} {o : Option Value × xM} (p1 : Int32) (p2 : Int32) (v3 : Int32) (σ : xM) {e : (xM)} (hd : 1 ≤ d) (h : L_X11_mayGo_4 p1 p2 v3 σ = some e) (hE : ∀ (z3 : Value), xX xT xLn d 189 20 [.ref 141, .int p1, .int p2, z3] [] e o) : xX xT xLn d 189 4 [.ref 141, .int p1, .int p2, .int v3] [] σ o :=
  xloop_snd (X := fun s => xX xT xLn d 189 4 [.ref 141, .int p1, .int p2, .int s.1] [] s.2 o) (Y := fun e' => ∀ (z3 : Value), xX xT xLn d 189 20 [.ref 141, .int p1, .int p2, z3] [] e' o) (fun s q hs hB hE => TB_X11_mayGo_4 p1 p2 s.1 s.2 hd hs hB hE) _ _ _ h hE
def B_X11_mayGo_21 (p1 : Int32) (v2 : Int32) (v3 : Int32) (σ : xM) : Option ((Int32 × Int32 × xM) ⊕ ((Int32 × xM))) :=
  if p1 ≤ v3 then
    some (.inr (v2, σ))
  else
    if v2 = 0 then
      some (.inr (v2, σ))
    else
      xgd (xin v3 5) (
      xbd (F_X11_putsState (σ 151 v3.toNatClampNeg) 2 σ) fun r10 =>
      xbd (F_X11_over r10) fun r11 =>
      if r11.1 = 0 then
        some (.inl (1, (v3 + 1), r11.2))
      else
        some (.inl (0, (v3 + 1), r11.2)))
def L_X11_mayGo_21 (p1 : Int32) (v2 : Int32) (v3 : Int32) (σ : xM) : Option ((Int32 × xM)) := xloop (fun s : Int32 × Int32 × xM => B_X11_mayGo_21 p1 s.1 s.2.1 s.2.2) 6000 (v2, v3, σ)
set_option maxHeartbeats 1000000 in
set_option maxRecDepth 20000 in
theorem TB_X11_mayGo_21 {d : Nat} {o : Option Value × xM} (p1 : Int32) (v2 : Int32) (v3 : Int32) (σ : xM) {q : (Int32 × Int32 × xM) ⊕ ((Int32 × xM))} (hd : 5 ≤ d) (h : B_X11_mayGo_21 p1 v2 v3 σ = some q) (hB : ∀ s', q = .inl s' → xX xT xLn d 189 23 [.ref 141, .int p1, .int s'.1, .int s'.2.1] [] s'.2.2 o) (hE : ∀ e', q = .inr e' → ∀ (z3 : Value), xX xT xLn d 189 45 [.ref 141, .int p1, .int e'.1, z3] [] e'.2 o) : xX xT xLn d 189 23 [.ref 141, .int p1, .int v2, .int v3] [] σ o := by
  unfold B_X11_mayGo_21 at h
  refine xX_blk (w := xw_189) eT_189 3 23 (ls' := [.ref 141, .int p1, .int v2, .int v3]) (st' := [.int p1, .int v3]) (σ' := σ) rfl ?_
  refine xX_ite (c := p1 ≤ v3) (w := xw_189) (i := 26) (a := 45) (b := 27) (st' := []) eT_189 rfl rfl (fun hc7 => ?_) (fun hc7 => ?_)
  · rw [if_pos hc7] at h
    obtain rfl := Option.some.inj h
    exact hE (v2, σ) rfl _
  · rw [if_neg hc7] at h
    refine xX_blk (w := xw_189) eT_189 1 27 (ls' := [.ref 141, .int p1, .int v2, .int v3]) (st' := [.int v2]) (σ' := σ) rfl ?_
    refine xX_ite (c := v2 = 0) (w := xw_189) (i := 28) (a := 45) (b := 29) (st' := []) eT_189 rfl rfl (fun hc8 => ?_) (fun hc8 => ?_)
    · rw [if_pos hc8] at h
      obtain rfl := Option.some.inj h
      exact hE (v2, σ) rfl _
    · rw [if_neg hc8] at h
      refine xX_blk (w := xw_189) eT_189 4 29 (ls' := [.ref 141, .int p1, .int v2, .int v3]) (st' := [.int v3, .ref 151, .ref 141]) (σ' := σ) rfl ?_
      obtain ⟨hi9, h⟩ := xgd_inv h
      refine xX_one (w := xw_189) (i := 33) (ls' := [.ref 141, .int p1, .int v2, .int v3]) (st' := [.int (σ 151 v3.toNatClampNeg), .ref 141]) (σ' := σ) eT_189 rfl (e_iald xs_151 hi9) ?_
      refine xX_blk (w := xw_189) eT_189 1 34 (ls' := [.ref 141, .int p1, .int v2, .int v3]) (st' := [.int 2, .int (σ 151 v3.toNatClampNeg), .ref 141]) (σ' := σ) rfl ?_
      obtain ⟨r10, hr10, h⟩ := xbd_inv h
      refine xX_c0 (w := xw_189) (i := 35) (ls := [.ref 141, .int p1, .int v2, .int v3]) (rest := []) eT_189 rfl (by omega) rfl rfl rfl (T_X11_putsState (σ 151 v3.toNatClampNeg) 2 σ (by omega) hr10) ?_
      refine xX_blk (w := xw_189) eT_189 1 36 (ls' := [.ref 141, .int p1, .int v2, .int v3]) (st' := [.ref 141]) (σ' := r10) rfl ?_
      obtain ⟨r11, hr11, h⟩ := xbd_inv h
      refine xX_c1 (w := xw_189) (i := 37) (ls := [.ref 141, .int p1, .int v2, .int v3]) (rest := []) eT_189 rfl (by omega) rfl rfl rfl (T_X11_over r10 (by omega) hr11) ?_
      refine xX_ite (c := r11.1 = 0) (w := xw_189) (i := 38) (a := 39) (b := 41) (st' := []) eT_189 rfl rfl (fun hc12 => ?_) (fun hc12 => ?_)
      · rw [if_pos hc12] at h
        refine xX_blk (w := xw_189) eT_189 1 39 (ls' := [.ref 141, .int p1, .int v2, .int v3]) (st' := [.int 1]) (σ' := r11.2) rfl ?_
        refine xX_jmp (w := xw_189) (i := 40) (a := 42) (st' := [.int 1]) eT_189 rfl rfl ?_
        refine xX_blk (w := xw_189) eT_189 2 42 (ls' := [.ref 141, .int p1, .int 1, .int (v3 + 1)]) (st' := []) (σ' := r11.2) rfl ?_
        refine xX_jmp (w := xw_189) (i := 44) (a := 23) (st' := []) eT_189 rfl rfl ?_
        obtain rfl := Option.some.inj h
        exact hB (1, (v3 + 1), r11.2) rfl
      · rw [if_neg hc12] at h
        refine xX_blk (w := xw_189) eT_189 3 41 (ls' := [.ref 141, .int p1, .int 0, .int (v3 + 1)]) (st' := []) (σ' := r11.2) rfl ?_
        refine xX_jmp (w := xw_189) (i := 44) (a := 23) (st' := []) eT_189 rfl rfl ?_
        obtain rfl := Option.some.inj h
        exact hB (0, (v3 + 1), r11.2) rfl
set_option maxHeartbeats 1000000 in
set_option maxRecDepth 20000 in
theorem TL_X11_mayGo_21 {d : Nat} {o : Option Value × xM} (p1 : Int32) (v2 : Int32) (v3 : Int32) (σ : xM) {e : (Int32 × xM)} (hd : 5 ≤ d) (h : L_X11_mayGo_21 p1 v2 v3 σ = some e) (hE : ∀ (z3 : Value), xX xT xLn d 189 45 [.ref 141, .int p1, .int e.1, z3] [] e.2 o) : xX xT xLn d 189 23 [.ref 141, .int p1, .int v2, .int v3] [] σ o :=
  xloop_snd (X := fun s => xX xT xLn d 189 23 [.ref 141, .int p1, .int s.1, .int s.2.1] [] s.2.2 o) (Y := fun e' => ∀ (z3 : Value), xX xT xLn d 189 45 [.ref 141, .int p1, .int e'.1, z3] [] e'.2 o) (fun s q hs hB hE => TB_X11_mayGo_21 p1 s.1 s.2.1 s.2.2 hd hs hB hE) _ _ _ h hE
def B_X11_mayGo_44 (p1 : Int32) (p2 : Int32) (v3 : Int32) (σ : xM) : Option ((Int32 × xM) ⊕ ((xM))) :=
  if p1 ≤ v3 then
    some (.inr σ)
  else
    xgd (xin v3 5) (
    xgd (xin v3 5) (
    xbd (F_X11_putsState (σ 151 v3.toNatClampNeg) (σ 152 v3.toNatClampNeg) σ) fun r17 =>
    some (.inl ((v3 + 1), r17))))
def L_X11_mayGo_44 (p1 : Int32) (p2 : Int32) (v3 : Int32) (σ : xM) : Option ((xM)) := xloop (fun s : Int32 × xM => B_X11_mayGo_44 p1 p2 s.1 s.2) 6000 (v3, σ)
set_option maxHeartbeats 1000000 in
set_option maxRecDepth 20000 in
theorem TB_X11_mayGo_44 {d : Nat} {o : Option Value × xM} (p1 : Int32) (p2 : Int32) (v3 : Int32) (σ : xM) {q : (Int32 × xM) ⊕ ((xM))} (hd : 5 ≤ d) (h : B_X11_mayGo_44 p1 p2 v3 σ = some q) (hB : ∀ s', q = .inl s' → xX xT xLn d 189 48 [.ref 141, .int p1, .int p2, .int s'.1] [] s'.2 o) (hE : ∀ e', q = .inr e' → ∀ (z0 z1 z3 : Value), xX xT xLn d 189 64 [z0, z1, .int p2, z3] [] e' o) : xX xT xLn d 189 48 [.ref 141, .int p1, .int p2, .int v3] [] σ o := by
  unfold B_X11_mayGo_44 at h
  refine xX_blk (w := xw_189) eT_189 3 48 (ls' := [.ref 141, .int p1, .int p2, .int v3]) (st' := [.int p1, .int v3]) (σ' := σ) rfl ?_
  refine xX_ite (c := p1 ≤ v3) (w := xw_189) (i := 51) (a := 64) (b := 52) (st' := []) eT_189 rfl rfl (fun hc14 => ?_) (fun hc14 => ?_)
  · rw [if_pos hc14] at h
    obtain rfl := Option.some.inj h
    exact hE σ rfl _ _ _
  · rw [if_neg hc14] at h
    refine xX_blk (w := xw_189) eT_189 4 52 (ls' := [.ref 141, .int p1, .int p2, .int v3]) (st' := [.int v3, .ref 151, .ref 141]) (σ' := σ) rfl ?_
    obtain ⟨hi15, h⟩ := xgd_inv h
    refine xX_one (w := xw_189) (i := 56) (ls' := [.ref 141, .int p1, .int p2, .int v3]) (st' := [.int (σ 151 v3.toNatClampNeg), .ref 141]) (σ' := σ) eT_189 rfl (e_iald xs_151 hi15) ?_
    refine xX_blk (w := xw_189) eT_189 3 57 (ls' := [.ref 141, .int p1, .int p2, .int v3]) (st' := [.int v3, .ref 152, .int (σ 151 v3.toNatClampNeg), .ref 141]) (σ' := σ) rfl ?_
    obtain ⟨hi16, h⟩ := xgd_inv h
    refine xX_one (w := xw_189) (i := 60) (ls' := [.ref 141, .int p1, .int p2, .int v3]) (st' := [.int (σ 152 v3.toNatClampNeg), .int (σ 151 v3.toNatClampNeg), .ref 141]) (σ' := σ) eT_189 rfl (e_iald xs_152 hi16) ?_
    obtain ⟨r17, hr17, h⟩ := xbd_inv h
    refine xX_c0 (w := xw_189) (i := 61) (ls := [.ref 141, .int p1, .int p2, .int v3]) (rest := []) eT_189 rfl (by omega) rfl rfl rfl (T_X11_putsState (σ 151 v3.toNatClampNeg) (σ 152 v3.toNatClampNeg) σ (by omega) hr17) ?_
    refine xX_blk (w := xw_189) eT_189 1 62 (ls' := [.ref 141, .int p1, .int p2, .int (v3 + 1)]) (st' := []) (σ' := r17) rfl ?_
    refine xX_jmp (w := xw_189) (i := 63) (a := 48) (st' := []) eT_189 rfl rfl ?_
    obtain rfl := Option.some.inj h
    exact hB ((v3 + 1), r17) rfl
set_option maxHeartbeats 1000000 in
set_option maxRecDepth 20000 in
theorem TL_X11_mayGo_44 {d : Nat} {o : Option Value × xM} (p1 : Int32) (p2 : Int32) (v3 : Int32) (σ : xM) {e : (xM)} (hd : 5 ≤ d) (h : L_X11_mayGo_44 p1 p2 v3 σ = some e) (hE : ∀ (z0 z1 z3 : Value), xX xT xLn d 189 64 [z0, z1, .int p2, z3] [] e o) : xX xT xLn d 189 48 [.ref 141, .int p1, .int p2, .int v3] [] σ o :=
  xloop_snd (X := fun s => xX xT xLn d 189 48 [.ref 141, .int p1, .int p2, .int s.1] [] s.2 o) (Y := fun e' => ∀ (z0 z1 z3 : Value), xX xT xLn d 189 64 [z0, z1, .int p2, z3] [] e' o) (fun s q hs hB hE => TB_X11_mayGo_44 p1 p2 s.1 s.2 hd hs hB hE) _ _ _ h hE
def F_X11_mayGo (a : Int32) (σ : xM) : Option (Int32 × xM) :=
  xbd (L_X11_mayGo_4 a 1 0 σ) fun e6 =>
  xbd (L_X11_mayGo_21 a 1 0 e6) fun e13 =>
  xbd (L_X11_mayGo_44 a e13.1 0 e13.2) fun e18 =>
  xgd (xzok true e13.1) (some (e13.1, e18))
set_option maxHeartbeats 1000000 in
set_option maxRecDepth 20000 in
theorem T_X11_mayGo (a : Int32) (σ : xM) {d : Nat} {q : Int32 × xM} (hd : 5 ≤ d) (h : F_X11_mayGo a σ = some q) : xR xT xLn d 189 [.ref 141, .int a] σ (some (.int q.1), q.2) := by
  unfold F_X11_mayGo at h
  show xX xT xLn d 189 0 [.ref 141, .int a, .null, .null] [] σ _
  refine xX_blk (w := xw_189) eT_189 4 0 (ls' := [.ref 141, .int a, .int 1, .int 0]) (st' := []) (σ' := σ) rfl ?_
  obtain ⟨e6, he6, h⟩ := xbd_inv h
  refine TL_X11_mayGo_4 a 1 0 σ (by omega) he6 (fun z3 => ?_)
  refine xX_blk (w := xw_189) eT_189 3 20 (ls' := [.ref 141, .int a, .int 1, .int 0]) (st' := []) (σ' := e6) rfl ?_
  obtain ⟨e13, he13, h⟩ := xbd_inv h
  refine TL_X11_mayGo_21 a 1 0 e6 (by omega) he13 (fun z3 => ?_)
  refine xX_blk (w := xw_189) eT_189 3 45 (ls' := [.ref 141, .int a, .int e13.1, .int 0]) (st' := []) (σ' := e13.2) rfl ?_
  obtain ⟨e18, he18, h⟩ := xbd_inv h
  refine TL_X11_mayGo_44 a e13.1 0 e13.2 (by omega) he18 (fun z0 z1 z3 => ?_)
  refine xX_blk (w := xw_189) eT_189 2 64 (ls' := [.null, .null, .int e13.1, .null]) (st' := [.int e13.1]) (σ' := e18) rfl ?_
  obtain ⟨hi19, h⟩ := xgd_inv h
  obtain rfl := Option.some.inj h
  exact xX_ret (w := xw_189) (i := 66) eT_189 rfl (e_ret2 hi19)
def B_X11_orderNow_7 (p1 : Int32) (p2 : Int32) (p3 : Int32) (v4 : Int32) (v5 : Int32) (σ : xM) : Option ((Int32 × Int32) ⊕ ((Int32))) :=
  if p3 < v5 then
    some (.inr v4)
  else
    some (.inl ((v4 * v5), (v5 + 1)))
def L_X11_orderNow_7 (p1 : Int32) (p2 : Int32) (p3 : Int32) (v4 : Int32) (v5 : Int32) (σ : xM) : Option ((Int32)) := xloop (fun s : Int32 × Int32 => B_X11_orderNow_7 p1 p2 p3 s.1 s.2 σ) 6000 (v4, v5)
set_option maxHeartbeats 1000000 in
set_option maxRecDepth 20000 in
theorem TB_X11_orderNow_7 {d : Nat} {o : Option Value × xM} (p1 : Int32) (p2 : Int32) (p3 : Int32) (v4 : Int32) (v5 : Int32) (σ : xM) {q : (Int32 × Int32) ⊕ ((Int32))} (hd : 1 ≤ d) (h : B_X11_orderNow_7 p1 p2 p3 v4 v5 σ = some q) (hB : ∀ s', q = .inl s' → xX xT xLn d 190 7 [.ref 141, .int p1, .int p2, .int p3, .int s'.1, .int s'.2] [] σ o) (hE : ∀ e', q = .inr e' → ∀ (z5 : Value), xX xT xLn d 190 17 [.ref 141, .int p1, .int p2, .int p3, .int e', z5] [] σ o) : xX xT xLn d 190 7 [.ref 141, .int p1, .int p2, .int p3, .int v4, .int v5] [] σ o := by
  unfold B_X11_orderNow_7 at h
  refine xX_blk (w := xw_190) eT_190 3 7 (ls' := [.ref 141, .int p1, .int p2, .int p3, .int v4, .int v5]) (st' := [.int p3, .int v5]) (σ' := σ) rfl ?_
  refine xX_ite (c := p3 < v5) (w := xw_190) (i := 10) (a := 17) (b := 11) (st' := []) eT_190 rfl rfl (fun hc2 => ?_) (fun hc2 => ?_)
  · rw [if_pos hc2] at h
    obtain rfl := Option.some.inj h
    exact hE v4 rfl _
  · rw [if_neg hc2] at h
    refine xX_blk (w := xw_190) eT_190 5 11 (ls' := [.ref 141, .int p1, .int p2, .int p3, .int (v4 * v5), .int (v5 + 1)]) (st' := []) (σ' := σ) rfl ?_
    refine xX_jmp (w := xw_190) (i := 16) (a := 7) (st' := []) eT_190 rfl rfl ?_
    obtain rfl := Option.some.inj h
    exact hB ((v4 * v5), (v5 + 1)) rfl
set_option maxHeartbeats 1000000 in
set_option maxRecDepth 20000 in
theorem TL_X11_orderNow_7 {d : Nat} {o : Option Value × xM} (p1 : Int32) (p2 : Int32) (p3 : Int32) (v4 : Int32) (v5 : Int32) (σ : xM) {e : (Int32)} (hd : 1 ≤ d) (h : L_X11_orderNow_7 p1 p2 p3 v4 v5 σ = some e) (hE : ∀ (z5 : Value), xX xT xLn d 190 17 [.ref 141, .int p1, .int p2, .int p3, .int e, z5] [] σ o) : xX xT xLn d 190 7 [.ref 141, .int p1, .int p2, .int p3, .int v4, .int v5] [] σ o :=
  xloop_snd (X := fun s => xX xT xLn d 190 7 [.ref 141, .int p1, .int p2, .int p3, .int s.1, .int s.2] [] σ o) (Y := fun e' => ∀ (z5 : Value), xX xT xLn d 190 17 [.ref 141, .int p1, .int p2, .int p3, .int e', z5] [] σ o) (fun s q hs hB hE => TB_X11_orderNow_7 p1 p2 p3 s.1 s.2 σ hd hs hB hE) _ _ _ h hE
def B_X11_orderNow_20 (p1 : Int32) (p2 : Int32) (p3 : Int32) (p4 : Int32) (v5 : Int32) (σ : xM) : Option ((Int32 × xM) ⊕ ((xM) ⊕ (xM))) :=
  if p4 ≤ v5 then
    some (.inr (.inr σ))
  else
    xbd (F_X11_laysOrder p1 v5 σ) fun r6 =>
    xbd (F_X11_mayGo p3 r6) fun r7 =>
    if r7.1 = 0 then
      some (.inl ((v5 + 1), r7.2))
    else
      some (.inr (.inl r7.2))
def L_X11_orderNow_20 (p1 : Int32) (p2 : Int32) (p3 : Int32) (p4 : Int32) (v5 : Int32) (σ : xM) : Option ((xM) ⊕ (xM)) := xloop (fun s : Int32 × xM => B_X11_orderNow_20 p1 p2 p3 p4 s.1 s.2) 6000 (v5, σ)
set_option maxHeartbeats 1000000 in
set_option maxRecDepth 20000 in
theorem TB_X11_orderNow_20 {d : Nat} {o : Option Value × xM} (p1 : Int32) (p2 : Int32) (p3 : Int32) (p4 : Int32) (v5 : Int32) (σ : xM) {q : (Int32 × xM) ⊕ ((xM) ⊕ (xM))} (hd : 6 ≤ d) (h : B_X11_orderNow_20 p1 p2 p3 p4 v5 σ = some q) (hB : ∀ s', q = .inl s' → xX xT xLn d 190 22 [.ref 141, .int p1, .int p2, .int p3, .int p4, .int s'.1] [] s'.2 o) (hE : ∀ e', q = .inr e' → (∀ a, e' = .inl a → ∀ (z1 z4 z5 : Value), xX xT xLn d 190 34 [.ref 141, z1, .int p2, .int p3, z4, z5] [] a o) ∧ (∀ a, e' = .inr (a) → ∀ (z0 z1 z2 z3 z4 z5 : Value), xX xT xLn d 190 47 [z0, z1, z2, z3, z4, z5] [] a o)) : xX xT xLn d 190 22 [.ref 141, .int p1, .int p2, .int p3, .int p4, .int v5] [] σ o := by
  unfold B_X11_orderNow_20 at h
  refine xX_blk (w := xw_190) eT_190 3 22 (ls' := [.ref 141, .int p1, .int p2, .int p3, .int p4, .int v5]) (st' := [.int p4, .int v5]) (σ' := σ) rfl ?_
  refine xX_ite (c := p4 ≤ v5) (w := xw_190) (i := 25) (a := 47) (b := 26) (st' := []) eT_190 rfl rfl (fun hc5 => ?_) (fun hc5 => ?_)
  · rw [if_pos hc5] at h
    obtain rfl := Option.some.inj h
    exact (hE (.inr σ) rfl).2 σ rfl _ _ _ _ _ _
  · rw [if_neg hc5] at h
    refine xX_blk (w := xw_190) eT_190 3 26 (ls' := [.ref 141, .int p1, .int p2, .int p3, .int p4, .int v5]) (st' := [.int v5, .int p1, .ref 141]) (σ' := σ) rfl ?_
    obtain ⟨r6, hr6, h⟩ := xbd_inv h
    refine xX_c0 (w := xw_190) (i := 29) (ls := [.ref 141, .int p1, .int p2, .int p3, .int p4, .int v5]) (rest := []) eT_190 rfl (by omega) rfl rfl rfl (T_X11_laysOrder p1 v5 σ (by omega) hr6) ?_
    refine xX_blk (w := xw_190) eT_190 2 30 (ls' := [.ref 141, .int p1, .int p2, .int p3, .int p4, .int v5]) (st' := [.int p3, .ref 141]) (σ' := r6) rfl ?_
    obtain ⟨r7, hr7, h⟩ := xbd_inv h
    refine xX_c1 (w := xw_190) (i := 32) (ls := [.ref 141, .int p1, .int p2, .int p3, .int p4, .int v5]) (rest := []) eT_190 rfl (by omega) rfl rfl rfl (T_X11_mayGo p3 r6 (by omega) hr7) ?_
    refine xX_ite (c := r7.1 = 0) (w := xw_190) (i := 33) (a := 45) (b := 34) (st' := []) eT_190 rfl rfl (fun hc8 => ?_) (fun hc8 => ?_)
    · rw [if_pos hc8] at h
      refine xX_blk (w := xw_190) eT_190 1 45 (ls' := [.ref 141, .int p1, .int p2, .int p3, .int p4, .int (v5 + 1)]) (st' := []) (σ' := r7.2) rfl ?_
      refine xX_jmp (w := xw_190) (i := 46) (a := 22) (st' := []) eT_190 rfl rfl ?_
      obtain rfl := Option.some.inj h
      exact hB ((v5 + 1), r7.2) rfl
    · rw [if_neg hc8] at h
      obtain rfl := Option.some.inj h
      exact (hE (.inl r7.2) rfl).1 r7.2 rfl _ _ _
set_option maxHeartbeats 1000000 in
set_option maxRecDepth 20000 in
theorem TL_X11_orderNow_20 {d : Nat} {o : Option Value × xM} (p1 : Int32) (p2 : Int32) (p3 : Int32) (p4 : Int32) (v5 : Int32) (σ : xM) {e : (xM) ⊕ (xM)} (hd : 6 ≤ d) (h : L_X11_orderNow_20 p1 p2 p3 p4 v5 σ = some e) (hE0 : ∀ a, e = .inl a → ∀ (z1 z4 z5 : Value), xX xT xLn d 190 34 [.ref 141, z1, .int p2, .int p3, z4, z5] [] a o) (hE1 : ∀ a, e = .inr (a) → ∀ (z0 z1 z2 z3 z4 z5 : Value), xX xT xLn d 190 47 [z0, z1, z2, z3, z4, z5] [] a o) : xX xT xLn d 190 22 [.ref 141, .int p1, .int p2, .int p3, .int p4, .int v5] [] σ o :=
  xloop_snd (X := fun s => xX xT xLn d 190 22 [.ref 141, .int p1, .int p2, .int p3, .int p4, .int s.1] [] s.2 o) (Y := fun e' => (∀ a, e' = .inl a → ∀ (z1 z4 z5 : Value), xX xT xLn d 190 34 [.ref 141, z1, .int p2, .int p3, z4, z5] [] a o) ∧ (∀ a, e' = .inr (a) → ∀ (z0 z1 z2 z3 z4 z5 : Value), xX xT xLn d 190 47 [z0, z1, z2, z3, z4, z5] [] a o)) (fun s q hs hB hE => TB_X11_orderNow_20 p1 p2 p3 p4 s.1 s.2 hd hs hB hE) _ _ _ h ⟨hE0, hE1⟩
def F_X11_orderNow (a : Int32) (b : Int32) (σ : xM) : Option (Int32 × xM) :=
  xbd (F_X11_size a σ) fun r1 =>
  xbd (L_X11_orderNow_7 a b r1 1 2 σ) fun e3 =>
  xbd (F_X11_laysWays σ) fun r4 =>
  xbd (L_X11_orderNow_20 a b r1 e3 0 r4) fun e9 =>
  xsm e9 (fun ae90 =>
    if r1 ≤ b then
      some ((-1), ae90)
    else
      xgd (xin b 5) (
      some ((ae90 151 b.toNatClampNeg), ae90)))
  (fun ae91 =>
    some ((-1), ae91))
set_option maxHeartbeats 1000000 in
set_option maxRecDepth 20000 in
theorem T_X11_orderNow (a : Int32) (b : Int32) (σ : xM) {d : Nat} {q : Int32 × xM} (hd : 6 ≤ d) (h : F_X11_orderNow a b σ = some q) : xR xT xLn d 190 [.ref 141, .int a, .int b] σ (some (.int q.1), q.2) := by
  unfold F_X11_orderNow at h
  show xX xT xLn d 190 0 [.ref 141, .int a, .int b, .null, .null, .null] [] σ _
  refine xX_blk (w := xw_190) eT_190 1 0 (ls' := [.ref 141, .int a, .int b, .null, .null, .null]) (st' := [.int a]) (σ' := σ) rfl ?_
  obtain ⟨r1, hr1, h⟩ := xbd_inv h
  refine xX_c1 (w := xw_190) (i := 1) (ls := [.ref 141, .int a, .int b, .null, .null, .null]) (rest := []) eT_190 rfl (by omega) rfl rfl rfl (T_X11_size a σ (by omega) hr1) ?_
  refine xX_blk (w := xw_190) eT_190 5 2 (ls' := [.ref 141, .int a, .int b, .int r1, .int 1, .int 2]) (st' := []) (σ' := σ) rfl ?_
  obtain ⟨e3, he3, h⟩ := xbd_inv h
  refine TL_X11_orderNow_7 a b r1 1 2 σ (by omega) he3 (fun z5 => ?_)
  refine xX_blk (w := xw_190) eT_190 2 17 (ls' := [.ref 141, .int a, .int b, .int r1, .int e3, .null]) (st' := [.ref 141]) (σ' := σ) rfl ?_
  obtain ⟨r4, hr4, h⟩ := xbd_inv h
  refine xX_c0 (w := xw_190) (i := 19) (ls := [.ref 141, .int a, .int b, .int r1, .int e3, .null]) (rest := []) eT_190 rfl (by omega) rfl rfl rfl (T_X11_laysWays σ (by omega) hr4) ?_
  refine xX_blk (w := xw_190) eT_190 2 20 (ls' := [.ref 141, .int a, .int b, .int r1, .int e3, .int 0]) (st' := []) (σ' := r4) rfl ?_
  obtain ⟨e9, he9, h⟩ := xbd_inv h
  refine TL_X11_orderNow_20 a b r1 e3 0 r4 (by omega) he9 (fun ae90 hee90 z1 z4 z5 => ?_) (fun ae91 hee91 z0 z1 z2 z3 z4 z5 => ?_)
  · subst hee90
    rw [xsm_l] at h
    refine xX_blk (w := xw_190) eT_190 3 34 (ls' := [.ref 141, .null, .int b, .int r1, .null, .null]) (st' := [.int r1, .int b]) (σ' := ae90) rfl ?_
    refine xX_ite (c := r1 ≤ b) (w := xw_190) (i := 37) (a := 43) (b := 38) (st' := []) eT_190 rfl rfl (fun hc10 => ?_) (fun hc10 => ?_)
    · rw [if_pos hc10] at h
      refine xX_blk (w := xw_190) eT_190 1 43 (ls' := [.ref 141, .null, .int b, .int r1, .null, .null]) (st' := [.int (-1)]) (σ' := ae90) rfl ?_
      obtain rfl := Option.some.inj h
      exact xX_ret (w := xw_190) (i := 44) eT_190 rfl rfl
    · rw [if_neg hc10] at h
      refine xX_blk (w := xw_190) eT_190 3 38 (ls' := [.ref 141, .null, .int b, .int r1, .null, .null]) (st' := [.int b, .ref 151]) (σ' := ae90) rfl ?_
      obtain ⟨hi11, h⟩ := xgd_inv h
      refine xX_one (w := xw_190) (i := 41) (ls' := [.ref 141, .null, .int b, .int r1, .null, .null]) (st' := [.int (ae90 151 b.toNatClampNeg)]) (σ' := ae90) eT_190 rfl (e_iald xs_151 hi11) ?_
      refine xX_jmp (w := xw_190) (i := 42) (a := 44) (st' := [.int (ae90 151 b.toNatClampNeg)]) eT_190 rfl rfl ?_
      obtain rfl := Option.some.inj h
      exact xX_ret (w := xw_190) (i := 44) eT_190 rfl rfl
  · subst hee91
    rw [xsm_r] at h
    refine xX_blk (w := xw_190) eT_190 2 47 (ls' := [.null, .null, .null, .null, .null, .null]) (st' := [.int (-1)]) (σ' := ae91) rfl ?_
    obtain rfl := Option.some.inj h
    exact xX_ret (w := xw_190) (i := 49) eT_190 rfl rfl
def F_X11_order (a : Int32) (b : Int32) (σ : xM) : Option (Int32 × xM) :=
  xbd (F_X11_in ((a : Int32).toInt64) 1 (((((1 : Int32) <<< ((σ 142 1) &&& 31)) - 1) : Int32).toInt64) σ) fun r1 =>
  if r1 = 0 then
    xbd (F_X11_refuses (-2) σ) fun r3 =>
    some (r3.1, r3.2)
  else
    if 0 ≤ b then
      xbd (F_X11_areOn a σ) fun r5 =>
      if r5 = 0 then
        xbd (F_X11_refuses (-3) σ) fun r7 =>
        some (r7.1, r7.2)
      else
        xbd (F_X11_orderNow a b σ) fun r8 =>
        some (r8.1, r8.2)
    else
      xbd (F_X11_refuses (-2) σ) fun r9 =>
      some (r9.1, r9.2)
set_option maxHeartbeats 1000000 in
set_option maxRecDepth 20000 in
theorem T_X11_order (a : Int32) (b : Int32) (σ : xM) {d : Nat} {q : Int32 × xM} (hd : 7 ≤ d) (h : F_X11_order a b σ = some q) : xR xT xLn d 192 [.ref 141, .int a, .int b] σ (some (.int q.1), q.2) := by
  unfold F_X11_order at h
  show xX xT xLn d 192 0 [.ref 141, .int a, .int b] [] σ _
  refine xX_blk (w := xw_192) eT_192 7 0 (ls' := [.ref 141, .int a, .int b]) (st' := [.int 1, .ref 142, .int 1, .long 1, .long ((a : Int32).toInt64)]) (σ' := σ) rfl ?_
  refine xX_one (w := xw_192) (i := 7) (ls' := [.ref 141, .int a, .int b]) (st' := [.int (σ 142 1), .int 1, .long 1, .long ((a : Int32).toInt64)]) (σ' := σ) eT_192 rfl (e_ialK xs_142 (by decide) (by decide)) ?_
  refine xX_blk (w := xw_192) eT_192 4 8 (ls' := [.ref 141, .int a, .int b]) (st' := [.long (((((1 : Int32) <<< ((σ 142 1) &&& 31)) - 1) : Int32).toInt64), .long 1, .long ((a : Int32).toInt64)]) (σ' := σ) rfl ?_
  obtain ⟨r1, hr1, h⟩ := xbd_inv h
  refine xX_c1 (w := xw_192) (i := 12) (ls := [.ref 141, .int a, .int b]) (rest := []) eT_192 rfl (by omega) rfl rfl rfl (T_X11_in ((a : Int32).toInt64) 1 (((((1 : Int32) <<< ((σ 142 1) &&& 31)) - 1) : Int32).toInt64) σ (by omega) hr1) ?_
  refine xX_ite (c := r1 = 0) (w := xw_192) (i := 13) (a := 16) (b := 14) (st' := []) eT_192 rfl rfl (fun hc2 => ?_) (fun hc2 => ?_)
  · rw [if_pos hc2] at h
    refine xX_blk (w := xw_192) eT_192 2 16 (ls' := [.ref 141, .int a, .int b]) (st' := [.int (-2), .ref 141]) (σ' := σ) rfl ?_
    obtain ⟨r3, hr3, h⟩ := xbd_inv h
    refine xX_c1 (w := xw_192) (i := 18) (ls := [.ref 141, .int a, .int b]) (rest := []) eT_192 rfl (by omega) rfl rfl rfl (T_X11_refuses (-2) σ (by omega) hr3) ?_
    obtain rfl := Option.some.inj h
    exact xX_ret (w := xw_192) (i := 19) eT_192 rfl rfl
  · rw [if_neg hc2] at h
    refine xX_blk (w := xw_192) eT_192 1 14 (ls' := [.ref 141, .int a, .int b]) (st' := [.int b]) (σ' := σ) rfl ?_
    refine xX_ite (c := 0 ≤ b) (w := xw_192) (i := 15) (a := 20) (b := 16) (st' := []) eT_192 rfl rfl (fun hc4 => ?_) (fun hc4 => ?_)
    · rw [if_pos hc4] at h
      refine xX_blk (w := xw_192) eT_192 2 20 (ls' := [.ref 141, .int a, .int b]) (st' := [.int a, .ref 141]) (σ' := σ) rfl ?_
      obtain ⟨r5, hr5, h⟩ := xbd_inv h
      refine xX_c1 (w := xw_192) (i := 22) (ls := [.ref 141, .int a, .int b]) (rest := []) eT_192 rfl (by omega) rfl rfl rfl (T_X11_areOn a σ (by omega) hr5) ?_
      refine xX_ite (c := r5 = 0) (w := xw_192) (i := 23) (a := 29) (b := 24) (st' := []) eT_192 rfl rfl (fun hc6 => ?_) (fun hc6 => ?_)
      · rw [if_pos hc6] at h
        refine xX_blk (w := xw_192) eT_192 2 29 (ls' := [.ref 141, .int a, .int b]) (st' := [.int (-3), .ref 141]) (σ' := σ) rfl ?_
        obtain ⟨r7, hr7, h⟩ := xbd_inv h
        refine xX_c1 (w := xw_192) (i := 31) (ls := [.ref 141, .int a, .int b]) (rest := []) eT_192 rfl (by omega) rfl rfl rfl (T_X11_refuses (-3) σ (by omega) hr7) ?_
        obtain rfl := Option.some.inj h
        exact xX_ret (w := xw_192) (i := 32) eT_192 rfl rfl
      · rw [if_neg hc6] at h
        refine xX_blk (w := xw_192) eT_192 3 24 (ls' := [.ref 141, .int a, .int b]) (st' := [.int b, .int a, .ref 141]) (σ' := σ) rfl ?_
        obtain ⟨r8, hr8, h⟩ := xbd_inv h
        refine xX_c1 (w := xw_192) (i := 27) (ls := [.ref 141, .int a, .int b]) (rest := []) eT_192 rfl (by omega) rfl rfl rfl (T_X11_orderNow a b σ (by omega) hr8) ?_
        refine xX_jmp (w := xw_192) (i := 28) (a := 32) (st' := [.int r8.1]) eT_192 rfl rfl ?_
        obtain rfl := Option.some.inj h
        exact xX_ret (w := xw_192) (i := 32) eT_192 rfl rfl
    · rw [if_neg hc4] at h
      refine xX_blk (w := xw_192) eT_192 2 16 (ls' := [.ref 141, .int a, .int b]) (st' := [.int (-2), .ref 141]) (σ' := σ) rfl ?_
      obtain ⟨r9, hr9, h⟩ := xbd_inv h
      refine xX_c1 (w := xw_192) (i := 18) (ls := [.ref 141, .int a, .int b]) (rest := []) eT_192 rfl (by omega) rfl rfl rfl (T_X11_refuses (-2) σ (by omega) hr9) ?_
      obtain rfl := Option.some.inj h
      exact xX_ret (w := xw_192) (i := 19) eT_192 rfl rfl
def B_X11_excess_4 (p1 : Int32) (p2 : Int32) (v3 : Int32) (σ : xM) : Option ((Int32 × xM) ⊕ ((xM))) :=
  if (σ 142 1) ≤ v3 then
    some (.inr σ)
  else
    xbd (F_X11_stateOf v3 σ) fun r2 =>
    xgd (xin v3 5) (
    xlet (xup σ 152 v3.toNatClampNeg r2) fun σ4 =>
    if ((p1 >>> (v3 &&& 31)) &&& 1) = 1 then
      xbd (F_X11_putsState v3 2 σ4) fun r6 =>
      some (.inl ((v3 + 1), r6))
    else
      xbd (F_X11_stateOf v3 σ4) fun r7 =>
      xbd (F_X11_putsState v3 r7 σ4) fun r8 =>
      some (.inl ((v3 + 1), r8)))
def L_X11_excess_4 (p1 : Int32) (p2 : Int32) (v3 : Int32) (σ : xM) : Option ((xM)) := xloop (fun s : Int32 × xM => B_X11_excess_4 p1 p2 s.1 s.2) 6000 (v3, σ)
set_option maxHeartbeats 1000000 in
set_option maxRecDepth 20000 in
theorem TB_X11_excess_4 {d : Nat} {o : Option Value × xM} (p1 : Int32) (p2 : Int32) (v3 : Int32) (σ : xM) {q : (Int32 × xM) ⊕ ((xM))} (hd : 1 ≤ d) (h : B_X11_excess_4 p1 p2 v3 σ = some q) (hB : ∀ s', q = .inl s' → xX xT xLn d 193 4 [.ref 141, .int p1, .int p2, .int s'.1] [] s'.2 o) (hE : ∀ e', q = .inr e' → ∀ (z1 z3 : Value), xX xT xLn d 193 35 [.ref 141, z1, .int p2, z3] [] e' o) : xX xT xLn d 193 4 [.ref 141, .int p1, .int p2, .int v3] [] σ o := by
  unfold B_X11_excess_4 at h
  refine xX_blk (w := xw_193) eT_193 5 4 (ls' := [.ref 141, .int p1, .int p2, .int v3]) (st' := [.int 1, .ref 142, .int v3]) (σ' := σ) rfl ?_
  refine xX_one (w := xw_193) (i := 9) (ls' := [.ref 141, .int p1, .int p2, .int v3]) (st' := [.int (σ 142 1), .int v3]) (σ' := σ) eT_193 rfl (e_ialK xs_142 (by decide) (by decide)) ?_
  refine xX_ite (c := (σ 142 1) ≤ v3) (w := xw_193) (i := 10) (a := 35) (b := 11) (st' := []) eT_193 rfl rfl (fun hc1 => ?_) (fun hc1 => ?_)
  · rw [if_pos hc1] at h
    obtain rfl := Option.some.inj h
    exact hE σ rfl _ _
  · rw [if_neg hc1] at h
    refine xX_blk (w := xw_193) eT_193 5 11 (ls' := [.ref 141, .int p1, .int p2, .int v3]) (st' := [.int v3, .ref 141, .int v3, .ref 152]) (σ' := σ) rfl ?_
    obtain ⟨r2, hr2, h⟩ := xbd_inv h
    refine xX_c1 (w := xw_193) (i := 16) (ls := [.ref 141, .int p1, .int p2, .int v3]) (rest := [.int v3, .ref 152]) eT_193 rfl (by omega) rfl rfl rfl (T_X11_stateOf v3 σ (by omega) hr2) ?_
    obtain ⟨hi3, h⟩ := xgd_inv h
    refine xX_one (w := xw_193) (i := 17) (ls' := [.ref 141, .int p1, .int p2, .int v3]) (st' := []) (σ' := xup σ 152 v3.toNatClampNeg r2) eT_193 rfl (e_iast xs_152 hi3) ?_
    obtain ⟨σ4, eσ4, h⟩ := xlet_inv h
    rw [← eσ4]
    refine xX_blk (w := xw_193) eT_193 8 18 (ls' := [.ref 141, .int p1, .int p2, .int v3]) (st' := [.int 1, .int ((p1 >>> (v3 &&& 31)) &&& 1), .int v3, .ref 141]) (σ' := σ4) rfl ?_
    refine xX_ite (c := ((p1 >>> (v3 &&& 31)) &&& 1) = 1) (w := xw_193) (i := 26) (a := 27) (b := 29) (st' := [.int v3, .ref 141]) eT_193 rfl rfl (fun hc5 => ?_) (fun hc5 => ?_)
    · rw [if_pos hc5] at h
      refine xX_blk (w := xw_193) eT_193 1 27 (ls' := [.ref 141, .int p1, .int p2, .int v3]) (st' := [.int 2, .int v3, .ref 141]) (σ' := σ4) rfl ?_
      refine xX_jmp (w := xw_193) (i := 28) (a := 32) (st' := [.int 2, .int v3, .ref 141]) eT_193 rfl rfl ?_
      obtain ⟨r6, hr6, h⟩ := xbd_inv h
      refine xX_c0 (w := xw_193) (i := 32) (ls := [.ref 141, .int p1, .int p2, .int v3]) (rest := []) eT_193 rfl (by omega) rfl rfl rfl (T_X11_putsState v3 2 σ4 (by omega) hr6) ?_
      refine xX_blk (w := xw_193) eT_193 1 33 (ls' := [.ref 141, .int p1, .int p2, .int (v3 + 1)]) (st' := []) (σ' := r6) rfl ?_
      refine xX_jmp (w := xw_193) (i := 34) (a := 4) (st' := []) eT_193 rfl rfl ?_
      obtain rfl := Option.some.inj h
      exact hB ((v3 + 1), r6) rfl
    · rw [if_neg hc5] at h
      refine xX_blk (w := xw_193) eT_193 2 29 (ls' := [.ref 141, .int p1, .int p2, .int v3]) (st' := [.int v3, .ref 141, .int v3, .ref 141]) (σ' := σ4) rfl ?_
      obtain ⟨r7, hr7, h⟩ := xbd_inv h
      refine xX_c1 (w := xw_193) (i := 31) (ls := [.ref 141, .int p1, .int p2, .int v3]) (rest := [.int v3, .ref 141]) eT_193 rfl (by omega) rfl rfl rfl (T_X11_stateOf v3 σ4 (by omega) hr7) ?_
      obtain ⟨r8, hr8, h⟩ := xbd_inv h
      refine xX_c0 (w := xw_193) (i := 32) (ls := [.ref 141, .int p1, .int p2, .int v3]) (rest := []) eT_193 rfl (by omega) rfl rfl rfl (T_X11_putsState v3 r7 σ4 (by omega) hr8) ?_
      refine xX_blk (w := xw_193) eT_193 1 33 (ls' := [.ref 141, .int p1, .int p2, .int (v3 + 1)]) (st' := []) (σ' := r8) rfl ?_
      refine xX_jmp (w := xw_193) (i := 34) (a := 4) (st' := []) eT_193 rfl rfl ?_
      obtain rfl := Option.some.inj h
      exact hB ((v3 + 1), r8) rfl
set_option maxHeartbeats 1000000 in
set_option maxRecDepth 20000 in
theorem TL_X11_excess_4 {d : Nat} {o : Option Value × xM} (p1 : Int32) (p2 : Int32) (v3 : Int32) (σ : xM) {e : (xM)} (hd : 1 ≤ d) (h : L_X11_excess_4 p1 p2 v3 σ = some e) (hE : ∀ (z1 z3 : Value), xX xT xLn d 193 35 [.ref 141, z1, .int p2, z3] [] e o) : xX xT xLn d 193 4 [.ref 141, .int p1, .int p2, .int v3] [] σ o :=
  xloop_snd (X := fun s => xX xT xLn d 193 4 [.ref 141, .int p1, .int p2, .int s.1] [] s.2 o) (Y := fun e' => ∀ (z1 z3 : Value), xX xT xLn d 193 35 [.ref 141, z1, .int p2, z3] [] e' o) (fun s q hs hB hE => TB_X11_excess_4 p1 p2 s.1 s.2 hd hs hB hE) _ _ _ h hE
def B_X11_excess_38 (v2 : Int32) (v3 : Int32) (σ : xM) : Option ((Int32 × Int32) ⊕ ((Int32))) :=
  if (σ 142 1) ≤ v3 then
    some (.inr v2)
  else
    xbd (F_X11_isOver v3 σ) fun r12 =>
    if r12 = 0 then
      some (.inl ((v2 + 0), (v3 + 1)))
    else
      xbd (F_X11_load v3 σ) fun r14 =>
      xbd (F_X11_ofSite v3 1 σ) fun r15 =>
      some (.inl ((v2 + (r14 - r15)), (v3 + 1)))
def L_X11_excess_38 (v2 : Int32) (v3 : Int32) (σ : xM) : Option ((Int32)) := xloop (fun s : Int32 × Int32 => B_X11_excess_38 s.1 s.2 σ) 6000 (v2, v3)
set_option maxHeartbeats 1000000 in
set_option maxRecDepth 20000 in
theorem TB_X11_excess_38 {d : Nat} {o : Option Value × xM} (v2 : Int32) (v3 : Int32) (σ : xM) {q : (Int32 × Int32) ⊕ ((Int32))} (hd : 4 ≤ d) (h : B_X11_excess_38 v2 v3 σ = some q) (hB : ∀ s', q = .inl s' → ∀ (z1 : Value), xX xT xLn d 193 40 [.ref 141, z1, .int s'.1, .int s'.2] [] σ o) (hE : ∀ e', q = .inr e' → ∀ (z1 z3 : Value), xX xT xLn d 193 66 [.ref 141, z1, .int e', z3] [] σ o) (z1 : Value) : xX xT xLn d 193 40 [.ref 141, z1, .int v2, .int v3] [] σ o := by
  unfold B_X11_excess_38 at h
  refine xX_blk (w := xw_193) eT_193 5 40 (ls' := [.ref 141, .null, .int v2, .int v3]) (st' := [.int 1, .ref 142, .int v3]) (σ' := σ) rfl ?_
  refine xX_one (w := xw_193) (i := 45) (ls' := [.ref 141, .null, .int v2, .int v3]) (st' := [.int (σ 142 1), .int v3]) (σ' := σ) eT_193 rfl (e_ialK xs_142 (by decide) (by decide)) ?_
  refine xX_ite (c := (σ 142 1) ≤ v3) (w := xw_193) (i := 46) (a := 66) (b := 47) (st' := []) eT_193 rfl rfl (fun hc11 => ?_) (fun hc11 => ?_)
  · rw [if_pos hc11] at h
    obtain rfl := Option.some.inj h
    exact hE v2 rfl _ _
  · rw [if_neg hc11] at h
    refine xX_blk (w := xw_193) eT_193 3 47 (ls' := [.ref 141, .null, .int v2, .int v3]) (st' := [.int v3, .ref 141, .int v2]) (σ' := σ) rfl ?_
    obtain ⟨r12, hr12, h⟩ := xbd_inv h
    refine xX_c1 (w := xw_193) (i := 50) (ls := [.ref 141, .null, .int v2, .int v3]) (rest := [.int v2]) eT_193 rfl (by omega) rfl rfl rfl (T_X11_isOver v3 σ (by omega) hr12) ?_
    refine xX_ite (c := r12 = 0) (w := xw_193) (i := 51) (a := 61) (b := 52) (st' := [.int v2]) eT_193 rfl rfl (fun hc13 => ?_) (fun hc13 => ?_)
    · rw [if_pos hc13] at h
      refine xX_blk (w := xw_193) eT_193 4 61 (ls' := [.ref 141, .null, .int (v2 + 0), .int (v3 + 1)]) (st' := []) (σ' := σ) rfl ?_
      refine xX_jmp (w := xw_193) (i := 65) (a := 40) (st' := []) eT_193 rfl rfl ?_
      obtain rfl := Option.some.inj h
      exact hB ((v2 + 0), (v3 + 1)) rfl _
    · rw [if_neg hc13] at h
      refine xX_blk (w := xw_193) eT_193 2 52 (ls' := [.ref 141, .null, .int v2, .int v3]) (st' := [.int v3, .ref 141, .int v2]) (σ' := σ) rfl ?_
      obtain ⟨r14, hr14, h⟩ := xbd_inv h
      refine xX_c1 (w := xw_193) (i := 54) (ls := [.ref 141, .null, .int v2, .int v3]) (rest := [.int v2]) eT_193 rfl (by omega) rfl rfl rfl (T_X11_load v3 σ (by omega) hr14) ?_
      refine xX_blk (w := xw_193) eT_193 3 55 (ls' := [.ref 141, .null, .int v2, .int v3]) (st' := [.int 1, .int v3, .ref 141, .int r14, .int v2]) (σ' := σ) rfl ?_
      obtain ⟨r15, hr15, h⟩ := xbd_inv h
      refine xX_c1 (w := xw_193) (i := 58) (ls := [.ref 141, .null, .int v2, .int v3]) (rest := [.int r14, .int v2]) eT_193 rfl (by omega) rfl rfl rfl (T_X11_ofSite v3 1 σ (by omega) hr15) ?_
      refine xX_blk (w := xw_193) eT_193 1 59 (ls' := [.ref 141, .null, .int v2, .int v3]) (st' := [.int (r14 - r15), .int v2]) (σ' := σ) rfl ?_
      refine xX_jmp (w := xw_193) (i := 60) (a := 62) (st' := [.int (r14 - r15), .int v2]) eT_193 rfl rfl ?_
      refine xX_blk (w := xw_193) eT_193 3 62 (ls' := [.ref 141, .null, .int (v2 + (r14 - r15)), .int (v3 + 1)]) (st' := []) (σ' := σ) rfl ?_
      refine xX_jmp (w := xw_193) (i := 65) (a := 40) (st' := []) eT_193 rfl rfl ?_
      obtain rfl := Option.some.inj h
      exact hB ((v2 + (r14 - r15)), (v3 + 1)) rfl _
set_option maxHeartbeats 1000000 in
set_option maxRecDepth 20000 in
theorem TL_X11_excess_38 {d : Nat} {o : Option Value × xM} (v2 : Int32) (v3 : Int32) (σ : xM) {e : (Int32)} (hd : 4 ≤ d) (h : L_X11_excess_38 v2 v3 σ = some e) (hE : ∀ (z1 z3 : Value), xX xT xLn d 193 66 [.ref 141, z1, .int e, z3] [] σ o) (z1 : Value) : xX xT xLn d 193 40 [.ref 141, z1, .int v2, .int v3] [] σ o :=
  xloop_snd (X := fun s => ∀ (z1 : Value), xX xT xLn d 193 40 [.ref 141, z1, .int s.1, .int s.2] [] σ o) (Y := fun e' => ∀ (z1 z3 : Value), xX xT xLn d 193 66 [.ref 141, z1, .int e', z3] [] σ o) (fun s q hs hB hE z1 => TB_X11_excess_38 s.1 s.2 σ hd hs hB hE z1) _ _ _ h hE z1
def B_X11_excess_65 (p2 : Int32) (v3 : Int32) (σ : xM) : Option ((Int32 × xM) ⊕ ((xM))) :=
  if (σ 142 1) ≤ v3 then
    some (.inr σ)
  else
    xgd (xin v3 5) (
    xbd (F_X11_putsState v3 (σ 152 v3.toNatClampNeg) σ) fun r19 =>
    some (.inl ((v3 + 1), r19)))
def L_X11_excess_65 (p2 : Int32) (v3 : Int32) (σ : xM) : Option ((xM)) := xloop (fun s : Int32 × xM => B_X11_excess_65 p2 s.1 s.2) 6000 (v3, σ)
set_option maxHeartbeats 1000000 in
set_option maxRecDepth 20000 in
theorem TB_X11_excess_65 {d : Nat} {o : Option Value × xM} (p2 : Int32) (v3 : Int32) (σ : xM) {q : (Int32 × xM) ⊕ ((xM))} (hd : 4 ≤ d) (h : B_X11_excess_65 p2 v3 σ = some q) (hB : ∀ s', q = .inl s' → ∀ (z1 : Value), xX xT xLn d 193 69 [.ref 141, z1, .int p2, .int s'.1] [] s'.2 o) (hE : ∀ e', q = .inr e' → ∀ (z0 z1 z3 : Value), xX xT xLn d 193 85 [z0, z1, .int p2, z3] [] e' o) (z1 : Value) : xX xT xLn d 193 69 [.ref 141, z1, .int p2, .int v3] [] σ o := by
  unfold B_X11_excess_65 at h
  refine xX_blk (w := xw_193) eT_193 5 69 (ls' := [.ref 141, .null, .int p2, .int v3]) (st' := [.int 1, .ref 142, .int v3]) (σ' := σ) rfl ?_
  refine xX_one (w := xw_193) (i := 74) (ls' := [.ref 141, .null, .int p2, .int v3]) (st' := [.int (σ 142 1), .int v3]) (σ' := σ) eT_193 rfl (e_ialK xs_142 (by decide) (by decide)) ?_
  refine xX_ite (c := (σ 142 1) ≤ v3) (w := xw_193) (i := 75) (a := 85) (b := 76) (st' := []) eT_193 rfl rfl (fun hc17 => ?_) (fun hc17 => ?_)
  · rw [if_pos hc17] at h
    obtain rfl := Option.some.inj h
    exact hE σ rfl _ _ _
  · rw [if_neg hc17] at h
    refine xX_blk (w := xw_193) eT_193 5 76 (ls' := [.ref 141, .null, .int p2, .int v3]) (st' := [.int v3, .ref 152, .int v3, .ref 141]) (σ' := σ) rfl ?_
    obtain ⟨hi18, h⟩ := xgd_inv h
    refine xX_one (w := xw_193) (i := 81) (ls' := [.ref 141, .null, .int p2, .int v3]) (st' := [.int (σ 152 v3.toNatClampNeg), .int v3, .ref 141]) (σ' := σ) eT_193 rfl (e_iald xs_152 hi18) ?_
    obtain ⟨r19, hr19, h⟩ := xbd_inv h
    refine xX_c0 (w := xw_193) (i := 82) (ls := [.ref 141, .null, .int p2, .int v3]) (rest := []) eT_193 rfl (by omega) rfl rfl rfl (T_X11_putsState v3 (σ 152 v3.toNatClampNeg) σ (by omega) hr19) ?_
    refine xX_blk (w := xw_193) eT_193 1 83 (ls' := [.ref 141, .null, .int p2, .int (v3 + 1)]) (st' := []) (σ' := r19) rfl ?_
    refine xX_jmp (w := xw_193) (i := 84) (a := 69) (st' := []) eT_193 rfl rfl ?_
    obtain rfl := Option.some.inj h
    exact hB ((v3 + 1), r19) rfl _
set_option maxHeartbeats 1000000 in
set_option maxRecDepth 20000 in
theorem TL_X11_excess_65 {d : Nat} {o : Option Value × xM} (p2 : Int32) (v3 : Int32) (σ : xM) {e : (xM)} (hd : 4 ≤ d) (h : L_X11_excess_65 p2 v3 σ = some e) (hE : ∀ (z0 z1 z3 : Value), xX xT xLn d 193 85 [z0, z1, .int p2, z3] [] e o) (z1 : Value) : xX xT xLn d 193 69 [.ref 141, z1, .int p2, .int v3] [] σ o :=
  xloop_snd (X := fun s => ∀ (z1 : Value), xX xT xLn d 193 69 [.ref 141, z1, .int p2, .int s.1] [] s.2 o) (Y := fun e' => ∀ (z0 z1 z3 : Value), xX xT xLn d 193 85 [z0, z1, .int p2, z3] [] e' o) (fun s q hs hB hE z1 => TB_X11_excess_65 p2 s.1 s.2 hd hs hB hE z1) _ _ _ h hE z1
def F_X11_excess (a : Int32) (σ : xM) : Option (Int32 × xM) :=
  xbd (L_X11_excess_4 a 0 0 σ) fun e9 =>
  xbd (F_X11_laysCatches e9) fun r10 =>
  xbd (L_X11_excess_38 0 0 r10) fun e16 =>
  xbd (L_X11_excess_65 e16 0 r10) fun e20 =>
  some (e16, e20)
set_option maxHeartbeats 1000000 in
set_option maxRecDepth 20000 in
theorem T_X11_excess (a : Int32) (σ : xM) {d : Nat} {q : Int32 × xM} (hd : 4 ≤ d) (h : F_X11_excess a σ = some q) : xR xT xLn d 193 [.ref 141, .int a] σ (some (.int q.1), q.2) := by
  unfold F_X11_excess at h
  show xX xT xLn d 193 0 [.ref 141, .int a, .null, .null] [] σ _
  refine xX_blk (w := xw_193) eT_193 4 0 (ls' := [.ref 141, .int a, .int 0, .int 0]) (st' := []) (σ' := σ) rfl ?_
  obtain ⟨e9, he9, h⟩ := xbd_inv h
  refine TL_X11_excess_4 a 0 0 σ (by omega) he9 (fun z1 z3 => ?_)
  refine xX_blk (w := xw_193) eT_193 2 35 (ls' := [.ref 141, .null, .int 0, .null]) (st' := [.ref 141]) (σ' := e9) rfl ?_
  obtain ⟨r10, hr10, h⟩ := xbd_inv h
  refine xX_c0 (w := xw_193) (i := 37) (ls := [.ref 141, .null, .int 0, .null]) (rest := []) eT_193 rfl (by omega) rfl rfl rfl (T_X11_laysCatches e9 (by omega) hr10) ?_
  refine xX_blk (w := xw_193) eT_193 2 38 (ls' := [.ref 141, .null, .int 0, .int 0]) (st' := []) (σ' := r10) rfl ?_
  obtain ⟨e16, he16, h⟩ := xbd_inv h
  refine TL_X11_excess_38 0 0 r10 (by omega) he16 (fun z1 z3 => ?_) _
  refine xX_blk (w := xw_193) eT_193 3 66 (ls' := [.ref 141, .null, .int e16, .int 0]) (st' := []) (σ' := r10) rfl ?_
  obtain ⟨e20, he20, h⟩ := xbd_inv h
  refine TL_X11_excess_65 e16 0 r10 (by omega) he20 (fun z0 z1 z3 => ?_) _
  refine xX_blk (w := xw_193) eT_193 2 85 (ls' := [.null, .null, .int e16, .null]) (st' := [.int e16]) (σ' := e20) rfl ?_
  obtain rfl := Option.some.inj h
  exact xX_ret (w := xw_193) (i := 87) eT_193 rfl rfl
def B_X11_worstNow_8 (p1 : Int32) (p2 : Int32) (v3 : Int32) (v4 : Int32) (v5 : Int32) (σ : xM) : Option ((Int32 × Int32 × Int32 × xM) ⊕ ((Int32 × Int32 × xM))) :=
  if ((1 : Int32) <<< ((σ 142 1) &&& 31)) ≤ v5 then
    some (.inr (v3, v4, σ))
  else
    xbd (F_X11_size v5 σ) fun r3 =>
    if r3 = p1 then
      xbd (F_X11_areOn v5 σ) fun r5 =>
      if r5 = 0 then
        some (.inl (v3, v4, (v5 + 1), σ))
      else
        xbd (F_X11_excess v5 σ) fun r7 =>
        if r7.1 ≤ v3 then
          if r7.1 ≤ v3 then
            some (.inl (v3, v4, (v5 + 1), r7.2))
          else
            some (.inl (r7.1, v4, (v5 + 1), r7.2))
        else
          if r7.1 ≤ v3 then
            some (.inl (v3, v5, (v5 + 1), r7.2))
          else
            some (.inl (r7.1, v5, (v5 + 1), r7.2))
    else
      some (.inl (v3, v4, (v5 + 1), σ))
def L_X11_worstNow_8 (p1 : Int32) (p2 : Int32) (v3 : Int32) (v4 : Int32) (v5 : Int32) (σ : xM) : Option ((Int32 × Int32 × xM)) := xloop (fun s : Int32 × Int32 × Int32 × xM => B_X11_worstNow_8 p1 p2 s.1 s.2.1 s.2.2.1 s.2.2.2) 6000 (v3, v4, v5, σ)
set_option maxHeartbeats 1000000 in
set_option maxRecDepth 20000 in
theorem TB_X11_worstNow_8 {d : Nat} {o : Option Value × xM} (p1 : Int32) (p2 : Int32) (v3 : Int32) (v4 : Int32) (v5 : Int32) (σ : xM) {q : (Int32 × Int32 × Int32 × xM) ⊕ ((Int32 × Int32 × xM))} (hd : 5 ≤ d) (h : B_X11_worstNow_8 p1 p2 v3 v4 v5 σ = some q) (hB : ∀ s', q = .inl s' → ∀ (z6 : Value), xX xT xLn d 194 8 [.ref 141, .int p1, .int p2, .int s'.1, .int s'.2.1, .int s'.2.2.1, z6] [] s'.2.2.2 o) (hE : ∀ e', q = .inr e' → ∀ (z0 z1 z5 z6 : Value), xX xT xLn d 194 45 [z0, z1, .int p2, .int e'.1, .int e'.2.1, z5, z6] [] e'.2.2 o) (z6 : Value) : xX xT xLn d 194 8 [.ref 141, .int p1, .int p2, .int v3, .int v4, .int v5, z6] [] σ o := by
  unfold B_X11_worstNow_8 at h
  refine xX_blk (w := xw_194) eT_194 6 8 (ls' := [.ref 141, .int p1, .int p2, .int v3, .int v4, .int v5, .null]) (st' := [.int 1, .ref 142, .int 1, .int v5]) (σ' := σ) rfl ?_
  refine xX_one (w := xw_194) (i := 14) (ls' := [.ref 141, .int p1, .int p2, .int v3, .int v4, .int v5, .null]) (st' := [.int (σ 142 1), .int 1, .int v5]) (σ' := σ) eT_194 rfl (e_ialK xs_142 (by decide) (by decide)) ?_
  refine xX_blk (w := xw_194) eT_194 1 15 (ls' := [.ref 141, .int p1, .int p2, .int v3, .int v4, .int v5, .null]) (st' := [.int ((1 : Int32) <<< ((σ 142 1) &&& 31)), .int v5]) (σ' := σ) rfl ?_
  refine xX_ite (c := ((1 : Int32) <<< ((σ 142 1) &&& 31)) ≤ v5) (w := xw_194) (i := 16) (a := 45) (b := 17) (st' := []) eT_194 rfl rfl (fun hc2 => ?_) (fun hc2 => ?_)
  · rw [if_pos hc2] at h
    obtain rfl := Option.some.inj h
    exact hE (v3, v4, σ) rfl _ _ _ _
  · rw [if_neg hc2] at h
    refine xX_blk (w := xw_194) eT_194 1 17 (ls' := [.ref 141, .int p1, .int p2, .int v3, .int v4, .int v5, .null]) (st' := [.int v5]) (σ' := σ) rfl ?_
    obtain ⟨r3, hr3, h⟩ := xbd_inv h
    refine xX_c1 (w := xw_194) (i := 18) (ls := [.ref 141, .int p1, .int p2, .int v3, .int v4, .int v5, .null]) (rest := []) eT_194 rfl (by omega) rfl rfl rfl (T_X11_size v5 σ (by omega) hr3) ?_
    refine xX_blk (w := xw_194) eT_194 1 19 (ls' := [.ref 141, .int p1, .int p2, .int v3, .int v4, .int v5, .null]) (st' := [.int p1, .int r3]) (σ' := σ) rfl ?_
    refine xX_ite (c := r3 = p1) (w := xw_194) (i := 20) (a := 21) (b := 43) (st' := []) eT_194 rfl rfl (fun hc4 => ?_) (fun hc4 => ?_)
    · rw [if_pos hc4] at h
      refine xX_blk (w := xw_194) eT_194 2 21 (ls' := [.ref 141, .int p1, .int p2, .int v3, .int v4, .int v5, .null]) (st' := [.int v5, .ref 141]) (σ' := σ) rfl ?_
      obtain ⟨r5, hr5, h⟩ := xbd_inv h
      refine xX_c1 (w := xw_194) (i := 23) (ls := [.ref 141, .int p1, .int p2, .int v3, .int v4, .int v5, .null]) (rest := []) eT_194 rfl (by omega) rfl rfl rfl (T_X11_areOn v5 σ (by omega) hr5) ?_
      refine xX_ite (c := r5 = 0) (w := xw_194) (i := 24) (a := 43) (b := 25) (st' := []) eT_194 rfl rfl (fun hc6 => ?_) (fun hc6 => ?_)
      · rw [if_pos hc6] at h
        refine xX_blk (w := xw_194) eT_194 1 43 (ls' := [.ref 141, .int p1, .int p2, .int v3, .int v4, .int (v5 + 1), .null]) (st' := []) (σ' := σ) rfl ?_
        refine xX_jmp (w := xw_194) (i := 44) (a := 8) (st' := []) eT_194 rfl rfl ?_
        obtain rfl := Option.some.inj h
        exact hB (v3, v4, (v5 + 1), σ) rfl _
      · rw [if_neg hc6] at h
        refine xX_blk (w := xw_194) eT_194 2 25 (ls' := [.ref 141, .int p1, .int p2, .int v3, .int v4, .int v5, .null]) (st' := [.int v5, .ref 141]) (σ' := σ) rfl ?_
        obtain ⟨r7, hr7, h⟩ := xbd_inv h
        refine xX_c1 (w := xw_194) (i := 27) (ls := [.ref 141, .int p1, .int p2, .int v3, .int v4, .int v5, .null]) (rest := []) eT_194 rfl (by omega) rfl rfl rfl (T_X11_excess v5 σ (by omega) hr7) ?_
        refine xX_blk (w := xw_194) eT_194 3 28 (ls' := [.ref 141, .int p1, .int p2, .int v3, .int v4, .int v5, .int r7.1]) (st' := [.int v3, .int r7.1]) (σ' := r7.2) rfl ?_
        refine xX_ite (c := r7.1 ≤ v3) (w := xw_194) (i := 31) (a := 34) (b := 32) (st' := []) eT_194 rfl rfl (fun hc8 => ?_) (fun hc8 => ?_)
        · rw [if_pos hc8] at h
          refine xX_blk (w := xw_194) eT_194 4 34 (ls' := [.ref 141, .int p1, .int p2, .int v3, .int v4, .int v5, .int r7.1]) (st' := [.int v3, .int r7.1]) (σ' := r7.2) rfl ?_
          refine xX_ite (c := r7.1 ≤ v3) (w := xw_194) (i := 38) (a := 41) (b := 39) (st' := []) eT_194 rfl rfl (fun hc9 => ?_) (fun hc9 => ?_)
          · rw [if_pos hc9] at h
            refine xX_blk (w := xw_194) eT_194 3 41 (ls' := [.ref 141, .int p1, .int p2, .int v3, .int v4, .int (v5 + 1), .int r7.1]) (st' := []) (σ' := r7.2) rfl ?_
            refine xX_jmp (w := xw_194) (i := 44) (a := 8) (st' := []) eT_194 rfl rfl ?_
            obtain rfl := Option.some.inj h
            exact hB (v3, v4, (v5 + 1), r7.2) rfl _
          · rw [if_neg hc9] at h
            refine xX_blk (w := xw_194) eT_194 1 39 (ls' := [.ref 141, .int p1, .int p2, .int v3, .int v4, .int v5, .int r7.1]) (st' := [.int r7.1]) (σ' := r7.2) rfl ?_
            refine xX_jmp (w := xw_194) (i := 40) (a := 42) (st' := [.int r7.1]) eT_194 rfl rfl ?_
            refine xX_blk (w := xw_194) eT_194 2 42 (ls' := [.ref 141, .int p1, .int p2, .int r7.1, .int v4, .int (v5 + 1), .int r7.1]) (st' := []) (σ' := r7.2) rfl ?_
            refine xX_jmp (w := xw_194) (i := 44) (a := 8) (st' := []) eT_194 rfl rfl ?_
            obtain rfl := Option.some.inj h
            exact hB (r7.1, v4, (v5 + 1), r7.2) rfl _
        · rw [if_neg hc8] at h
          refine xX_blk (w := xw_194) eT_194 1 32 (ls' := [.ref 141, .int p1, .int p2, .int v3, .int v4, .int v5, .int r7.1]) (st' := [.int v5]) (σ' := r7.2) rfl ?_
          refine xX_jmp (w := xw_194) (i := 33) (a := 35) (st' := [.int v5]) eT_194 rfl rfl ?_
          refine xX_blk (w := xw_194) eT_194 3 35 (ls' := [.ref 141, .int p1, .int p2, .int v3, .int v5, .int v5, .int r7.1]) (st' := [.int v3, .int r7.1]) (σ' := r7.2) rfl ?_
          refine xX_ite (c := r7.1 ≤ v3) (w := xw_194) (i := 38) (a := 41) (b := 39) (st' := []) eT_194 rfl rfl (fun hc10 => ?_) (fun hc10 => ?_)
          · rw [if_pos hc10] at h
            refine xX_blk (w := xw_194) eT_194 3 41 (ls' := [.ref 141, .int p1, .int p2, .int v3, .int v5, .int (v5 + 1), .int r7.1]) (st' := []) (σ' := r7.2) rfl ?_
            refine xX_jmp (w := xw_194) (i := 44) (a := 8) (st' := []) eT_194 rfl rfl ?_
            obtain rfl := Option.some.inj h
            exact hB (v3, v5, (v5 + 1), r7.2) rfl _
          · rw [if_neg hc10] at h
            refine xX_blk (w := xw_194) eT_194 1 39 (ls' := [.ref 141, .int p1, .int p2, .int v3, .int v5, .int v5, .int r7.1]) (st' := [.int r7.1]) (σ' := r7.2) rfl ?_
            refine xX_jmp (w := xw_194) (i := 40) (a := 42) (st' := [.int r7.1]) eT_194 rfl rfl ?_
            refine xX_blk (w := xw_194) eT_194 2 42 (ls' := [.ref 141, .int p1, .int p2, .int r7.1, .int v5, .int (v5 + 1), .int r7.1]) (st' := []) (σ' := r7.2) rfl ?_
            refine xX_jmp (w := xw_194) (i := 44) (a := 8) (st' := []) eT_194 rfl rfl ?_
            obtain rfl := Option.some.inj h
            exact hB (r7.1, v5, (v5 + 1), r7.2) rfl _
    · rw [if_neg hc4] at h
      refine xX_blk (w := xw_194) eT_194 1 43 (ls' := [.ref 141, .int p1, .int p2, .int v3, .int v4, .int (v5 + 1), .null]) (st' := []) (σ' := σ) rfl ?_
      refine xX_jmp (w := xw_194) (i := 44) (a := 8) (st' := []) eT_194 rfl rfl ?_
      obtain rfl := Option.some.inj h
      exact hB (v3, v4, (v5 + 1), σ) rfl _
set_option maxHeartbeats 1000000 in
set_option maxRecDepth 20000 in
theorem TL_X11_worstNow_8 {d : Nat} {o : Option Value × xM} (p1 : Int32) (p2 : Int32) (v3 : Int32) (v4 : Int32) (v5 : Int32) (σ : xM) {e : (Int32 × Int32 × xM)} (hd : 5 ≤ d) (h : L_X11_worstNow_8 p1 p2 v3 v4 v5 σ = some e) (hE : ∀ (z0 z1 z5 z6 : Value), xX xT xLn d 194 45 [z0, z1, .int p2, .int e.1, .int e.2.1, z5, z6] [] e.2.2 o) (z6 : Value) : xX xT xLn d 194 8 [.ref 141, .int p1, .int p2, .int v3, .int v4, .int v5, z6] [] σ o :=
  xloop_snd (X := fun s => ∀ (z6 : Value), xX xT xLn d 194 8 [.ref 141, .int p1, .int p2, .int s.1, .int s.2.1, .int s.2.2.1, z6] [] s.2.2.2 o) (Y := fun e' => ∀ (z0 z1 z5 z6 : Value), xX xT xLn d 194 45 [z0, z1, .int p2, .int e'.1, .int e'.2.1, z5, z6] [] e'.2.2 o) (fun s q hs hB hE z6 => TB_X11_worstNow_8 p1 p2 s.1 s.2.1 s.2.2.1 s.2.2.2 hd hs hB hE z6) _ _ _ h hE z6
def F_X11_worstNow (a : Int32) (b : Int32) (σ : xM) : Option (Int32 × xM) :=
  xbd (F_X11_laysWays σ) fun r1 =>
  xbd (L_X11_worstNow_8 a b (-1) (-1) 1 r1) fun e11 =>
  if b = 0 then
    some (e11.1, e11.2.2)
  else
    some (e11.2.1, e11.2.2)
set_option maxHeartbeats 1000000 in
set_option maxRecDepth 20000 in
theorem T_X11_worstNow (a : Int32) (b : Int32) (σ : xM) {d : Nat} {q : Int32 × xM} (hd : 5 ≤ d) (h : F_X11_worstNow a b σ = some q) : xR xT xLn d 194 [.ref 141, .int a, .int b] σ (some (.int q.1), q.2) := by
  unfold F_X11_worstNow at h
  show xX xT xLn d 194 0 [.ref 141, .int a, .int b, .null, .null, .null, .null] [] σ _
  refine xX_blk (w := xw_194) eT_194 5 0 (ls' := [.ref 141, .int a, .int b, .int (-1), .int (-1), .null, .null]) (st' := [.ref 141]) (σ' := σ) rfl ?_
  obtain ⟨r1, hr1, h⟩ := xbd_inv h
  refine xX_c0 (w := xw_194) (i := 5) (ls := [.ref 141, .int a, .int b, .int (-1), .int (-1), .null, .null]) (rest := []) eT_194 rfl (by omega) rfl rfl rfl (T_X11_laysWays σ (by omega) hr1) ?_
  refine xX_blk (w := xw_194) eT_194 2 6 (ls' := [.ref 141, .int a, .int b, .int (-1), .int (-1), .int 1, .null]) (st' := []) (σ' := r1) rfl ?_
  obtain ⟨e11, he11, h⟩ := xbd_inv h
  refine TL_X11_worstNow_8 a b (-1) (-1) 1 r1 (by omega) he11 (fun z0 z1 z5 z6 => ?_) _
  refine xX_blk (w := xw_194) eT_194 2 45 (ls' := [.null, .null, .int b, .int e11.1, .int e11.2.1, .null, .null]) (st' := [.int b]) (σ' := e11.2.2) rfl ?_
  refine xX_ite (c := b = 0) (w := xw_194) (i := 47) (a := 48) (b := 50) (st' := []) eT_194 rfl rfl (fun hc12 => ?_) (fun hc12 => ?_)
  · rw [if_pos hc12] at h
    refine xX_blk (w := xw_194) eT_194 1 48 (ls' := [.null, .null, .int b, .int e11.1, .int e11.2.1, .null, .null]) (st' := [.int e11.1]) (σ' := e11.2.2) rfl ?_
    refine xX_jmp (w := xw_194) (i := 49) (a := 51) (st' := [.int e11.1]) eT_194 rfl rfl ?_
    obtain rfl := Option.some.inj h
    exact xX_ret (w := xw_194) (i := 51) eT_194 rfl rfl
  · rw [if_neg hc12] at h
    refine xX_blk (w := xw_194) eT_194 1 50 (ls' := [.null, .null, .int b, .int e11.1, .int e11.2.1, .null, .null]) (st' := [.int e11.2.1]) (σ' := e11.2.2) rfl ?_
    obtain rfl := Option.some.inj h
    exact xX_ret (w := xw_194) (i := 51) eT_194 rfl rfl
def F_X11_worst (a : Int32) (b : Int32) (σ : xM) : Option (Int32 × xM) :=
  xbd (F_X11_in ((a : Int32).toInt64) 1 2 σ) fun r1 =>
  if r1 = 0 then
    xbd (F_X11_refuses (-2) σ) fun r3 =>
    some (r3.1, r3.2)
  else
    xbd (F_X11_in ((b : Int32).toInt64) 0 1 σ) fun r4 =>
    if r4 = 0 then
      xbd (F_X11_refuses (-2) σ) fun r6 =>
      some (r6.1, r6.2)
    else
      xbd (F_X11_worstNow a b σ) fun r7 =>
      some (r7.1, r7.2)
set_option maxHeartbeats 1000000 in
set_option maxRecDepth 20000 in
theorem T_X11_worst (a : Int32) (b : Int32) (σ : xM) {d : Nat} {q : Int32 × xM} (hd : 6 ≤ d) (h : F_X11_worst a b σ = some q) : xR xT xLn d 195 [.ref 141, .int a, .int b] σ (some (.int q.1), q.2) := by
  unfold F_X11_worst at h
  show xX xT xLn d 195 0 [.ref 141, .int a, .int b] [] σ _
  refine xX_blk (w := xw_195) eT_195 4 0 (ls' := [.ref 141, .int a, .int b]) (st' := [.long 2, .long 1, .long ((a : Int32).toInt64)]) (σ' := σ) rfl ?_
  obtain ⟨r1, hr1, h⟩ := xbd_inv h
  refine xX_c1 (w := xw_195) (i := 4) (ls := [.ref 141, .int a, .int b]) (rest := []) eT_195 rfl (by omega) rfl rfl rfl (T_X11_in ((a : Int32).toInt64) 1 2 σ (by omega) hr1) ?_
  refine xX_ite (c := r1 = 0) (w := xw_195) (i := 5) (a := 17) (b := 6) (st' := []) eT_195 rfl rfl (fun hc2 => ?_) (fun hc2 => ?_)
  · rw [if_pos hc2] at h
    refine xX_blk (w := xw_195) eT_195 2 17 (ls' := [.ref 141, .int a, .int b]) (st' := [.int (-2), .ref 141]) (σ' := σ) rfl ?_
    obtain ⟨r3, hr3, h⟩ := xbd_inv h
    refine xX_c1 (w := xw_195) (i := 19) (ls := [.ref 141, .int a, .int b]) (rest := []) eT_195 rfl (by omega) rfl rfl rfl (T_X11_refuses (-2) σ (by omega) hr3) ?_
    obtain rfl := Option.some.inj h
    exact xX_ret (w := xw_195) (i := 20) eT_195 rfl rfl
  · rw [if_neg hc2] at h
    refine xX_blk (w := xw_195) eT_195 4 6 (ls' := [.ref 141, .int a, .int b]) (st' := [.long 1, .long 0, .long ((b : Int32).toInt64)]) (σ' := σ) rfl ?_
    obtain ⟨r4, hr4, h⟩ := xbd_inv h
    refine xX_c1 (w := xw_195) (i := 10) (ls := [.ref 141, .int a, .int b]) (rest := []) eT_195 rfl (by omega) rfl rfl rfl (T_X11_in ((b : Int32).toInt64) 0 1 σ (by omega) hr4) ?_
    refine xX_ite (c := r4 = 0) (w := xw_195) (i := 11) (a := 17) (b := 12) (st' := []) eT_195 rfl rfl (fun hc5 => ?_) (fun hc5 => ?_)
    · rw [if_pos hc5] at h
      refine xX_blk (w := xw_195) eT_195 2 17 (ls' := [.ref 141, .int a, .int b]) (st' := [.int (-2), .ref 141]) (σ' := σ) rfl ?_
      obtain ⟨r6, hr6, h⟩ := xbd_inv h
      refine xX_c1 (w := xw_195) (i := 19) (ls := [.ref 141, .int a, .int b]) (rest := []) eT_195 rfl (by omega) rfl rfl rfl (T_X11_refuses (-2) σ (by omega) hr6) ?_
      obtain rfl := Option.some.inj h
      exact xX_ret (w := xw_195) (i := 20) eT_195 rfl rfl
    · rw [if_neg hc5] at h
      refine xX_blk (w := xw_195) eT_195 3 12 (ls' := [.ref 141, .int a, .int b]) (st' := [.int b, .int a, .ref 141]) (σ' := σ) rfl ?_
      obtain ⟨r7, hr7, h⟩ := xbd_inv h
      refine xX_c1 (w := xw_195) (i := 15) (ls := [.ref 141, .int a, .int b]) (rest := []) eT_195 rfl (by omega) rfl rfl rfl (T_X11_worstNow a b σ (by omega) hr7) ?_
      refine xX_jmp (w := xw_195) (i := 16) (a := 20) (st' := [.int r7.1]) eT_195 rfl rfl ?_
      obtain rfl := Option.some.inj h
      exact xX_ret (w := xw_195) (i := 20) eT_195 rfl rfl
def F_X11_type (a : Int32) (σ : xM) : Option (Int32 × xM) :=
  xbd (F_X11_in ((a : Int32).toInt64) 0 127 σ) fun r1 =>
  if r1 = 0 then
    xbd (F_X11_refuses (-2) σ) fun r3 =>
    some (r3.1, r3.2)
  else
    if (σ 141 13) = 120 then
      xbd (F_X11_refuses (-4) σ) fun r5 =>
      some (r5.1, r5.2)
    else
      xgd (xin (σ 141 13) 120) (
      xlet (xup σ 153 (σ 141 13).toNatClampNeg a) fun σ7 =>
      xlet (xup σ7 141 13 ((σ7 141 13) + 1)) fun σ8 =>
      some ((σ8 141 13), σ8))
set_option maxHeartbeats 1000000 in
set_option maxRecDepth 20000 in
theorem T_X11_type (a : Int32) (σ : xM) {d : Nat} {q : Int32 × xM} (hd : 1 ≤ d) (h : F_X11_type a σ = some q) : xR xT xLn d 196 [.ref 141, .int a] σ (some (.int q.1), q.2) := by
  unfold F_X11_type at h
  show xX xT xLn d 196 0 [.ref 141, .int a] [] σ _
  refine xX_blk (w := xw_196) eT_196 4 0 (ls' := [.ref 141, .int a]) (st' := [.long 127, .long 0, .long ((a : Int32).toInt64)]) (σ' := σ) rfl ?_
  obtain ⟨r1, hr1, h⟩ := xbd_inv h
  refine xX_c1 (w := xw_196) (i := 4) (ls := [.ref 141, .int a]) (rest := []) eT_196 rfl (by omega) rfl rfl rfl (T_X11_in ((a : Int32).toInt64) 0 127 σ (by omega) hr1) ?_
  refine xX_ite (c := r1 = 0) (w := xw_196) (i := 5) (a := 6) (b := 10) (st' := []) eT_196 rfl rfl (fun hc2 => ?_) (fun hc2 => ?_)
  · rw [if_pos hc2] at h
    refine xX_blk (w := xw_196) eT_196 2 6 (ls' := [.ref 141, .int a]) (st' := [.int (-2), .ref 141]) (σ' := σ) rfl ?_
    obtain ⟨r3, hr3, h⟩ := xbd_inv h
    refine xX_c1 (w := xw_196) (i := 8) (ls := [.ref 141, .int a]) (rest := []) eT_196 rfl (by omega) rfl rfl rfl (T_X11_refuses (-2) σ (by omega) hr3) ?_
    obtain rfl := Option.some.inj h
    exact xX_ret (w := xw_196) (i := 9) eT_196 rfl rfl
  · rw [if_neg hc2] at h
    refine xX_blk (w := xw_196) eT_196 3 10 (ls' := [.ref 141, .int a]) (st' := [.int 120, .int (σ 141 13)]) (σ' := σ) rfl ?_
    refine xX_ite (c := (σ 141 13) = 120) (w := xw_196) (i := 13) (a := 14) (b := 18) (st' := []) eT_196 rfl rfl (fun hc4 => ?_) (fun hc4 => ?_)
    · rw [if_pos hc4] at h
      refine xX_blk (w := xw_196) eT_196 2 14 (ls' := [.ref 141, .int a]) (st' := [.int (-4), .ref 141]) (σ' := σ) rfl ?_
      obtain ⟨r5, hr5, h⟩ := xbd_inv h
      refine xX_c1 (w := xw_196) (i := 16) (ls := [.ref 141, .int a]) (rest := []) eT_196 rfl (by omega) rfl rfl rfl (T_X11_refuses (-4) σ (by omega) hr5) ?_
      obtain rfl := Option.some.inj h
      exact xX_ret (w := xw_196) (i := 17) eT_196 rfl rfl
    · rw [if_neg hc4] at h
      refine xX_blk (w := xw_196) eT_196 5 18 (ls' := [.ref 141, .int a]) (st' := [.int a, .int (σ 141 13), .ref 153]) (σ' := σ) rfl ?_
      obtain ⟨hi6, h⟩ := xgd_inv h
      refine xX_one (w := xw_196) (i := 23) (ls' := [.ref 141, .int a]) (st' := []) (σ' := xup σ 153 (σ 141 13).toNatClampNeg a) eT_196 rfl (e_iast xs_153 hi6) ?_
      obtain ⟨σ7, eσ7, h⟩ := xlet_inv h
      rw [← eσ7]
      refine xX_blk (w := xw_196) eT_196 5 24 (ls' := [.ref 141, .int a]) (st' := [.int ((σ7 141 13) + 1), .ref 141]) (σ' := σ7) rfl ?_
      refine xX_blk (w := xw_196) eT_196 1 29 (ls' := [.ref 141, .int a]) (st' := []) (σ' := xup σ7 141 13 ((σ7 141 13) + 1)) rfl ?_
      obtain ⟨σ8, eσ8, h⟩ := xlet_inv h
      rw [← eσ8]
      refine xX_blk (w := xw_196) eT_196 2 30 (ls' := [.ref 141, .int a]) (st' := [.int (σ8 141 13)]) (σ' := σ8) rfl ?_
      obtain rfl := Option.some.inj h
      exact xX_ret (w := xw_196) (i := 32) eT_196 rfl rfl
def F_X11_clear (σ : xM) : Option (Int32 × xM) :=
  xlet (xup σ 141 13 0) fun σ1 =>
  some ((σ 141 13), σ1)
set_option maxHeartbeats 1000000 in
set_option maxRecDepth 20000 in
theorem T_X11_clear (σ : xM) {d : Nat} {q : Int32 × xM} (hd : 0 ≤ d) (h : F_X11_clear σ = some q) : xR xT xLn d 197 [.ref 141] σ (some (.int q.1), q.2) := by
  unfold F_X11_clear at h
  show xX xT xLn d 197 0 [.ref 141, .null] [] σ _
  refine xX_blk (w := xw_197) eT_197 5 0 (ls' := [.ref 141, .int (σ 141 13)]) (st' := [.int 0, .ref 141]) (σ' := σ) rfl ?_
  refine xX_blk (w := xw_197) eT_197 1 5 (ls' := [.ref 141, .int (σ 141 13)]) (st' := []) (σ' := xup σ 141 13 0) rfl ?_
  obtain ⟨σ1, eσ1, h⟩ := xlet_inv h
  rw [← eσ1]
  refine xX_blk (w := xw_197) eT_197 1 6 (ls' := [.ref 141, .int (σ 141 13)]) (st' := [.int (σ 141 13)]) (σ' := σ1) rfl ?_
  obtain rfl := Option.some.inj h
  exact xX_ret (w := xw_197) (i := 7) eT_197 rfl rfl
def B_X11_here_0 (σ : xM) : Option ((xM) ⊕ ((xM))) :=
  if (σ 141 13) ≤ (σ 141 14) then
    some (.inr σ)
  else
    xgd (xin (σ 141 14) 120) (
    if (σ 153 (σ 141 14).toNatClampNeg) = 32 then
      xlet (xup σ 141 14 ((σ 141 14) + 1)) fun σ4 =>
      some (.inl σ4)
    else
      some (.inr σ))
def L_X11_here_0 (σ : xM) : Option ((xM)) := xloop (fun s : xM => B_X11_here_0 s) 6000 σ
set_option maxHeartbeats 1000000 in
set_option maxRecDepth 20000 in
theorem TB_X11_here_0 {d : Nat} {o : Option Value × xM} (σ : xM) {q : (xM) ⊕ ((xM))} (hd : 0 ≤ d) (h : B_X11_here_0 σ = some q) (hB : ∀ s', q = .inl s' → xX xT xLn d 198 0 [.ref 141] [] s' o) (hE : ∀ e', q = .inr e' → xX xT xLn d 198 20 [.ref 141] [] e' o) : xX xT xLn d 198 0 [.ref 141] [] σ o := by
  unfold B_X11_here_0 at h
  refine xX_blk (w := xw_198) eT_198 5 0 (ls' := [.ref 141]) (st' := [.int (σ 141 13), .int (σ 141 14)]) (σ' := σ) rfl ?_
  refine xX_ite (c := (σ 141 13) ≤ (σ 141 14)) (w := xw_198) (i := 5) (a := 20) (b := 6) (st' := []) eT_198 rfl rfl (fun hc1 => ?_) (fun hc1 => ?_)
  · rw [if_pos hc1] at h
    obtain rfl := Option.some.inj h
    exact hE σ rfl
  · rw [if_neg hc1] at h
    refine xX_blk (w := xw_198) eT_198 4 6 (ls' := [.ref 141]) (st' := [.int (σ 141 14), .ref 153]) (σ' := σ) rfl ?_
    obtain ⟨hi2, h⟩ := xgd_inv h
    refine xX_one (w := xw_198) (i := 10) (ls' := [.ref 141]) (st' := [.int (σ 153 (σ 141 14).toNatClampNeg)]) (σ' := σ) eT_198 rfl (e_iald xs_153 hi2) ?_
    refine xX_blk (w := xw_198) eT_198 1 11 (ls' := [.ref 141]) (st' := [.int 32, .int (σ 153 (σ 141 14).toNatClampNeg)]) (σ' := σ) rfl ?_
    refine xX_ite (c := (σ 153 (σ 141 14).toNatClampNeg) = 32) (w := xw_198) (i := 12) (a := 13) (b := 20) (st' := []) eT_198 rfl rfl (fun hc3 => ?_) (fun hc3 => ?_)
    · rw [if_pos hc3] at h
      refine xX_blk (w := xw_198) eT_198 5 13 (ls' := [.ref 141]) (st' := [.int ((σ 141 14) + 1), .ref 141]) (σ' := σ) rfl ?_
      refine xX_blk (w := xw_198) eT_198 1 18 (ls' := [.ref 141]) (st' := []) (σ' := xup σ 141 14 ((σ 141 14) + 1)) rfl ?_
      obtain ⟨σ4, eσ4, h⟩ := xlet_inv h
      rw [← eσ4]
      refine xX_jmp (w := xw_198) (i := 19) (a := 0) (st' := []) eT_198 rfl rfl ?_
      obtain rfl := Option.some.inj h
      exact hB σ4 rfl
    · rw [if_neg hc3] at h
      obtain rfl := Option.some.inj h
      exact hE σ rfl
set_option maxHeartbeats 1000000 in
set_option maxRecDepth 20000 in
theorem TL_X11_here_0 {d : Nat} {o : Option Value × xM} (σ : xM) {e : (xM)} (hd : 0 ≤ d) (h : L_X11_here_0 σ = some e) (hE : xX xT xLn d 198 20 [.ref 141] [] e o) : xX xT xLn d 198 0 [.ref 141] [] σ o :=
  xloop_snd (X := fun s => xX xT xLn d 198 0 [.ref 141] [] s o) (Y := fun e' => xX xT xLn d 198 20 [.ref 141] [] e' o) (fun s q hs hB hE => TB_X11_here_0 s hd hs hB hE) _ _ _ h hE
def F_X11_here (σ : xM) : Option (Int32 × xM) :=
  xbd (L_X11_here_0 σ) fun e5 =>
  if (e5 141 13) ≤ (e5 141 14) then
    some ((-1), e5)
  else
    xgd (xin (e5 141 14) 120) (
    some ((e5 153 (e5 141 14).toNatClampNeg), e5))
set_option maxHeartbeats 1000000 in
set_option maxRecDepth 20000 in
theorem T_X11_here (σ : xM) {d : Nat} {q : Int32 × xM} (hd : 0 ≤ d) (h : F_X11_here σ = some q) : xR xT xLn d 198 [.ref 141] σ (some (.int q.1), q.2) := by
  unfold F_X11_here at h
  show xX xT xLn d 198 0 [.ref 141] [] σ _
  obtain ⟨e5, he5, h⟩ := xbd_inv h
  refine TL_X11_here_0 σ (by omega) he5 ?_
  refine xX_blk (w := xw_198) eT_198 5 20 (ls' := [.ref 141]) (st' := [.int (e5 141 13), .int (e5 141 14)]) (σ' := e5) rfl ?_
  refine xX_ite (c := (e5 141 13) ≤ (e5 141 14)) (w := xw_198) (i := 25) (a := 32) (b := 26) (st' := []) eT_198 rfl rfl (fun hc6 => ?_) (fun hc6 => ?_)
  · rw [if_pos hc6] at h
    refine xX_blk (w := xw_198) eT_198 1 32 (ls' := [.ref 141]) (st' := [.int (-1)]) (σ' := e5) rfl ?_
    obtain rfl := Option.some.inj h
    exact xX_ret (w := xw_198) (i := 33) eT_198 rfl rfl
  · rw [if_neg hc6] at h
    refine xX_blk (w := xw_198) eT_198 4 26 (ls' := [.ref 141]) (st' := [.int (e5 141 14), .ref 153]) (σ' := e5) rfl ?_
    obtain ⟨hi7, h⟩ := xgd_inv h
    refine xX_one (w := xw_198) (i := 30) (ls' := [.ref 141]) (st' := [.int (e5 153 (e5 141 14).toNatClampNeg)]) (σ' := e5) eT_198 rfl (e_iald xs_153 hi7) ?_
    refine xX_jmp (w := xw_198) (i := 31) (a := 33) (st' := [.int (e5 153 (e5 141 14).toNatClampNeg)]) eT_198 rfl rfl ?_
    obtain rfl := Option.some.inj h
    exact xX_ret (w := xw_198) (i := 33) eT_198 rfl rfl
def F_X11_numbersOf (a : Int32) (σ : xM) : Option (Int32) :=
  if a = 97 then
    some 1
  else if a = 100 then
    some 1
  else if a = 108 then
    some 3
  else if a = 109 then
    some 2
  else if a = 111 then
    some 3
  else if a = 112 then
    some 2
  else if a = 115 then
    some 2
  else if a = 116 then
    some 1
  else if a = 120 then
    some 1
  else 
  some (-1)
set_option maxHeartbeats 1000000 in
set_option maxRecDepth 20000 in
theorem T_X11_numbersOf (a : Int32) (σ : xM) {d : Nat} {q : Int32} (hd : 0 ≤ d) (h : F_X11_numbersOf a σ = some q) : xR xT xLn d 201 [.int a] σ (some (.int q), σ) := by
  unfold F_X11_numbersOf at h
  show xX xT xLn d 201 0 [.int a] [] σ _
  refine xX_blk (w := xw_201) eT_201 1 0 (ls' := [.int a]) (st' := [.int a]) (σ' := σ) rfl ?_
  by_cases hc1 : a = 97
  · rw [if_pos hc1] at h
    refine xX_jmp (w := xw_201) (i := 1) (a := 6) (st' := []) eT_201 rfl (e_tsw (by rw [hc1]; decide)) ?_
    refine xX_blk (w := xw_201) eT_201 1 6 (ls' := [.int a]) (st' := [.int 1]) (σ' := σ) rfl ?_
    obtain rfl := Option.some.inj h
    exact xX_ret (w := xw_201) (i := 7) eT_201 rfl rfl
  rw [if_neg hc1] at h
  by_cases hc2 : a = 100
  · rw [if_pos hc2] at h
    refine xX_jmp (w := xw_201) (i := 1) (a := 6) (st' := []) eT_201 rfl (e_tsw (by rw [hc2]; decide)) ?_
    refine xX_blk (w := xw_201) eT_201 1 6 (ls' := [.int a]) (st' := [.int 1]) (σ' := σ) rfl ?_
    obtain rfl := Option.some.inj h
    exact xX_ret (w := xw_201) (i := 7) eT_201 rfl rfl
  rw [if_neg hc2] at h
  by_cases hc3 : a = 108
  · rw [if_pos hc3] at h
    refine xX_jmp (w := xw_201) (i := 1) (a := 2) (st' := []) eT_201 rfl (e_tsw (by rw [hc3]; decide)) ?_
    refine xX_blk (w := xw_201) eT_201 1 2 (ls' := [.int a]) (st' := [.int 3]) (σ' := σ) rfl ?_
    obtain rfl := Option.some.inj h
    exact xX_ret (w := xw_201) (i := 3) eT_201 rfl rfl
  rw [if_neg hc3] at h
  by_cases hc4 : a = 109
  · rw [if_pos hc4] at h
    refine xX_jmp (w := xw_201) (i := 1) (a := 4) (st' := []) eT_201 rfl (e_tsw (by rw [hc4]; decide)) ?_
    refine xX_blk (w := xw_201) eT_201 1 4 (ls' := [.int a]) (st' := [.int 2]) (σ' := σ) rfl ?_
    obtain rfl := Option.some.inj h
    exact xX_ret (w := xw_201) (i := 5) eT_201 rfl rfl
  rw [if_neg hc4] at h
  by_cases hc5 : a = 111
  · rw [if_pos hc5] at h
    refine xX_jmp (w := xw_201) (i := 1) (a := 2) (st' := []) eT_201 rfl (e_tsw (by rw [hc5]; decide)) ?_
    refine xX_blk (w := xw_201) eT_201 1 2 (ls' := [.int a]) (st' := [.int 3]) (σ' := σ) rfl ?_
    obtain rfl := Option.some.inj h
    exact xX_ret (w := xw_201) (i := 3) eT_201 rfl rfl
  rw [if_neg hc5] at h
  by_cases hc6 : a = 112
  · rw [if_pos hc6] at h
    refine xX_jmp (w := xw_201) (i := 1) (a := 4) (st' := []) eT_201 rfl (e_tsw (by rw [hc6]; decide)) ?_
    refine xX_blk (w := xw_201) eT_201 1 4 (ls' := [.int a]) (st' := [.int 2]) (σ' := σ) rfl ?_
    obtain rfl := Option.some.inj h
    exact xX_ret (w := xw_201) (i := 5) eT_201 rfl rfl
  rw [if_neg hc6] at h
  by_cases hc7 : a = 115
  · rw [if_pos hc7] at h
    refine xX_jmp (w := xw_201) (i := 1) (a := 4) (st' := []) eT_201 rfl (e_tsw (by rw [hc7]; decide)) ?_
    refine xX_blk (w := xw_201) eT_201 1 4 (ls' := [.int a]) (st' := [.int 2]) (σ' := σ) rfl ?_
    obtain rfl := Option.some.inj h
    exact xX_ret (w := xw_201) (i := 5) eT_201 rfl rfl
  rw [if_neg hc7] at h
  by_cases hc8 : a = 116
  · rw [if_pos hc8] at h
    refine xX_jmp (w := xw_201) (i := 1) (a := 6) (st' := []) eT_201 rfl (e_tsw (by rw [hc8]; decide)) ?_
    refine xX_blk (w := xw_201) eT_201 1 6 (ls' := [.int a]) (st' := [.int 1]) (σ' := σ) rfl ?_
    obtain rfl := Option.some.inj h
    exact xX_ret (w := xw_201) (i := 7) eT_201 rfl rfl
  rw [if_neg hc8] at h
  by_cases hc9 : a = 120
  · rw [if_pos hc9] at h
    refine xX_jmp (w := xw_201) (i := 1) (a := 6) (st' := []) eT_201 rfl (e_tsw (by rw [hc9]; decide)) ?_
    refine xX_blk (w := xw_201) eT_201 1 6 (ls' := [.int a]) (st' := [.int 1]) (σ' := σ) rfl ?_
    obtain rfl := Option.some.inj h
    exact xX_ret (w := xw_201) (i := 7) eT_201 rfl rfl
  rw [if_neg hc9] at h
  refine xX_jmp (w := xw_201) (i := 1) (a := 8) (st' := []) eT_201 rfl (e_tsw (e_tswd [97, 100, 108, 109, 111, 112, 115, 116, 120] (by decide) (List.forall_mem_cons.mpr ⟨hc1, List.forall_mem_cons.mpr ⟨hc2, List.forall_mem_cons.mpr ⟨hc3, List.forall_mem_cons.mpr ⟨hc4, List.forall_mem_cons.mpr ⟨hc5, List.forall_mem_cons.mpr ⟨hc6, List.forall_mem_cons.mpr ⟨hc7, List.forall_mem_cons.mpr ⟨hc8, List.forall_mem_cons.mpr ⟨hc9, fun _ h => absurd h List.not_mem_nil⟩⟩⟩⟩⟩⟩⟩⟩⟩))) ?_
  refine xX_blk (w := xw_201) eT_201 1 8 (ls' := [.int a]) (st' := [.int (-1)]) (σ' := σ) rfl ?_
  obtain rfl := Option.some.inj h
  exact xX_ret (w := xw_201) (i := 9) eT_201 rfl rfl
def F_X11_isFigure (a : Int32) (σ : xM) : Option (Int32) :=
  if (σ 141 13) ≤ a then
    some 0
  else
    xgd (xin a 120) (
    xbd (F_X11_in (((σ 153 a.toNatClampNeg) : Int32).toInt64) 48 57 σ) fun r3 =>
    if r3 = 0 then
      some 0
    else
      some 1)
set_option maxHeartbeats 1000000 in
set_option maxRecDepth 20000 in
theorem T_X11_isFigure (a : Int32) (σ : xM) {d : Nat} {q : Int32} (hd : 1 ≤ d) (h : F_X11_isFigure a σ = some q) : xR xT xLn d 199 [.ref 141, .int a] σ (some (.int q), σ) := by
  unfold F_X11_isFigure at h
  show xX xT xLn d 199 0 [.ref 141, .int a] [] σ _
  refine xX_blk (w := xw_199) eT_199 3 0 (ls' := [.ref 141, .int a]) (st' := [.int (σ 141 13), .int a]) (σ' := σ) rfl ?_
  refine xX_ite (c := (σ 141 13) ≤ a) (w := xw_199) (i := 3) (a := 15) (b := 4) (st' := []) eT_199 rfl rfl (fun hc1 => ?_) (fun hc1 => ?_)
  · rw [if_pos hc1] at h
    refine xX_blk (w := xw_199) eT_199 1 15 (ls' := [.ref 141, .int a]) (st' := [.int 0]) (σ' := σ) rfl ?_
    obtain rfl := Option.some.inj h
    exact xX_ret (w := xw_199) (i := 16) eT_199 rfl (e_ret2 (by decide))
  · rw [if_neg hc1] at h
    refine xX_blk (w := xw_199) eT_199 3 4 (ls' := [.ref 141, .int a]) (st' := [.int a, .ref 153]) (σ' := σ) rfl ?_
    obtain ⟨hi2, h⟩ := xgd_inv h
    refine xX_one (w := xw_199) (i := 7) (ls' := [.ref 141, .int a]) (st' := [.int (σ 153 a.toNatClampNeg)]) (σ' := σ) eT_199 rfl (e_iald xs_153 hi2) ?_
    refine xX_blk (w := xw_199) eT_199 3 8 (ls' := [.ref 141, .int a]) (st' := [.long 57, .long 48, .long (((σ 153 a.toNatClampNeg) : Int32).toInt64)]) (σ' := σ) rfl ?_
    obtain ⟨r3, hr3, h⟩ := xbd_inv h
    refine xX_c1 (w := xw_199) (i := 11) (ls := [.ref 141, .int a]) (rest := []) eT_199 rfl (by omega) rfl rfl rfl (T_X11_in (((σ 153 a.toNatClampNeg) : Int32).toInt64) 48 57 σ (by omega) hr3) ?_
    refine xX_ite (c := r3 = 0) (w := xw_199) (i := 12) (a := 15) (b := 13) (st' := []) eT_199 rfl rfl (fun hc4 => ?_) (fun hc4 => ?_)
    · rw [if_pos hc4] at h
      refine xX_blk (w := xw_199) eT_199 1 15 (ls' := [.ref 141, .int a]) (st' := [.int 0]) (σ' := σ) rfl ?_
      obtain rfl := Option.some.inj h
      exact xX_ret (w := xw_199) (i := 16) eT_199 rfl (e_ret2 (by decide))
    · rw [if_neg hc4] at h
      refine xX_blk (w := xw_199) eT_199 1 13 (ls' := [.ref 141, .int a]) (st' := [.int 1]) (σ' := σ) rfl ?_
      refine xX_jmp (w := xw_199) (i := 14) (a := 16) (st' := [.int 1]) eT_199 rfl rfl ?_
      obtain rfl := Option.some.inj h
      exact xX_ret (w := xw_199) (i := 16) eT_199 rfl (e_ret2 (by decide))
