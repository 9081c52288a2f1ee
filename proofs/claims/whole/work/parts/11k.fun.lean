def B_X11_takes_15 (p1 : Int32) (p2 : Int32) (p3 : Int32) (v4 : Int32) (σ : xM) : Option ((Int32 × xM) ⊕ ((Int32 × xM))) :=
  xbd (F_X11_isFigure (σ 141 14) σ) fun r5 =>
  if r5 = 0 then
    some (.inr (v4, σ))
  else
    if 3 ≤ v4 then
      some (.inr (v4, σ))
    else
      xgd (xin p2 3) (
      xgd (xin (σ 141 14) 120) (
      xgd (xin p2 3) (
      xlet (xup σ 154 p2.toNatClampNeg ((((10 : Int32) * (σ 154 p2.toNatClampNeg)) + (σ 153 (σ 141 14).toNatClampNeg)) - 48)) fun σ11 =>
      xlet (xup σ11 141 14 ((σ11 141 14) + 1)) fun σ12 =>
      some (.inl ((v4 + 1), σ12)))))
def L_X11_takes_15 (p1 : Int32) (p2 : Int32) (p3 : Int32) (v4 : Int32) (σ : xM) : Option ((Int32 × xM)) := xloop (fun s : Int32 × xM => B_X11_takes_15 p1 p2 p3 s.1 s.2) 6000 (v4, σ)
set_option maxHeartbeats 1000000 in
set_option maxRecDepth 20000 in
theorem TB_X11_takes_15 {d : Nat} {o : Option Value × xM} (p1 : Int32) (p2 : Int32) (p3 : Int32) (v4 : Int32) (σ : xM) {q : (Int32 × xM) ⊕ ((Int32 × xM))} (hd : 2 ≤ d) (h : B_X11_takes_15 p1 p2 p3 v4 σ = some q) (hB : ∀ s', q = .inl s' → xX xT xLn d 200 16 [.ref 141, .int p1, .int p2, .int p3, .int s'.1] [] s'.2 o) (hE : ∀ e', q = .inr e' → xX xT xLn d 200 51 [.ref 141, .int p1, .int p2, .int p3, .int e'.1] [] e'.2 o) : xX xT xLn d 200 16 [.ref 141, .int p1, .int p2, .int p3, .int v4] [] σ o := by
  unfold B_X11_takes_15 at h
  refine xX_blk (w := xw_200) eT_200 4 16 (ls' := [.ref 141, .int p1, .int p2, .int p3, .int v4]) (st' := [.int (σ 141 14), .ref 141]) (σ' := σ) rfl ?_
  obtain ⟨r5, hr5, h⟩ := xbd_inv h
  refine xX_c1 (w := xw_200) (i := 20) (ls := [.ref 141, .int p1, .int p2, .int p3, .int v4]) (rest := []) eT_200 rfl (by omega) rfl rfl rfl (T_X11_isFigure (σ 141 14) σ (by omega) hr5) ?_
  refine xX_ite (c := r5 = 0) (w := xw_200) (i := 21) (a := 51) (b := 22) (st' := []) eT_200 rfl rfl (fun hc6 => ?_) (fun hc6 => ?_)
  · rw [if_pos hc6] at h
    obtain rfl := Option.some.inj h
    exact hE (v4, σ) rfl
  · rw [if_neg hc6] at h
    refine xX_blk (w := xw_200) eT_200 2 22 (ls' := [.ref 141, .int p1, .int p2, .int p3, .int v4]) (st' := [.int 3, .int v4]) (σ' := σ) rfl ?_
    refine xX_ite (c := 3 ≤ v4) (w := xw_200) (i := 24) (a := 51) (b := 25) (st' := []) eT_200 rfl rfl (fun hc7 => ?_) (fun hc7 => ?_)
    · rw [if_pos hc7] at h
      obtain rfl := Option.some.inj h
      exact hE (v4, σ) rfl
    · rw [if_neg hc7] at h
      refine xX_blk (w := xw_200) eT_200 7 25 (ls' := [.ref 141, .int p1, .int p2, .int p3, .int v4]) (st' := [.int p2, .ref 154, .int 10, .int p2, .ref 154]) (σ' := σ) rfl ?_
      obtain ⟨hi8, h⟩ := xgd_inv h
      refine xX_one (w := xw_200) (i := 32) (ls' := [.ref 141, .int p1, .int p2, .int p3, .int v4]) (st' := [.int (σ 154 p2.toNatClampNeg), .int 10, .int p2, .ref 154]) (σ' := σ) eT_200 rfl (e_iald xs_154 hi8) ?_
      refine xX_blk (w := xw_200) eT_200 5 33 (ls' := [.ref 141, .int p1, .int p2, .int p3, .int v4]) (st' := [.int (σ 141 14), .ref 153, .int ((10 : Int32) * (σ 154 p2.toNatClampNeg)), .int p2, .ref 154]) (σ' := σ) rfl ?_
      obtain ⟨hi9, h⟩ := xgd_inv h
      refine xX_one (w := xw_200) (i := 38) (ls' := [.ref 141, .int p1, .int p2, .int p3, .int v4]) (st' := [.int (σ 153 (σ 141 14).toNatClampNeg), .int ((10 : Int32) * (σ 154 p2.toNatClampNeg)), .int p2, .ref 154]) (σ' := σ) eT_200 rfl (e_iald xs_153 hi9) ?_
      refine xX_blk (w := xw_200) eT_200 3 39 (ls' := [.ref 141, .int p1, .int p2, .int p3, .int v4]) (st' := [.int ((((10 : Int32) * (σ 154 p2.toNatClampNeg)) + (σ 153 (σ 141 14).toNatClampNeg)) - 48), .int p2, .ref 154]) (σ' := σ) rfl ?_
      obtain ⟨hi10, h⟩ := xgd_inv h
      refine xX_one (w := xw_200) (i := 42) (ls' := [.ref 141, .int p1, .int p2, .int p3, .int v4]) (st' := []) (σ' := xup σ 154 p2.toNatClampNeg ((((10 : Int32) * (σ 154 p2.toNatClampNeg)) + (σ 153 (σ 141 14).toNatClampNeg)) - 48)) eT_200 rfl (e_iast xs_154 hi10) ?_
      obtain ⟨σ11, eσ11, h⟩ := xlet_inv h
      rw [← eσ11]
      refine xX_blk (w := xw_200) eT_200 5 43 (ls' := [.ref 141, .int p1, .int p2, .int p3, .int v4]) (st' := [.int ((σ11 141 14) + 1), .ref 141]) (σ' := σ11) rfl ?_
      refine xX_blk (w := xw_200) eT_200 1 48 (ls' := [.ref 141, .int p1, .int p2, .int p3, .int v4]) (st' := []) (σ' := xup σ11 141 14 ((σ11 141 14) + 1)) rfl ?_
      obtain ⟨σ12, eσ12, h⟩ := xlet_inv h
      rw [← eσ12]
      refine xX_blk (w := xw_200) eT_200 1 49 (ls' := [.ref 141, .int p1, .int p2, .int p3, .int (v4 + 1)]) (st' := []) (σ' := σ12) rfl ?_
      refine xX_jmp (w := xw_200) (i := 50) (a := 16) (st' := []) eT_200 rfl rfl ?_
      obtain rfl := Option.some.inj h
      exact hB ((v4 + 1), σ12) rfl
set_option maxHeartbeats 1000000 in
set_option maxRecDepth 20000 in
theorem TL_X11_takes_15 {d : Nat} {o : Option Value × xM} (p1 : Int32) (p2 : Int32) (p3 : Int32) (v4 : Int32) (σ : xM) {e : (Int32 × xM)} (hd : 2 ≤ d) (h : L_X11_takes_15 p1 p2 p3 v4 σ = some e) (hE : xX xT xLn d 200 51 [.ref 141, .int p1, .int p2, .int p3, .int e.1] [] e.2 o) : xX xT xLn d 200 16 [.ref 141, .int p1, .int p2, .int p3, .int v4] [] σ o :=
  xloop_snd (X := fun s => xX xT xLn d 200 16 [.ref 141, .int p1, .int p2, .int p3, .int s.1] [] s.2 o) (Y := fun e' => xX xT xLn d 200 51 [.ref 141, .int p1, .int p2, .int p3, .int e'.1] [] e'.2 o) (fun s q hs hB hE => TB_X11_takes_15 p1 p2 p3 s.1 s.2 hd hs hB hE) _ _ _ h hE
def B_X11_takes_2 (p1 : Int32) (v2 : Int32) (σ : xM) : Option ((Int32 × xM) ⊕ ((xM) ⊕ (xM))) :=
  if p1 ≤ v2 then
    some (.inr (.inr σ))
  else
    xbd (F_X11_here σ) fun r2 =>
    xgd (xin v2 3) (
    xlet (xup r2.2 154 v2.toNatClampNeg 0) fun σ4 =>
    xbd (L_X11_takes_15 p1 v2 r2.1 0 σ4) fun e13 =>
    if r2.1 = (-1) then
      some (.inr (.inl e13.2))
    else
      if e13.1 = 0 then
        some (.inr (.inl e13.2))
      else
        xbd (F_X11_isFigure (e13.2 141 14) e13.2) fun r16 =>
        if r16 = 0 then
          some (.inl ((v2 + 1), e13.2))
        else
          some (.inr (.inl e13.2)))
def L_X11_takes_2 (p1 : Int32) (v2 : Int32) (σ : xM) : Option ((xM) ⊕ (xM)) := xloop (fun s : Int32 × xM => B_X11_takes_2 p1 s.1 s.2) 6000 (v2, σ)
set_option maxHeartbeats 1000000 in
set_option maxRecDepth 20000 in
theorem TB_X11_takes_2 {d : Nat} {o : Option Value × xM} (p1 : Int32) (v2 : Int32) (σ : xM) {q : (Int32 × xM) ⊕ ((xM) ⊕ (xM))} (hd : 2 ≤ d) (h : B_X11_takes_2 p1 v2 σ = some q) (hB : ∀ s', q = .inl s' → ∀ (z3 z4 : Value), xX xT xLn d 200 2 [.ref 141, .int p1, .int s'.1, z3, z4] [] s'.2 o) (hE : ∀ e', q = .inr e' → (∀ a, e' = .inl a → ∀ (z0 z1 z2 z3 z4 : Value), xX xT xLn d 200 62 [z0, z1, z2, z3, z4] [] a o) ∧ (∀ a, e' = .inr (a) → ∀ (z0 z1 z2 z3 z4 : Value), xX xT xLn d 200 67 [z0, z1, z2, z3, z4] [] a o)) (z3 : Value) (z4 : Value) : xX xT xLn d 200 2 [.ref 141, .int p1, .int v2, z3, z4] [] σ o := by
  unfold B_X11_takes_2 at h
  refine xX_blk (w := xw_200) eT_200 3 2 (ls' := [.ref 141, .int p1, .int v2, .null, .null]) (st' := [.int p1, .int v2]) (σ' := σ) rfl ?_
  refine xX_ite (c := p1 ≤ v2) (w := xw_200) (i := 5) (a := 67) (b := 6) (st' := []) eT_200 rfl rfl (fun hc1 => ?_) (fun hc1 => ?_)
  · rw [if_pos hc1] at h
    obtain rfl := Option.some.inj h
    exact (hE (.inr σ) rfl).2 σ rfl _ _ _ _ _
  · rw [if_neg hc1] at h
    refine xX_blk (w := xw_200) eT_200 1 6 (ls' := [.ref 141, .int p1, .int v2, .null, .null]) (st' := [.ref 141]) (σ' := σ) rfl ?_
    obtain ⟨r2, hr2, h⟩ := xbd_inv h
    refine xX_c1 (w := xw_200) (i := 7) (ls := [.ref 141, .int p1, .int v2, .null, .null]) (rest := []) eT_200 rfl (by omega) rfl rfl rfl (T_X11_here σ (by omega) hr2) ?_
    refine xX_blk (w := xw_200) eT_200 7 8 (ls' := [.ref 141, .int p1, .int v2, .int r2.1, .int 0]) (st' := [.int 0, .int v2, .ref 154]) (σ' := r2.2) rfl ?_
    obtain ⟨hi3, h⟩ := xgd_inv h
    refine xX_one (w := xw_200) (i := 15) (ls' := [.ref 141, .int p1, .int v2, .int r2.1, .int 0]) (st' := []) (σ' := xup r2.2 154 v2.toNatClampNeg 0) eT_200 rfl (e_iast xs_154 hi3) ?_
    obtain ⟨σ4, eσ4, h⟩ := xlet_inv h
    rw [← eσ4]
    obtain ⟨e13, he13, h⟩ := xbd_inv h
    refine TL_X11_takes_15 p1 v2 r2.1 0 σ4 (by omega) he13 ?_
    refine xX_blk (w := xw_200) eT_200 3 51 (ls' := [.ref 141, .int p1, .int v2, .int r2.1, .int e13.1]) (st' := [.int (-1), .int r2.1]) (σ' := e13.2) rfl ?_
    refine xX_ite (c := r2.1 = (-1)) (w := xw_200) (i := 54) (a := 62) (b := 55) (st' := []) eT_200 rfl rfl (fun hc14 => ?_) (fun hc14 => ?_)
    · rw [if_pos hc14] at h
      obtain rfl := Option.some.inj h
      exact (hE (.inl e13.2) rfl).1 e13.2 rfl _ _ _ _ _
    · rw [if_neg hc14] at h
      refine xX_blk (w := xw_200) eT_200 1 55 (ls' := [.ref 141, .int p1, .int v2, .int r2.1, .int e13.1]) (st' := [.int e13.1]) (σ' := e13.2) rfl ?_
      refine xX_ite (c := e13.1 = 0) (w := xw_200) (i := 56) (a := 62) (b := 57) (st' := []) eT_200 rfl rfl (fun hc15 => ?_) (fun hc15 => ?_)
      · rw [if_pos hc15] at h
        obtain rfl := Option.some.inj h
        exact (hE (.inl e13.2) rfl).1 e13.2 rfl _ _ _ _ _
      · rw [if_neg hc15] at h
        refine xX_blk (w := xw_200) eT_200 3 57 (ls' := [.ref 141, .int p1, .int v2, .int r2.1, .int e13.1]) (st' := [.int (e13.2 141 14), .ref 141]) (σ' := e13.2) rfl ?_
        obtain ⟨r16, hr16, h⟩ := xbd_inv h
        refine xX_c1 (w := xw_200) (i := 60) (ls := [.ref 141, .int p1, .int v2, .int r2.1, .int e13.1]) (rest := []) eT_200 rfl (by omega) rfl rfl rfl (T_X11_isFigure (e13.2 141 14) e13.2 (by omega) hr16) ?_
        refine xX_ite (c := r16 = 0) (w := xw_200) (i := 61) (a := 65) (b := 62) (st' := []) eT_200 rfl rfl (fun hc17 => ?_) (fun hc17 => ?_)
        · rw [if_pos hc17] at h
          refine xX_blk (w := xw_200) eT_200 1 65 (ls' := [.ref 141, .int p1, .int (v2 + 1), .int r2.1, .int e13.1]) (st' := []) (σ' := e13.2) rfl ?_
          refine xX_jmp (w := xw_200) (i := 66) (a := 2) (st' := []) eT_200 rfl rfl ?_
          obtain rfl := Option.some.inj h
          exact hB ((v2 + 1), e13.2) rfl _ _
        · rw [if_neg hc17] at h
          obtain rfl := Option.some.inj h
          exact (hE (.inl e13.2) rfl).1 e13.2 rfl _ _ _ _ _
set_option maxHeartbeats 1000000 in
set_option maxRecDepth 20000 in
theorem TL_X11_takes_2 {d : Nat} {o : Option Value × xM} (p1 : Int32) (v2 : Int32) (σ : xM) {e : (xM) ⊕ (xM)} (hd : 2 ≤ d) (h : L_X11_takes_2 p1 v2 σ = some e) (hE0 : ∀ a, e = .inl a → ∀ (z0 z1 z2 z3 z4 : Value), xX xT xLn d 200 62 [z0, z1, z2, z3, z4] [] a o) (hE1 : ∀ a, e = .inr (a) → ∀ (z0 z1 z2 z3 z4 : Value), xX xT xLn d 200 67 [z0, z1, z2, z3, z4] [] a o) (z3 : Value) (z4 : Value) : xX xT xLn d 200 2 [.ref 141, .int p1, .int v2, z3, z4] [] σ o :=
  xloop_snd (X := fun s => ∀ (z3 z4 : Value), xX xT xLn d 200 2 [.ref 141, .int p1, .int s.1, z3, z4] [] s.2 o) (Y := fun e' => (∀ a, e' = .inl a → ∀ (z0 z1 z2 z3 z4 : Value), xX xT xLn d 200 62 [z0, z1, z2, z3, z4] [] a o) ∧ (∀ a, e' = .inr (a) → ∀ (z0 z1 z2 z3 z4 : Value), xX xT xLn d 200 67 [z0, z1, z2, z3, z4] [] a o)) (fun s q hs hB hE z3 z4 => TB_X11_takes_2 p1 s.1 s.2 hd hs hB hE z3 z4) _ _ _ h ⟨hE0, hE1⟩ z3 z4
def F_X11_takes (a : Int32) (σ : xM) : Option (Int32 × xM) :=
  xbd (L_X11_takes_2 a 0 σ) fun e18 =>
  xsm e18 (fun ae180 =>
    some (0, ae180))
  (fun ae181 =>
    some (1, ae181))
set_option maxHeartbeats 1000000 in
set_option maxRecDepth 20000 in
theorem T_X11_takes (a : Int32) (σ : xM) {d : Nat} {q : Int32 × xM} (hd : 2 ≤ d) (h : F_X11_takes a σ = some q) : xR xT xLn d 200 [.ref 141, .int a] σ (some (.int q.1), q.2) := by
  unfold F_X11_takes at h
  show xX xT xLn d 200 0 [.ref 141, .int a, .null, .null, .null] [] σ _
  refine xX_blk (w := xw_200) eT_200 2 0 (ls' := [.ref 141, .int a, .int 0, .null, .null]) (st' := []) (σ' := σ) rfl ?_
  obtain ⟨e18, he18, h⟩ := xbd_inv h
  refine TL_X11_takes_2 a 0 σ (by omega) he18 (fun ae180 hee180 z0 z1 z2 z3 z4 => ?_) (fun ae181 hee181 z0 z1 z2 z3 z4 => ?_) _ _
  · subst hee180
    rw [xsm_l] at h
    refine xX_blk (w := xw_200) eT_200 2 62 (ls' := [.null, .null, .null, .null, .null]) (st' := [.int 0]) (σ' := ae180) rfl ?_
    obtain rfl := Option.some.inj h
    exact xX_ret (w := xw_200) (i := 64) eT_200 rfl (e_ret2 (by decide))
  · subst hee181
    rw [xsm_r] at h
    refine xX_blk (w := xw_200) eT_200 2 67 (ls' := [.null, .null, .null, .null, .null]) (st' := [.int 1]) (σ' := ae181) rfl ?_
    obtain rfl := Option.some.inj h
    exact xX_ret (w := xw_200) (i := 69) eT_200 rfl (e_ret2 (by decide))
def F_X11_can (a : Int32) (σ : xM) : Option (Int32 × xM) :=
  if a = 97 then
    xbd (F_X11_canArea (σ 154 0) σ) fun r2 =>
    some (r2, σ)
  else if a = 100 then
    xbd (F_X11_canDrain (σ 154 0) σ) fun r4 =>
    some (r4, σ)
  else if a = 108 then
    xbd (F_X11_canLine (σ 154 0) (σ 154 1) (σ 154 2) σ) fun r6 =>
    some (r6, σ)
  else if a = 109 then
    xbd (F_X11_canMood (σ 154 0) (σ 154 1) σ) fun r8 =>
    some (r8, σ)
  else if a = 111 then
    xbd (F_X11_canOpen (σ 154 0) (σ 154 1) (σ 154 2) σ) fun r10 =>
    some (r10.1, r10.2)
  else if a = 112 then
    xbd (F_X11_canStep (σ 154 0) (σ 154 1) σ) fun r12 =>
    some (r12, σ)
  else if a = 115 then
    xbd (F_X11_canSite (σ 154 0) (σ 154 1) σ) fun r14 =>
    some (r14, σ)
  else if a = 120 then
    xbd (F_X11_isSite (σ 154 0) σ) fun r16 =>
    if r16 = 0 then
      some ((-2), σ)
    else
      some (0, σ)
  else 
  xbd (F_X11_in (((σ 154 0) : Int32).toInt64) 1 30 σ) fun r18 =>
  if r18 = 0 then
    some ((-2), σ)
  else
    some (0, σ)
set_option maxHeartbeats 1000000 in
set_option maxRecDepth 20000 in
theorem T_X11_can (a : Int32) (σ : xM) {d : Nat} {q : Int32 × xM} (hd : 4 ≤ d) (h : F_X11_can a σ = some q) : xR xT xLn d 202 [.ref 141, .int a] σ (some (.int q.1), q.2) := by
  unfold F_X11_can at h
  show xX xT xLn d 202 0 [.ref 141, .int a, .null, .null] [] σ _
  refine xX_blk (w := xw_202) eT_202 3 0 (ls' := [.ref 141, .int a, .null, .null]) (st' := [.int 0, .ref 154]) (σ' := σ) rfl ?_
  refine xX_one (w := xw_202) (i := 3) (ls' := [.ref 141, .int a, .null, .null]) (st' := [.int (σ 154 0)]) (σ' := σ) eT_202 rfl (e_ialK xs_154 (by decide) (by decide)) ?_
  refine xX_blk (w := xw_202) eT_202 4 4 (ls' := [.ref 141, .int a, .int (σ 154 0), .null]) (st' := [.int 1, .ref 154]) (σ' := σ) rfl ?_
  refine xX_one (w := xw_202) (i := 8) (ls' := [.ref 141, .int a, .int (σ 154 0), .null]) (st' := [.int (σ 154 1)]) (σ' := σ) eT_202 rfl (e_ialK xs_154 (by decide) (by decide)) ?_
  refine xX_blk (w := xw_202) eT_202 2 9 (ls' := [.ref 141, .int a, .int (σ 154 0), .int (σ 154 1)]) (st' := [.int a]) (σ' := σ) rfl ?_
  by_cases hc1 : a = 97
  · rw [if_pos hc1] at h
    refine xX_jmp (w := xw_202) (i := 11) (a := 45) (st' := []) eT_202 rfl (e_tsw (by rw [hc1]; decide)) ?_
    refine xX_blk (w := xw_202) eT_202 2 45 (ls' := [.ref 141, .int a, .int (σ 154 0), .int (σ 154 1)]) (st' := [.int (σ 154 0), .ref 141]) (σ' := σ) rfl ?_
    obtain ⟨r2, hr2, h⟩ := xbd_inv h
    refine xX_c1 (w := xw_202) (i := 47) (ls := [.ref 141, .int a, .int (σ 154 0), .int (σ 154 1)]) (rest := []) eT_202 rfl (by omega) rfl rfl rfl (T_X11_canArea (σ 154 0) σ (by omega) hr2) ?_
    obtain rfl := Option.some.inj h
    exact xX_ret (w := xw_202) (i := 48) eT_202 rfl rfl
  rw [if_neg hc1] at h
  by_cases hc3 : a = 100
  · rw [if_pos hc3] at h
    refine xX_jmp (w := xw_202) (i := 11) (a := 49) (st' := []) eT_202 rfl (e_tsw (by rw [hc3]; decide)) ?_
    refine xX_blk (w := xw_202) eT_202 2 49 (ls' := [.ref 141, .int a, .int (σ 154 0), .int (σ 154 1)]) (st' := [.int (σ 154 0), .ref 141]) (σ' := σ) rfl ?_
    obtain ⟨r4, hr4, h⟩ := xbd_inv h
    refine xX_c1 (w := xw_202) (i := 51) (ls := [.ref 141, .int a, .int (σ 154 0), .int (σ 154 1)]) (rest := []) eT_202 rfl (by omega) rfl rfl rfl (T_X11_canDrain (σ 154 0) σ (by omega) hr4) ?_
    obtain rfl := Option.some.inj h
    exact xX_ret (w := xw_202) (i := 52) eT_202 rfl rfl
  rw [if_neg hc3] at h
  by_cases hc5 : a = 108
  · rw [if_pos hc5] at h
    refine xX_jmp (w := xw_202) (i := 11) (a := 12) (st' := []) eT_202 rfl (e_tsw (by rw [hc5]; decide)) ?_
    refine xX_blk (w := xw_202) eT_202 6 12 (ls' := [.ref 141, .int a, .int (σ 154 0), .int (σ 154 1)]) (st' := [.int 2, .ref 154, .int (σ 154 1), .int (σ 154 0), .ref 141]) (σ' := σ) rfl ?_
    refine xX_one (w := xw_202) (i := 18) (ls' := [.ref 141, .int a, .int (σ 154 0), .int (σ 154 1)]) (st' := [.int (σ 154 2), .int (σ 154 1), .int (σ 154 0), .ref 141]) (σ' := σ) eT_202 rfl (e_ialK xs_154 (by decide) (by decide)) ?_
    obtain ⟨r6, hr6, h⟩ := xbd_inv h
    refine xX_c1 (w := xw_202) (i := 19) (ls := [.ref 141, .int a, .int (σ 154 0), .int (σ 154 1)]) (rest := []) eT_202 rfl (by omega) rfl rfl rfl (T_X11_canLine (σ 154 0) (σ 154 1) (σ 154 2) σ (by omega) hr6) ?_
    obtain rfl := Option.some.inj h
    exact xX_ret (w := xw_202) (i := 20) eT_202 rfl rfl
  rw [if_neg hc5] at h
  by_cases hc7 : a = 109
  · rw [if_pos hc7] at h
    refine xX_jmp (w := xw_202) (i := 11) (a := 35) (st' := []) eT_202 rfl (e_tsw (by rw [hc7]; decide)) ?_
    refine xX_blk (w := xw_202) eT_202 3 35 (ls' := [.ref 141, .int a, .int (σ 154 0), .int (σ 154 1)]) (st' := [.int (σ 154 1), .int (σ 154 0), .ref 141]) (σ' := σ) rfl ?_
    obtain ⟨r8, hr8, h⟩ := xbd_inv h
    refine xX_c1 (w := xw_202) (i := 38) (ls := [.ref 141, .int a, .int (σ 154 0), .int (σ 154 1)]) (rest := []) eT_202 rfl (by omega) rfl rfl rfl (T_X11_canMood (σ 154 0) (σ 154 1) σ (by omega) hr8) ?_
    obtain rfl := Option.some.inj h
    exact xX_ret (w := xw_202) (i := 39) eT_202 rfl rfl
  rw [if_neg hc7] at h
  by_cases hc9 : a = 111
  · rw [if_pos hc9] at h
    refine xX_jmp (w := xw_202) (i := 11) (a := 21) (st' := []) eT_202 rfl (e_tsw (by rw [hc9]; decide)) ?_
    refine xX_blk (w := xw_202) eT_202 6 21 (ls' := [.ref 141, .int a, .int (σ 154 0), .int (σ 154 1)]) (st' := [.int 2, .ref 154, .int (σ 154 1), .int (σ 154 0), .ref 141]) (σ' := σ) rfl ?_
    refine xX_one (w := xw_202) (i := 27) (ls' := [.ref 141, .int a, .int (σ 154 0), .int (σ 154 1)]) (st' := [.int (σ 154 2), .int (σ 154 1), .int (σ 154 0), .ref 141]) (σ' := σ) eT_202 rfl (e_ialK xs_154 (by decide) (by decide)) ?_
    obtain ⟨r10, hr10, h⟩ := xbd_inv h
    refine xX_c1 (w := xw_202) (i := 28) (ls := [.ref 141, .int a, .int (σ 154 0), .int (σ 154 1)]) (rest := []) eT_202 rfl (by omega) rfl rfl rfl (T_X11_canOpen (σ 154 0) (σ 154 1) (σ 154 2) σ (by omega) hr10) ?_
    obtain rfl := Option.some.inj h
    exact xX_ret (w := xw_202) (i := 29) eT_202 rfl rfl
  rw [if_neg hc9] at h
  by_cases hc11 : a = 112
  · rw [if_pos hc11] at h
    refine xX_jmp (w := xw_202) (i := 11) (a := 40) (st' := []) eT_202 rfl (e_tsw (by rw [hc11]; decide)) ?_
    refine xX_blk (w := xw_202) eT_202 3 40 (ls' := [.ref 141, .int a, .int (σ 154 0), .int (σ 154 1)]) (st' := [.int (σ 154 1), .int (σ 154 0), .ref 141]) (σ' := σ) rfl ?_
    obtain ⟨r12, hr12, h⟩ := xbd_inv h
    refine xX_c1 (w := xw_202) (i := 43) (ls := [.ref 141, .int a, .int (σ 154 0), .int (σ 154 1)]) (rest := []) eT_202 rfl (by omega) rfl rfl rfl (T_X11_canStep (σ 154 0) (σ 154 1) σ (by omega) hr12) ?_
    obtain rfl := Option.some.inj h
    exact xX_ret (w := xw_202) (i := 44) eT_202 rfl rfl
  rw [if_neg hc11] at h
  by_cases hc13 : a = 115
  · rw [if_pos hc13] at h
    refine xX_jmp (w := xw_202) (i := 11) (a := 30) (st' := []) eT_202 rfl (e_tsw (by rw [hc13]; decide)) ?_
    refine xX_blk (w := xw_202) eT_202 3 30 (ls' := [.ref 141, .int a, .int (σ 154 0), .int (σ 154 1)]) (st' := [.int (σ 154 1), .int (σ 154 0), .ref 141]) (σ' := σ) rfl ?_
    obtain ⟨r14, hr14, h⟩ := xbd_inv h
    refine xX_c1 (w := xw_202) (i := 33) (ls := [.ref 141, .int a, .int (σ 154 0), .int (σ 154 1)]) (rest := []) eT_202 rfl (by omega) rfl rfl rfl (T_X11_canSite (σ 154 0) (σ 154 1) σ (by omega) hr14) ?_
    obtain rfl := Option.some.inj h
    exact xX_ret (w := xw_202) (i := 34) eT_202 rfl rfl
  rw [if_neg hc13] at h
  by_cases hc15 : a = 120
  · rw [if_pos hc15] at h
    refine xX_jmp (w := xw_202) (i := 11) (a := 53) (st' := []) eT_202 rfl (e_tsw (by rw [hc15]; decide)) ?_
    refine xX_blk (w := xw_202) eT_202 2 53 (ls' := [.ref 141, .int a, .int (σ 154 0), .int (σ 154 1)]) (st' := [.int (σ 154 0), .ref 141]) (σ' := σ) rfl ?_
    obtain ⟨r16, hr16, h⟩ := xbd_inv h
    refine xX_c1 (w := xw_202) (i := 55) (ls := [.ref 141, .int a, .int (σ 154 0), .int (σ 154 1)]) (rest := []) eT_202 rfl (by omega) rfl rfl rfl (T_X11_isSite (σ 154 0) σ (by omega) hr16) ?_
    refine xX_ite (c := r16 = 0) (w := xw_202) (i := 56) (a := 59) (b := 57) (st' := []) eT_202 rfl rfl (fun hc17 => ?_) (fun hc17 => ?_)
    · rw [if_pos hc17] at h
      refine xX_blk (w := xw_202) eT_202 1 59 (ls' := [.ref 141, .int a, .int (σ 154 0), .int (σ 154 1)]) (st' := [.int (-2)]) (σ' := σ) rfl ?_
      obtain rfl := Option.some.inj h
      exact xX_ret (w := xw_202) (i := 60) eT_202 rfl rfl
    · rw [if_neg hc17] at h
      refine xX_blk (w := xw_202) eT_202 1 57 (ls' := [.ref 141, .int a, .int (σ 154 0), .int (σ 154 1)]) (st' := [.int 0]) (σ' := σ) rfl ?_
      refine xX_jmp (w := xw_202) (i := 58) (a := 60) (st' := [.int 0]) eT_202 rfl rfl ?_
      obtain rfl := Option.some.inj h
      exact xX_ret (w := xw_202) (i := 60) eT_202 rfl rfl
  rw [if_neg hc15] at h
  refine xX_jmp (w := xw_202) (i := 11) (a := 61) (st' := []) eT_202 rfl (e_tsw (e_tswd [97, 100, 108, 109, 111, 112, 115, 120] (by decide) (List.forall_mem_cons.mpr ⟨hc1, List.forall_mem_cons.mpr ⟨hc3, List.forall_mem_cons.mpr ⟨hc5, List.forall_mem_cons.mpr ⟨hc7, List.forall_mem_cons.mpr ⟨hc9, List.forall_mem_cons.mpr ⟨hc11, List.forall_mem_cons.mpr ⟨hc13, List.forall_mem_cons.mpr ⟨hc15, fun _ h => absurd h List.not_mem_nil⟩⟩⟩⟩⟩⟩⟩⟩))) ?_
  refine xX_blk (w := xw_202) eT_202 4 61 (ls' := [.ref 141, .int a, .int (σ 154 0), .int (σ 154 1)]) (st' := [.long 30, .long 1, .long (((σ 154 0) : Int32).toInt64)]) (σ' := σ) rfl ?_
  obtain ⟨r18, hr18, h⟩ := xbd_inv h
  refine xX_c1 (w := xw_202) (i := 65) (ls := [.ref 141, .int a, .int (σ 154 0), .int (σ 154 1)]) (rest := []) eT_202 rfl (by omega) rfl rfl rfl (T_X11_in (((σ 154 0) : Int32).toInt64) 1 30 σ (by omega) hr18) ?_
  refine xX_ite (c := r18 = 0) (w := xw_202) (i := 66) (a := 69) (b := 67) (st' := []) eT_202 rfl rfl (fun hc19 => ?_) (fun hc19 => ?_)
  · rw [if_pos hc19] at h
    refine xX_blk (w := xw_202) eT_202 1 69 (ls' := [.ref 141, .int a, .int (σ 154 0), .int (σ 154 1)]) (st' := [.int (-2)]) (σ' := σ) rfl ?_
    obtain rfl := Option.some.inj h
    exact xX_ret (w := xw_202) (i := 70) eT_202 rfl rfl
  · rw [if_neg hc19] at h
    refine xX_blk (w := xw_202) eT_202 1 67 (ls' := [.ref 141, .int a, .int (σ 154 0), .int (σ 154 1)]) (st' := [.int 0]) (σ' := σ) rfl ?_
    refine xX_jmp (w := xw_202) (i := 68) (a := 70) (st' := [.int 0]) eT_202 rfl rfl ?_
    obtain rfl := Option.some.inj h
    exact xX_ret (w := xw_202) (i := 70) eT_202 rfl rfl
def F_X11_does (a : Int32) (σ : xM) : Option (Int32 × xM) :=
  if a = 97 then
    xbd (F_X11_areaNow (σ 154 0) σ) fun r2 =>
    some (r2.1, r2.2)
  else if a = 100 then
    xbd (F_X11_drainNow (σ 154 0) σ) fun r4 =>
    some (r4.1, r4.2)
  else if a = 108 then
    xbd (F_X11_lineNow (σ 154 0) (σ 154 1) (σ 154 2) σ) fun r6 =>
    some (r6.1, r6.2)
  else if a = 109 then
    xbd (F_X11_moodNow (σ 154 0) (σ 154 1) σ) fun r8 =>
    some (r8.1, r8.2)
  else if a = 111 then
    xbd (F_X11_openNow (σ 154 0) (σ 154 1) (σ 154 2) σ) fun r10 =>
    some (r10.1, r10.2)
  else if a = 112 then
    xbd (F_X11_stepNow (σ 154 0) (σ 154 1) σ) fun r12 =>
    some (r12.1, r12.2)
  else if a = 115 then
    xbd (F_X11_siteNow (σ 154 0) (σ 154 1) σ) fun r14 =>
    some (r14.1, r14.2)
  else if a = 120 then
    xbd (F_X11_cutNow (σ 154 0) σ) fun r16 =>
    some (r16.1, r16.2)
  else 
  xbd (F_X11_tickNow (σ 154 0) σ) fun r17 =>
  some (r17.1, r17.2)
set_option maxHeartbeats 1000000 in
set_option maxRecDepth 20000 in
theorem T_X11_does (a : Int32) (σ : xM) {d : Nat} {q : Int32 × xM} (hd : 8 ≤ d) (h : F_X11_does a σ = some q) : xR xT xLn d 203 [.ref 141, .int a] σ (some (.int q.1), q.2) := by
  unfold F_X11_does at h
  show xX xT xLn d 203 0 [.ref 141, .int a, .null, .null] [] σ _
  refine xX_blk (w := xw_203) eT_203 3 0 (ls' := [.ref 141, .int a, .null, .null]) (st' := [.int 0, .ref 154]) (σ' := σ) rfl ?_
  refine xX_one (w := xw_203) (i := 3) (ls' := [.ref 141, .int a, .null, .null]) (st' := [.int (σ 154 0)]) (σ' := σ) eT_203 rfl (e_ialK xs_154 (by decide) (by decide)) ?_
  refine xX_blk (w := xw_203) eT_203 4 4 (ls' := [.ref 141, .int a, .int (σ 154 0), .null]) (st' := [.int 1, .ref 154]) (σ' := σ) rfl ?_
  refine xX_one (w := xw_203) (i := 8) (ls' := [.ref 141, .int a, .int (σ 154 0), .null]) (st' := [.int (σ 154 1)]) (σ' := σ) eT_203 rfl (e_ialK xs_154 (by decide) (by decide)) ?_
  refine xX_blk (w := xw_203) eT_203 2 9 (ls' := [.ref 141, .int a, .int (σ 154 0), .int (σ 154 1)]) (st' := [.int a]) (σ' := σ) rfl ?_
  by_cases hc1 : a = 97
  · rw [if_pos hc1] at h
    refine xX_jmp (w := xw_203) (i := 11) (a := 45) (st' := []) eT_203 rfl (e_tsw (by rw [hc1]; decide)) ?_
    refine xX_blk (w := xw_203) eT_203 2 45 (ls' := [.ref 141, .int a, .int (σ 154 0), .int (σ 154 1)]) (st' := [.int (σ 154 0), .ref 141]) (σ' := σ) rfl ?_
    obtain ⟨r2, hr2, h⟩ := xbd_inv h
    refine xX_c1 (w := xw_203) (i := 47) (ls := [.ref 141, .int a, .int (σ 154 0), .int (σ 154 1)]) (rest := []) eT_203 rfl (by omega) rfl rfl rfl (T_X11_areaNow (σ 154 0) σ (by omega) hr2) ?_
    obtain rfl := Option.some.inj h
    exact xX_ret (w := xw_203) (i := 48) eT_203 rfl rfl
  rw [if_neg hc1] at h
  by_cases hc3 : a = 100
  · rw [if_pos hc3] at h
    refine xX_jmp (w := xw_203) (i := 11) (a := 49) (st' := []) eT_203 rfl (e_tsw (by rw [hc3]; decide)) ?_
    refine xX_blk (w := xw_203) eT_203 2 49 (ls' := [.ref 141, .int a, .int (σ 154 0), .int (σ 154 1)]) (st' := [.int (σ 154 0), .ref 141]) (σ' := σ) rfl ?_
    obtain ⟨r4, hr4, h⟩ := xbd_inv h
    refine xX_c1 (w := xw_203) (i := 51) (ls := [.ref 141, .int a, .int (σ 154 0), .int (σ 154 1)]) (rest := []) eT_203 rfl (by omega) rfl rfl rfl (T_X11_drainNow (σ 154 0) σ (by omega) hr4) ?_
    obtain rfl := Option.some.inj h
    exact xX_ret (w := xw_203) (i := 52) eT_203 rfl rfl
  rw [if_neg hc3] at h
  by_cases hc5 : a = 108
  · rw [if_pos hc5] at h
    refine xX_jmp (w := xw_203) (i := 11) (a := 12) (st' := []) eT_203 rfl (e_tsw (by rw [hc5]; decide)) ?_
    refine xX_blk (w := xw_203) eT_203 6 12 (ls' := [.ref 141, .int a, .int (σ 154 0), .int (σ 154 1)]) (st' := [.int 2, .ref 154, .int (σ 154 1), .int (σ 154 0), .ref 141]) (σ' := σ) rfl ?_
    refine xX_one (w := xw_203) (i := 18) (ls' := [.ref 141, .int a, .int (σ 154 0), .int (σ 154 1)]) (st' := [.int (σ 154 2), .int (σ 154 1), .int (σ 154 0), .ref 141]) (σ' := σ) eT_203 rfl (e_ialK xs_154 (by decide) (by decide)) ?_
    obtain ⟨r6, hr6, h⟩ := xbd_inv h
    refine xX_c1 (w := xw_203) (i := 19) (ls := [.ref 141, .int a, .int (σ 154 0), .int (σ 154 1)]) (rest := []) eT_203 rfl (by omega) rfl rfl rfl (T_X11_lineNow (σ 154 0) (σ 154 1) (σ 154 2) σ (by omega) hr6) ?_
    obtain rfl := Option.some.inj h
    exact xX_ret (w := xw_203) (i := 20) eT_203 rfl rfl
  rw [if_neg hc5] at h
  by_cases hc7 : a = 109
  · rw [if_pos hc7] at h
    refine xX_jmp (w := xw_203) (i := 11) (a := 35) (st' := []) eT_203 rfl (e_tsw (by rw [hc7]; decide)) ?_
    refine xX_blk (w := xw_203) eT_203 3 35 (ls' := [.ref 141, .int a, .int (σ 154 0), .int (σ 154 1)]) (st' := [.int (σ 154 1), .int (σ 154 0), .ref 141]) (σ' := σ) rfl ?_
    obtain ⟨r8, hr8, h⟩ := xbd_inv h
    refine xX_c1 (w := xw_203) (i := 38) (ls := [.ref 141, .int a, .int (σ 154 0), .int (σ 154 1)]) (rest := []) eT_203 rfl (by omega) rfl rfl rfl (T_X11_moodNow (σ 154 0) (σ 154 1) σ (by omega) hr8) ?_
    obtain rfl := Option.some.inj h
    exact xX_ret (w := xw_203) (i := 39) eT_203 rfl rfl
  rw [if_neg hc7] at h
  by_cases hc9 : a = 111
  · rw [if_pos hc9] at h
    refine xX_jmp (w := xw_203) (i := 11) (a := 21) (st' := []) eT_203 rfl (e_tsw (by rw [hc9]; decide)) ?_
    refine xX_blk (w := xw_203) eT_203 6 21 (ls' := [.ref 141, .int a, .int (σ 154 0), .int (σ 154 1)]) (st' := [.int 2, .ref 154, .int (σ 154 1), .int (σ 154 0), .ref 141]) (σ' := σ) rfl ?_
    refine xX_one (w := xw_203) (i := 27) (ls' := [.ref 141, .int a, .int (σ 154 0), .int (σ 154 1)]) (st' := [.int (σ 154 2), .int (σ 154 1), .int (σ 154 0), .ref 141]) (σ' := σ) eT_203 rfl (e_ialK xs_154 (by decide) (by decide)) ?_
    obtain ⟨r10, hr10, h⟩ := xbd_inv h
    refine xX_c1 (w := xw_203) (i := 28) (ls := [.ref 141, .int a, .int (σ 154 0), .int (σ 154 1)]) (rest := []) eT_203 rfl (by omega) rfl rfl rfl (T_X11_openNow (σ 154 0) (σ 154 1) (σ 154 2) σ (by omega) hr10) ?_
    obtain rfl := Option.some.inj h
    exact xX_ret (w := xw_203) (i := 29) eT_203 rfl rfl
  rw [if_neg hc9] at h
  by_cases hc11 : a = 112
  · rw [if_pos hc11] at h
    refine xX_jmp (w := xw_203) (i := 11) (a := 40) (st' := []) eT_203 rfl (e_tsw (by rw [hc11]; decide)) ?_
    refine xX_blk (w := xw_203) eT_203 3 40 (ls' := [.ref 141, .int a, .int (σ 154 0), .int (σ 154 1)]) (st' := [.int (σ 154 1), .int (σ 154 0), .ref 141]) (σ' := σ) rfl ?_
    obtain ⟨r12, hr12, h⟩ := xbd_inv h
    refine xX_c1 (w := xw_203) (i := 43) (ls := [.ref 141, .int a, .int (σ 154 0), .int (σ 154 1)]) (rest := []) eT_203 rfl (by omega) rfl rfl rfl (T_X11_stepNow (σ 154 0) (σ 154 1) σ (by omega) hr12) ?_
    obtain rfl := Option.some.inj h
    exact xX_ret (w := xw_203) (i := 44) eT_203 rfl rfl
  rw [if_neg hc11] at h
  by_cases hc13 : a = 115
  · rw [if_pos hc13] at h
    refine xX_jmp (w := xw_203) (i := 11) (a := 30) (st' := []) eT_203 rfl (e_tsw (by rw [hc13]; decide)) ?_
    refine xX_blk (w := xw_203) eT_203 3 30 (ls' := [.ref 141, .int a, .int (σ 154 0), .int (σ 154 1)]) (st' := [.int (σ 154 1), .int (σ 154 0), .ref 141]) (σ' := σ) rfl ?_
    obtain ⟨r14, hr14, h⟩ := xbd_inv h
    refine xX_c1 (w := xw_203) (i := 33) (ls := [.ref 141, .int a, .int (σ 154 0), .int (σ 154 1)]) (rest := []) eT_203 rfl (by omega) rfl rfl rfl (T_X11_siteNow (σ 154 0) (σ 154 1) σ (by omega) hr14) ?_
    obtain rfl := Option.some.inj h
    exact xX_ret (w := xw_203) (i := 34) eT_203 rfl rfl
  rw [if_neg hc13] at h
  by_cases hc15 : a = 120
  · rw [if_pos hc15] at h
    refine xX_jmp (w := xw_203) (i := 11) (a := 53) (st' := []) eT_203 rfl (e_tsw (by rw [hc15]; decide)) ?_
    refine xX_blk (w := xw_203) eT_203 2 53 (ls' := [.ref 141, .int a, .int (σ 154 0), .int (σ 154 1)]) (st' := [.int (σ 154 0), .ref 141]) (σ' := σ) rfl ?_
    obtain ⟨r16, hr16, h⟩ := xbd_inv h
    refine xX_c1 (w := xw_203) (i := 55) (ls := [.ref 141, .int a, .int (σ 154 0), .int (σ 154 1)]) (rest := []) eT_203 rfl (by omega) rfl rfl rfl (T_X11_cutNow (σ 154 0) σ (by omega) hr16) ?_
    obtain rfl := Option.some.inj h
    exact xX_ret (w := xw_203) (i := 56) eT_203 rfl rfl
  rw [if_neg hc15] at h
  refine xX_jmp (w := xw_203) (i := 11) (a := 57) (st' := []) eT_203 rfl (e_tsw (e_tswd [97, 100, 108, 109, 111, 112, 115, 120] (by decide) (List.forall_mem_cons.mpr ⟨hc1, List.forall_mem_cons.mpr ⟨hc3, List.forall_mem_cons.mpr ⟨hc5, List.forall_mem_cons.mpr ⟨hc7, List.forall_mem_cons.mpr ⟨hc9, List.forall_mem_cons.mpr ⟨hc11, List.forall_mem_cons.mpr ⟨hc13, List.forall_mem_cons.mpr ⟨hc15, fun _ h => absurd h List.not_mem_nil⟩⟩⟩⟩⟩⟩⟩⟩))) ?_
  refine xX_blk (w := xw_203) eT_203 2 57 (ls' := [.ref 141, .int a, .int (σ 154 0), .int (σ 154 1)]) (st' := [.int (σ 154 0), .ref 141]) (σ' := σ) rfl ?_
  obtain ⟨r17, hr17, h⟩ := xbd_inv h
  refine xX_c1 (w := xw_203) (i := 59) (ls := [.ref 141, .int a, .int (σ 154 0), .int (σ 154 1)]) (rest := []) eT_203 rfl (by omega) rfl rfl rfl (T_X11_tickNow (σ 154 0) σ (by omega) hr17) ?_
  obtain rfl := Option.some.inj h
  exact xX_ret (w := xw_203) (i := 60) eT_203 rfl rfl
def F_X11_readsOrder (a : Int32) (σ : xM) : Option (Int32 × xM) :=
  xbd (F_X11_here σ) fun r1 =>
  xbd (F_X11_numbersOf r1.1 r1.2) fun r2 =>
  if r2 = (-1) then
    some (0, r1.2)
  else
    xlet (xup r1.2 141 14 ((r1.2 141 14) + 1)) fun σ4 =>
    xbd (F_X11_takes r2 σ4) fun r5 =>
    if r5.1 = 0 then
      some (0, r5.2)
    else
      xbd (F_X11_here r5.2) fun r7 =>
      if r7.1 = 59 then
        xlet (xup r7.2 141 14 ((r7.2 141 14) + 1)) fun σ9 =>
        if a = 0 then
          some (1, σ9)
        else
          xbd (F_X11_can r1.1 σ9) fun r11 =>
          xlet (xup r11.2 141 16 r11.1) fun σ12 =>
          if (σ12 141 16) = 0 then
            xbd (F_X11_does r1.1 σ12) fun r14 =>
            some (1, r14.2)
          else
            some (1, σ12)
      else
        some (0, r7.2)
set_option maxHeartbeats 1000000 in
set_option maxRecDepth 20000 in
theorem T_X11_readsOrder (a : Int32) (σ : xM) {d : Nat} {q : Int32 × xM} (hd : 9 ≤ d) (h : F_X11_readsOrder a σ = some q) : xR xT xLn d 204 [.ref 141, .int a] σ (some (.int q.1), q.2) := by
  unfold F_X11_readsOrder at h
  show xX xT xLn d 204 0 [.ref 141, .int a, .null, .null, .null] [] σ _
  refine xX_blk (w := xw_204) eT_204 1 0 (ls' := [.ref 141, .int a, .null, .null, .null]) (st' := [.ref 141]) (σ' := σ) rfl ?_
  obtain ⟨r1, hr1, h⟩ := xbd_inv h
  refine xX_c1 (w := xw_204) (i := 1) (ls := [.ref 141, .int a, .null, .null, .null]) (rest := []) eT_204 rfl (by omega) rfl rfl rfl (T_X11_here σ (by omega) hr1) ?_
  refine xX_blk (w := xw_204) eT_204 2 2 (ls' := [.ref 141, .int a, .int r1.1, .null, .null]) (st' := [.int r1.1]) (σ' := r1.2) rfl ?_
  obtain ⟨r2, hr2, h⟩ := xbd_inv h
  refine xX_c1 (w := xw_204) (i := 4) (ls := [.ref 141, .int a, .int r1.1, .null, .null]) (rest := []) eT_204 rfl (by omega) rfl rfl rfl (T_X11_numbersOf r1.1 r1.2 (by omega) hr2) ?_
  refine xX_blk (w := xw_204) eT_204 3 5 (ls' := [.ref 141, .int a, .int r1.1, .int r2, .null]) (st' := [.int (-1), .int r2]) (σ' := r1.2) rfl ?_
  refine xX_ite (c := r2 = (-1)) (w := xw_204) (i := 8) (a := 9) (b := 11) (st' := []) eT_204 rfl rfl (fun hc3 => ?_) (fun hc3 => ?_)
  · rw [if_pos hc3] at h
    refine xX_blk (w := xw_204) eT_204 1 9 (ls' := [.ref 141, .int a, .int r1.1, .int r2, .null]) (st' := [.int 0]) (σ' := r1.2) rfl ?_
    obtain rfl := Option.some.inj h
    exact xX_ret (w := xw_204) (i := 10) eT_204 rfl (e_ret2 (by decide))
  · rw [if_neg hc3] at h
    refine xX_blk (w := xw_204) eT_204 5 11 (ls' := [.ref 141, .int a, .int r1.1, .int r2, .null]) (st' := [.int ((r1.2 141 14) + 1), .ref 141]) (σ' := r1.2) rfl ?_
    refine xX_blk (w := xw_204) eT_204 1 16 (ls' := [.ref 141, .int a, .int r1.1, .int r2, .null]) (st' := []) (σ' := xup r1.2 141 14 ((r1.2 141 14) + 1)) rfl ?_
    obtain ⟨σ4, eσ4, h⟩ := xlet_inv h
    rw [← eσ4]
    refine xX_blk (w := xw_204) eT_204 2 17 (ls' := [.ref 141, .int a, .int r1.1, .int r2, .null]) (st' := [.int r2, .ref 141]) (σ' := σ4) rfl ?_
    obtain ⟨r5, hr5, h⟩ := xbd_inv h
    refine xX_c1 (w := xw_204) (i := 19) (ls := [.ref 141, .int a, .int r1.1, .int r2, .null]) (rest := []) eT_204 rfl (by omega) rfl rfl rfl (T_X11_takes r2 σ4 (by omega) hr5) ?_
    refine xX_ite (c := r5.1 = 0) (w := xw_204) (i := 20) (a := 25) (b := 21) (st' := []) eT_204 rfl rfl (fun hc6 => ?_) (fun hc6 => ?_)
    · rw [if_pos hc6] at h
      refine xX_blk (w := xw_204) eT_204 1 25 (ls' := [.ref 141, .int a, .int r1.1, .int r2, .null]) (st' := [.int 0]) (σ' := r5.2) rfl ?_
      obtain rfl := Option.some.inj h
      exact xX_ret (w := xw_204) (i := 26) eT_204 rfl (e_ret2 (by decide))
    · rw [if_neg hc6] at h
      refine xX_blk (w := xw_204) eT_204 1 21 (ls' := [.ref 141, .int a, .int r1.1, .int r2, .null]) (st' := [.ref 141]) (σ' := r5.2) rfl ?_
      obtain ⟨r7, hr7, h⟩ := xbd_inv h
      refine xX_c1 (w := xw_204) (i := 22) (ls := [.ref 141, .int a, .int r1.1, .int r2, .null]) (rest := []) eT_204 rfl (by omega) rfl rfl rfl (T_X11_here r5.2 (by omega) hr7) ?_
      refine xX_blk (w := xw_204) eT_204 1 23 (ls' := [.ref 141, .int a, .int r1.1, .int r2, .null]) (st' := [.int 59, .int r7.1]) (σ' := r7.2) rfl ?_
      refine xX_ite (c := r7.1 = 59) (w := xw_204) (i := 24) (a := 27) (b := 25) (st' := []) eT_204 rfl rfl (fun hc8 => ?_) (fun hc8 => ?_)
      · rw [if_pos hc8] at h
        refine xX_blk (w := xw_204) eT_204 5 27 (ls' := [.ref 141, .int a, .int r1.1, .int r2, .null]) (st' := [.int ((r7.2 141 14) + 1), .ref 141]) (σ' := r7.2) rfl ?_
        refine xX_blk (w := xw_204) eT_204 1 32 (ls' := [.ref 141, .int a, .int r1.1, .int r2, .null]) (st' := []) (σ' := xup r7.2 141 14 ((r7.2 141 14) + 1)) rfl ?_
        obtain ⟨σ9, eσ9, h⟩ := xlet_inv h
        rw [← eσ9]
        refine xX_blk (w := xw_204) eT_204 1 33 (ls' := [.ref 141, .int a, .int r1.1, .int r2, .null]) (st' := [.int a]) (σ' := σ9) rfl ?_
        refine xX_ite (c := a = 0) (w := xw_204) (i := 34) (a := 49) (b := 35) (st' := []) eT_204 rfl rfl (fun hc10 => ?_) (fun hc10 => ?_)
        · rw [if_pos hc10] at h
          refine xX_blk (w := xw_204) eT_204 1 49 (ls' := [.ref 141, .int a, .int r1.1, .int r2, .null]) (st' := [.int 1]) (σ' := σ9) rfl ?_
          obtain rfl := Option.some.inj h
          exact xX_ret (w := xw_204) (i := 50) eT_204 rfl (e_ret2 (by decide))
        · rw [if_neg hc10] at h
          refine xX_blk (w := xw_204) eT_204 3 35 (ls' := [.ref 141, .int a, .int r1.1, .int r2, .null]) (st' := [.int r1.1, .ref 141, .ref 141]) (σ' := σ9) rfl ?_
          obtain ⟨r11, hr11, h⟩ := xbd_inv h
          refine xX_c1 (w := xw_204) (i := 38) (ls := [.ref 141, .int a, .int r1.1, .int r2, .null]) (rest := [.ref 141]) eT_204 rfl (by omega) rfl rfl rfl (T_X11_can r1.1 σ9 (by omega) hr11) ?_
          refine xX_blk (w := xw_204) eT_204 1 39 (ls' := [.ref 141, .int a, .int r1.1, .int r2, .null]) (st' := []) (σ' := xup r11.2 141 16 r11.1) rfl ?_
          obtain ⟨σ12, eσ12, h⟩ := xlet_inv h
          rw [← eσ12]
          refine xX_blk (w := xw_204) eT_204 2 40 (ls' := [.ref 141, .int a, .int r1.1, .int r2, .null]) (st' := [.int (σ12 141 16)]) (σ' := σ12) rfl ?_
          refine xX_ite (c := (σ12 141 16) = 0) (w := xw_204) (i := 42) (a := 43) (b := 47) (st' := []) eT_204 rfl rfl (fun hc13 => ?_) (fun hc13 => ?_)
          · rw [if_pos hc13] at h
            refine xX_blk (w := xw_204) eT_204 2 43 (ls' := [.ref 141, .int a, .int r1.1, .int r2, .null]) (st' := [.int r1.1, .ref 141]) (σ' := σ12) rfl ?_
            obtain ⟨r14, hr14, h⟩ := xbd_inv h
            refine xX_c1 (w := xw_204) (i := 45) (ls := [.ref 141, .int a, .int r1.1, .int r2, .null]) (rest := []) eT_204 rfl (by omega) rfl rfl rfl (T_X11_does r1.1 σ12 (by omega) hr14) ?_
            refine xX_jmp (w := xw_204) (i := 46) (a := 48) (st' := [.int r14.1]) eT_204 rfl rfl ?_
            refine xX_blk (w := xw_204) eT_204 2 48 (ls' := [.ref 141, .int a, .int r1.1, .int r2, .int r14.1]) (st' := [.int 1]) (σ' := r14.2) rfl ?_
            obtain rfl := Option.some.inj h
            exact xX_ret (w := xw_204) (i := 50) eT_204 rfl (e_ret2 (by decide))
          · rw [if_neg hc13] at h
            refine xX_blk (w := xw_204) eT_204 3 47 (ls' := [.ref 141, .int a, .int r1.1, .int r2, .int 0]) (st' := [.int 1]) (σ' := σ12) rfl ?_
            obtain rfl := Option.some.inj h
            exact xX_ret (w := xw_204) (i := 50) eT_204 rfl (e_ret2 (by decide))
      · rw [if_neg hc8] at h
        refine xX_blk (w := xw_204) eT_204 1 25 (ls' := [.ref 141, .int a, .int r1.1, .int r2, .null]) (st' := [.int 0]) (σ' := r7.2) rfl ?_
        obtain rfl := Option.some.inj h
        exact xX_ret (w := xw_204) (i := 26) eT_204 rfl (e_ret2 (by decide))
def B_X11_keepsAside_2 (v1 : Int32) (σ : xM) : Option ((Int32 × xM) ⊕ ((xM))) :=
  if 169 ≤ v1 then
    some (.inr σ)
  else
    xgd (xin v1 169) (
    xgd (xin v1 169) (
    xgd (xin v1 169) (
    xlet (xup σ 142 v1.toNatClampNeg (σ 144 v1.toNatClampNeg)) fun σ5 =>
    xgd (xin v1 169) (
    xlet (xup σ5 144 v1.toNatClampNeg (σ 142 v1.toNatClampNeg)) fun σ7 =>
    some (.inl ((v1 + 1), σ7))))))
def L_X11_keepsAside_2 (v1 : Int32) (σ : xM) : Option ((xM)) := xloop (fun s : Int32 × xM => B_X11_keepsAside_2 s.1 s.2) 6000 (v1, σ)
set_option maxHeartbeats 1000000 in
set_option maxRecDepth 20000 in
theorem TB_X11_keepsAside_2 {d : Nat} {o : Option Value × xM} (v1 : Int32) (σ : xM) {q : (Int32 × xM) ⊕ ((xM))} (hd : 0 ≤ d) (h : B_X11_keepsAside_2 v1 σ = some q) (hB : ∀ s', q = .inl s' → ∀ (z2 : Value), xX xT xLn d 206 2 [.ref 141, .int s'.1, z2] [] s'.2 o) (hE : ∀ e', q = .inr e' → ∀ (z1 z2 : Value), xX xT xLn d 206 26 [.ref 141, z1, z2] [] e' o) (z2 : Value) : xX xT xLn d 206 2 [.ref 141, .int v1, z2] [] σ o := by
  unfold B_X11_keepsAside_2 at h
  refine xX_blk (w := xw_206) eT_206 3 2 (ls' := [.ref 141, .int v1, .null]) (st' := [.int 169, .int v1]) (σ' := σ) rfl ?_
  refine xX_ite (c := 169 ≤ v1) (w := xw_206) (i := 5) (a := 26) (b := 6) (st' := []) eT_206 rfl rfl (fun hc1 => ?_) (fun hc1 => ?_)
  · rw [if_pos hc1] at h
    obtain rfl := Option.some.inj h
    exact hE σ rfl _ _
  · rw [if_neg hc1] at h
    refine xX_blk (w := xw_206) eT_206 3 6 (ls' := [.ref 141, .int v1, .null]) (st' := [.int v1, .ref 142]) (σ' := σ) rfl ?_
    obtain ⟨hi2, h⟩ := xgd_inv h
    refine xX_one (w := xw_206) (i := 9) (ls' := [.ref 141, .int v1, .null]) (st' := [.int (σ 142 v1.toNatClampNeg)]) (σ' := σ) eT_206 rfl (e_iald xs_142 hi2) ?_
    refine xX_blk (w := xw_206) eT_206 7 10 (ls' := [.ref 141, .int v1, .int (σ 142 v1.toNatClampNeg)]) (st' := [.int v1, .ref 144, .int v1, .ref 142]) (σ' := σ) rfl ?_
    obtain ⟨hi3, h⟩ := xgd_inv h
    refine xX_one (w := xw_206) (i := 17) (ls' := [.ref 141, .int v1, .int (σ 142 v1.toNatClampNeg)]) (st' := [.int (σ 144 v1.toNatClampNeg), .int v1, .ref 142]) (σ' := σ) eT_206 rfl (e_iald xs_144 hi3) ?_
    obtain ⟨hi4, h⟩ := xgd_inv h
    refine xX_one (w := xw_206) (i := 18) (ls' := [.ref 141, .int v1, .int (σ 142 v1.toNatClampNeg)]) (st' := []) (σ' := xup σ 142 v1.toNatClampNeg (σ 144 v1.toNatClampNeg)) eT_206 rfl (e_iast xs_142 hi4) ?_
    obtain ⟨σ5, eσ5, h⟩ := xlet_inv h
    rw [← eσ5]
    refine xX_blk (w := xw_206) eT_206 4 19 (ls' := [.ref 141, .int v1, .int (σ 142 v1.toNatClampNeg)]) (st' := [.int (σ 142 v1.toNatClampNeg), .int v1, .ref 144]) (σ' := σ5) rfl ?_
    obtain ⟨hi6, h⟩ := xgd_inv h
    refine xX_one (w := xw_206) (i := 23) (ls' := [.ref 141, .int v1, .int (σ 142 v1.toNatClampNeg)]) (st' := []) (σ' := xup σ5 144 v1.toNatClampNeg (σ 142 v1.toNatClampNeg)) eT_206 rfl (e_iast xs_144 hi6) ?_
    obtain ⟨σ7, eσ7, h⟩ := xlet_inv h
    rw [← eσ7]
    refine xX_blk (w := xw_206) eT_206 1 24 (ls' := [.ref 141, .int (v1 + 1), .int (σ 142 v1.toNatClampNeg)]) (st' := []) (σ' := σ7) rfl ?_
    refine xX_jmp (w := xw_206) (i := 25) (a := 2) (st' := []) eT_206 rfl rfl ?_
    obtain rfl := Option.some.inj h
    exact hB ((v1 + 1), σ7) rfl _
set_option maxHeartbeats 1000000 in
set_option maxRecDepth 20000 in
theorem TL_X11_keepsAside_2 {d : Nat} {o : Option Value × xM} (v1 : Int32) (σ : xM) {e : (xM)} (hd : 0 ≤ d) (h : L_X11_keepsAside_2 v1 σ = some e) (hE : ∀ (z1 z2 : Value), xX xT xLn d 206 26 [.ref 141, z1, z2] [] e o) (z2 : Value) : xX xT xLn d 206 2 [.ref 141, .int v1, z2] [] σ o :=
  xloop_snd (X := fun s => ∀ (z2 : Value), xX xT xLn d 206 2 [.ref 141, .int s.1, z2] [] s.2 o) (Y := fun e' => ∀ (z1 z2 : Value), xX xT xLn d 206 26 [.ref 141, z1, z2] [] e' o) (fun s q hs hB hE z2 => TB_X11_keepsAside_2 s.1 s.2 hd hs hB hE z2) _ _ _ h hE z2
def B_X11_keepsAside_29 (v1 : Int32) (σ : xM) : Option ((Int32 × xM) ⊕ ((xM))) :=
  if 169 ≤ v1 then
    some (.inr σ)
  else
    xgd (xin v1 169) (
    xgd (xin v1 169) (
    xlet (xup σ 142 v1.toNatClampNeg (σ 144 v1.toNatClampNeg)) fun σ13 =>
    some (.inl ((v1 + 1), σ13))))
def L_X11_keepsAside_29 (v1 : Int32) (σ : xM) : Option ((xM)) := xloop (fun s : Int32 × xM => B_X11_keepsAside_29 s.1 s.2) 6000 (v1, σ)
set_option maxHeartbeats 1000000 in
set_option maxRecDepth 20000 in
theorem TB_X11_keepsAside_29 {d : Nat} {o : Option Value × xM} (v1 : Int32) (σ : xM) {q : (Int32 × xM) ⊕ ((xM))} (hd : 1 ≤ d) (h : B_X11_keepsAside_29 v1 σ = some q) (hB : ∀ s', q = .inl s' → ∀ (z2 : Value), xX xT xLn d 206 31 [.ref 141, .int s'.1, z2] [] s'.2 o) (hE : ∀ e', q = .inr e' → ∀ (z0 z1 z2 : Value), xX xT xLn d 206 45 [z0, z1, z2] [] e' o) (z2 : Value) : xX xT xLn d 206 31 [.ref 141, .int v1, z2] [] σ o := by
  unfold B_X11_keepsAside_29 at h
  refine xX_blk (w := xw_206) eT_206 3 31 (ls' := [.ref 141, .int v1, .null]) (st' := [.int 169, .int v1]) (σ' := σ) rfl ?_
  refine xX_ite (c := 169 ≤ v1) (w := xw_206) (i := 34) (a := 45) (b := 35) (st' := []) eT_206 rfl rfl (fun hc10 => ?_) (fun hc10 => ?_)
  · rw [if_pos hc10] at h
    obtain rfl := Option.some.inj h
    exact hE σ rfl _ _ _
  · rw [if_neg hc10] at h
    refine xX_blk (w := xw_206) eT_206 6 35 (ls' := [.ref 141, .int v1, .null]) (st' := [.int v1, .ref 144, .int v1, .ref 142]) (σ' := σ) rfl ?_
    obtain ⟨hi11, h⟩ := xgd_inv h
    refine xX_one (w := xw_206) (i := 41) (ls' := [.ref 141, .int v1, .null]) (st' := [.int (σ 144 v1.toNatClampNeg), .int v1, .ref 142]) (σ' := σ) eT_206 rfl (e_iald xs_144 hi11) ?_
    obtain ⟨hi12, h⟩ := xgd_inv h
    refine xX_one (w := xw_206) (i := 42) (ls' := [.ref 141, .int v1, .null]) (st' := []) (σ' := xup σ 142 v1.toNatClampNeg (σ 144 v1.toNatClampNeg)) eT_206 rfl (e_iast xs_142 hi12) ?_
    obtain ⟨σ13, eσ13, h⟩ := xlet_inv h
    rw [← eσ13]
    refine xX_blk (w := xw_206) eT_206 1 43 (ls' := [.ref 141, .int (v1 + 1), .null]) (st' := []) (σ' := σ13) rfl ?_
    refine xX_jmp (w := xw_206) (i := 44) (a := 31) (st' := []) eT_206 rfl rfl ?_
    obtain rfl := Option.some.inj h
    exact hB ((v1 + 1), σ13) rfl _
set_option maxHeartbeats 1000000 in
set_option maxRecDepth 20000 in
theorem TL_X11_keepsAside_29 {d : Nat} {o : Option Value × xM} (v1 : Int32) (σ : xM) {e : (xM)} (hd : 1 ≤ d) (h : L_X11_keepsAside_29 v1 σ = some e) (hE : ∀ (z0 z1 z2 : Value), xX xT xLn d 206 45 [z0, z1, z2] [] e o) (z2 : Value) : xX xT xLn d 206 31 [.ref 141, .int v1, z2] [] σ o :=
  xloop_snd (X := fun s => ∀ (z2 : Value), xX xT xLn d 206 31 [.ref 141, .int s.1, z2] [] s.2 o) (Y := fun e' => ∀ (z0 z1 z2 : Value), xX xT xLn d 206 45 [z0, z1, z2] [] e' o) (fun s q hs hB hE z2 => TB_X11_keepsAside_29 s.1 s.2 hd hs hB hE z2) _ _ _ h hE z2
def F_X11_keepsAside (σ : xM) : Option (xM) :=
  xbd (L_X11_keepsAside_2 0 σ) fun e8 =>
  xbd (F_X11_keep e8) fun r9 =>
  xbd (L_X11_keepsAside_29 0 r9) fun e14 =>
  some e14
set_option maxHeartbeats 1000000 in
set_option maxRecDepth 20000 in
theorem T_X11_keepsAside (σ : xM) {d : Nat} {q : xM} (hd : 1 ≤ d) (h : F_X11_keepsAside σ = some q) : xR xT xLn d 206 [.ref 141] σ (none, q) := by
  unfold F_X11_keepsAside at h
  show xX xT xLn d 206 0 [.ref 141, .null, .null] [] σ _
  refine xX_blk (w := xw_206) eT_206 2 0 (ls' := [.ref 141, .int 0, .null]) (st' := []) (σ' := σ) rfl ?_
  obtain ⟨e8, he8, h⟩ := xbd_inv h
  refine TL_X11_keepsAside_2 0 σ (by omega) he8 (fun z1 z2 => ?_) _
  refine xX_blk (w := xw_206) eT_206 2 26 (ls' := [.ref 141, .null, .null]) (st' := [.ref 141]) (σ' := e8) rfl ?_
  obtain ⟨r9, hr9, h⟩ := xbd_inv h
  refine xX_c0 (w := xw_206) (i := 28) (ls := [.ref 141, .null, .null]) (rest := []) eT_206 rfl (by omega) rfl rfl rfl (T_X11_keep e8 (by omega) hr9) ?_
  refine xX_blk (w := xw_206) eT_206 2 29 (ls' := [.ref 141, .int 0, .null]) (st' := []) (σ' := r9) rfl ?_
  obtain ⟨e14, he14, h⟩ := xbd_inv h
  refine TL_X11_keepsAside_29 0 r9 (by omega) he14 (fun z0 z1 z2 => ?_) _
  refine xX_blk (w := xw_206) eT_206 1 45 (ls' := [.null, .null, .null]) (st' := []) (σ' := e14) rfl ?_
  obtain rfl := Option.some.inj h
  exact xX_ret (w := xw_206) (i := 46) eT_206 rfl rfl
def B_X11_reads_7 (v1 : Int32) (σ : xM) : Option ((Int32 × xM) ⊕ ((Int32 × xM))) :=
  if v1 = 0 then
    some (.inr (v1, σ))
  else
    xbd (F_X11_here σ) fun r4 =>
    if r4.1 = (-1) then
      some (.inr (v1, r4.2))
    else
      xbd (F_X11_readsOrder 0 r4.2) fun r6 =>
      some (.inl (r6.1, r6.2))
def L_X11_reads_7 (v1 : Int32) (σ : xM) : Option ((Int32 × xM)) := xloop (fun s : Int32 × xM => B_X11_reads_7 s.1 s.2) 6000 (v1, σ)
set_option maxHeartbeats 1000000 in
set_option maxRecDepth 20000 in
theorem TB_X11_reads_7 {d : Nat} {o : Option Value × xM} (v1 : Int32) (σ : xM) {q : (Int32 × xM) ⊕ ((Int32 × xM))} (hd : 10 ≤ d) (h : B_X11_reads_7 v1 σ = some q) (hB : ∀ s', q = .inl s' → ∀ (z2 z3 : Value), xX xT xLn d 205 7 [.ref 141, .int s'.1, z2, z3] [] s'.2 o) (hE : ∀ e', q = .inr e' → ∀ (z2 z3 : Value), xX xT xLn d 205 19 [.ref 141, .int e'.1, z2, z3] [] e'.2 o) (z2 : Value) (z3 : Value) : xX xT xLn d 205 7 [.ref 141, .int v1, z2, z3] [] σ o := by
  unfold B_X11_reads_7 at h
  refine xX_blk (w := xw_205) eT_205 2 7 (ls' := [.ref 141, .int v1, .null, .null]) (st' := [.int v1]) (σ' := σ) rfl ?_
  refine xX_ite (c := v1 = 0) (w := xw_205) (i := 9) (a := 19) (b := 10) (st' := []) eT_205 rfl rfl (fun hc3 => ?_) (fun hc3 => ?_)
  · rw [if_pos hc3] at h
    obtain rfl := Option.some.inj h
    exact hE (v1, σ) rfl _ _
  · rw [if_neg hc3] at h
    refine xX_blk (w := xw_205) eT_205 1 10 (ls' := [.ref 141, .int v1, .null, .null]) (st' := [.ref 141]) (σ' := σ) rfl ?_
    obtain ⟨r4, hr4, h⟩ := xbd_inv h
    refine xX_c1 (w := xw_205) (i := 11) (ls := [.ref 141, .int v1, .null, .null]) (rest := []) eT_205 rfl (by omega) rfl rfl rfl (T_X11_here σ (by omega) hr4) ?_
    refine xX_blk (w := xw_205) eT_205 1 12 (ls' := [.ref 141, .int v1, .null, .null]) (st' := [.int (-1), .int r4.1]) (σ' := r4.2) rfl ?_
    refine xX_ite (c := r4.1 = (-1)) (w := xw_205) (i := 13) (a := 19) (b := 14) (st' := []) eT_205 rfl rfl (fun hc5 => ?_) (fun hc5 => ?_)
    · rw [if_pos hc5] at h
      obtain rfl := Option.some.inj h
      exact hE (v1, r4.2) rfl _ _
    · rw [if_neg hc5] at h
      refine xX_blk (w := xw_205) eT_205 2 14 (ls' := [.ref 141, .int v1, .null, .null]) (st' := [.int 0, .ref 141]) (σ' := r4.2) rfl ?_
      obtain ⟨r6, hr6, h⟩ := xbd_inv h
      refine xX_c1 (w := xw_205) (i := 16) (ls := [.ref 141, .int v1, .null, .null]) (rest := []) eT_205 rfl (by omega) rfl rfl rfl (T_X11_readsOrder 0 r4.2 (by omega) hr6) ?_
      refine xX_blk (w := xw_205) eT_205 1 17 (ls' := [.ref 141, .int r6.1, .null, .null]) (st' := []) (σ' := r6.2) rfl ?_
      refine xX_jmp (w := xw_205) (i := 18) (a := 7) (st' := []) eT_205 rfl rfl ?_
      obtain rfl := Option.some.inj h
      exact hB (r6.1, r6.2) rfl _ _
set_option maxHeartbeats 1000000 in
set_option maxRecDepth 20000 in
theorem TL_X11_reads_7 {d : Nat} {o : Option Value × xM} (v1 : Int32) (σ : xM) {e : (Int32 × xM)} (hd : 10 ≤ d) (h : L_X11_reads_7 v1 σ = some e) (hE : ∀ (z2 z3 : Value), xX xT xLn d 205 19 [.ref 141, .int e.1, z2, z3] [] e.2 o) (z2 : Value) (z3 : Value) : xX xT xLn d 205 7 [.ref 141, .int v1, z2, z3] [] σ o :=
  xloop_snd (X := fun s => ∀ (z2 z3 : Value), xX xT xLn d 205 7 [.ref 141, .int s.1, z2, z3] [] s.2 o) (Y := fun e' => ∀ (z2 z3 : Value), xX xT xLn d 205 19 [.ref 141, .int e'.1, z2, z3] [] e'.2 o) (fun s q hs hB hE z2 z3 => TB_X11_reads_7 s.1 s.2 hd hs hB hE z2 z3) _ _ _ h hE z2 z3
def B_X11_reads_27 (v2 : Int32) (σ : xM) : Option ((Int32 × xM) ⊕ ((xM))) :=
  if 169 ≤ v2 then
    some (.inr σ)
  else
    xgd (xin v2 169) (
    xgd (xin v2 169) (
    xlet (xup σ 144 v2.toNatClampNeg (σ 142 v2.toNatClampNeg)) fun σ12 =>
    some (.inl ((v2 + 1), σ12))))
def L_X11_reads_27 (v2 : Int32) (σ : xM) : Option ((xM)) := xloop (fun s : Int32 × xM => B_X11_reads_27 s.1 s.2) 6000 (v2, σ)
set_option maxHeartbeats 1000000 in
set_option maxRecDepth 20000 in
theorem TB_X11_reads_27 {d : Nat} {o : Option Value × xM} (v2 : Int32) (σ : xM) {q : (Int32 × xM) ⊕ ((xM))} (hd : 10 ≤ d) (h : B_X11_reads_27 v2 σ = some q) (hB : ∀ s', q = .inl s' → ∀ (z1 z3 : Value), xX xT xLn d 205 29 [.ref 141, z1, .int s'.1, z3] [] s'.2 o) (hE : ∀ e', q = .inr e' → ∀ (z1 z2 z3 : Value), xX xT xLn d 205 43 [.ref 141, z1, z2, z3] [] e' o) (z1 : Value) (z3 : Value) : xX xT xLn d 205 29 [.ref 141, z1, .int v2, z3] [] σ o := by
  unfold B_X11_reads_27 at h
  refine xX_blk (w := xw_205) eT_205 3 29 (ls' := [.ref 141, .null, .int v2, .null]) (st' := [.int 169, .int v2]) (σ' := σ) rfl ?_
  refine xX_ite (c := 169 ≤ v2) (w := xw_205) (i := 32) (a := 43) (b := 33) (st' := []) eT_205 rfl rfl (fun hc9 => ?_) (fun hc9 => ?_)
  · rw [if_pos hc9] at h
    obtain rfl := Option.some.inj h
    exact hE σ rfl _ _ _
  · rw [if_neg hc9] at h
    refine xX_blk (w := xw_205) eT_205 6 33 (ls' := [.ref 141, .null, .int v2, .null]) (st' := [.int v2, .ref 142, .int v2, .ref 144]) (σ' := σ) rfl ?_
    obtain ⟨hi10, h⟩ := xgd_inv h
    refine xX_one (w := xw_205) (i := 39) (ls' := [.ref 141, .null, .int v2, .null]) (st' := [.int (σ 142 v2.toNatClampNeg), .int v2, .ref 144]) (σ' := σ) eT_205 rfl (e_iald xs_142 hi10) ?_
    obtain ⟨hi11, h⟩ := xgd_inv h
    refine xX_one (w := xw_205) (i := 40) (ls' := [.ref 141, .null, .int v2, .null]) (st' := []) (σ' := xup σ 144 v2.toNatClampNeg (σ 142 v2.toNatClampNeg)) eT_205 rfl (e_iast xs_144 hi11) ?_
    obtain ⟨σ12, eσ12, h⟩ := xlet_inv h
    rw [← eσ12]
    refine xX_blk (w := xw_205) eT_205 1 41 (ls' := [.ref 141, .null, .int (v2 + 1), .null]) (st' := []) (σ' := σ12) rfl ?_
    refine xX_jmp (w := xw_205) (i := 42) (a := 29) (st' := []) eT_205 rfl rfl ?_
    obtain rfl := Option.some.inj h
    exact hB ((v2 + 1), σ12) rfl _ _
set_option maxHeartbeats 1000000 in
set_option maxRecDepth 20000 in
theorem TL_X11_reads_27 {d : Nat} {o : Option Value × xM} (v2 : Int32) (σ : xM) {e : (xM)} (hd : 10 ≤ d) (h : L_X11_reads_27 v2 σ = some e) (hE : ∀ (z1 z2 z3 : Value), xX xT xLn d 205 43 [.ref 141, z1, z2, z3] [] e o) (z1 : Value) (z3 : Value) : xX xT xLn d 205 29 [.ref 141, z1, .int v2, z3] [] σ o :=
  xloop_snd (X := fun s => ∀ (z1 z3 : Value), xX xT xLn d 205 29 [.ref 141, z1, .int s.1, z3] [] s.2 o) (Y := fun e' => ∀ (z1 z2 z3 : Value), xX xT xLn d 205 43 [.ref 141, z1, z2, z3] [] e' o) (fun s q hs hB hE z1 z3 => TB_X11_reads_27 s.1 s.2 hd hs hB hE z1 z3) _ _ _ h hE z1 z3
def B_X11_reads_48 (v2 : Int32) (σ : xM) : Option ((Int32 × xM) ⊕ ((Int32 × xM) ⊕ (Int32 × xM))) :=
  xbd (F_X11_here σ) fun r16 =>
  if r16.1 = (-1) then
    some (.inr (.inr (v2, r16.2)))
  else
    xbd (F_X11_readsOrder 1 r16.2) fun r18 =>
    if 0 ≤ (r18.2 141 16) then
      some (.inl ((v2 + 1), r18.2))
    else
      some (.inr (.inl (v2, r18.2)))
def L_X11_reads_48 (v2 : Int32) (σ : xM) : Option ((Int32 × xM) ⊕ (Int32 × xM)) := xloop (fun s : Int32 × xM => B_X11_reads_48 s.1 s.2) 6000 (v2, σ)
set_option maxHeartbeats 1000000 in
set_option maxRecDepth 20000 in
theorem TB_X11_reads_48 {d : Nat} {o : Option Value × xM} (v2 : Int32) (σ : xM) {q : (Int32 × xM) ⊕ ((Int32 × xM) ⊕ (Int32 × xM))} (hd : 10 ≤ d) (h : B_X11_reads_48 v2 σ = some q) (hB : ∀ s', q = .inl s' → ∀ (z1 z3 : Value), xX xT xLn d 205 52 [.ref 141, z1, .int s'.1, z3] [] s'.2 o) (hE : ∀ e', q = .inr e' → (∀ a, e' = .inl a → ∀ (z1 z3 : Value), xX xT xLn d 205 64 [.ref 141, z1, .int a.1, z3] [] a.2 o) ∧ (∀ a, e' = .inr (a) → ∀ (z1 z3 : Value), xX xT xLn d 205 88 [.ref 141, z1, .int a.1, z3] [] a.2 o)) (z1 : Value) (z3 : Value) : xX xT xLn d 205 52 [.ref 141, z1, .int v2, z3] [] σ o := by
  unfold B_X11_reads_48 at h
  refine xX_blk (w := xw_205) eT_205 2 52 (ls' := [.ref 141, .null, .int v2, .null]) (st' := [.ref 141]) (σ' := σ) rfl ?_
  obtain ⟨r16, hr16, h⟩ := xbd_inv h
  refine xX_c1 (w := xw_205) (i := 54) (ls := [.ref 141, .null, .int v2, .null]) (rest := []) eT_205 rfl (by omega) rfl rfl rfl (T_X11_here σ (by omega) hr16) ?_
  refine xX_blk (w := xw_205) eT_205 1 55 (ls' := [.ref 141, .null, .int v2, .null]) (st' := [.int (-1), .int r16.1]) (σ' := r16.2) rfl ?_
  refine xX_ite (c := r16.1 = (-1)) (w := xw_205) (i := 56) (a := 88) (b := 57) (st' := []) eT_205 rfl rfl (fun hc17 => ?_) (fun hc17 => ?_)
  · rw [if_pos hc17] at h
    obtain rfl := Option.some.inj h
    exact (hE (.inr (v2, r16.2)) rfl).2 (v2, r16.2) rfl _ _
  · rw [if_neg hc17] at h
    refine xX_blk (w := xw_205) eT_205 2 57 (ls' := [.ref 141, .null, .int v2, .null]) (st' := [.int 1, .ref 141]) (σ' := r16.2) rfl ?_
    obtain ⟨r18, hr18, h⟩ := xbd_inv h
    refine xX_c1 (w := xw_205) (i := 59) (ls := [.ref 141, .null, .int v2, .null]) (rest := []) eT_205 rfl (by omega) rfl rfl rfl (T_X11_readsOrder 1 r16.2 (by omega) hr18) ?_
    refine xX_blk (w := xw_205) eT_205 3 60 (ls' := [.ref 141, .int r18.1, .int v2, .null]) (st' := [.int (r18.2 141 16)]) (σ' := r18.2) rfl ?_
    refine xX_ite (c := 0 ≤ (r18.2 141 16)) (w := xw_205) (i := 63) (a := 86) (b := 64) (st' := []) eT_205 rfl rfl (fun hc19 => ?_) (fun hc19 => ?_)
    · rw [if_pos hc19] at h
      refine xX_blk (w := xw_205) eT_205 1 86 (ls' := [.ref 141, .int r18.1, .int (v2 + 1), .null]) (st' := []) (σ' := r18.2) rfl ?_
      refine xX_jmp (w := xw_205) (i := 87) (a := 52) (st' := []) eT_205 rfl rfl ?_
      obtain rfl := Option.some.inj h
      exact hB ((v2 + 1), r18.2) rfl _ _
    · rw [if_neg hc19] at h
      obtain rfl := Option.some.inj h
      exact (hE (.inl (v2, r18.2)) rfl).1 (v2, r18.2) rfl _ _
set_option maxHeartbeats 1000000 in
set_option maxRecDepth 20000 in
theorem TL_X11_reads_48 {d : Nat} {o : Option Value × xM} (v2 : Int32) (σ : xM) {e : (Int32 × xM) ⊕ (Int32 × xM)} (hd : 10 ≤ d) (h : L_X11_reads_48 v2 σ = some e) (hE0 : ∀ a, e = .inl a → ∀ (z1 z3 : Value), xX xT xLn d 205 64 [.ref 141, z1, .int a.1, z3] [] a.2 o) (hE1 : ∀ a, e = .inr (a) → ∀ (z1 z3 : Value), xX xT xLn d 205 88 [.ref 141, z1, .int a.1, z3] [] a.2 o) (z1 : Value) (z3 : Value) : xX xT xLn d 205 52 [.ref 141, z1, .int v2, z3] [] σ o :=
  xloop_snd (X := fun s => ∀ (z1 z3 : Value), xX xT xLn d 205 52 [.ref 141, z1, .int s.1, z3] [] s.2 o) (Y := fun e' => (∀ a, e' = .inl a → ∀ (z1 z3 : Value), xX xT xLn d 205 64 [.ref 141, z1, .int a.1, z3] [] a.2 o) ∧ (∀ a, e' = .inr (a) → ∀ (z1 z3 : Value), xX xT xLn d 205 88 [.ref 141, z1, .int a.1, z3] [] a.2 o)) (fun s q hs hB hE z1 z3 => TB_X11_reads_48 s.1 s.2 hd hs hB hE z1 z3) _ _ _ h ⟨hE0, hE1⟩ z1 z3
def B_X11_reads_61 (p2 : Int32) (v3 : Int32) (σ : xM) : Option ((Int32 × xM) ⊕ ((xM))) :=
  if 169 ≤ v3 then
    some (.inr σ)
  else
    xgd (xin v3 169) (
    xgd (xin v3 169) (
    xlet (xup σ 142 v3.toNatClampNeg (σ 144 v3.toNatClampNeg)) fun σ24 =>
    some (.inl ((v3 + 1), σ24))))
def L_X11_reads_61 (p2 : Int32) (v3 : Int32) (σ : xM) : Option ((xM)) := xloop (fun s : Int32 × xM => B_X11_reads_61 p2 s.1 s.2) 6000 (v3, σ)
set_option maxHeartbeats 1000000 in
set_option maxRecDepth 20000 in
theorem TB_X11_reads_61 {d : Nat} {o : Option Value × xM} (p2 : Int32) (v3 : Int32) (σ : xM) {q : (Int32 × xM) ⊕ ((xM))} (hd : 10 ≤ d) (h : B_X11_reads_61 p2 v3 σ = some q) (hB : ∀ s', q = .inl s' → ∀ (z1 : Value), xX xT xLn d 205 67 [.ref 141, z1, .int p2, .int s'.1] [] s'.2 o) (hE : ∀ e', q = .inr e' → ∀ (z0 z1 z3 : Value), xX xT xLn d 205 81 [z0, z1, .int p2, z3] [] e' o) (z1 : Value) : xX xT xLn d 205 67 [.ref 141, z1, .int p2, .int v3] [] σ o := by
  unfold B_X11_reads_61 at h
  refine xX_blk (w := xw_205) eT_205 3 67 (ls' := [.ref 141, .null, .int p2, .int v3]) (st' := [.int 169, .int v3]) (σ' := σ) rfl ?_
  refine xX_ite (c := 169 ≤ v3) (w := xw_205) (i := 70) (a := 81) (b := 71) (st' := []) eT_205 rfl rfl (fun hc21 => ?_) (fun hc21 => ?_)
  · rw [if_pos hc21] at h
    obtain rfl := Option.some.inj h
    exact hE σ rfl _ _ _
  · rw [if_neg hc21] at h
    refine xX_blk (w := xw_205) eT_205 6 71 (ls' := [.ref 141, .null, .int p2, .int v3]) (st' := [.int v3, .ref 144, .int v3, .ref 142]) (σ' := σ) rfl ?_
    obtain ⟨hi22, h⟩ := xgd_inv h
    refine xX_one (w := xw_205) (i := 77) (ls' := [.ref 141, .null, .int p2, .int v3]) (st' := [.int (σ 144 v3.toNatClampNeg), .int v3, .ref 142]) (σ' := σ) eT_205 rfl (e_iald xs_144 hi22) ?_
    obtain ⟨hi23, h⟩ := xgd_inv h
    refine xX_one (w := xw_205) (i := 78) (ls' := [.ref 141, .null, .int p2, .int v3]) (st' := []) (σ' := xup σ 142 v3.toNatClampNeg (σ 144 v3.toNatClampNeg)) eT_205 rfl (e_iast xs_142 hi23) ?_
    obtain ⟨σ24, eσ24, h⟩ := xlet_inv h
    rw [← eσ24]
    refine xX_blk (w := xw_205) eT_205 1 79 (ls' := [.ref 141, .null, .int p2, .int (v3 + 1)]) (st' := []) (σ' := σ24) rfl ?_
    refine xX_jmp (w := xw_205) (i := 80) (a := 67) (st' := []) eT_205 rfl rfl ?_
    obtain rfl := Option.some.inj h
    exact hB ((v3 + 1), σ24) rfl _
set_option maxHeartbeats 1000000 in
set_option maxRecDepth 20000 in
theorem TL_X11_reads_61 {d : Nat} {o : Option Value × xM} (p2 : Int32) (v3 : Int32) (σ : xM) {e : (xM)} (hd : 10 ≤ d) (h : L_X11_reads_61 p2 v3 σ = some e) (hE : ∀ (z0 z1 z3 : Value), xX xT xLn d 205 81 [z0, z1, .int p2, z3] [] e o) (z1 : Value) : xX xT xLn d 205 67 [.ref 141, z1, .int p2, .int v3] [] σ o :=
  xloop_snd (X := fun s => ∀ (z1 : Value), xX xT xLn d 205 67 [.ref 141, z1, .int p2, .int s.1] [] s.2 o) (Y := fun e' => ∀ (z0 z1 z3 : Value), xX xT xLn d 205 81 [z0, z1, .int p2, z3] [] e' o) (fun s q hs hB hE z1 => TB_X11_reads_61 p2 s.1 s.2 hd hs hB hE z1) _ _ _ h hE z1
def F_X11_reads (σ : xM) : Option (Int32 × xM) :=
  xlet (xup σ 141 14 0) fun σ1 =>
  xbd (F_X11_readsOrder 0 σ1) fun r2 =>
  xbd (L_X11_reads_7 r2.1 r2.2) fun e7 =>
  if e7.1 = 0 then
    some (((-10 : Int32) - (e7.2 141 14)), e7.2)
  else
    xbd (L_X11_reads_27 0 e7.2) fun e13 =>
    xlet (xup e13 141 14 0) fun σ14 =>
    xlet (xup σ14 141 16 0) fun σ15 =>
    xbd (L_X11_reads_48 0 σ15) fun e20 =>
    xsm e20 (fun ae200 =>
      xbd (L_X11_reads_61 ae200.1 0 ae200.2) fun e25 =>
      some (((-1000 : Int32) - ae200.1), e25))
    (fun ae201 =>
      xbd (F_X11_keepsAside ae201.2) fun r26 =>
      some (ae201.1, r26))
set_option maxHeartbeats 1000000 in
set_option maxRecDepth 20000 in
theorem T_X11_reads (σ : xM) {d : Nat} {q : Int32 × xM} (hd : 10 ≤ d) (h : F_X11_reads σ = some q) : xR xT xLn d 205 [.ref 141] σ (some (.int q.1), q.2) := by
  unfold F_X11_reads at h
  show xX xT xLn d 205 0 [.ref 141, .null, .null, .null] [] σ _
  refine xX_blk (w := xw_205) eT_205 2 0 (ls' := [.ref 141, .null, .null, .null]) (st' := [.int 0, .ref 141]) (σ' := σ) rfl ?_
  refine xX_blk (w := xw_205) eT_205 1 2 (ls' := [.ref 141, .null, .null, .null]) (st' := []) (σ' := xup σ 141 14 0) rfl ?_
  obtain ⟨σ1, eσ1, h⟩ := xlet_inv h
  rw [← eσ1]
  refine xX_blk (w := xw_205) eT_205 2 3 (ls' := [.ref 141, .null, .null, .null]) (st' := [.int 0, .ref 141]) (σ' := σ1) rfl ?_
  obtain ⟨r2, hr2, h⟩ := xbd_inv h
  refine xX_c1 (w := xw_205) (i := 5) (ls := [.ref 141, .null, .null, .null]) (rest := []) eT_205 rfl (by omega) rfl rfl rfl (T_X11_readsOrder 0 σ1 (by omega) hr2) ?_
  refine xX_blk (w := xw_205) eT_205 1 6 (ls' := [.ref 141, .int r2.1, .null, .null]) (st' := []) (σ' := r2.2) rfl ?_
  obtain ⟨e7, he7, h⟩ := xbd_inv h
  refine TL_X11_reads_7 r2.1 r2.2 (by omega) he7 (fun z2 z3 => ?_) _ _
  refine xX_blk (w := xw_205) eT_205 2 19 (ls' := [.ref 141, .int e7.1, .null, .null]) (st' := [.int e7.1]) (σ' := e7.2) rfl ?_
  refine xX_ite (c := e7.1 = 0) (w := xw_205) (i := 21) (a := 22) (b := 27) (st' := []) eT_205 rfl rfl (fun hc8 => ?_) (fun hc8 => ?_)
  · rw [if_pos hc8] at h
    refine xX_blk (w := xw_205) eT_205 4 22 (ls' := [.ref 141, .int e7.1, .null, .null]) (st' := [.int ((-10 : Int32) - (e7.2 141 14))]) (σ' := e7.2) rfl ?_
    obtain rfl := Option.some.inj h
    exact xX_ret (w := xw_205) (i := 26) eT_205 rfl rfl
  · rw [if_neg hc8] at h
    refine xX_blk (w := xw_205) eT_205 2 27 (ls' := [.ref 141, .int e7.1, .int 0, .null]) (st' := []) (σ' := e7.2) rfl ?_
    obtain ⟨e13, he13, h⟩ := xbd_inv h
    refine TL_X11_reads_27 0 e7.2 (by omega) he13 (fun z1 z2 z3 => ?_) _ _
    refine xX_blk (w := xw_205) eT_205 5 43 (ls' := [.ref 141, .null, .int 0, .null]) (st' := [.int 0, .ref 141]) (σ' := e13) rfl ?_
    refine xX_blk (w := xw_205) eT_205 1 48 (ls' := [.ref 141, .null, .int 0, .null]) (st' := []) (σ' := xup e13 141 14 0) rfl ?_
    obtain ⟨σ14, eσ14, h⟩ := xlet_inv h
    rw [← eσ14]
    refine xX_blk (w := xw_205) eT_205 2 49 (ls' := [.ref 141, .null, .int 0, .null]) (st' := [.int 0, .ref 141]) (σ' := σ14) rfl ?_
    refine xX_blk (w := xw_205) eT_205 1 51 (ls' := [.ref 141, .null, .int 0, .null]) (st' := []) (σ' := xup σ14 141 16 0) rfl ?_
    obtain ⟨σ15, eσ15, h⟩ := xlet_inv h
    rw [← eσ15]
    obtain ⟨e20, he20, h⟩ := xbd_inv h
    refine TL_X11_reads_48 0 σ15 (by omega) he20 (fun ae200 hee200 z1 z3 => ?_) (fun ae201 hee201 z1 z3 => ?_) _ _
    · subst hee200
      rw [xsm_l] at h
      refine xX_blk (w := xw_205) eT_205 3 64 (ls' := [.ref 141, .null, .int ae200.1, .int 0]) (st' := []) (σ' := ae200.2) rfl ?_
      obtain ⟨e25, he25, h⟩ := xbd_inv h
      refine TL_X11_reads_61 ae200.1 0 ae200.2 (by omega) he25 (fun z0 z1 z3 => ?_) _
      refine xX_blk (w := xw_205) eT_205 4 81 (ls' := [.null, .null, .int ae200.1, .null]) (st' := [.int ((-1000 : Int32) - ae200.1)]) (σ' := e25) rfl ?_
      obtain rfl := Option.some.inj h
      exact xX_ret (w := xw_205) (i := 85) eT_205 rfl rfl
    · subst hee201
      rw [xsm_r] at h
      refine xX_blk (w := xw_205) eT_205 2 88 (ls' := [.ref 141, .null, .int ae201.1, .null]) (st' := [.ref 141]) (σ' := ae201.2) rfl ?_
      obtain ⟨r26, hr26, h⟩ := xbd_inv h
      refine xX_c0 (w := xw_205) (i := 90) (ls := [.ref 141, .null, .int ae201.1, .null]) (rest := []) eT_205 rfl (by omega) rfl rfl rfl (T_X11_keepsAside ae201.2 (by omega) hr26) ?_
      refine xX_blk (w := xw_205) eT_205 1 91 (ls' := [.ref 141, .null, .int ae201.1, .null]) (st' := [.int ae201.1]) (σ' := r26) rfl ?_
      obtain rfl := Option.some.inj h
      exact xX_ret (w := xw_205) (i := 92) eT_205 rfl rfl
def B_X11_back_15 (v1 : Int32) (σ : xM) : Option ((Int32 × xM) ⊕ ((xM))) :=
  if 169 ≤ v1 then
    some (.inr σ)
  else
    xgd (xin (((169 : Int32) * (σ 141 3)) + v1) 845) (
    xgd (xin v1 169) (
    xlet (xup σ 142 v1.toNatClampNeg (σ 143 (((169 : Int32) * (σ 141 3)) + v1).toNatClampNeg)) fun σ7 =>
    some (.inl ((v1 + 1), σ7))))
def L_X11_back_15 (v1 : Int32) (σ : xM) : Option ((xM)) := xloop (fun s : Int32 × xM => B_X11_back_15 s.1 s.2) 6000 (v1, σ)
set_option maxHeartbeats 1000000 in
set_option maxRecDepth 20000 in
theorem TB_X11_back_15 {d : Nat} {o : Option Value × xM} (v1 : Int32) (σ : xM) {q : (Int32 × xM) ⊕ ((xM))} (hd : 1 ≤ d) (h : B_X11_back_15 v1 σ = some q) (hB : ∀ s', q = .inl s' → xX xT xLn d 207 15 [.ref 141, .int s'.1] [] s'.2 o) (hE : ∀ e', q = .inr e' → ∀ (z1 : Value), xX xT xLn d 207 34 [.ref 141, z1] [] e' o) : xX xT xLn d 207 15 [.ref 141, .int v1] [] σ o := by
  unfold B_X11_back_15 at h
  refine xX_blk (w := xw_207) eT_207 3 15 (ls' := [.ref 141, .int v1]) (st' := [.int 169, .int v1]) (σ' := σ) rfl ?_
  refine xX_ite (c := 169 ≤ v1) (w := xw_207) (i := 18) (a := 34) (b := 19) (st' := []) eT_207 rfl rfl (fun hc4 => ?_) (fun hc4 => ?_)
  · rw [if_pos hc4] at h
    obtain rfl := Option.some.inj h
    exact hE σ rfl _
  · rw [if_neg hc4] at h
    refine xX_blk (w := xw_207) eT_207 11 19 (ls' := [.ref 141, .int v1]) (st' := [.int (((169 : Int32) * (σ 141 3)) + v1), .ref 143, .int v1, .ref 142]) (σ' := σ) rfl ?_
    obtain ⟨hi5, h⟩ := xgd_inv h
    refine xX_one (w := xw_207) (i := 30) (ls' := [.ref 141, .int v1]) (st' := [.int (σ 143 (((169 : Int32) * (σ 141 3)) + v1).toNatClampNeg), .int v1, .ref 142]) (σ' := σ) eT_207 rfl (e_iald xs_143 hi5) ?_
    obtain ⟨hi6, h⟩ := xgd_inv h
    refine xX_one (w := xw_207) (i := 31) (ls' := [.ref 141, .int v1]) (st' := []) (σ' := xup σ 142 v1.toNatClampNeg (σ 143 (((169 : Int32) * (σ 141 3)) + v1).toNatClampNeg)) eT_207 rfl (e_iast xs_142 hi6) ?_
    obtain ⟨σ7, eσ7, h⟩ := xlet_inv h
    rw [← eσ7]
    refine xX_blk (w := xw_207) eT_207 1 32 (ls' := [.ref 141, .int (v1 + 1)]) (st' := []) (σ' := σ7) rfl ?_
    refine xX_jmp (w := xw_207) (i := 33) (a := 15) (st' := []) eT_207 rfl rfl ?_
    obtain rfl := Option.some.inj h
    exact hB ((v1 + 1), σ7) rfl
set_option maxHeartbeats 1000000 in
set_option maxRecDepth 20000 in
theorem TL_X11_back_15 {d : Nat} {o : Option Value × xM} (v1 : Int32) (σ : xM) {e : (xM)} (hd : 1 ≤ d) (h : L_X11_back_15 v1 σ = some e) (hE : ∀ (z1 : Value), xX xT xLn d 207 34 [.ref 141, z1] [] e o) : xX xT xLn d 207 15 [.ref 141, .int v1] [] σ o :=
  xloop_snd (X := fun s => xX xT xLn d 207 15 [.ref 141, .int s.1] [] s.2 o) (Y := fun e' => ∀ (z1 : Value), xX xT xLn d 207 34 [.ref 141, z1] [] e' o) (fun s q hs hB hE => TB_X11_back_15 s.1 s.2 hd hs hB hE) _ _ _ h hE
def F_X11_back (σ : xM) : Option (Int32 × xM) :=
  if (σ 141 3) = 0 then
    xbd (F_X11_refuses (-3) σ) fun r2 =>
    some (r2.1, r2.2)
  else
    xlet (xup σ 141 3 ((σ 141 3) - 1)) fun σ3 =>
    xbd (L_X11_back_15 0 σ3) fun e8 =>
    some ((e8 141 3), e8)
set_option maxHeartbeats 1000000 in
set_option maxRecDepth 20000 in
theorem T_X11_back (σ : xM) {d : Nat} {q : Int32 × xM} (hd : 1 ≤ d) (h : F_X11_back σ = some q) : xR xT xLn d 207 [.ref 141] σ (some (.int q.1), q.2) := by
  unfold F_X11_back at h
  show xX xT xLn d 207 0 [.ref 141, .null] [] σ _
  refine xX_blk (w := xw_207) eT_207 2 0 (ls' := [.ref 141, .null]) (st' := [.int (σ 141 3)]) (σ' := σ) rfl ?_
  refine xX_ite (c := (σ 141 3) = 0) (w := xw_207) (i := 2) (a := 3) (b := 7) (st' := []) eT_207 rfl rfl (fun hc1 => ?_) (fun hc1 => ?_)
  · rw [if_pos hc1] at h
    refine xX_blk (w := xw_207) eT_207 2 3 (ls' := [.ref 141, .null]) (st' := [.int (-3), .ref 141]) (σ' := σ) rfl ?_
    obtain ⟨r2, hr2, h⟩ := xbd_inv h
    refine xX_c1 (w := xw_207) (i := 5) (ls := [.ref 141, .null]) (rest := []) eT_207 rfl (by omega) rfl rfl rfl (T_X11_refuses (-3) σ (by omega) hr2) ?_
    obtain rfl := Option.some.inj h
    exact xX_ret (w := xw_207) (i := 6) eT_207 rfl rfl
  · rw [if_neg hc1] at h
    refine xX_blk (w := xw_207) eT_207 5 7 (ls' := [.ref 141, .null]) (st' := [.int ((σ 141 3) - 1), .ref 141]) (σ' := σ) rfl ?_
    refine xX_blk (w := xw_207) eT_207 1 12 (ls' := [.ref 141, .null]) (st' := []) (σ' := xup σ 141 3 ((σ 141 3) - 1)) rfl ?_
    obtain ⟨σ3, eσ3, h⟩ := xlet_inv h
    rw [← eσ3]
    refine xX_blk (w := xw_207) eT_207 2 13 (ls' := [.ref 141, .int 0]) (st' := []) (σ' := σ3) rfl ?_
    obtain ⟨e8, he8, h⟩ := xbd_inv h
    refine TL_X11_back_15 0 σ3 (by omega) he8 (fun z1 => ?_)
    refine xX_blk (w := xw_207) eT_207 3 34 (ls' := [.ref 141, .null]) (st' := [.int (e8 141 3)]) (σ' := e8) rfl ?_
    obtain rfl := Option.some.inj h
    exact xX_ret (w := xw_207) (i := 37) eT_207 rfl rfl
def F_X11_toldOf (a : Int32) (σ : xM) : Option (Int32) :=
  if a = 3 then
    some (σ 141 13)
  else if a = 4 then
    some (σ 142 0)
  else if a = 5 then
    some (σ 142 1)
  else if a = 6 then
    some (σ 142 2)
  else if a = 11 then
    some (σ 142 7)
  else if a = 12 then
    some (σ 141 3)
  else 
  if 3 ≤ a then
    xgd (xin (((3 : Int32) + a) - 7) 169) (
    some (σ 142 (((3 : Int32) + a) - 7).toNatClampNeg))
  else
    xgd (xin a 3) (
    some (σ 145 a.toNatClampNeg))
set_option maxHeartbeats 1000000 in
set_option maxRecDepth 20000 in
theorem T_X11_toldOf (a : Int32) (σ : xM) {d : Nat} {q : Int32} (hd : 0 ≤ d) (h : F_X11_toldOf a σ = some q) : xR xT xLn d 208 [.ref 141, .int a] σ (some (.int q), σ) := by
  unfold F_X11_toldOf at h
  show xX xT xLn d 208 0 [.ref 141, .int a] [] σ _
  refine xX_blk (w := xw_208) eT_208 1 0 (ls' := [.ref 141, .int a]) (st' := [.int a]) (σ' := σ) rfl ?_
  by_cases hc1 : a = 3
  · rw [if_pos hc1] at h
    refine xX_jmp (w := xw_208) (i := 1) (a := 2) (st' := []) eT_208 rfl (e_tsw (by rw [hc1]; decide)) ?_
    refine xX_blk (w := xw_208) eT_208 2 2 (ls' := [.ref 141, .int a]) (st' := [.int (σ 141 13)]) (σ' := σ) rfl ?_
    obtain rfl := Option.some.inj h
    exact xX_ret (w := xw_208) (i := 4) eT_208 rfl rfl
  rw [if_neg hc1] at h
  by_cases hc2 : a = 4
  · rw [if_pos hc2] at h
    refine xX_jmp (w := xw_208) (i := 1) (a := 5) (st' := []) eT_208 rfl (e_tsw (by rw [hc2]; decide)) ?_
    refine xX_blk (w := xw_208) eT_208 3 5 (ls' := [.ref 141, .int a]) (st' := [.int 0, .ref 142]) (σ' := σ) rfl ?_
    refine xX_one (w := xw_208) (i := 8) (ls' := [.ref 141, .int a]) (st' := [.int (σ 142 0)]) (σ' := σ) eT_208 rfl (e_ialK xs_142 (by decide) (by decide)) ?_
    obtain rfl := Option.some.inj h
    exact xX_ret (w := xw_208) (i := 9) eT_208 rfl rfl
  rw [if_neg hc2] at h
  by_cases hc3 : a = 5
  · rw [if_pos hc3] at h
    refine xX_jmp (w := xw_208) (i := 1) (a := 10) (st' := []) eT_208 rfl (e_tsw (by rw [hc3]; decide)) ?_
    refine xX_blk (w := xw_208) eT_208 3 10 (ls' := [.ref 141, .int a]) (st' := [.int 1, .ref 142]) (σ' := σ) rfl ?_
    refine xX_one (w := xw_208) (i := 13) (ls' := [.ref 141, .int a]) (st' := [.int (σ 142 1)]) (σ' := σ) eT_208 rfl (e_ialK xs_142 (by decide) (by decide)) ?_
    obtain rfl := Option.some.inj h
    exact xX_ret (w := xw_208) (i := 14) eT_208 rfl rfl
  rw [if_neg hc3] at h
  by_cases hc4 : a = 6
  · rw [if_pos hc4] at h
    refine xX_jmp (w := xw_208) (i := 1) (a := 15) (st' := []) eT_208 rfl (e_tsw (by rw [hc4]; decide)) ?_
    refine xX_blk (w := xw_208) eT_208 3 15 (ls' := [.ref 141, .int a]) (st' := [.int 2, .ref 142]) (σ' := σ) rfl ?_
    refine xX_one (w := xw_208) (i := 18) (ls' := [.ref 141, .int a]) (st' := [.int (σ 142 2)]) (σ' := σ) eT_208 rfl (e_ialK xs_142 (by decide) (by decide)) ?_
    obtain rfl := Option.some.inj h
    exact xX_ret (w := xw_208) (i := 19) eT_208 rfl rfl
  rw [if_neg hc4] at h
  by_cases hc5 : a = 11
  · rw [if_pos hc5] at h
    refine xX_jmp (w := xw_208) (i := 1) (a := 20) (st' := []) eT_208 rfl (e_tsw (by rw [hc5]; decide)) ?_
    refine xX_blk (w := xw_208) eT_208 3 20 (ls' := [.ref 141, .int a]) (st' := [.int 7, .ref 142]) (σ' := σ) rfl ?_
    refine xX_one (w := xw_208) (i := 23) (ls' := [.ref 141, .int a]) (st' := [.int (σ 142 7)]) (σ' := σ) eT_208 rfl (e_ialK xs_142 (by decide) (by decide)) ?_
    obtain rfl := Option.some.inj h
    exact xX_ret (w := xw_208) (i := 24) eT_208 rfl rfl
  rw [if_neg hc5] at h
  by_cases hc6 : a = 12
  · rw [if_pos hc6] at h
    refine xX_jmp (w := xw_208) (i := 1) (a := 25) (st' := []) eT_208 rfl (e_tsw (by rw [hc6]; decide)) ?_
    refine xX_blk (w := xw_208) eT_208 2 25 (ls' := [.ref 141, .int a]) (st' := [.int (σ 141 3)]) (σ' := σ) rfl ?_
    obtain rfl := Option.some.inj h
    exact xX_ret (w := xw_208) (i := 27) eT_208 rfl rfl
  rw [if_neg hc6] at h
  refine xX_jmp (w := xw_208) (i := 1) (a := 28) (st' := []) eT_208 rfl (e_tsw (e_tswd [3, 4, 5, 6, 11, 12] (by decide) (List.forall_mem_cons.mpr ⟨hc1, List.forall_mem_cons.mpr ⟨hc2, List.forall_mem_cons.mpr ⟨hc3, List.forall_mem_cons.mpr ⟨hc4, List.forall_mem_cons.mpr ⟨hc5, List.forall_mem_cons.mpr ⟨hc6, fun _ h => absurd h List.not_mem_nil⟩⟩⟩⟩⟩⟩))) ?_
  refine xX_blk (w := xw_208) eT_208 2 28 (ls' := [.ref 141, .int a]) (st' := [.int 3, .int a]) (σ' := σ) rfl ?_
  refine xX_ite (c := 3 ≤ a) (w := xw_208) (i := 30) (a := 36) (b := 31) (st' := []) eT_208 rfl rfl (fun hc7 => ?_) (fun hc7 => ?_)
  · rw [if_pos hc7] at h
    refine xX_blk (w := xw_208) eT_208 7 36 (ls' := [.ref 141, .int a]) (st' := [.int (((3 : Int32) + a) - 7), .ref 142]) (σ' := σ) rfl ?_
    obtain ⟨hi8, h⟩ := xgd_inv h
    refine xX_one (w := xw_208) (i := 43) (ls' := [.ref 141, .int a]) (st' := [.int (σ 142 (((3 : Int32) + a) - 7).toNatClampNeg)]) (σ' := σ) eT_208 rfl (e_iald xs_142 hi8) ?_
    obtain rfl := Option.some.inj h
    exact xX_ret (w := xw_208) (i := 44) eT_208 rfl rfl
  · rw [if_neg hc7] at h
    refine xX_blk (w := xw_208) eT_208 3 31 (ls' := [.ref 141, .int a]) (st' := [.int a, .ref 145]) (σ' := σ) rfl ?_
    obtain ⟨hi9, h⟩ := xgd_inv h
    refine xX_one (w := xw_208) (i := 34) (ls' := [.ref 141, .int a]) (st' := [.int (σ 145 a.toNatClampNeg)]) (σ' := σ) eT_208 rfl (e_iald xs_145 hi9) ?_
    refine xX_jmp (w := xw_208) (i := 35) (a := 44) (st' := [.int (σ 145 a.toNatClampNeg)]) eT_208 rfl rfl ?_
    obtain rfl := Option.some.inj h
    exact xX_ret (w := xw_208) (i := 44) eT_208 rfl rfl
def F_X11_told (a : Int32) (σ : xM) : Option (Int32 × xM) :=
  xbd (F_X11_in ((a : Int32).toInt64) 0 12 σ) fun r1 =>
  if r1 = 0 then
    xbd (F_X11_refuses (-2) σ) fun r3 =>
    some (r3.1, r3.2)
  else
    xbd (F_X11_toldOf a σ) fun r4 =>
    some (r4, σ)
set_option maxHeartbeats 1000000 in
set_option maxRecDepth 20000 in
theorem T_X11_told (a : Int32) (σ : xM) {d : Nat} {q : Int32 × xM} (hd : 1 ≤ d) (h : F_X11_told a σ = some q) : xR xT xLn d 209 [.ref 141, .int a] σ (some (.int q.1), q.2) := by
  unfold F_X11_told at h
  show xX xT xLn d 209 0 [.ref 141, .int a] [] σ _
  refine xX_blk (w := xw_209) eT_209 4 0 (ls' := [.ref 141, .int a]) (st' := [.long 12, .long 0, .long ((a : Int32).toInt64)]) (σ' := σ) rfl ?_
  obtain ⟨r1, hr1, h⟩ := xbd_inv h
  refine xX_c1 (w := xw_209) (i := 4) (ls := [.ref 141, .int a]) (rest := []) eT_209 rfl (by omega) rfl rfl rfl (T_X11_in ((a : Int32).toInt64) 0 12 σ (by omega) hr1) ?_
  refine xX_ite (c := r1 = 0) (w := xw_209) (i := 5) (a := 10) (b := 6) (st' := []) eT_209 rfl rfl (fun hc2 => ?_) (fun hc2 => ?_)
  · rw [if_pos hc2] at h
    refine xX_blk (w := xw_209) eT_209 2 10 (ls' := [.ref 141, .int a]) (st' := [.int (-2), .ref 141]) (σ' := σ) rfl ?_
    obtain ⟨r3, hr3, h⟩ := xbd_inv h
    refine xX_c1 (w := xw_209) (i := 12) (ls := [.ref 141, .int a]) (rest := []) eT_209 rfl (by omega) rfl rfl rfl (T_X11_refuses (-2) σ (by omega) hr3) ?_
    obtain rfl := Option.some.inj h
    exact xX_ret (w := xw_209) (i := 13) eT_209 rfl rfl
  · rw [if_neg hc2] at h
    refine xX_blk (w := xw_209) eT_209 2 6 (ls' := [.ref 141, .int a]) (st' := [.int a, .ref 141]) (σ' := σ) rfl ?_
    obtain ⟨r4, hr4, h⟩ := xbd_inv h
    refine xX_c1 (w := xw_209) (i := 8) (ls := [.ref 141, .int a]) (rest := []) eT_209 rfl (by omega) rfl rfl rfl (T_X11_toldOf a σ (by omega) hr4) ?_
    refine xX_jmp (w := xw_209) (i := 9) (a := 13) (st' := [.int r4]) eT_209 rfl rfl ?_
    obtain rfl := Option.some.inj h
    exact xX_ret (w := xw_209) (i := 13) eT_209 rfl rfl
def B_X11_digest_4 (v1 : Int64) (v3 : Int32) (σ : xM) : Option ((Int64 × Int32) ⊕ ((Int64))) :=
  if 13 ≤ v3 then
    some (.inr v1)
  else
    xbd (F_X11_toldOf v3 σ) fun r2 =>
    some (.inl ((((31 : Int64) * v1) + (r2 : Int32).toInt64), (v3 + 1)))
def L_X11_digest_4 (v1 : Int64) (v3 : Int32) (σ : xM) : Option ((Int64)) := xloop (fun s : Int64 × Int32 => B_X11_digest_4 s.1 s.2 σ) 6000 (v1, v3)
set_option maxHeartbeats 1000000 in
set_option maxRecDepth 20000 in
theorem TB_X11_digest_4 {d : Nat} {o : Option Value × xM} (v1 : Int64) (v3 : Int32) (σ : xM) {q : (Int64 × Int32) ⊕ ((Int64))} (hd : 1 ≤ d) (h : B_X11_digest_4 v1 v3 σ = some q) (hB : ∀ s', q = .inl s' → ∀ (z2 z4 : Value), xX xT xLn d 210 4 [.ref 141, .long s'.1, z2, .int s'.2, z4] [] σ o) (hE : ∀ e', q = .inr e' → ∀ (z2 z3 z4 : Value), xX xT xLn d 210 19 [.ref 141, .long e', z2, z3, z4] [] σ o) (z2 : Value) (z4 : Value) : xX xT xLn d 210 4 [.ref 141, .long v1, z2, .int v3, z4] [] σ o := by
  unfold B_X11_digest_4 at h
  refine xX_blk (w := xw_210) eT_210 3 4 (ls' := [.ref 141, .long v1, .null, .int v3, .null]) (st' := [.int 13, .int v3]) (σ' := σ) rfl ?_
  refine xX_ite (c := 13 ≤ v3) (w := xw_210) (i := 7) (a := 19) (b := 8) (st' := []) eT_210 rfl rfl (fun hc1 => ?_) (fun hc1 => ?_)
  · rw [if_pos hc1] at h
    obtain rfl := Option.some.inj h
    exact hE v1 rfl _ _ _
  · rw [if_neg hc1] at h
    refine xX_blk (w := xw_210) eT_210 5 8 (ls' := [.ref 141, .long v1, .null, .int v3, .null]) (st' := [.int v3, .ref 141, .long ((31 : Int64) * v1)]) (σ' := σ) rfl ?_
    obtain ⟨r2, hr2, h⟩ := xbd_inv h
    refine xX_c1 (w := xw_210) (i := 13) (ls := [.ref 141, .long v1, .null, .int v3, .null]) (rest := [.long ((31 : Int64) * v1)]) eT_210 rfl (by omega) rfl rfl rfl (T_X11_toldOf v3 σ (by omega) hr2) ?_
    refine xX_blk (w := xw_210) eT_210 4 14 (ls' := [.ref 141, .long (((31 : Int64) * v1) + (r2 : Int32).toInt64), .null, .int (v3 + 1), .null]) (st' := []) (σ' := σ) rfl ?_
    refine xX_jmp (w := xw_210) (i := 18) (a := 4) (st' := []) eT_210 rfl rfl ?_
    obtain rfl := Option.some.inj h
    exact hB ((((31 : Int64) * v1) + (r2 : Int32).toInt64), (v3 + 1)) rfl _ _
set_option maxHeartbeats 1000000 in
set_option maxRecDepth 20000 in
theorem TL_X11_digest_4 {d : Nat} {o : Option Value × xM} (v1 : Int64) (v3 : Int32) (σ : xM) {e : (Int64)} (hd : 1 ≤ d) (h : L_X11_digest_4 v1 v3 σ = some e) (hE : ∀ (z2 z3 z4 : Value), xX xT xLn d 210 19 [.ref 141, .long e, z2, z3, z4] [] σ o) (z2 : Value) (z4 : Value) : xX xT xLn d 210 4 [.ref 141, .long v1, z2, .int v3, z4] [] σ o :=
  xloop_snd (X := fun s => ∀ (z2 z4 : Value), xX xT xLn d 210 4 [.ref 141, .long s.1, z2, .int s.2, z4] [] σ o) (Y := fun e' => ∀ (z2 z3 z4 : Value), xX xT xLn d 210 19 [.ref 141, .long e', z2, z3, z4] [] σ o) (fun s q hs hB hE z2 z4 => TB_X11_digest_4 s.1 s.2 σ hd hs hB hE z2 z4) _ _ _ h hE z2 z4
def B_X11_digest_20 (v1 : Int64) (v3 : Int32) (σ : xM) : Option ((Int64 × Int32 × xM) ⊕ ((Int64 × xM))) :=
  if ((6 : Int32) * (σ 142 0)) ≤ v3 then
    some (.inr (v1, σ))
  else
    xbd (F_X11_ofNow (v3 / 6) (v3 - v3 / 6 * 6) σ) fun r5 =>
    some (.inl ((((31 : Int64) * v1) + (r5.1 : Int32).toInt64), (v3 + 1), r5.2))
def L_X11_digest_20 (v1 : Int64) (v3 : Int32) (σ : xM) : Option ((Int64 × xM)) := xloop (fun s : Int64 × Int32 × xM => B_X11_digest_20 s.1 s.2.1 s.2.2) 6000 (v1, v3, σ)
set_option maxHeartbeats 1000000 in
set_option maxRecDepth 20000 in
theorem TB_X11_digest_20 {d : Nat} {o : Option Value × xM} (v1 : Int64) (v3 : Int32) (σ : xM) {q : (Int64 × Int32 × xM) ⊕ ((Int64 × xM))} (hd : 6 ≤ d) (h : B_X11_digest_20 v1 v3 σ = some q) (hB : ∀ s', q = .inl s' → ∀ (z2 z4 : Value), xX xT xLn d 210 22 [.ref 141, .long s'.1, z2, .int s'.2.1, z4] [] s'.2.2 o) (hE : ∀ e', q = .inr e' → ∀ (z2 z3 z4 : Value), xX xT xLn d 210 47 [.ref 141, .long e'.1, z2, z3, z4] [] e'.2 o) (z2 : Value) (z4 : Value) : xX xT xLn d 210 22 [.ref 141, .long v1, z2, .int v3, z4] [] σ o := by
  unfold B_X11_digest_20 at h
  refine xX_blk (w := xw_210) eT_210 6 22 (ls' := [.ref 141, .long v1, .null, .int v3, .null]) (st' := [.int 0, .ref 142, .int 6, .int v3]) (σ' := σ) rfl ?_
  refine xX_one (w := xw_210) (i := 28) (ls' := [.ref 141, .long v1, .null, .int v3, .null]) (st' := [.int (σ 142 0), .int 6, .int v3]) (σ' := σ) eT_210 rfl (e_ialK xs_142 (by decide) (by decide)) ?_
  refine xX_blk (w := xw_210) eT_210 1 29 (ls' := [.ref 141, .long v1, .null, .int v3, .null]) (st' := [.int ((6 : Int32) * (σ 142 0)), .int v3]) (σ' := σ) rfl ?_
  refine xX_ite (c := ((6 : Int32) * (σ 142 0)) ≤ v3) (w := xw_210) (i := 30) (a := 47) (b := 31) (st' := []) eT_210 rfl rfl (fun hc4 => ?_) (fun hc4 => ?_)
  · rw [if_pos hc4] at h
    obtain rfl := Option.some.inj h
    exact hE (v1, σ) rfl _ _ _
  · rw [if_neg hc4] at h
    refine xX_blk (w := xw_210) eT_210 6 31 (ls' := [.ref 141, .long v1, .null, .int v3, .null]) (st' := [.int 6, .int v3, .ref 141, .long ((31 : Int64) * v1)]) (σ' := σ) rfl ?_
    refine xX_one (w := xw_210) (i := 37) (ls' := [.ref 141, .long v1, .null, .int v3, .null]) (st' := [.int (v3 / 6), .ref 141, .long ((31 : Int64) * v1)]) (σ' := σ) eT_210 rfl (e_idiv (by decide)) ?_
    refine xX_blk (w := xw_210) eT_210 2 38 (ls' := [.ref 141, .long v1, .null, .int v3, .null]) (st' := [.int 6, .int v3, .int (v3 / 6), .ref 141, .long ((31 : Int64) * v1)]) (σ' := σ) rfl ?_
    refine xX_one (w := xw_210) (i := 40) (ls' := [.ref 141, .long v1, .null, .int v3, .null]) (st' := [.int (v3 - v3 / 6 * 6), .int (v3 / 6), .ref 141, .long ((31 : Int64) * v1)]) (σ' := σ) eT_210 rfl (e_irem (by decide)) ?_
    obtain ⟨r5, hr5, h⟩ := xbd_inv h
    refine xX_c1 (w := xw_210) (i := 41) (ls := [.ref 141, .long v1, .null, .int v3, .null]) (rest := [.long ((31 : Int64) * v1)]) eT_210 rfl (by omega) rfl rfl rfl (T_X11_ofNow (v3 / 6) (v3 - v3 / 6 * 6) σ (by omega) hr5) ?_
    refine xX_blk (w := xw_210) eT_210 4 42 (ls' := [.ref 141, .long (((31 : Int64) * v1) + (r5.1 : Int32).toInt64), .null, .int (v3 + 1), .null]) (st' := []) (σ' := r5.2) rfl ?_
    refine xX_jmp (w := xw_210) (i := 46) (a := 22) (st' := []) eT_210 rfl rfl ?_
    obtain rfl := Option.some.inj h
    exact hB ((((31 : Int64) * v1) + (r5.1 : Int32).toInt64), (v3 + 1), r5.2) rfl _ _
set_option maxHeartbeats 1000000 in
set_option maxRecDepth 20000 in
theorem TL_X11_digest_20 {d : Nat} {o : Option Value × xM} (v1 : Int64) (v3 : Int32) (σ : xM) {e : (Int64 × xM)} (hd : 6 ≤ d) (h : L_X11_digest_20 v1 v3 σ = some e) (hE : ∀ (z2 z3 z4 : Value), xX xT xLn d 210 47 [.ref 141, .long e.1, z2, z3, z4] [] e.2 o) (z2 : Value) (z4 : Value) : xX xT xLn d 210 22 [.ref 141, .long v1, z2, .int v3, z4] [] σ o :=
  xloop_snd (X := fun s => ∀ (z2 z4 : Value), xX xT xLn d 210 22 [.ref 141, .long s.1, z2, .int s.2.1, z4] [] s.2.2 o) (Y := fun e' => ∀ (z2 z3 z4 : Value), xX xT xLn d 210 47 [.ref 141, .long e'.1, z2, z3, z4] [] e'.2 o) (fun s q hs hB hE z2 z4 => TB_X11_digest_20 s.1 s.2.1 s.2.2 hd hs hB hE z2 z4) _ _ _ h hE z2 z4
def B_X11_digest_54 (p3 : Int32) (v1 : Int64) (v4 : Int32) (σ : xM) : Option ((Int64 × Int32) ⊕ ((Int64))) :=
  if p3 ≤ v4 then
    some (.inr v1)
  else
    xgd (xin (((37 : Int32) + ((8 : Int32) * v4)) + p3) 169) (
    xbd (F_X11_way v4 p3 σ) fun r10 =>
    some (.inl ((((31 : Int64) * (((31 : Int64) * v1) + ((σ 142 (((37 : Int32) + ((8 : Int32) * v4)) + p3).toNatClampNeg) : Int32).toInt64)) + (r10 : Int32).toInt64), (v4 + 1))))
def L_X11_digest_54 (p3 : Int32) (v1 : Int64) (v4 : Int32) (σ : xM) : Option ((Int64)) := xloop (fun s : Int64 × Int32 => B_X11_digest_54 p3 s.1 s.2 σ) 6000 (v1, v4)
set_option maxHeartbeats 1000000 in
set_option maxRecDepth 20000 in
theorem TB_X11_digest_54 {d : Nat} {o : Option Value × xM} (p3 : Int32) (v1 : Int64) (v4 : Int32) (σ : xM) {q : (Int64 × Int32) ⊕ ((Int64))} (hd : 6 ≤ d) (h : B_X11_digest_54 p3 v1 v4 σ = some q) (hB : ∀ s', q = .inl s' → ∀ (z2 : Value), xX xT xLn d 210 59 [.ref 141, .long s'.1, z2, .int p3, .int s'.2] [] σ o) (hE : ∀ e', q = .inr e' → ∀ (z2 z4 : Value), xX xT xLn d 210 89 [.ref 141, .long e', z2, .int p3, z4] [] σ o) (z2 : Value) : xX xT xLn d 210 59 [.ref 141, .long v1, z2, .int p3, .int v4] [] σ o := by
  unfold B_X11_digest_54 at h
  refine xX_blk (w := xw_210) eT_210 3 59 (ls' := [.ref 141, .long v1, .null, .int p3, .int v4]) (st' := [.int p3, .int v4]) (σ' := σ) rfl ?_
  refine xX_ite (c := p3 ≤ v4) (w := xw_210) (i := 62) (a := 89) (b := 63) (st' := []) eT_210 rfl rfl (fun hc8 => ?_) (fun hc8 => ?_)
  · rw [if_pos hc8] at h
    obtain rfl := Option.some.inj h
    exact hE v1 rfl _ _
  · rw [if_neg hc8] at h
    refine xX_blk (w := xw_210) eT_210 13 63 (ls' := [.ref 141, .long v1, .null, .int p3, .int v4]) (st' := [.int (((37 : Int32) + ((8 : Int32) * v4)) + p3), .ref 142, .long ((31 : Int64) * v1), .long 31]) (σ' := σ) rfl ?_
    obtain ⟨hi9, h⟩ := xgd_inv h
    refine xX_one (w := xw_210) (i := 76) (ls' := [.ref 141, .long v1, .null, .int p3, .int v4]) (st' := [.int (σ 142 (((37 : Int32) + ((8 : Int32) * v4)) + p3).toNatClampNeg), .long ((31 : Int64) * v1), .long 31]) (σ' := σ) eT_210 rfl (e_iald xs_142 hi9) ?_
    refine xX_blk (w := xw_210) eT_210 6 77 (ls' := [.ref 141, .long v1, .null, .int p3, .int v4]) (st' := [.int p3, .int v4, .ref 141, .long ((31 : Int64) * (((31 : Int64) * v1) + ((σ 142 (((37 : Int32) + ((8 : Int32) * v4)) + p3).toNatClampNeg) : Int32).toInt64))]) (σ' := σ) rfl ?_
    obtain ⟨r10, hr10, h⟩ := xbd_inv h
    refine xX_c1 (w := xw_210) (i := 83) (ls := [.ref 141, .long v1, .null, .int p3, .int v4]) (rest := [.long ((31 : Int64) * (((31 : Int64) * v1) + ((σ 142 (((37 : Int32) + ((8 : Int32) * v4)) + p3).toNatClampNeg) : Int32).toInt64))]) eT_210 rfl (by omega) rfl rfl rfl (T_X11_way v4 p3 σ (by omega) hr10) ?_
    refine xX_blk (w := xw_210) eT_210 4 84 (ls' := [.ref 141, .long (((31 : Int64) * (((31 : Int64) * v1) + ((σ 142 (((37 : Int32) + ((8 : Int32) * v4)) + p3).toNatClampNeg) : Int32).toInt64)) + (r10 : Int32).toInt64), .null, .int p3, .int (v4 + 1)]) (st' := []) (σ' := σ) rfl ?_
    refine xX_jmp (w := xw_210) (i := 88) (a := 59) (st' := []) eT_210 rfl rfl ?_
    obtain rfl := Option.some.inj h
    exact hB ((((31 : Int64) * (((31 : Int64) * v1) + ((σ 142 (((37 : Int32) + ((8 : Int32) * v4)) + p3).toNatClampNeg) : Int32).toInt64)) + (r10 : Int32).toInt64), (v4 + 1)) rfl _
set_option maxHeartbeats 1000000 in
set_option maxRecDepth 20000 in
theorem TL_X11_digest_54 {d : Nat} {o : Option Value × xM} (p3 : Int32) (v1 : Int64) (v4 : Int32) (σ : xM) {e : (Int64)} (hd : 6 ≤ d) (h : L_X11_digest_54 p3 v1 v4 σ = some e) (hE : ∀ (z2 z4 : Value), xX xT xLn d 210 89 [.ref 141, .long e, z2, .int p3, z4] [] σ o) (z2 : Value) : xX xT xLn d 210 59 [.ref 141, .long v1, z2, .int p3, .int v4] [] σ o :=
  xloop_snd (X := fun s => ∀ (z2 : Value), xX xT xLn d 210 59 [.ref 141, .long s.1, z2, .int p3, .int s.2] [] σ o) (Y := fun e' => ∀ (z2 z4 : Value), xX xT xLn d 210 89 [.ref 141, .long e', z2, .int p3, z4] [] σ o) (fun s q hs hB hE z2 => TB_X11_digest_54 p3 s.1 s.2 σ hd hs hB hE z2) _ _ _ h hE z2
def B_X11_digest_46 (v1 : Int64) (v3 : Int32) (σ : xM) : Option ((Int64 × Int32) ⊕ ((Int64))) :=
  if (σ 142 0) ≤ v3 then
    some (.inr v1)
  else
    xbd (L_X11_digest_54 v3 v1 0 σ) fun e11 =>
    some (.inl (e11, (v3 + 1)))
def L_X11_digest_46 (v1 : Int64) (v3 : Int32) (σ : xM) : Option ((Int64)) := xloop (fun s : Int64 × Int32 => B_X11_digest_46 s.1 s.2 σ) 6000 (v1, v3)
set_option maxHeartbeats 1000000 in
set_option maxRecDepth 20000 in
theorem TB_X11_digest_46 {d : Nat} {o : Option Value × xM} (v1 : Int64) (v3 : Int32) (σ : xM) {q : (Int64 × Int32) ⊕ ((Int64))} (hd : 6 ≤ d) (h : B_X11_digest_46 v1 v3 σ = some q) (hB : ∀ s', q = .inl s' → ∀ (z2 z4 : Value), xX xT xLn d 210 50 [.ref 141, .long s'.1, z2, .int s'.2, z4] [] σ o) (hE : ∀ e', q = .inr e' → ∀ (z2 z3 z4 : Value), xX xT xLn d 210 92 [.ref 141, .long e', z2, z3, z4] [] σ o) (z2 : Value) (z4 : Value) : xX xT xLn d 210 50 [.ref 141, .long v1, z2, .int v3, z4] [] σ o := by
  unfold B_X11_digest_46 at h
  refine xX_blk (w := xw_210) eT_210 5 50 (ls' := [.ref 141, .long v1, .null, .int v3, .null]) (st' := [.int 0, .ref 142, .int v3]) (σ' := σ) rfl ?_
  refine xX_one (w := xw_210) (i := 55) (ls' := [.ref 141, .long v1, .null, .int v3, .null]) (st' := [.int (σ 142 0), .int v3]) (σ' := σ) eT_210 rfl (e_ialK xs_142 (by decide) (by decide)) ?_
  refine xX_ite (c := (σ 142 0) ≤ v3) (w := xw_210) (i := 56) (a := 92) (b := 57) (st' := []) eT_210 rfl rfl (fun hc7 => ?_) (fun hc7 => ?_)
  · rw [if_pos hc7] at h
    obtain rfl := Option.some.inj h
    exact hE v1 rfl _ _ _
  · rw [if_neg hc7] at h
    refine xX_blk (w := xw_210) eT_210 2 57 (ls' := [.ref 141, .long v1, .null, .int v3, .int 0]) (st' := []) (σ' := σ) rfl ?_
    obtain ⟨e11, he11, h⟩ := xbd_inv h
    refine TL_X11_digest_54 v3 v1 0 σ (by omega) he11 (fun z2 z4 => ?_) _
    refine xX_blk (w := xw_210) eT_210 2 89 (ls' := [.ref 141, .long e11, .null, .int (v3 + 1), .null]) (st' := []) (σ' := σ) rfl ?_
    refine xX_jmp (w := xw_210) (i := 91) (a := 50) (st' := []) eT_210 rfl rfl ?_
    obtain rfl := Option.some.inj h
    exact hB (e11, (v3 + 1)) rfl _ _
set_option maxHeartbeats 1000000 in
set_option maxRecDepth 20000 in
theorem TL_X11_digest_46 {d : Nat} {o : Option Value × xM} (v1 : Int64) (v3 : Int32) (σ : xM) {e : (Int64)} (hd : 6 ≤ d) (h : L_X11_digest_46 v1 v3 σ = some e) (hE : ∀ (z2 z3 z4 : Value), xX xT xLn d 210 92 [.ref 141, .long e, z2, z3, z4] [] σ o) (z2 : Value) (z4 : Value) : xX xT xLn d 210 50 [.ref 141, .long v1, z2, .int v3, z4] [] σ o :=
  xloop_snd (X := fun s => ∀ (z2 z4 : Value), xX xT xLn d 210 50 [.ref 141, .long s.1, z2, .int s.2, z4] [] σ o) (Y := fun e' => ∀ (z2 z3 z4 : Value), xX xT xLn d 210 92 [.ref 141, .long e', z2, z3, z4] [] σ o) (fun s q hs hB hE z2 z4 => TB_X11_digest_46 s.1 s.2 σ hd hs hB hE z2 z4) _ _ _ h hE z2 z4
def B_X11_digest_87 (v1 : Int64) (v3 : Int32) (σ : xM) : Option ((Int64 × Int32 × xM) ⊕ ((Int64 × xM))) :=
  if ((10 : Int32) * (σ 142 1)) ≤ v3 then
    some (.inr (v1, σ))
  else
    xbd (F_X11_siteThen (v3 / 10) (v3 - v3 / 10 * 10) σ) fun r14 =>
    some (.inl ((((31 : Int64) * v1) + (r14.1 : Int32).toInt64), (v3 + 1), r14.2))
def L_X11_digest_87 (v1 : Int64) (v3 : Int32) (σ : xM) : Option ((Int64 × xM)) := xloop (fun s : Int64 × Int32 × xM => B_X11_digest_87 s.1 s.2.1 s.2.2) 6000 (v1, v3, σ)
set_option maxHeartbeats 1000000 in
set_option maxRecDepth 20000 in
theorem TB_X11_digest_87 {d : Nat} {o : Option Value × xM} (v1 : Int64) (v3 : Int32) (σ : xM) {q : (Int64 × Int32 × xM) ⊕ ((Int64 × xM))} (hd : 7 ≤ d) (h : B_X11_digest_87 v1 v3 σ = some q) (hB : ∀ s', q = .inl s' → ∀ (z2 z4 : Value), xX xT xLn d 210 95 [.ref 141, .long s'.1, z2, .int s'.2.1, z4] [] s'.2.2 o) (hE : ∀ e', q = .inr e' → ∀ (z2 z3 z4 : Value), xX xT xLn d 210 120 [.ref 141, .long e'.1, z2, z3, z4] [] e'.2 o) (z2 : Value) (z4 : Value) : xX xT xLn d 210 95 [.ref 141, .long v1, z2, .int v3, z4] [] σ o := by
  unfold B_X11_digest_87 at h
  refine xX_blk (w := xw_210) eT_210 6 95 (ls' := [.ref 141, .long v1, .null, .int v3, .null]) (st' := [.int 1, .ref 142, .int 10, .int v3]) (σ' := σ) rfl ?_
  refine xX_one (w := xw_210) (i := 101) (ls' := [.ref 141, .long v1, .null, .int v3, .null]) (st' := [.int (σ 142 1), .int 10, .int v3]) (σ' := σ) eT_210 rfl (e_ialK xs_142 (by decide) (by decide)) ?_
  refine xX_blk (w := xw_210) eT_210 1 102 (ls' := [.ref 141, .long v1, .null, .int v3, .null]) (st' := [.int ((10 : Int32) * (σ 142 1)), .int v3]) (σ' := σ) rfl ?_
  refine xX_ite (c := ((10 : Int32) * (σ 142 1)) ≤ v3) (w := xw_210) (i := 103) (a := 120) (b := 104) (st' := []) eT_210 rfl rfl (fun hc13 => ?_) (fun hc13 => ?_)
  · rw [if_pos hc13] at h
    obtain rfl := Option.some.inj h
    exact hE (v1, σ) rfl _ _ _
  · rw [if_neg hc13] at h
    refine xX_blk (w := xw_210) eT_210 6 104 (ls' := [.ref 141, .long v1, .null, .int v3, .null]) (st' := [.int 10, .int v3, .ref 141, .long ((31 : Int64) * v1)]) (σ' := σ) rfl ?_
    refine xX_one (w := xw_210) (i := 110) (ls' := [.ref 141, .long v1, .null, .int v3, .null]) (st' := [.int (v3 / 10), .ref 141, .long ((31 : Int64) * v1)]) (σ' := σ) eT_210 rfl (e_idiv (by decide)) ?_
    refine xX_blk (w := xw_210) eT_210 2 111 (ls' := [.ref 141, .long v1, .null, .int v3, .null]) (st' := [.int 10, .int v3, .int (v3 / 10), .ref 141, .long ((31 : Int64) * v1)]) (σ' := σ) rfl ?_
    refine xX_one (w := xw_210) (i := 113) (ls' := [.ref 141, .long v1, .null, .int v3, .null]) (st' := [.int (v3 - v3 / 10 * 10), .int (v3 / 10), .ref 141, .long ((31 : Int64) * v1)]) (σ' := σ) eT_210 rfl (e_irem (by decide)) ?_
    obtain ⟨r14, hr14, h⟩ := xbd_inv h
    refine xX_c1 (w := xw_210) (i := 114) (ls := [.ref 141, .long v1, .null, .int v3, .null]) (rest := [.long ((31 : Int64) * v1)]) eT_210 rfl (by omega) rfl rfl rfl (T_X11_siteThen (v3 / 10) (v3 - v3 / 10 * 10) σ (by omega) hr14) ?_
    refine xX_blk (w := xw_210) eT_210 4 115 (ls' := [.ref 141, .long (((31 : Int64) * v1) + (r14.1 : Int32).toInt64), .null, .int (v3 + 1), .null]) (st' := []) (σ' := r14.2) rfl ?_
    refine xX_jmp (w := xw_210) (i := 119) (a := 95) (st' := []) eT_210 rfl rfl ?_
    obtain rfl := Option.some.inj h
    exact hB ((((31 : Int64) * v1) + (r14.1 : Int32).toInt64), (v3 + 1), r14.2) rfl _ _
set_option maxHeartbeats 1000000 in
set_option maxRecDepth 20000 in
theorem TL_X11_digest_87 {d : Nat} {o : Option Value × xM} (v1 : Int64) (v3 : Int32) (σ : xM) {e : (Int64 × xM)} (hd : 7 ≤ d) (h : L_X11_digest_87 v1 v3 σ = some e) (hE : ∀ (z2 z3 z4 : Value), xX xT xLn d 210 120 [.ref 141, .long e.1, z2, z3, z4] [] e.2 o) (z2 : Value) (z4 : Value) : xX xT xLn d 210 95 [.ref 141, .long v1, z2, .int v3, z4] [] σ o :=
  xloop_snd (X := fun s => ∀ (z2 z4 : Value), xX xT xLn d 210 95 [.ref 141, .long s.1, z2, .int s.2.1, z4] [] s.2.2 o) (Y := fun e' => ∀ (z2 z3 z4 : Value), xX xT xLn d 210 120 [.ref 141, .long e'.1, z2, z3, z4] [] e'.2 o) (fun s q hs hB hE z2 z4 => TB_X11_digest_87 s.1 s.2.1 s.2.2 hd hs hB hE z2 z4) _ _ _ h hE z2 z4
def B_X11_digest_113 (v1 : Int64) (v3 : Int32) (σ : xM) : Option ((Int64 × Int32 × xM) ⊕ ((Int64 × xM))) :=
  if ((5 : Int32) * (σ 142 2)) ≤ v3 then
    some (.inr (v1, σ))
  else
    xbd (F_X11_sessionNow (v3 / 5) (v3 - v3 / 5 * 5) σ) fun r17 =>
    some (.inl ((((31 : Int64) * v1) + (r17.1 : Int32).toInt64), (v3 + 1), r17.2))
def L_X11_digest_113 (v1 : Int64) (v3 : Int32) (σ : xM) : Option ((Int64 × xM)) := xloop (fun s : Int64 × Int32 × xM => B_X11_digest_113 s.1 s.2.1 s.2.2) 6000 (v1, v3, σ)
set_option maxHeartbeats 1000000 in
set_option maxRecDepth 20000 in
theorem TB_X11_digest_113 {d : Nat} {o : Option Value × xM} (v1 : Int64) (v3 : Int32) (σ : xM) {q : (Int64 × Int32 × xM) ⊕ ((Int64 × xM))} (hd : 7 ≤ d) (h : B_X11_digest_113 v1 v3 σ = some q) (hB : ∀ s', q = .inl s' → ∀ (z2 z4 : Value), xX xT xLn d 210 123 [.ref 141, .long s'.1, z2, .int s'.2.1, z4] [] s'.2.2 o) (hE : ∀ e', q = .inr e' → ∀ (z0 z2 z3 z4 : Value), xX xT xLn d 210 148 [z0, .long e'.1, z2, z3, z4] [] e'.2 o) (z2 : Value) (z4 : Value) : xX xT xLn d 210 123 [.ref 141, .long v1, z2, .int v3, z4] [] σ o := by
  unfold B_X11_digest_113 at h
  refine xX_blk (w := xw_210) eT_210 6 123 (ls' := [.ref 141, .long v1, .null, .int v3, .null]) (st' := [.int 2, .ref 142, .int 5, .int v3]) (σ' := σ) rfl ?_
  refine xX_one (w := xw_210) (i := 129) (ls' := [.ref 141, .long v1, .null, .int v3, .null]) (st' := [.int (σ 142 2), .int 5, .int v3]) (σ' := σ) eT_210 rfl (e_ialK xs_142 (by decide) (by decide)) ?_
  refine xX_blk (w := xw_210) eT_210 1 130 (ls' := [.ref 141, .long v1, .null, .int v3, .null]) (st' := [.int ((5 : Int32) * (σ 142 2)), .int v3]) (σ' := σ) rfl ?_
  refine xX_ite (c := ((5 : Int32) * (σ 142 2)) ≤ v3) (w := xw_210) (i := 131) (a := 148) (b := 132) (st' := []) eT_210 rfl rfl (fun hc16 => ?_) (fun hc16 => ?_)
  · rw [if_pos hc16] at h
    obtain rfl := Option.some.inj h
    exact hE (v1, σ) rfl _ _ _ _
  · rw [if_neg hc16] at h
    refine xX_blk (w := xw_210) eT_210 6 132 (ls' := [.ref 141, .long v1, .null, .int v3, .null]) (st' := [.int 5, .int v3, .ref 141, .long ((31 : Int64) * v1)]) (σ' := σ) rfl ?_
    refine xX_one (w := xw_210) (i := 138) (ls' := [.ref 141, .long v1, .null, .int v3, .null]) (st' := [.int (v3 / 5), .ref 141, .long ((31 : Int64) * v1)]) (σ' := σ) eT_210 rfl (e_idiv (by decide)) ?_
    refine xX_blk (w := xw_210) eT_210 2 139 (ls' := [.ref 141, .long v1, .null, .int v3, .null]) (st' := [.int 5, .int v3, .int (v3 / 5), .ref 141, .long ((31 : Int64) * v1)]) (σ' := σ) rfl ?_
    refine xX_one (w := xw_210) (i := 141) (ls' := [.ref 141, .long v1, .null, .int v3, .null]) (st' := [.int (v3 - v3 / 5 * 5), .int (v3 / 5), .ref 141, .long ((31 : Int64) * v1)]) (σ' := σ) eT_210 rfl (e_irem (by decide)) ?_
    obtain ⟨r17, hr17, h⟩ := xbd_inv h
    refine xX_c1 (w := xw_210) (i := 142) (ls := [.ref 141, .long v1, .null, .int v3, .null]) (rest := [.long ((31 : Int64) * v1)]) eT_210 rfl (by omega) rfl rfl rfl (T_X11_sessionNow (v3 / 5) (v3 - v3 / 5 * 5) σ (by omega) hr17) ?_
    refine xX_blk (w := xw_210) eT_210 4 143 (ls' := [.ref 141, .long (((31 : Int64) * v1) + (r17.1 : Int32).toInt64), .null, .int (v3 + 1), .null]) (st' := []) (σ' := r17.2) rfl ?_
    refine xX_jmp (w := xw_210) (i := 147) (a := 123) (st' := []) eT_210 rfl rfl ?_
    obtain rfl := Option.some.inj h
    exact hB ((((31 : Int64) * v1) + (r17.1 : Int32).toInt64), (v3 + 1), r17.2) rfl _ _
set_option maxHeartbeats 1000000 in
set_option maxRecDepth 20000 in
theorem TL_X11_digest_113 {d : Nat} {o : Option Value × xM} (v1 : Int64) (v3 : Int32) (σ : xM) {e : (Int64 × xM)} (hd : 7 ≤ d) (h : L_X11_digest_113 v1 v3 σ = some e) (hE : ∀ (z0 z2 z3 z4 : Value), xX xT xLn d 210 148 [z0, .long e.1, z2, z3, z4] [] e.2 o) (z2 : Value) (z4 : Value) : xX xT xLn d 210 123 [.ref 141, .long v1, z2, .int v3, z4] [] σ o :=
  xloop_snd (X := fun s => ∀ (z2 z4 : Value), xX xT xLn d 210 123 [.ref 141, .long s.1, z2, .int s.2.1, z4] [] s.2.2 o) (Y := fun e' => ∀ (z0 z2 z3 z4 : Value), xX xT xLn d 210 148 [z0, .long e'.1, z2, z3, z4] [] e'.2 o) (fun s q hs hB hE z2 z4 => TB_X11_digest_113 s.1 s.2.1 s.2.2 hd hs hB hE z2 z4) _ _ _ h hE z2 z4
def F_X11_digest (σ : xM) : Option (Int64 × xM) :=
  xbd (L_X11_digest_4 2333 0 σ) fun e3 =>
  xbd (L_X11_digest_20 e3 0 σ) fun e6 =>
  xbd (L_X11_digest_46 e6.1 1 e6.2) fun e12 =>
  xbd (L_X11_digest_87 e12 0 e6.2) fun e15 =>
  xbd (L_X11_digest_113 e15.1 0 e15.2) fun e18 =>
  some (e18.1, e18.2)
set_option maxHeartbeats 1000000 in
set_option maxRecDepth 20000 in
theorem T_X11_digest (σ : xM) {d : Nat} {q : Int64 × xM} (hd : 7 ≤ d) (h : F_X11_digest σ = some q) : xR xT xLn d 210 [.ref 141] σ (some (.long q.1), q.2) := by
  unfold F_X11_digest at h
  show xX xT xLn d 210 0 [.ref 141, .null, .null, .null, .null] [] σ _
  refine xX_blk (w := xw_210) eT_210 4 0 (ls' := [.ref 141, .long 2333, .null, .int 0, .null]) (st' := []) (σ' := σ) rfl ?_
  obtain ⟨e3, he3, h⟩ := xbd_inv h
  refine TL_X11_digest_4 2333 0 σ (by omega) he3 (fun z2 z3 z4 => ?_) _ _
  refine xX_blk (w := xw_210) eT_210 3 19 (ls' := [.ref 141, .long e3, .null, .int 0, .null]) (st' := []) (σ' := σ) rfl ?_
  obtain ⟨e6, he6, h⟩ := xbd_inv h
  refine TL_X11_digest_20 e3 0 σ (by omega) he6 (fun z2 z3 z4 => ?_) _ _
  refine xX_blk (w := xw_210) eT_210 3 47 (ls' := [.ref 141, .long e6.1, .null, .int 1, .null]) (st' := []) (σ' := e6.2) rfl ?_
  obtain ⟨e12, he12, h⟩ := xbd_inv h
  refine TL_X11_digest_46 e6.1 1 e6.2 (by omega) he12 (fun z2 z3 z4 => ?_) _ _
  refine xX_blk (w := xw_210) eT_210 3 92 (ls' := [.ref 141, .long e12, .null, .int 0, .null]) (st' := []) (σ' := e6.2) rfl ?_
  obtain ⟨e15, he15, h⟩ := xbd_inv h
  refine TL_X11_digest_87 e12 0 e6.2 (by omega) he15 (fun z2 z3 z4 => ?_) _ _
  refine xX_blk (w := xw_210) eT_210 3 120 (ls' := [.ref 141, .long e15.1, .null, .int 0, .null]) (st' := []) (σ' := e15.2) rfl ?_
  obtain ⟨e18, he18, h⟩ := xbd_inv h
  refine TL_X11_digest_113 e15.1 0 e15.2 (by omega) he18 (fun z0 z2 z3 z4 => ?_) _ _
  refine xX_blk (w := xw_210) eT_210 2 148 (ls' := [.null, .long e18.1, .null, .null, .null]) (st' := [.long e18.1]) (σ' := e18.2) rfl ?_
  obtain rfl := Option.some.inj h
  exact xX_ret (w := xw_210) (i := 150) eT_210 rfl rfl
