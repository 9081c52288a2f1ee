def F_X11_site (a : Int32) (b : Int32) (σ : xM) : Option (Int32 × xM) :=
  xbd (F_X11_canSite a b σ) fun r1 =>
  if 0 ≤ r1 then
    xbd (F_X11_keep σ) fun r3 =>
    xbd (F_X11_siteNow a b r3) fun r4 =>
    some (r4.1, r4.2)
  else
    xbd (F_X11_refuses r1 σ) fun r5 =>
    some (r5.1, r5.2)
set_option maxHeartbeats 1000000 in
set_option maxRecDepth 20000 in
theorem T_X11_site (a : Int32) (b : Int32) (σ : xM) {d : Nat} {q : Int32 × xM} (hd : 3 ≤ d) (h : F_X11_site a b σ = some q) : xR xT xLn d 148 [.ref 141, .int a, .int b] σ (some (.int q.1), q.2) := by
  unfold F_X11_site at h
  show xX xT xLn d 148 0 [.ref 141, .int a, .int b, .null] [] σ _
  refine xX_blk (w := xw_148) eT_148 3 0 (ls' := [.ref 141, .int a, .int b, .null]) (st' := [.int b, .int a, .ref 141]) (σ' := σ) rfl ?_
  obtain ⟨r1, hr1, h⟩ := xbd_inv h
  refine xX_c1 (w := xw_148) (i := 3) (ls := [.ref 141, .int a, .int b, .null]) (rest := []) eT_148 rfl (by omega) rfl rfl rfl (T_X11_canSite a b σ (by omega) hr1) ?_
  refine xX_blk (w := xw_148) eT_148 2 4 (ls' := [.ref 141, .int a, .int b, .int r1]) (st' := [.int r1]) (σ' := σ) rfl ?_
  refine xX_ite (c := 0 ≤ r1) (w := xw_148) (i := 6) (a := 11) (b := 7) (st' := []) eT_148 rfl rfl (fun hc2 => ?_) (fun hc2 => ?_)
  · rw [if_pos hc2] at h
    refine xX_blk (w := xw_148) eT_148 1 11 (ls' := [.ref 141, .int a, .int b, .int r1]) (st' := [.ref 141]) (σ' := σ) rfl ?_
    obtain ⟨r3, hr3, h⟩ := xbd_inv h
    refine xX_c0 (w := xw_148) (i := 12) (ls := [.ref 141, .int a, .int b, .int r1]) (rest := []) eT_148 rfl (by omega) rfl rfl rfl (T_X11_keep σ (by omega) hr3) ?_
    refine xX_blk (w := xw_148) eT_148 3 13 (ls' := [.ref 141, .int a, .int b, .int r1]) (st' := [.int b, .int a, .ref 141]) (σ' := r3) rfl ?_
    obtain ⟨r4, hr4, h⟩ := xbd_inv h
    refine xX_c1 (w := xw_148) (i := 16) (ls := [.ref 141, .int a, .int b, .int r1]) (rest := []) eT_148 rfl (by omega) rfl rfl rfl (T_X11_siteNow a b r3 (by omega) hr4) ?_
    obtain rfl := Option.some.inj h
    exact xX_ret (w := xw_148) (i := 17) eT_148 rfl rfl
  · rw [if_neg hc2] at h
    refine xX_blk (w := xw_148) eT_148 2 7 (ls' := [.ref 141, .int a, .int b, .int r1]) (st' := [.int r1, .ref 141]) (σ' := σ) rfl ?_
    obtain ⟨r5, hr5, h⟩ := xbd_inv h
    refine xX_c1 (w := xw_148) (i := 9) (ls := [.ref 141, .int a, .int b, .int r1]) (rest := []) eT_148 rfl (by omega) rfl rfl rfl (T_X11_refuses r1 σ (by omega) hr5) ?_
    obtain rfl := Option.some.inj h
    exact xX_ret (w := xw_148) (i := 10) eT_148 rfl rfl
def F_X11_isSite (a : Int32) (σ : xM) : Option (Int32) :=
  xbd (F_X11_in ((a : Int32).toInt64) 0 ((((σ 142 1) - 1) : Int32).toInt64) σ) fun r1 =>
  xgd (xzok true r1) (some r1)
set_option maxHeartbeats 1000000 in
set_option maxRecDepth 20000 in
theorem T_X11_isSite (a : Int32) (σ : xM) {d : Nat} {q : Int32} (hd : 1 ≤ d) (h : F_X11_isSite a σ = some q) : xR xT xLn d 119 [.ref 141, .int a] σ (some (.int q), σ) := by
  unfold F_X11_isSite at h
  show xX xT xLn d 119 0 [.ref 141, .int a] [] σ _
  refine xX_blk (w := xw_119) eT_119 6 0 (ls' := [.ref 141, .int a]) (st' := [.int 1, .ref 142, .long 0, .long ((a : Int32).toInt64)]) (σ' := σ) rfl ?_
  refine xX_one (w := xw_119) (i := 6) (ls' := [.ref 141, .int a]) (st' := [.int (σ 142 1), .long 0, .long ((a : Int32).toInt64)]) (σ' := σ) eT_119 rfl (e_ialK xs_142 (by decide) (by decide)) ?_
  refine xX_blk (w := xw_119) eT_119 3 7 (ls' := [.ref 141, .int a]) (st' := [.long ((((σ 142 1) - 1) : Int32).toInt64), .long 0, .long ((a : Int32).toInt64)]) (σ' := σ) rfl ?_
  obtain ⟨r1, hr1, h⟩ := xbd_inv h
  refine xX_c1 (w := xw_119) (i := 10) (ls := [.ref 141, .int a]) (rest := []) eT_119 rfl (by omega) rfl rfl rfl (T_X11_in ((a : Int32).toInt64) 0 ((((σ 142 1) - 1) : Int32).toInt64) σ (by omega) hr1) ?_
  obtain ⟨hi2, h⟩ := xgd_inv h
  obtain rfl := Option.some.inj h
  exact xX_ret (w := xw_119) (i := 11) eT_119 rfl (e_ret2 hi2)
def F_X11_rooms (a : Int32) (b : Int32) (σ : xM) : Option (Int32 × xM) :=
  xbd (F_X11_isSite a σ) fun r1 =>
  if r1 = 0 then
    xbd (F_X11_refuses (-2) σ) fun r3 =>
    some (r3.1, r3.2)
  else
    xbd (F_X11_in ((b : Int32).toInt64) 0 999 σ) fun r4 =>
    if r4 = 0 then
      xbd (F_X11_refuses (-2) σ) fun r6 =>
      some (r6.1, r6.2)
    else
      xbd (F_X11_keep σ) fun r7 =>
      xbd (F_X11_ofSite a 1 r7) fun r8 =>
      xgd (xin (((101 : Int32) + ((4 : Int32) * a)) + 1) 169) (
      xlet (xup r7 142 (((101 : Int32) + ((4 : Int32) * a)) + 1).toNatClampNeg b) fun σ10 =>
      some (r8, σ10))
set_option maxHeartbeats 1000000 in
set_option maxRecDepth 20000 in
theorem T_X11_rooms (a : Int32) (b : Int32) (σ : xM) {d : Nat} {q : Int32 × xM} (hd : 2 ≤ d) (h : F_X11_rooms a b σ = some q) : xR xT xLn d 149 [.ref 141, .int a, .int b] σ (some (.int q.1), q.2) := by
  unfold F_X11_rooms at h
  show xX xT xLn d 149 0 [.ref 141, .int a, .int b, .null] [] σ _
  refine xX_blk (w := xw_149) eT_149 2 0 (ls' := [.ref 141, .int a, .int b, .null]) (st' := [.int a, .ref 141]) (σ' := σ) rfl ?_
  obtain ⟨r1, hr1, h⟩ := xbd_inv h
  refine xX_c1 (w := xw_149) (i := 2) (ls := [.ref 141, .int a, .int b, .null]) (rest := []) eT_149 rfl (by omega) rfl rfl rfl (T_X11_isSite a σ (by omega) hr1) ?_
  refine xX_ite (c := r1 = 0) (w := xw_149) (i := 3) (a := 10) (b := 4) (st' := []) eT_149 rfl rfl (fun hc2 => ?_) (fun hc2 => ?_)
  · rw [if_pos hc2] at h
    refine xX_blk (w := xw_149) eT_149 2 10 (ls' := [.ref 141, .int a, .int b, .null]) (st' := [.int (-2), .ref 141]) (σ' := σ) rfl ?_
    obtain ⟨r3, hr3, h⟩ := xbd_inv h
    refine xX_c1 (w := xw_149) (i := 12) (ls := [.ref 141, .int a, .int b, .null]) (rest := []) eT_149 rfl (by omega) rfl rfl rfl (T_X11_refuses (-2) σ (by omega) hr3) ?_
    obtain rfl := Option.some.inj h
    exact xX_ret (w := xw_149) (i := 13) eT_149 rfl rfl
  · rw [if_neg hc2] at h
    refine xX_blk (w := xw_149) eT_149 4 4 (ls' := [.ref 141, .int a, .int b, .null]) (st' := [.long 999, .long 0, .long ((b : Int32).toInt64)]) (σ' := σ) rfl ?_
    obtain ⟨r4, hr4, h⟩ := xbd_inv h
    refine xX_c1 (w := xw_149) (i := 8) (ls := [.ref 141, .int a, .int b, .null]) (rest := []) eT_149 rfl (by omega) rfl rfl rfl (T_X11_in ((b : Int32).toInt64) 0 999 σ (by omega) hr4) ?_
    refine xX_ite (c := r4 = 0) (w := xw_149) (i := 9) (a := 10) (b := 14) (st' := []) eT_149 rfl rfl (fun hc5 => ?_) (fun hc5 => ?_)
    · rw [if_pos hc5] at h
      refine xX_blk (w := xw_149) eT_149 2 10 (ls' := [.ref 141, .int a, .int b, .null]) (st' := [.int (-2), .ref 141]) (σ' := σ) rfl ?_
      obtain ⟨r6, hr6, h⟩ := xbd_inv h
      refine xX_c1 (w := xw_149) (i := 12) (ls := [.ref 141, .int a, .int b, .null]) (rest := []) eT_149 rfl (by omega) rfl rfl rfl (T_X11_refuses (-2) σ (by omega) hr6) ?_
      obtain rfl := Option.some.inj h
      exact xX_ret (w := xw_149) (i := 13) eT_149 rfl rfl
    · rw [if_neg hc5] at h
      refine xX_blk (w := xw_149) eT_149 1 14 (ls' := [.ref 141, .int a, .int b, .null]) (st' := [.ref 141]) (σ' := σ) rfl ?_
      obtain ⟨r7, hr7, h⟩ := xbd_inv h
      refine xX_c0 (w := xw_149) (i := 15) (ls := [.ref 141, .int a, .int b, .null]) (rest := []) eT_149 rfl (by omega) rfl rfl rfl (T_X11_keep σ (by omega) hr7) ?_
      refine xX_blk (w := xw_149) eT_149 3 16 (ls' := [.ref 141, .int a, .int b, .null]) (st' := [.int 1, .int a, .ref 141]) (σ' := r7) rfl ?_
      obtain ⟨r8, hr8, h⟩ := xbd_inv h
      refine xX_c1 (w := xw_149) (i := 19) (ls := [.ref 141, .int a, .int b, .null]) (rest := []) eT_149 rfl (by omega) rfl rfl rfl (T_X11_ofSite a 1 r7 (by omega) hr8) ?_
      refine xX_blk (w := xw_149) eT_149 11 20 (ls' := [.ref 141, .int a, .int b, .int r8]) (st' := [.int b, .int (((101 : Int32) + ((4 : Int32) * a)) + 1), .ref 142]) (σ' := r7) rfl ?_
      obtain ⟨hi9, h⟩ := xgd_inv h
      refine xX_one (w := xw_149) (i := 31) (ls' := [.ref 141, .int a, .int b, .int r8]) (st' := []) (σ' := xup r7 142 (((101 : Int32) + ((4 : Int32) * a)) + 1).toNatClampNeg b) eT_149 rfl (e_iast xs_142 hi9) ?_
      obtain ⟨σ10, eσ10, h⟩ := xlet_inv h
      rw [← eσ10]
      refine xX_blk (w := xw_149) eT_149 1 32 (ls' := [.ref 141, .int a, .int b, .int r8]) (st' := [.int r8]) (σ' := σ10) rfl ?_
      obtain rfl := Option.some.inj h
      exact xX_ret (w := xw_149) (i := 33) eT_149 rfl rfl
def F_X11_canStep (a : Int32) (b : Int32) (σ : xM) : Option (Int32) :=
  xbd (F_X11_isSite a σ) fun r1 =>
  if r1 = 0 then
    some (-2)
  else
    xbd (F_X11_in ((b : Int32).toInt64) 0 4 σ) fun r3 =>
    if r3 = 0 then
      some (-2)
    else
      xbd (F_X11_stateOf a σ) fun r5 =>
      if r5 = 0 then
        some 0
      else
        some (-3)
set_option maxHeartbeats 1000000 in
set_option maxRecDepth 20000 in
theorem T_X11_canStep (a : Int32) (b : Int32) (σ : xM) {d : Nat} {q : Int32} (hd : 2 ≤ d) (h : F_X11_canStep a b σ = some q) : xR xT xLn d 150 [.ref 141, .int a, .int b] σ (some (.int q), σ) := by
  unfold F_X11_canStep at h
  show xX xT xLn d 150 0 [.ref 141, .int a, .int b] [] σ _
  refine xX_blk (w := xw_150) eT_150 2 0 (ls' := [.ref 141, .int a, .int b]) (st' := [.int a, .ref 141]) (σ' := σ) rfl ?_
  obtain ⟨r1, hr1, h⟩ := xbd_inv h
  refine xX_c1 (w := xw_150) (i := 2) (ls := [.ref 141, .int a, .int b]) (rest := []) eT_150 rfl (by omega) rfl rfl rfl (T_X11_isSite a σ (by omega) hr1) ?_
  refine xX_ite (c := r1 = 0) (w := xw_150) (i := 3) (a := 10) (b := 4) (st' := []) eT_150 rfl rfl (fun hc2 => ?_) (fun hc2 => ?_)
  · rw [if_pos hc2] at h
    refine xX_blk (w := xw_150) eT_150 1 10 (ls' := [.ref 141, .int a, .int b]) (st' := [.int (-2)]) (σ' := σ) rfl ?_
    refine xX_jmp (w := xw_150) (i := 11) (a := 19) (st' := [.int (-2)]) eT_150 rfl rfl ?_
    obtain rfl := Option.some.inj h
    exact xX_ret (w := xw_150) (i := 19) eT_150 rfl rfl
  · rw [if_neg hc2] at h
    refine xX_blk (w := xw_150) eT_150 4 4 (ls' := [.ref 141, .int a, .int b]) (st' := [.long 4, .long 0, .long ((b : Int32).toInt64)]) (σ' := σ) rfl ?_
    obtain ⟨r3, hr3, h⟩ := xbd_inv h
    refine xX_c1 (w := xw_150) (i := 8) (ls := [.ref 141, .int a, .int b]) (rest := []) eT_150 rfl (by omega) rfl rfl rfl (T_X11_in ((b : Int32).toInt64) 0 4 σ (by omega) hr3) ?_
    refine xX_ite (c := r3 = 0) (w := xw_150) (i := 9) (a := 10) (b := 12) (st' := []) eT_150 rfl rfl (fun hc4 => ?_) (fun hc4 => ?_)
    · rw [if_pos hc4] at h
      refine xX_blk (w := xw_150) eT_150 1 10 (ls' := [.ref 141, .int a, .int b]) (st' := [.int (-2)]) (σ' := σ) rfl ?_
      refine xX_jmp (w := xw_150) (i := 11) (a := 19) (st' := [.int (-2)]) eT_150 rfl rfl ?_
      obtain rfl := Option.some.inj h
      exact xX_ret (w := xw_150) (i := 19) eT_150 rfl rfl
    · rw [if_neg hc4] at h
      refine xX_blk (w := xw_150) eT_150 2 12 (ls' := [.ref 141, .int a, .int b]) (st' := [.int a, .ref 141]) (σ' := σ) rfl ?_
      obtain ⟨r5, hr5, h⟩ := xbd_inv h
      refine xX_c1 (w := xw_150) (i := 14) (ls := [.ref 141, .int a, .int b]) (rest := []) eT_150 rfl (by omega) rfl rfl rfl (T_X11_stateOf a σ (by omega) hr5) ?_
      refine xX_ite (c := r5 = 0) (w := xw_150) (i := 15) (a := 16) (b := 18) (st' := []) eT_150 rfl rfl (fun hc6 => ?_) (fun hc6 => ?_)
      · rw [if_pos hc6] at h
        refine xX_blk (w := xw_150) eT_150 1 16 (ls' := [.ref 141, .int a, .int b]) (st' := [.int 0]) (σ' := σ) rfl ?_
        refine xX_jmp (w := xw_150) (i := 17) (a := 19) (st' := [.int 0]) eT_150 rfl rfl ?_
        obtain rfl := Option.some.inj h
        exact xX_ret (w := xw_150) (i := 19) eT_150 rfl rfl
      · rw [if_neg hc6] at h
        refine xX_blk (w := xw_150) eT_150 1 18 (ls' := [.ref 141, .int a, .int b]) (st' := [.int (-3)]) (σ' := σ) rfl ?_
        obtain rfl := Option.some.inj h
        exact xX_ret (w := xw_150) (i := 19) eT_150 rfl rfl
def F_X11_stepNow (a : Int32) (b : Int32) (σ : xM) : Option (Int32 × xM) :=
  xbd (F_X11_stepOf a σ) fun r1 =>
  xbd (F_X11_putsStep a b σ) fun r2 =>
  some (r1, r2)
set_option maxHeartbeats 1000000 in
set_option maxRecDepth 20000 in
theorem T_X11_stepNow (a : Int32) (b : Int32) (σ : xM) {d : Nat} {q : Int32 × xM} (hd : 1 ≤ d) (h : F_X11_stepNow a b σ = some q) : xR xT xLn d 151 [.ref 141, .int a, .int b] σ (some (.int q.1), q.2) := by
  unfold F_X11_stepNow at h
  show xX xT xLn d 151 0 [.ref 141, .int a, .int b, .null] [] σ _
  refine xX_blk (w := xw_151) eT_151 2 0 (ls' := [.ref 141, .int a, .int b, .null]) (st' := [.int a, .ref 141]) (σ' := σ) rfl ?_
  obtain ⟨r1, hr1, h⟩ := xbd_inv h
  refine xX_c1 (w := xw_151) (i := 2) (ls := [.ref 141, .int a, .int b, .null]) (rest := []) eT_151 rfl (by omega) rfl rfl rfl (T_X11_stepOf a σ (by omega) hr1) ?_
  refine xX_blk (w := xw_151) eT_151 4 3 (ls' := [.ref 141, .int a, .int b, .int r1]) (st' := [.int b, .int a, .ref 141]) (σ' := σ) rfl ?_
  obtain ⟨r2, hr2, h⟩ := xbd_inv h
  refine xX_c0 (w := xw_151) (i := 7) (ls := [.ref 141, .int a, .int b, .int r1]) (rest := []) eT_151 rfl (by omega) rfl rfl rfl (T_X11_putsStep a b σ (by omega) hr2) ?_
  refine xX_blk (w := xw_151) eT_151 1 8 (ls' := [.ref 141, .int a, .int b, .int r1]) (st' := [.int r1]) (σ' := r2) rfl ?_
  obtain rfl := Option.some.inj h
  exact xX_ret (w := xw_151) (i := 9) eT_151 rfl rfl
def F_X11_steps (a : Int32) (b : Int32) (σ : xM) : Option (Int32 × xM) :=
  xbd (F_X11_canStep a b σ) fun r1 =>
  if 0 ≤ r1 then
    xbd (F_X11_keep σ) fun r3 =>
    xbd (F_X11_stepNow a b r3) fun r4 =>
    some (r4.1, r4.2)
  else
    xbd (F_X11_refuses r1 σ) fun r5 =>
    some (r5.1, r5.2)
set_option maxHeartbeats 1000000 in
set_option maxRecDepth 20000 in
theorem T_X11_steps (a : Int32) (b : Int32) (σ : xM) {d : Nat} {q : Int32 × xM} (hd : 3 ≤ d) (h : F_X11_steps a b σ = some q) : xR xT xLn d 152 [.ref 141, .int a, .int b] σ (some (.int q.1), q.2) := by
  unfold F_X11_steps at h
  show xX xT xLn d 152 0 [.ref 141, .int a, .int b, .null] [] σ _
  refine xX_blk (w := xw_152) eT_152 3 0 (ls' := [.ref 141, .int a, .int b, .null]) (st' := [.int b, .int a, .ref 141]) (σ' := σ) rfl ?_
  obtain ⟨r1, hr1, h⟩ := xbd_inv h
  refine xX_c1 (w := xw_152) (i := 3) (ls := [.ref 141, .int a, .int b, .null]) (rest := []) eT_152 rfl (by omega) rfl rfl rfl (T_X11_canStep a b σ (by omega) hr1) ?_
  refine xX_blk (w := xw_152) eT_152 2 4 (ls' := [.ref 141, .int a, .int b, .int r1]) (st' := [.int r1]) (σ' := σ) rfl ?_
  refine xX_ite (c := 0 ≤ r1) (w := xw_152) (i := 6) (a := 11) (b := 7) (st' := []) eT_152 rfl rfl (fun hc2 => ?_) (fun hc2 => ?_)
  · rw [if_pos hc2] at h
    refine xX_blk (w := xw_152) eT_152 1 11 (ls' := [.ref 141, .int a, .int b, .int r1]) (st' := [.ref 141]) (σ' := σ) rfl ?_
    obtain ⟨r3, hr3, h⟩ := xbd_inv h
    refine xX_c0 (w := xw_152) (i := 12) (ls := [.ref 141, .int a, .int b, .int r1]) (rest := []) eT_152 rfl (by omega) rfl rfl rfl (T_X11_keep σ (by omega) hr3) ?_
    refine xX_blk (w := xw_152) eT_152 3 13 (ls' := [.ref 141, .int a, .int b, .int r1]) (st' := [.int b, .int a, .ref 141]) (σ' := r3) rfl ?_
    obtain ⟨r4, hr4, h⟩ := xbd_inv h
    refine xX_c1 (w := xw_152) (i := 16) (ls := [.ref 141, .int a, .int b, .int r1]) (rest := []) eT_152 rfl (by omega) rfl rfl rfl (T_X11_stepNow a b r3 (by omega) hr4) ?_
    obtain rfl := Option.some.inj h
    exact xX_ret (w := xw_152) (i := 17) eT_152 rfl rfl
  · rw [if_neg hc2] at h
    refine xX_blk (w := xw_152) eT_152 2 7 (ls' := [.ref 141, .int a, .int b, .int r1]) (st' := [.int r1, .ref 141]) (σ' := σ) rfl ?_
    obtain ⟨r5, hr5, h⟩ := xbd_inv h
    refine xX_c1 (w := xw_152) (i := 9) (ls := [.ref 141, .int a, .int b, .int r1]) (rest := []) eT_152 rfl (by omega) rfl rfl rfl (T_X11_refuses r1 σ (by omega) hr5) ?_
    obtain rfl := Option.some.inj h
    exact xX_ret (w := xw_152) (i := 10) eT_152 rfl rfl
def F_X11_canDrain (a : Int32) (σ : xM) : Option (Int32) :=
  xbd (F_X11_isSite a σ) fun r1 =>
  if r1 = 0 then
    some (-2)
  else
    xbd (F_X11_stateOf a σ) fun r3 =>
    if r3 = 0 then
      some 0
    else
      some (-3)
set_option maxHeartbeats 1000000 in
set_option maxRecDepth 20000 in
theorem T_X11_canDrain (a : Int32) (σ : xM) {d : Nat} {q : Int32} (hd : 2 ≤ d) (h : F_X11_canDrain a σ = some q) : xR xT xLn d 153 [.ref 141, .int a] σ (some (.int q), σ) := by
  unfold F_X11_canDrain at h
  show xX xT xLn d 153 0 [.ref 141, .int a] [] σ _
  refine xX_blk (w := xw_153) eT_153 2 0 (ls' := [.ref 141, .int a]) (st' := [.int a, .ref 141]) (σ' := σ) rfl ?_
  obtain ⟨r1, hr1, h⟩ := xbd_inv h
  refine xX_c1 (w := xw_153) (i := 2) (ls := [.ref 141, .int a]) (rest := []) eT_153 rfl (by omega) rfl rfl rfl (T_X11_isSite a σ (by omega) hr1) ?_
  refine xX_ite (c := r1 = 0) (w := xw_153) (i := 3) (a := 4) (b := 6) (st' := []) eT_153 rfl rfl (fun hc2 => ?_) (fun hc2 => ?_)
  · rw [if_pos hc2] at h
    refine xX_blk (w := xw_153) eT_153 1 4 (ls' := [.ref 141, .int a]) (st' := [.int (-2)]) (σ' := σ) rfl ?_
    refine xX_jmp (w := xw_153) (i := 5) (a := 13) (st' := [.int (-2)]) eT_153 rfl rfl ?_
    obtain rfl := Option.some.inj h
    exact xX_ret (w := xw_153) (i := 13) eT_153 rfl rfl
  · rw [if_neg hc2] at h
    refine xX_blk (w := xw_153) eT_153 2 6 (ls' := [.ref 141, .int a]) (st' := [.int a, .ref 141]) (σ' := σ) rfl ?_
    obtain ⟨r3, hr3, h⟩ := xbd_inv h
    refine xX_c1 (w := xw_153) (i := 8) (ls := [.ref 141, .int a]) (rest := []) eT_153 rfl (by omega) rfl rfl rfl (T_X11_stateOf a σ (by omega) hr3) ?_
    refine xX_ite (c := r3 = 0) (w := xw_153) (i := 9) (a := 10) (b := 12) (st' := []) eT_153 rfl rfl (fun hc4 => ?_) (fun hc4 => ?_)
    · rw [if_pos hc4] at h
      refine xX_blk (w := xw_153) eT_153 1 10 (ls' := [.ref 141, .int a]) (st' := [.int 0]) (σ' := σ) rfl ?_
      refine xX_jmp (w := xw_153) (i := 11) (a := 13) (st' := [.int 0]) eT_153 rfl rfl ?_
      obtain rfl := Option.some.inj h
      exact xX_ret (w := xw_153) (i := 13) eT_153 rfl rfl
    · rw [if_neg hc4] at h
      refine xX_blk (w := xw_153) eT_153 1 12 (ls' := [.ref 141, .int a]) (st' := [.int (-3)]) (σ' := σ) rfl ?_
      obtain rfl := Option.some.inj h
      exact xX_ret (w := xw_153) (i := 13) eT_153 rfl rfl
def F_X11_drainNow (a : Int32) (σ : xM) : Option (Int32 × xM) :=
  xbd (F_X11_putsState a 1 σ) fun r1 =>
  xgd (xin ((8 : Int32) + (r1 142 7)) 169) (
  xlet (xup r1 142 ((8 : Int32) + (r1 142 7)).toNatClampNeg a) fun σ3 =>
  xlet (xup σ3 142 7 ((σ3 142 7) + 1)) fun σ4 =>
  some ((σ4 142 7), σ4))
set_option maxHeartbeats 1000000 in
set_option maxRecDepth 20000 in
theorem T_X11_drainNow (a : Int32) (σ : xM) {d : Nat} {q : Int32 × xM} (hd : 1 ≤ d) (h : F_X11_drainNow a σ = some q) : xR xT xLn d 154 [.ref 141, .int a] σ (some (.int q.1), q.2) := by
  unfold F_X11_drainNow at h
  show xX xT xLn d 154 0 [.ref 141, .int a] [] σ _
  refine xX_blk (w := xw_154) eT_154 3 0 (ls' := [.ref 141, .int a]) (st' := [.int 1, .int a, .ref 141]) (σ' := σ) rfl ?_
  obtain ⟨r1, hr1, h⟩ := xbd_inv h
  refine xX_c0 (w := xw_154) (i := 3) (ls := [.ref 141, .int a]) (rest := []) eT_154 rfl (by omega) rfl rfl rfl (T_X11_putsState a 1 σ (by omega) hr1) ?_
  refine xX_blk (w := xw_154) eT_154 6 4 (ls' := [.ref 141, .int a]) (st' := [.int 7, .ref 142, .int 8, .ref 142]) (σ' := r1) rfl ?_
  refine xX_one (w := xw_154) (i := 10) (ls' := [.ref 141, .int a]) (st' := [.int (r1 142 7), .int 8, .ref 142]) (σ' := r1) eT_154 rfl (e_ialK xs_142 (by decide) (by decide)) ?_
  refine xX_blk (w := xw_154) eT_154 2 11 (ls' := [.ref 141, .int a]) (st' := [.int a, .int ((8 : Int32) + (r1 142 7)), .ref 142]) (σ' := r1) rfl ?_
  obtain ⟨hi2, h⟩ := xgd_inv h
  refine xX_one (w := xw_154) (i := 13) (ls' := [.ref 141, .int a]) (st' := []) (σ' := xup r1 142 ((8 : Int32) + (r1 142 7)).toNatClampNeg a) eT_154 rfl (e_iast xs_142 hi2) ?_
  obtain ⟨σ3, eσ3, h⟩ := xlet_inv h
  rw [← eσ3]
  refine xX_blk (w := xw_154) eT_154 4 14 (ls' := [.ref 141, .int a]) (st' := [.int 7, .ref 142, .int 7, .ref 142]) (σ' := σ3) rfl ?_
  refine xX_one (w := xw_154) (i := 18) (ls' := [.ref 141, .int a]) (st' := [.int (σ3 142 7), .int 7, .ref 142]) (σ' := σ3) eT_154 rfl (e_ialK xs_142 (by decide) (by decide)) ?_
  refine xX_blk (w := xw_154) eT_154 2 19 (ls' := [.ref 141, .int a]) (st' := [.int ((σ3 142 7) + 1), .int 7, .ref 142]) (σ' := σ3) rfl ?_
  refine xX_one (w := xw_154) (i := 21) (ls' := [.ref 141, .int a]) (st' := []) (σ' := xup σ3 142 7 ((σ3 142 7) + 1)) eT_154 rfl (e_iasK xs_142 (by decide) (by decide)) ?_
  obtain ⟨σ4, eσ4, h⟩ := xlet_inv h
  rw [← eσ4]
  refine xX_blk (w := xw_154) eT_154 3 22 (ls' := [.ref 141, .int a]) (st' := [.int 7, .ref 142]) (σ' := σ4) rfl ?_
  refine xX_one (w := xw_154) (i := 25) (ls' := [.ref 141, .int a]) (st' := [.int (σ4 142 7)]) (σ' := σ4) eT_154 rfl (e_ialK xs_142 (by decide) (by decide)) ?_
  obtain rfl := Option.some.inj h
  exact xX_ret (w := xw_154) (i := 26) eT_154 rfl rfl
def F_X11_drains (a : Int32) (σ : xM) : Option (Int32 × xM) :=
  xbd (F_X11_canDrain a σ) fun r1 =>
  if 0 ≤ r1 then
    xbd (F_X11_keep σ) fun r3 =>
    xbd (F_X11_drainNow a r3) fun r4 =>
    some (r4.1, r4.2)
  else
    xbd (F_X11_refuses r1 σ) fun r5 =>
    some (r5.1, r5.2)
set_option maxHeartbeats 1000000 in
set_option maxRecDepth 20000 in
theorem T_X11_drains (a : Int32) (σ : xM) {d : Nat} {q : Int32 × xM} (hd : 3 ≤ d) (h : F_X11_drains a σ = some q) : xR xT xLn d 155 [.ref 141, .int a] σ (some (.int q.1), q.2) := by
  unfold F_X11_drains at h
  show xX xT xLn d 155 0 [.ref 141, .int a, .null] [] σ _
  refine xX_blk (w := xw_155) eT_155 2 0 (ls' := [.ref 141, .int a, .null]) (st' := [.int a, .ref 141]) (σ' := σ) rfl ?_
  obtain ⟨r1, hr1, h⟩ := xbd_inv h
  refine xX_c1 (w := xw_155) (i := 2) (ls := [.ref 141, .int a, .null]) (rest := []) eT_155 rfl (by omega) rfl rfl rfl (T_X11_canDrain a σ (by omega) hr1) ?_
  refine xX_blk (w := xw_155) eT_155 2 3 (ls' := [.ref 141, .int a, .int r1]) (st' := [.int r1]) (σ' := σ) rfl ?_
  refine xX_ite (c := 0 ≤ r1) (w := xw_155) (i := 5) (a := 10) (b := 6) (st' := []) eT_155 rfl rfl (fun hc2 => ?_) (fun hc2 => ?_)
  · rw [if_pos hc2] at h
    refine xX_blk (w := xw_155) eT_155 1 10 (ls' := [.ref 141, .int a, .int r1]) (st' := [.ref 141]) (σ' := σ) rfl ?_
    obtain ⟨r3, hr3, h⟩ := xbd_inv h
    refine xX_c0 (w := xw_155) (i := 11) (ls := [.ref 141, .int a, .int r1]) (rest := []) eT_155 rfl (by omega) rfl rfl rfl (T_X11_keep σ (by omega) hr3) ?_
    refine xX_blk (w := xw_155) eT_155 2 12 (ls' := [.ref 141, .int a, .int r1]) (st' := [.int a, .ref 141]) (σ' := r3) rfl ?_
    obtain ⟨r4, hr4, h⟩ := xbd_inv h
    refine xX_c1 (w := xw_155) (i := 14) (ls := [.ref 141, .int a, .int r1]) (rest := []) eT_155 rfl (by omega) rfl rfl rfl (T_X11_drainNow a r3 (by omega) hr4) ?_
    obtain rfl := Option.some.inj h
    exact xX_ret (w := xw_155) (i := 15) eT_155 rfl rfl
  · rw [if_neg hc2] at h
    refine xX_blk (w := xw_155) eT_155 2 6 (ls' := [.ref 141, .int a, .int r1]) (st' := [.int r1, .ref 141]) (σ' := σ) rfl ?_
    obtain ⟨r5, hr5, h⟩ := xbd_inv h
    refine xX_c1 (w := xw_155) (i := 8) (ls := [.ref 141, .int a, .int r1]) (rest := []) eT_155 rfl (by omega) rfl rfl rfl (T_X11_refuses r1 σ (by omega) hr5) ?_
    obtain rfl := Option.some.inj h
    exact xX_ret (w := xw_155) (i := 9) eT_155 rfl rfl
def B_X11_placeOf_2 (p1 : Int32) (v2 : Int32) (σ : xM) : Option ((Int32) ⊕ ((Int32) ⊕ (Unit))) :=
  if (σ 142 7) ≤ v2 then
    some (.inr (.inr ()))
  else
    xgd (xin ((8 : Int32) + v2) 169) (
    if (σ 142 ((8 : Int32) + v2).toNatClampNeg) = p1 then
      some (.inr (.inl v2))
    else
      some (.inl (v2 + 1)))
def L_X11_placeOf_2 (p1 : Int32) (v2 : Int32) (σ : xM) : Option ((Int32) ⊕ (Unit)) := xloop (fun s : Int32 => B_X11_placeOf_2 p1 s σ) 6000 v2
set_option maxHeartbeats 1000000 in
set_option maxRecDepth 20000 in
theorem TB_X11_placeOf_2 {d : Nat} {o : Option Value × xM} (p1 : Int32) (v2 : Int32) (σ : xM) {q : (Int32) ⊕ ((Int32) ⊕ (Unit))} (hd : 0 ≤ d) (h : B_X11_placeOf_2 p1 v2 σ = some q) (hB : ∀ s', q = .inl s' → xX xT xLn d 156 2 [.ref 141, .int p1, .int s'] [] σ o) (hE : ∀ e', q = .inr e' → (∀ a, e' = .inl a → ∀ (z0 z1 : Value), xX xT xLn d 156 17 [z0, z1, .int a] [] σ o) ∧ (∀ a, e' = .inr (a) → ∀ (z0 z1 z2 : Value), xX xT xLn d 156 22 [z0, z1, z2] [] σ o)) : xX xT xLn d 156 2 [.ref 141, .int p1, .int v2] [] σ o := by
  unfold B_X11_placeOf_2 at h
  refine xX_blk (w := xw_156) eT_156 5 2 (ls' := [.ref 141, .int p1, .int v2]) (st' := [.int 7, .ref 142, .int v2]) (σ' := σ) rfl ?_
  refine xX_one (w := xw_156) (i := 7) (ls' := [.ref 141, .int p1, .int v2]) (st' := [.int (σ 142 7), .int v2]) (σ' := σ) eT_156 rfl (e_ialK xs_142 (by decide) (by decide)) ?_
  refine xX_ite (c := (σ 142 7) ≤ v2) (w := xw_156) (i := 8) (a := 22) (b := 9) (st' := []) eT_156 rfl rfl (fun hc1 => ?_) (fun hc1 => ?_)
  · rw [if_pos hc1] at h
    obtain rfl := Option.some.inj h
    exact (hE (.inr ()) rfl).2 () rfl _ _ _
  · rw [if_neg hc1] at h
    refine xX_blk (w := xw_156) eT_156 5 9 (ls' := [.ref 141, .int p1, .int v2]) (st' := [.int ((8 : Int32) + v2), .ref 142]) (σ' := σ) rfl ?_
    obtain ⟨hi2, h⟩ := xgd_inv h
    refine xX_one (w := xw_156) (i := 14) (ls' := [.ref 141, .int p1, .int v2]) (st' := [.int (σ 142 ((8 : Int32) + v2).toNatClampNeg)]) (σ' := σ) eT_156 rfl (e_iald xs_142 hi2) ?_
    refine xX_blk (w := xw_156) eT_156 1 15 (ls' := [.ref 141, .int p1, .int v2]) (st' := [.int p1, .int (σ 142 ((8 : Int32) + v2).toNatClampNeg)]) (σ' := σ) rfl ?_
    refine xX_ite (c := (σ 142 ((8 : Int32) + v2).toNatClampNeg) = p1) (w := xw_156) (i := 16) (a := 17) (b := 20) (st' := []) eT_156 rfl rfl (fun hc3 => ?_) (fun hc3 => ?_)
    · rw [if_pos hc3] at h
      obtain rfl := Option.some.inj h
      exact (hE (.inl v2) rfl).1 v2 rfl _ _
    · rw [if_neg hc3] at h
      refine xX_blk (w := xw_156) eT_156 1 20 (ls' := [.ref 141, .int p1, .int (v2 + 1)]) (st' := []) (σ' := σ) rfl ?_
      refine xX_jmp (w := xw_156) (i := 21) (a := 2) (st' := []) eT_156 rfl rfl ?_
      obtain rfl := Option.some.inj h
      exact hB (v2 + 1) rfl
set_option maxHeartbeats 1000000 in
set_option maxRecDepth 20000 in
theorem TL_X11_placeOf_2 {d : Nat} {o : Option Value × xM} (p1 : Int32) (v2 : Int32) (σ : xM) {e : (Int32) ⊕ (Unit)} (hd : 0 ≤ d) (h : L_X11_placeOf_2 p1 v2 σ = some e) (hE0 : ∀ a, e = .inl a → ∀ (z0 z1 : Value), xX xT xLn d 156 17 [z0, z1, .int a] [] σ o) (hE1 : ∀ a, e = .inr (a) → ∀ (z0 z1 z2 : Value), xX xT xLn d 156 22 [z0, z1, z2] [] σ o) : xX xT xLn d 156 2 [.ref 141, .int p1, .int v2] [] σ o :=
  xloop_snd (X := fun s => xX xT xLn d 156 2 [.ref 141, .int p1, .int s] [] σ o) (Y := fun e' => (∀ a, e' = .inl a → ∀ (z0 z1 : Value), xX xT xLn d 156 17 [z0, z1, .int a] [] σ o) ∧ (∀ a, e' = .inr (a) → ∀ (z0 z1 z2 : Value), xX xT xLn d 156 22 [z0, z1, z2] [] σ o)) (fun s q hs hB hE => TB_X11_placeOf_2 p1 s σ hd hs hB hE) _ _ _ h ⟨hE0, hE1⟩
def F_X11_placeOf (a : Int32) (σ : xM) : Option (Int32) :=
  xbd (L_X11_placeOf_2 a 0 σ) fun e4 =>
  xsm e4 (fun ae40 =>
    some ae40)
  (fun ae41 =>
    some (-1))
set_option maxHeartbeats 1000000 in
set_option maxRecDepth 20000 in
theorem T_X11_placeOf (a : Int32) (σ : xM) {d : Nat} {q : Int32} (hd : 0 ≤ d) (h : F_X11_placeOf a σ = some q) : xR xT xLn d 156 [.ref 141, .int a] σ (some (.int q), σ) := by
  unfold F_X11_placeOf at h
  show xX xT xLn d 156 0 [.ref 141, .int a, .null] [] σ _
  refine xX_blk (w := xw_156) eT_156 2 0 (ls' := [.ref 141, .int a, .int 0]) (st' := []) (σ' := σ) rfl ?_
  obtain ⟨e4, he4, h⟩ := xbd_inv h
  refine TL_X11_placeOf_2 a 0 σ (by omega) he4 (fun ae40 hee40 z0 z1 => ?_) (fun ae41 hee41 z0 z1 z2 => ?_)
  · subst hee40
    rw [xsm_l] at h
    refine xX_blk (w := xw_156) eT_156 2 17 (ls' := [.null, .null, .int ae40]) (st' := [.int ae40]) (σ' := σ) rfl ?_
    obtain rfl := Option.some.inj h
    exact xX_ret (w := xw_156) (i := 19) eT_156 rfl rfl
  · subst hee41
    rw [xsm_r] at h
    refine xX_blk (w := xw_156) eT_156 2 22 (ls' := [.null, .null, .null]) (st' := [.int (-1)]) (σ' := σ) rfl ?_
    obtain rfl := Option.some.inj h
    exact xX_ret (w := xw_156) (i := 24) eT_156 rfl rfl
def B_X11_leavesQueue_17 (v3 : Int32) (σ : xM) : Option ((Int32 × xM) ⊕ ((xM))) :=
  if (σ 142 7) ≤ v3 then
    some (.inr σ)
  else
    xgd (xin (((8 : Int32) + v3) + 1) 169) (
    xgd (xin ((8 : Int32) + v3) 169) (
    xlet (xup σ 142 ((8 : Int32) + v3).toNatClampNeg (σ 142 (((8 : Int32) + v3) + 1).toNatClampNeg)) fun σ7 =>
    some (.inl ((v3 + 1), σ7))))
def L_X11_leavesQueue_17 (v3 : Int32) (σ : xM) : Option ((xM)) := xloop (fun s : Int32 × xM => B_X11_leavesQueue_17 s.1 s.2) 6000 (v3, σ)
set_option maxHeartbeats 1000000 in
set_option maxRecDepth 20000 in
theorem TB_X11_leavesQueue_17 {d : Nat} {o : Option Value × xM} (v3 : Int32) (σ : xM) {q : (Int32 × xM) ⊕ ((xM))} (hd : 1 ≤ d) (h : B_X11_leavesQueue_17 v3 σ = some q) (hB : ∀ s', q = .inl s' → ∀ (z1 z2 : Value), xX xT xLn d 157 17 [.ref 141, z1, z2, .int s'.1] [] s'.2 o) (hE : ∀ e', q = .inr e' → ∀ (z0 z1 z2 z3 : Value), xX xT xLn d 157 40 [z0, z1, z2, z3] [] e' o) (z1 : Value) (z2 : Value) : xX xT xLn d 157 17 [.ref 141, z1, z2, .int v3] [] σ o := by
  unfold B_X11_leavesQueue_17 at h
  refine xX_blk (w := xw_157) eT_157 5 17 (ls' := [.ref 141, .null, .null, .int v3]) (st' := [.int 7, .ref 142, .int v3]) (σ' := σ) rfl ?_
  refine xX_one (w := xw_157) (i := 22) (ls' := [.ref 141, .null, .null, .int v3]) (st' := [.int (σ 142 7), .int v3]) (σ' := σ) eT_157 rfl (e_ialK xs_142 (by decide) (by decide)) ?_
  refine xX_ite (c := (σ 142 7) ≤ v3) (w := xw_157) (i := 23) (a := 40) (b := 24) (st' := []) eT_157 rfl rfl (fun hc4 => ?_) (fun hc4 => ?_)
  · rw [if_pos hc4] at h
    obtain rfl := Option.some.inj h
    exact hE σ rfl _ _ _ _
  · rw [if_neg hc4] at h
    refine xX_blk (w := xw_157) eT_157 12 24 (ls' := [.ref 141, .null, .null, .int v3]) (st' := [.int (((8 : Int32) + v3) + 1), .ref 142, .int ((8 : Int32) + v3), .ref 142]) (σ' := σ) rfl ?_
    obtain ⟨hi5, h⟩ := xgd_inv h
    refine xX_one (w := xw_157) (i := 36) (ls' := [.ref 141, .null, .null, .int v3]) (st' := [.int (σ 142 (((8 : Int32) + v3) + 1).toNatClampNeg), .int ((8 : Int32) + v3), .ref 142]) (σ' := σ) eT_157 rfl (e_iald xs_142 hi5) ?_
    obtain ⟨hi6, h⟩ := xgd_inv h
    refine xX_one (w := xw_157) (i := 37) (ls' := [.ref 141, .null, .null, .int v3]) (st' := []) (σ' := xup σ 142 ((8 : Int32) + v3).toNatClampNeg (σ 142 (((8 : Int32) + v3) + 1).toNatClampNeg)) eT_157 rfl (e_iast xs_142 hi6) ?_
    obtain ⟨σ7, eσ7, h⟩ := xlet_inv h
    rw [← eσ7]
    refine xX_blk (w := xw_157) eT_157 1 38 (ls' := [.ref 141, .null, .null, .int (v3 + 1)]) (st' := []) (σ' := σ7) rfl ?_
    refine xX_jmp (w := xw_157) (i := 39) (a := 17) (st' := []) eT_157 rfl rfl ?_
    obtain rfl := Option.some.inj h
    exact hB ((v3 + 1), σ7) rfl _ _
set_option maxHeartbeats 1000000 in
set_option maxRecDepth 20000 in
theorem TL_X11_leavesQueue_17 {d : Nat} {o : Option Value × xM} (v3 : Int32) (σ : xM) {e : (xM)} (hd : 1 ≤ d) (h : L_X11_leavesQueue_17 v3 σ = some e) (hE : ∀ (z0 z1 z2 z3 : Value), xX xT xLn d 157 40 [z0, z1, z2, z3] [] e o) (z1 : Value) (z2 : Value) : xX xT xLn d 157 17 [.ref 141, z1, z2, .int v3] [] σ o :=
  xloop_snd (X := fun s => ∀ (z1 z2 : Value), xX xT xLn d 157 17 [.ref 141, z1, z2, .int s.1] [] s.2 o) (Y := fun e' => ∀ (z0 z1 z2 z3 : Value), xX xT xLn d 157 40 [z0, z1, z2, z3] [] e' o) (fun s q hs hB hE z1 z2 => TB_X11_leavesQueue_17 s.1 s.2 hd hs hB hE z1 z2) _ _ _ h hE z1 z2
def F_X11_leavesQueue (a : Int32) (σ : xM) : Option (xM) :=
  xbd (F_X11_placeOf a σ) fun r1 =>
  if r1 = (-1) then
    some σ
  else
    xlet (xup σ 142 7 ((σ 142 7) - 1)) fun σ3 =>
    xbd (L_X11_leavesQueue_17 r1 σ3) fun e8 =>
    some e8
set_option maxHeartbeats 1000000 in
set_option maxRecDepth 20000 in
theorem T_X11_leavesQueue (a : Int32) (σ : xM) {d : Nat} {q : xM} (hd : 1 ≤ d) (h : F_X11_leavesQueue a σ = some q) : xR xT xLn d 157 [.ref 141, .int a] σ (none, q) := by
  unfold F_X11_leavesQueue at h
  show xX xT xLn d 157 0 [.ref 141, .int a, .null, .null] [] σ _
  refine xX_blk (w := xw_157) eT_157 2 0 (ls' := [.ref 141, .int a, .null, .null]) (st' := [.int a, .ref 141]) (σ' := σ) rfl ?_
  obtain ⟨r1, hr1, h⟩ := xbd_inv h
  refine xX_c1 (w := xw_157) (i := 2) (ls := [.ref 141, .int a, .null, .null]) (rest := []) eT_157 rfl (by omega) rfl rfl rfl (T_X11_placeOf a σ (by omega) hr1) ?_
  refine xX_blk (w := xw_157) eT_157 3 3 (ls' := [.ref 141, .int a, .int r1, .null]) (st' := [.int (-1), .int r1]) (σ' := σ) rfl ?_
  refine xX_ite (c := r1 = (-1)) (w := xw_157) (i := 6) (a := 40) (b := 7) (st' := []) eT_157 rfl rfl (fun hc2 => ?_) (fun hc2 => ?_)
  · rw [if_pos hc2] at h
    refine xX_blk (w := xw_157) eT_157 1 40 (ls' := [.null, .null, .null, .null]) (st' := []) (σ' := σ) rfl ?_
    obtain rfl := Option.some.inj h
    exact xX_ret (w := xw_157) (i := 41) eT_157 rfl rfl
  · rw [if_neg hc2] at h
    refine xX_blk (w := xw_157) eT_157 4 7 (ls' := [.ref 141, .int a, .int r1, .null]) (st' := [.int 7, .ref 142, .int 7, .ref 142]) (σ' := σ) rfl ?_
    refine xX_one (w := xw_157) (i := 11) (ls' := [.ref 141, .int a, .int r1, .null]) (st' := [.int (σ 142 7), .int 7, .ref 142]) (σ' := σ) eT_157 rfl (e_ialK xs_142 (by decide) (by decide)) ?_
    refine xX_blk (w := xw_157) eT_157 2 12 (ls' := [.ref 141, .int a, .int r1, .null]) (st' := [.int ((σ 142 7) - 1), .int 7, .ref 142]) (σ' := σ) rfl ?_
    refine xX_one (w := xw_157) (i := 14) (ls' := [.ref 141, .int a, .int r1, .null]) (st' := []) (σ' := xup σ 142 7 ((σ 142 7) - 1)) eT_157 rfl (e_iasK xs_142 (by decide) (by decide)) ?_
    obtain ⟨σ3, eσ3, h⟩ := xlet_inv h
    rw [← eσ3]
    refine xX_blk (w := xw_157) eT_157 2 15 (ls' := [.ref 141, .int a, .int r1, .int r1]) (st' := []) (σ' := σ3) rfl ?_
    obtain ⟨e8, he8, h⟩ := xbd_inv h
    refine TL_X11_leavesQueue_17 r1 σ3 (by omega) he8 (fun z0 z1 z2 z3 => ?_) _ _
    refine xX_blk (w := xw_157) eT_157 1 40 (ls' := [.null, .null, .null, .null]) (st' := []) (σ' := e8) rfl ?_
    obtain rfl := Option.some.inj h
    exact xX_ret (w := xw_157) (i := 41) eT_157 rfl rfl
def F_X11_goesOff (a : Int32) (σ : xM) : Option (xM) :=
  xbd (F_X11_putsState a 2 σ) fun r1 =>
  xbd (F_X11_putsStep a 0 r1) fun r2 =>
  xbd (F_X11_leavesQueue a r2) fun r3 =>
  some r3
set_option maxHeartbeats 1000000 in
set_option maxRecDepth 20000 in
theorem T_X11_goesOff (a : Int32) (σ : xM) {d : Nat} {q : xM} (hd : 2 ≤ d) (h : F_X11_goesOff a σ = some q) : xR xT xLn d 158 [.ref 141, .int a] σ (none, q) := by
  unfold F_X11_goesOff at h
  show xX xT xLn d 158 0 [.ref 141, .int a] [] σ _
  refine xX_blk (w := xw_158) eT_158 3 0 (ls' := [.ref 141, .int a]) (st' := [.int 2, .int a, .ref 141]) (σ' := σ) rfl ?_
  obtain ⟨r1, hr1, h⟩ := xbd_inv h
  refine xX_c0 (w := xw_158) (i := 3) (ls := [.ref 141, .int a]) (rest := []) eT_158 rfl (by omega) rfl rfl rfl (T_X11_putsState a 2 σ (by omega) hr1) ?_
  refine xX_blk (w := xw_158) eT_158 3 4 (ls' := [.ref 141, .int a]) (st' := [.int 0, .int a, .ref 141]) (σ' := r1) rfl ?_
  obtain ⟨r2, hr2, h⟩ := xbd_inv h
  refine xX_c0 (w := xw_158) (i := 7) (ls := [.ref 141, .int a]) (rest := []) eT_158 rfl (by omega) rfl rfl rfl (T_X11_putsStep a 0 r1 (by omega) hr2) ?_
  refine xX_blk (w := xw_158) eT_158 2 8 (ls' := [.ref 141, .int a]) (st' := [.int a, .ref 141]) (σ' := r2) rfl ?_
  obtain ⟨r3, hr3, h⟩ := xbd_inv h
  refine xX_c0 (w := xw_158) (i := 10) (ls := [.ref 141, .int a]) (rest := []) eT_158 rfl (by omega) rfl rfl rfl (T_X11_leavesQueue a r2 (by omega) hr3) ?_
  obtain rfl := Option.some.inj h
  exact xX_ret (w := xw_158) (i := 11) eT_158 rfl rfl
def F_X11_cutNow (a : Int32) (σ : xM) : Option (Int32 × xM) :=
  xbd (F_X11_stateOf a σ) fun r1 =>
  if r1 = 2 then
    xbd (F_X11_putsState a 0 σ) fun r3 =>
    xbd (F_X11_putsStep a 0 r3) fun r4 =>
    xbd (F_X11_stateOf a r4) fun r5 =>
    some (r5, r4)
  else
    xbd (F_X11_goesOff a σ) fun r6 =>
    xbd (F_X11_stateOf a r6) fun r7 =>
    some (r7, r6)
set_option maxHeartbeats 1000000 in
set_option maxRecDepth 20000 in
theorem T_X11_cutNow (a : Int32) (σ : xM) {d : Nat} {q : Int32 × xM} (hd : 3 ≤ d) (h : F_X11_cutNow a σ = some q) : xR xT xLn d 159 [.ref 141, .int a] σ (some (.int q.1), q.2) := by
  unfold F_X11_cutNow at h
  show xX xT xLn d 159 0 [.ref 141, .int a] [] σ _
  refine xX_blk (w := xw_159) eT_159 2 0 (ls' := [.ref 141, .int a]) (st' := [.int a, .ref 141]) (σ' := σ) rfl ?_
  obtain ⟨r1, hr1, h⟩ := xbd_inv h
  refine xX_c1 (w := xw_159) (i := 2) (ls := [.ref 141, .int a]) (rest := []) eT_159 rfl (by omega) rfl rfl rfl (T_X11_stateOf a σ (by omega) hr1) ?_
  refine xX_blk (w := xw_159) eT_159 1 3 (ls' := [.ref 141, .int a]) (st' := [.int 2, .int r1]) (σ' := σ) rfl ?_
  refine xX_ite (c := r1 = 2) (w := xw_159) (i := 4) (a := 5) (b := 14) (st' := []) eT_159 rfl rfl (fun hc2 => ?_) (fun hc2 => ?_)
  · rw [if_pos hc2] at h
    refine xX_blk (w := xw_159) eT_159 3 5 (ls' := [.ref 141, .int a]) (st' := [.int 0, .int a, .ref 141]) (σ' := σ) rfl ?_
    obtain ⟨r3, hr3, h⟩ := xbd_inv h
    refine xX_c0 (w := xw_159) (i := 8) (ls := [.ref 141, .int a]) (rest := []) eT_159 rfl (by omega) rfl rfl rfl (T_X11_putsState a 0 σ (by omega) hr3) ?_
    refine xX_blk (w := xw_159) eT_159 3 9 (ls' := [.ref 141, .int a]) (st' := [.int 0, .int a, .ref 141]) (σ' := r3) rfl ?_
    obtain ⟨r4, hr4, h⟩ := xbd_inv h
    refine xX_c0 (w := xw_159) (i := 12) (ls := [.ref 141, .int a]) (rest := []) eT_159 rfl (by omega) rfl rfl rfl (T_X11_putsStep a 0 r3 (by omega) hr4) ?_
    refine xX_jmp (w := xw_159) (i := 13) (a := 17) (st' := []) eT_159 rfl rfl ?_
    refine xX_blk (w := xw_159) eT_159 2 17 (ls' := [.ref 141, .int a]) (st' := [.int a, .ref 141]) (σ' := r4) rfl ?_
    obtain ⟨r5, hr5, h⟩ := xbd_inv h
    refine xX_c1 (w := xw_159) (i := 19) (ls := [.ref 141, .int a]) (rest := []) eT_159 rfl (by omega) rfl rfl rfl (T_X11_stateOf a r4 (by omega) hr5) ?_
    obtain rfl := Option.some.inj h
    exact xX_ret (w := xw_159) (i := 20) eT_159 rfl rfl
  · rw [if_neg hc2] at h
    refine xX_blk (w := xw_159) eT_159 2 14 (ls' := [.ref 141, .int a]) (st' := [.int a, .ref 141]) (σ' := σ) rfl ?_
    obtain ⟨r6, hr6, h⟩ := xbd_inv h
    refine xX_c0 (w := xw_159) (i := 16) (ls := [.ref 141, .int a]) (rest := []) eT_159 rfl (by omega) rfl rfl rfl (T_X11_goesOff a σ (by omega) hr6) ?_
    refine xX_blk (w := xw_159) eT_159 2 17 (ls' := [.ref 141, .int a]) (st' := [.int a, .ref 141]) (σ' := r6) rfl ?_
    obtain ⟨r7, hr7, h⟩ := xbd_inv h
    refine xX_c1 (w := xw_159) (i := 19) (ls := [.ref 141, .int a]) (rest := []) eT_159 rfl (by omega) rfl rfl rfl (T_X11_stateOf a r6 (by omega) hr7) ?_
    obtain rfl := Option.some.inj h
    exact xX_ret (w := xw_159) (i := 20) eT_159 rfl rfl
def F_X11_cuts (a : Int32) (σ : xM) : Option (Int32 × xM) :=
  xbd (F_X11_isSite a σ) fun r1 =>
  if r1 = 0 then
    xbd (F_X11_refuses (-2) σ) fun r3 =>
    some (r3.1, r3.2)
  else
    xbd (F_X11_keep σ) fun r4 =>
    xbd (F_X11_cutNow a r4) fun r5 =>
    some (r5.1, r5.2)
set_option maxHeartbeats 1000000 in
set_option maxRecDepth 20000 in
theorem T_X11_cuts (a : Int32) (σ : xM) {d : Nat} {q : Int32 × xM} (hd : 4 ≤ d) (h : F_X11_cuts a σ = some q) : xR xT xLn d 160 [.ref 141, .int a] σ (some (.int q.1), q.2) := by
  unfold F_X11_cuts at h
  show xX xT xLn d 160 0 [.ref 141, .int a] [] σ _
  refine xX_blk (w := xw_160) eT_160 2 0 (ls' := [.ref 141, .int a]) (st' := [.int a, .ref 141]) (σ' := σ) rfl ?_
  obtain ⟨r1, hr1, h⟩ := xbd_inv h
  refine xX_c1 (w := xw_160) (i := 2) (ls := [.ref 141, .int a]) (rest := []) eT_160 rfl (by omega) rfl rfl rfl (T_X11_isSite a σ (by omega) hr1) ?_
  refine xX_ite (c := r1 = 0) (w := xw_160) (i := 3) (a := 4) (b := 8) (st' := []) eT_160 rfl rfl (fun hc2 => ?_) (fun hc2 => ?_)
  · rw [if_pos hc2] at h
    refine xX_blk (w := xw_160) eT_160 2 4 (ls' := [.ref 141, .int a]) (st' := [.int (-2), .ref 141]) (σ' := σ) rfl ?_
    obtain ⟨r3, hr3, h⟩ := xbd_inv h
    refine xX_c1 (w := xw_160) (i := 6) (ls := [.ref 141, .int a]) (rest := []) eT_160 rfl (by omega) rfl rfl rfl (T_X11_refuses (-2) σ (by omega) hr3) ?_
    obtain rfl := Option.some.inj h
    exact xX_ret (w := xw_160) (i := 7) eT_160 rfl rfl
  · rw [if_neg hc2] at h
    refine xX_blk (w := xw_160) eT_160 1 8 (ls' := [.ref 141, .int a]) (st' := [.ref 141]) (σ' := σ) rfl ?_
    obtain ⟨r4, hr4, h⟩ := xbd_inv h
    refine xX_c0 (w := xw_160) (i := 9) (ls := [.ref 141, .int a]) (rest := []) eT_160 rfl (by omega) rfl rfl rfl (T_X11_keep σ (by omega) hr4) ?_
    refine xX_blk (w := xw_160) eT_160 2 10 (ls' := [.ref 141, .int a]) (st' := [.int a, .ref 141]) (σ' := r4) rfl ?_
    obtain ⟨r5, hr5, h⟩ := xbd_inv h
    refine xX_c1 (w := xw_160) (i := 12) (ls := [.ref 141, .int a]) (rest := []) eT_160 rfl (by omega) rfl rfl rfl (T_X11_cutNow a r4 (by omega) hr5) ?_
    obtain rfl := Option.some.inj h
    exact xX_ret (w := xw_160) (i := 13) eT_160 rfl rfl
def F_X11_far (a : Int32) (b : Int32) (σ : xM) : Option (Int32 × xM) :=
  xbd (F_X11_isArea a σ) fun r1 =>
  if r1 = 0 then
    xbd (F_X11_refuses (-2) σ) fun r3 =>
    some (r3.1, r3.2)
  else
    xbd (F_X11_isArea b σ) fun r4 =>
    if r4 = 0 then
      xbd (F_X11_refuses (-2) σ) fun r6 =>
      some (r6.1, r6.2)
    else
      xbd (F_X11_laysWays σ) fun r7 =>
      xbd (F_X11_way a b r7) fun r8 =>
      some (r8, r7)
set_option maxHeartbeats 1000000 in
set_option maxRecDepth 20000 in
theorem T_X11_far (a : Int32) (b : Int32) (σ : xM) {d : Nat} {q : Int32 × xM} (hd : 2 ≤ d) (h : F_X11_far a b σ = some q) : xR xT xLn d 161 [.ref 141, .int a, .int b] σ (some (.int q.1), q.2) := by
  unfold F_X11_far at h
  show xX xT xLn d 161 0 [.ref 141, .int a, .int b] [] σ _
  refine xX_blk (w := xw_161) eT_161 2 0 (ls' := [.ref 141, .int a, .int b]) (st' := [.int a, .ref 141]) (σ' := σ) rfl ?_
  obtain ⟨r1, hr1, h⟩ := xbd_inv h
  refine xX_c1 (w := xw_161) (i := 2) (ls := [.ref 141, .int a, .int b]) (rest := []) eT_161 rfl (by omega) rfl rfl rfl (T_X11_isArea a σ (by omega) hr1) ?_
  refine xX_ite (c := r1 = 0) (w := xw_161) (i := 3) (a := 8) (b := 4) (st' := []) eT_161 rfl rfl (fun hc2 => ?_) (fun hc2 => ?_)
  · rw [if_pos hc2] at h
    refine xX_blk (w := xw_161) eT_161 2 8 (ls' := [.ref 141, .int a, .int b]) (st' := [.int (-2), .ref 141]) (σ' := σ) rfl ?_
    obtain ⟨r3, hr3, h⟩ := xbd_inv h
    refine xX_c1 (w := xw_161) (i := 10) (ls := [.ref 141, .int a, .int b]) (rest := []) eT_161 rfl (by omega) rfl rfl rfl (T_X11_refuses (-2) σ (by omega) hr3) ?_
    obtain rfl := Option.some.inj h
    exact xX_ret (w := xw_161) (i := 11) eT_161 rfl rfl
  · rw [if_neg hc2] at h
    refine xX_blk (w := xw_161) eT_161 2 4 (ls' := [.ref 141, .int a, .int b]) (st' := [.int b, .ref 141]) (σ' := σ) rfl ?_
    obtain ⟨r4, hr4, h⟩ := xbd_inv h
    refine xX_c1 (w := xw_161) (i := 6) (ls := [.ref 141, .int a, .int b]) (rest := []) eT_161 rfl (by omega) rfl rfl rfl (T_X11_isArea b σ (by omega) hr4) ?_
    refine xX_ite (c := r4 = 0) (w := xw_161) (i := 7) (a := 8) (b := 12) (st' := []) eT_161 rfl rfl (fun hc5 => ?_) (fun hc5 => ?_)
    · rw [if_pos hc5] at h
      refine xX_blk (w := xw_161) eT_161 2 8 (ls' := [.ref 141, .int a, .int b]) (st' := [.int (-2), .ref 141]) (σ' := σ) rfl ?_
      obtain ⟨r6, hr6, h⟩ := xbd_inv h
      refine xX_c1 (w := xw_161) (i := 10) (ls := [.ref 141, .int a, .int b]) (rest := []) eT_161 rfl (by omega) rfl rfl rfl (T_X11_refuses (-2) σ (by omega) hr6) ?_
      obtain rfl := Option.some.inj h
      exact xX_ret (w := xw_161) (i := 11) eT_161 rfl rfl
    · rw [if_neg hc5] at h
      refine xX_blk (w := xw_161) eT_161 1 12 (ls' := [.ref 141, .int a, .int b]) (st' := [.ref 141]) (σ' := σ) rfl ?_
      obtain ⟨r7, hr7, h⟩ := xbd_inv h
      refine xX_c0 (w := xw_161) (i := 13) (ls := [.ref 141, .int a, .int b]) (rest := []) eT_161 rfl (by omega) rfl rfl rfl (T_X11_laysWays σ (by omega) hr7) ?_
      refine xX_blk (w := xw_161) eT_161 3 14 (ls' := [.ref 141, .int a, .int b]) (st' := [.int b, .int a, .ref 141]) (σ' := r7) rfl ?_
      obtain ⟨r8, hr8, h⟩ := xbd_inv h
      refine xX_c1 (w := xw_161) (i := 17) (ls := [.ref 141, .int a, .int b]) (rest := []) eT_161 rfl (by omega) rfl rfl rfl (T_X11_way a b r7 (by omega) hr8) ?_
      obtain rfl := Option.some.inj h
      exact xX_ret (w := xw_161) (i := 18) eT_161 rfl rfl
def B_X11_laysCatches_2 (v1 : Int32) (σ : xM) : Option ((Int32 × xM) ⊕ ((xM))) :=
  if (σ 142 0) ≤ v1 then
    some (.inr σ)
  else
    xbd (F_X11_catchOf v1 σ) fun r2 =>
    xgd (xin v1 8) (
    xlet (xup σ 147 v1.toNatClampNeg r2) fun σ4 =>
    some (.inl ((v1 + 1), σ4)))
def L_X11_laysCatches_2 (v1 : Int32) (σ : xM) : Option ((xM)) := xloop (fun s : Int32 × xM => B_X11_laysCatches_2 s.1 s.2) 6000 (v1, σ)
set_option maxHeartbeats 1000000 in
set_option maxRecDepth 20000 in
theorem TB_X11_laysCatches_2 {d : Nat} {o : Option Value × xM} (v1 : Int32) (σ : xM) {q : (Int32 × xM) ⊕ ((xM))} (hd : 3 ≤ d) (h : B_X11_laysCatches_2 v1 σ = some q) (hB : ∀ s', q = .inl s' → xX xT xLn d 130 2 [.ref 141, .int s'.1] [] s'.2 o) (hE : ∀ e', q = .inr e' → ∀ (z0 z1 : Value), xX xT xLn d 130 18 [z0, z1] [] e' o) : xX xT xLn d 130 2 [.ref 141, .int v1] [] σ o := by
  unfold B_X11_laysCatches_2 at h
  refine xX_blk (w := xw_130) eT_130 5 2 (ls' := [.ref 141, .int v1]) (st' := [.int 0, .ref 142, .int v1]) (σ' := σ) rfl ?_
  refine xX_one (w := xw_130) (i := 7) (ls' := [.ref 141, .int v1]) (st' := [.int (σ 142 0), .int v1]) (σ' := σ) eT_130 rfl (e_ialK xs_142 (by decide) (by decide)) ?_
  refine xX_ite (c := (σ 142 0) ≤ v1) (w := xw_130) (i := 8) (a := 18) (b := 9) (st' := []) eT_130 rfl rfl (fun hc1 => ?_) (fun hc1 => ?_)
  · rw [if_pos hc1] at h
    obtain rfl := Option.some.inj h
    exact hE σ rfl _ _
  · rw [if_neg hc1] at h
    refine xX_blk (w := xw_130) eT_130 5 9 (ls' := [.ref 141, .int v1]) (st' := [.int v1, .ref 141, .int v1, .ref 147]) (σ' := σ) rfl ?_
    obtain ⟨r2, hr2, h⟩ := xbd_inv h
    refine xX_c1 (w := xw_130) (i := 14) (ls := [.ref 141, .int v1]) (rest := [.int v1, .ref 147]) eT_130 rfl (by omega) rfl rfl rfl (T_X11_catchOf v1 σ (by omega) hr2) ?_
    obtain ⟨hi3, h⟩ := xgd_inv h
    refine xX_one (w := xw_130) (i := 15) (ls' := [.ref 141, .int v1]) (st' := []) (σ' := xup σ 147 v1.toNatClampNeg r2) eT_130 rfl (e_iast xs_147 hi3) ?_
    obtain ⟨σ4, eσ4, h⟩ := xlet_inv h
    rw [← eσ4]
    refine xX_blk (w := xw_130) eT_130 1 16 (ls' := [.ref 141, .int (v1 + 1)]) (st' := []) (σ' := σ4) rfl ?_
    refine xX_jmp (w := xw_130) (i := 17) (a := 2) (st' := []) eT_130 rfl rfl ?_
    obtain rfl := Option.some.inj h
    exact hB ((v1 + 1), σ4) rfl
set_option maxHeartbeats 1000000 in
set_option maxRecDepth 20000 in
theorem TL_X11_laysCatches_2 {d : Nat} {o : Option Value × xM} (v1 : Int32) (σ : xM) {e : (xM)} (hd : 3 ≤ d) (h : L_X11_laysCatches_2 v1 σ = some e) (hE : ∀ (z0 z1 : Value), xX xT xLn d 130 18 [z0, z1] [] e o) : xX xT xLn d 130 2 [.ref 141, .int v1] [] σ o :=
  xloop_snd (X := fun s => xX xT xLn d 130 2 [.ref 141, .int s.1] [] s.2 o) (Y := fun e' => ∀ (z0 z1 : Value), xX xT xLn d 130 18 [z0, z1] [] e' o) (fun s q hs hB hE => TB_X11_laysCatches_2 s.1 s.2 hd hs hB hE) _ _ _ h hE
def F_X11_laysCatches (σ : xM) : Option (xM) :=
  xbd (L_X11_laysCatches_2 0 σ) fun e5 =>
  some e5
set_option maxHeartbeats 1000000 in
set_option maxRecDepth 20000 in
theorem T_X11_laysCatches (σ : xM) {d : Nat} {q : xM} (hd : 3 ≤ d) (h : F_X11_laysCatches σ = some q) : xR xT xLn d 130 [.ref 141] σ (none, q) := by
  unfold F_X11_laysCatches at h
  show xX xT xLn d 130 0 [.ref 141, .null] [] σ _
  refine xX_blk (w := xw_130) eT_130 2 0 (ls' := [.ref 141, .int 0]) (st' := []) (σ' := σ) rfl ?_
  obtain ⟨e5, he5, h⟩ := xbd_inv h
  refine TL_X11_laysCatches_2 0 σ (by omega) he5 (fun z0 z1 => ?_)
  refine xX_blk (w := xw_130) eT_130 1 18 (ls' := [.null, .null]) (st' := []) (σ' := e5) rfl ?_
  obtain rfl := Option.some.inj h
  exact xX_ret (w := xw_130) (i := 19) eT_130 rfl rfl
def F_X11_laysAll (σ : xM) : Option (xM) :=
  xbd (F_X11_laysWays σ) fun r1 =>
  xbd (F_X11_laysCatches r1) fun r2 =>
  some r2
set_option maxHeartbeats 1000000 in
set_option maxRecDepth 20000 in
theorem T_X11_laysAll (σ : xM) {d : Nat} {q : xM} (hd : 4 ≤ d) (h : F_X11_laysAll σ = some q) : xR xT xLn d 131 [.ref 141] σ (none, q) := by
  unfold F_X11_laysAll at h
  show xX xT xLn d 131 0 [.ref 141] [] σ _
  refine xX_blk (w := xw_131) eT_131 1 0 (ls' := [.ref 141]) (st' := [.ref 141]) (σ' := σ) rfl ?_
  obtain ⟨r1, hr1, h⟩ := xbd_inv h
  refine xX_c0 (w := xw_131) (i := 1) (ls := [.ref 141]) (rest := []) eT_131 rfl (by omega) rfl rfl rfl (T_X11_laysWays σ (by omega) hr1) ?_
  refine xX_blk (w := xw_131) eT_131 1 2 (ls' := [.ref 141]) (st' := [.ref 141]) (σ' := r1) rfl ?_
  obtain ⟨r2, hr2, h⟩ := xbd_inv h
  refine xX_c0 (w := xw_131) (i := 3) (ls := [.ref 141]) (rest := []) eT_131 rfl (by omega) rfl rfl rfl (T_X11_laysCatches r1 (by omega) hr2) ?_
  obtain rfl := Option.some.inj h
  exact xX_ret (w := xw_131) (i := 4) eT_131 rfl rfl
def F_X11_ofSession (a : Int32) (b : Int32) (σ : xM) : Option (Int32) :=
  xgd (xin (((121 : Int32) + ((4 : Int32) * a)) + b) 169) (
  some (σ 142 (((121 : Int32) + ((4 : Int32) * a)) + b).toNatClampNeg))
set_option maxHeartbeats 1000000 in
set_option maxRecDepth 20000 in
theorem T_X11_ofSession (a : Int32) (b : Int32) (σ : xM) {d : Nat} {q : Int32} (hd : 0 ≤ d) (h : F_X11_ofSession a b σ = some q) : xR xT xLn d 125 [.ref 141, .int a, .int b] σ (some (.int q), σ) := by
  unfold F_X11_ofSession at h
  show xX xT xLn d 125 0 [.ref 141, .int a, .int b] [] σ _
  refine xX_blk (w := xw_125) eT_125 9 0 (ls' := [.ref 141, .int a, .int b]) (st' := [.int (((121 : Int32) + ((4 : Int32) * a)) + b), .ref 142]) (σ' := σ) rfl ?_
  obtain ⟨hi1, h⟩ := xgd_inv h
  refine xX_one (w := xw_125) (i := 9) (ls' := [.ref 141, .int a, .int b]) (st' := [.int (σ 142 (((121 : Int32) + ((4 : Int32) * a)) + b).toNatClampNeg)]) (σ' := σ) eT_125 rfl (e_iald xs_142 hi1) ?_
  obtain rfl := Option.some.inj h
  exact xX_ret (w := xw_125) (i := 10) eT_125 rfl rfl
def B_X11_ofNow_6 (p1 : Int32) (p2 : Int32) (v3 : Int32) (v4 : Int32) (σ : xM) : Option ((Int32 × Int32) ⊕ ((Int32))) :=
  if (σ 142 1) ≤ v4 then
    some (.inr v3)
  else
    if p2 = 4 then
      xbd (F_X11_seemsThen p1 v4 σ) fun r4 =>
      if r4 = (-1) then
        some (.inl ((v3 + 0), (v4 + 1)))
      else
        some (.inl ((v3 + 1), (v4 + 1)))
    else
      some (.inr v3)
def L_X11_ofNow_6 (p1 : Int32) (p2 : Int32) (v3 : Int32) (v4 : Int32) (σ : xM) : Option ((Int32)) := xloop (fun s : Int32 × Int32 => B_X11_ofNow_6 p1 p2 s.1 s.2 σ) 6000 (v3, v4)
set_option maxHeartbeats 1000000 in
set_option maxRecDepth 20000 in
theorem TB_X11_ofNow_6 {d : Nat} {o : Option Value × xM} (p1 : Int32) (p2 : Int32) (v3 : Int32) (v4 : Int32) (σ : xM) {q : (Int32 × Int32) ⊕ ((Int32))} (hd : 5 ≤ d) (h : B_X11_ofNow_6 p1 p2 v3 v4 σ = some q) (hB : ∀ s', q = .inl s' → xX xT xLn d 162 6 [.ref 141, .int p1, .int p2, .int s'.1, .int s'.2] [] σ o) (hE : ∀ e', q = .inr e' → ∀ (z4 : Value), xX xT xLn d 162 30 [.ref 141, .int p1, .int p2, .int e', z4] [] σ o) : xX xT xLn d 162 6 [.ref 141, .int p1, .int p2, .int v3, .int v4] [] σ o := by
  unfold B_X11_ofNow_6 at h
  refine xX_blk (w := xw_162) eT_162 5 6 (ls' := [.ref 141, .int p1, .int p2, .int v3, .int v4]) (st' := [.int 1, .ref 142, .int v4]) (σ' := σ) rfl ?_
  refine xX_one (w := xw_162) (i := 11) (ls' := [.ref 141, .int p1, .int p2, .int v3, .int v4]) (st' := [.int (σ 142 1), .int v4]) (σ' := σ) eT_162 rfl (e_ialK xs_142 (by decide) (by decide)) ?_
  refine xX_ite (c := (σ 142 1) ≤ v4) (w := xw_162) (i := 12) (a := 30) (b := 13) (st' := []) eT_162 rfl rfl (fun hc2 => ?_) (fun hc2 => ?_)
  · rw [if_pos hc2] at h
    obtain rfl := Option.some.inj h
    exact hE v3 rfl _
  · rw [if_neg hc2] at h
    refine xX_blk (w := xw_162) eT_162 2 13 (ls' := [.ref 141, .int p1, .int p2, .int v3, .int v4]) (st' := [.int 4, .int p2]) (σ' := σ) rfl ?_
    refine xX_ite (c := p2 = 4) (w := xw_162) (i := 15) (a := 16) (b := 30) (st' := []) eT_162 rfl rfl (fun hc3 => ?_) (fun hc3 => ?_)
    · rw [if_pos hc3] at h
      refine xX_blk (w := xw_162) eT_162 4 16 (ls' := [.ref 141, .int p1, .int p2, .int v3, .int v4]) (st' := [.int v4, .int p1, .ref 141, .int v3]) (σ' := σ) rfl ?_
      obtain ⟨r4, hr4, h⟩ := xbd_inv h
      refine xX_c1 (w := xw_162) (i := 20) (ls := [.ref 141, .int p1, .int p2, .int v3, .int v4]) (rest := [.int v3]) eT_162 rfl (by omega) rfl rfl rfl (T_X11_seemsThen p1 v4 σ (by omega) hr4) ?_
      refine xX_blk (w := xw_162) eT_162 1 21 (ls' := [.ref 141, .int p1, .int p2, .int v3, .int v4]) (st' := [.int (-1), .int r4, .int v3]) (σ' := σ) rfl ?_
      refine xX_ite (c := r4 = (-1)) (w := xw_162) (i := 22) (a := 23) (b := 25) (st' := [.int v3]) eT_162 rfl rfl (fun hc5 => ?_) (fun hc5 => ?_)
      · rw [if_pos hc5] at h
        refine xX_blk (w := xw_162) eT_162 1 23 (ls' := [.ref 141, .int p1, .int p2, .int v3, .int v4]) (st' := [.int 0, .int v3]) (σ' := σ) rfl ?_
        refine xX_jmp (w := xw_162) (i := 24) (a := 26) (st' := [.int 0, .int v3]) eT_162 rfl rfl ?_
        refine xX_blk (w := xw_162) eT_162 3 26 (ls' := [.ref 141, .int p1, .int p2, .int (v3 + 0), .int (v4 + 1)]) (st' := []) (σ' := σ) rfl ?_
        refine xX_jmp (w := xw_162) (i := 29) (a := 6) (st' := []) eT_162 rfl rfl ?_
        obtain rfl := Option.some.inj h
        exact hB ((v3 + 0), (v4 + 1)) rfl
      · rw [if_neg hc5] at h
        refine xX_blk (w := xw_162) eT_162 4 25 (ls' := [.ref 141, .int p1, .int p2, .int (v3 + 1), .int (v4 + 1)]) (st' := []) (σ' := σ) rfl ?_
        refine xX_jmp (w := xw_162) (i := 29) (a := 6) (st' := []) eT_162 rfl rfl ?_
        obtain rfl := Option.some.inj h
        exact hB ((v3 + 1), (v4 + 1)) rfl
    · rw [if_neg hc3] at h
      obtain rfl := Option.some.inj h
      exact hE v3 rfl _
set_option maxHeartbeats 1000000 in
set_option maxRecDepth 20000 in
theorem TL_X11_ofNow_6 {d : Nat} {o : Option Value × xM} (p1 : Int32) (p2 : Int32) (v3 : Int32) (v4 : Int32) (σ : xM) {e : (Int32)} (hd : 5 ≤ d) (h : L_X11_ofNow_6 p1 p2 v3 v4 σ = some e) (hE : ∀ (z4 : Value), xX xT xLn d 162 30 [.ref 141, .int p1, .int p2, .int e, z4] [] σ o) : xX xT xLn d 162 6 [.ref 141, .int p1, .int p2, .int v3, .int v4] [] σ o :=
  xloop_snd (X := fun s => xX xT xLn d 162 6 [.ref 141, .int p1, .int p2, .int s.1, .int s.2] [] σ o) (Y := fun e' => ∀ (z4 : Value), xX xT xLn d 162 30 [.ref 141, .int p1, .int p2, .int e', z4] [] σ o) (fun s q hs hB hE => TB_X11_ofNow_6 p1 p2 s.1 s.2 σ hd hs hB hE) _ _ _ h hE
def B_X11_ofNow_31 (p1 : Int32) (p2 : Int32) (v3 : Int32) (v4 : Int32) (σ : xM) : Option ((Int32 × Int32) ⊕ ((Int32))) :=
  if (σ 142 2) ≤ v4 then
    some (.inr v3)
  else
    if p2 = 5 then
      xbd (F_X11_ofSession v4 0 σ) fun r9 =>
      if r9 = p1 then
        some (.inl ((v3 + 1), (v4 + 1)))
      else
        some (.inl ((v3 + 0), (v4 + 1)))
    else
      some (.inr v3)
def L_X11_ofNow_31 (p1 : Int32) (p2 : Int32) (v3 : Int32) (v4 : Int32) (σ : xM) : Option ((Int32)) := xloop (fun s : Int32 × Int32 => B_X11_ofNow_31 p1 p2 s.1 s.2 σ) 6000 (v3, v4)
set_option maxHeartbeats 1000000 in
set_option maxRecDepth 20000 in
theorem TB_X11_ofNow_31 {d : Nat} {o : Option Value × xM} (p1 : Int32) (p2 : Int32) (v3 : Int32) (v4 : Int32) (σ : xM) {q : (Int32 × Int32) ⊕ ((Int32))} (hd : 5 ≤ d) (h : B_X11_ofNow_31 p1 p2 v3 v4 σ = some q) (hB : ∀ s', q = .inl s' → xX xT xLn d 162 33 [.ref 141, .int p1, .int p2, .int s'.1, .int s'.2] [] σ o) (hE : ∀ e', q = .inr e' → ∀ (z4 : Value), xX xT xLn d 162 57 [.ref 141, .int p1, .int p2, .int e', z4] [] σ o) : xX xT xLn d 162 33 [.ref 141, .int p1, .int p2, .int v3, .int v4] [] σ o := by
  unfold B_X11_ofNow_31 at h
  refine xX_blk (w := xw_162) eT_162 5 33 (ls' := [.ref 141, .int p1, .int p2, .int v3, .int v4]) (st' := [.int 2, .ref 142, .int v4]) (σ' := σ) rfl ?_
  refine xX_one (w := xw_162) (i := 38) (ls' := [.ref 141, .int p1, .int p2, .int v3, .int v4]) (st' := [.int (σ 142 2), .int v4]) (σ' := σ) eT_162 rfl (e_ialK xs_142 (by decide) (by decide)) ?_
  refine xX_ite (c := (σ 142 2) ≤ v4) (w := xw_162) (i := 39) (a := 57) (b := 40) (st' := []) eT_162 rfl rfl (fun hc7 => ?_) (fun hc7 => ?_)
  · rw [if_pos hc7] at h
    obtain rfl := Option.some.inj h
    exact hE v3 rfl _
  · rw [if_neg hc7] at h
    refine xX_blk (w := xw_162) eT_162 2 40 (ls' := [.ref 141, .int p1, .int p2, .int v3, .int v4]) (st' := [.int 5, .int p2]) (σ' := σ) rfl ?_
    refine xX_ite (c := p2 = 5) (w := xw_162) (i := 42) (a := 43) (b := 57) (st' := []) eT_162 rfl rfl (fun hc8 => ?_) (fun hc8 => ?_)
    · rw [if_pos hc8] at h
      refine xX_blk (w := xw_162) eT_162 4 43 (ls' := [.ref 141, .int p1, .int p2, .int v3, .int v4]) (st' := [.int 0, .int v4, .ref 141, .int v3]) (σ' := σ) rfl ?_
      obtain ⟨r9, hr9, h⟩ := xbd_inv h
      refine xX_c1 (w := xw_162) (i := 47) (ls := [.ref 141, .int p1, .int p2, .int v3, .int v4]) (rest := [.int v3]) eT_162 rfl (by omega) rfl rfl rfl (T_X11_ofSession v4 0 σ (by omega) hr9) ?_
      refine xX_blk (w := xw_162) eT_162 1 48 (ls' := [.ref 141, .int p1, .int p2, .int v3, .int v4]) (st' := [.int p1, .int r9, .int v3]) (σ' := σ) rfl ?_
      refine xX_ite (c := r9 = p1) (w := xw_162) (i := 49) (a := 50) (b := 52) (st' := [.int v3]) eT_162 rfl rfl (fun hc10 => ?_) (fun hc10 => ?_)
      · rw [if_pos hc10] at h
        refine xX_blk (w := xw_162) eT_162 1 50 (ls' := [.ref 141, .int p1, .int p2, .int v3, .int v4]) (st' := [.int 1, .int v3]) (σ' := σ) rfl ?_
        refine xX_jmp (w := xw_162) (i := 51) (a := 53) (st' := [.int 1, .int v3]) eT_162 rfl rfl ?_
        refine xX_blk (w := xw_162) eT_162 3 53 (ls' := [.ref 141, .int p1, .int p2, .int (v3 + 1), .int (v4 + 1)]) (st' := []) (σ' := σ) rfl ?_
        refine xX_jmp (w := xw_162) (i := 56) (a := 33) (st' := []) eT_162 rfl rfl ?_
        obtain rfl := Option.some.inj h
        exact hB ((v3 + 1), (v4 + 1)) rfl
      · rw [if_neg hc10] at h
        refine xX_blk (w := xw_162) eT_162 4 52 (ls' := [.ref 141, .int p1, .int p2, .int (v3 + 0), .int (v4 + 1)]) (st' := []) (σ' := σ) rfl ?_
        refine xX_jmp (w := xw_162) (i := 56) (a := 33) (st' := []) eT_162 rfl rfl ?_
        obtain rfl := Option.some.inj h
        exact hB ((v3 + 0), (v4 + 1)) rfl
    · rw [if_neg hc8] at h
      obtain rfl := Option.some.inj h
      exact hE v3 rfl _
set_option maxHeartbeats 1000000 in
set_option maxRecDepth 20000 in
theorem TL_X11_ofNow_31 {d : Nat} {o : Option Value × xM} (p1 : Int32) (p2 : Int32) (v3 : Int32) (v4 : Int32) (σ : xM) {e : (Int32)} (hd : 5 ≤ d) (h : L_X11_ofNow_31 p1 p2 v3 v4 σ = some e) (hE : ∀ (z4 : Value), xX xT xLn d 162 57 [.ref 141, .int p1, .int p2, .int e, z4] [] σ o) : xX xT xLn d 162 33 [.ref 141, .int p1, .int p2, .int v3, .int v4] [] σ o :=
  xloop_snd (X := fun s => xX xT xLn d 162 33 [.ref 141, .int p1, .int p2, .int s.1, .int s.2] [] σ o) (Y := fun e' => ∀ (z4 : Value), xX xT xLn d 162 57 [.ref 141, .int p1, .int p2, .int e', z4] [] σ o) (fun s q hs hB hE => TB_X11_ofNow_31 p1 p2 s.1 s.2 σ hd hs hB hE) _ _ _ h hE
def F_X11_ofNow (a : Int32) (b : Int32) (σ : xM) : Option (Int32 × xM) :=
  xbd (F_X11_laysAll σ) fun r1 =>
  xbd (L_X11_ofNow_6 a b 0 0 r1) fun e6 =>
  xbd (L_X11_ofNow_31 a b e6 0 r1) fun e11 =>
  if b = 0 then
    xgd (xin ((13 : Int32) + a) 169) (
    some ((r1 142 ((13 : Int32) + a).toNatClampNeg), r1))
  else
    if b = 1 then
      xgd (xin ((21 : Int32) + a) 169) (
      some ((r1 142 ((21 : Int32) + a).toNatClampNeg), r1))
    else
      if b = 2 then
        xgd (xin a 8) (
        some ((r1 147 a.toNatClampNeg), r1))
      else
        if b = 3 then
          xgd (xin ((29 : Int32) + a) 169) (
          some ((r1 142 ((29 : Int32) + a).toNatClampNeg), r1))
        else
          some (e11, r1)
set_option maxHeartbeats 1000000 in
set_option maxRecDepth 20000 in
theorem T_X11_ofNow (a : Int32) (b : Int32) (σ : xM) {d : Nat} {q : Int32 × xM} (hd : 5 ≤ d) (h : F_X11_ofNow a b σ = some q) : xR xT xLn d 162 [.ref 141, .int a, .int b] σ (some (.int q.1), q.2) := by
  unfold F_X11_ofNow at h
  show xX xT xLn d 162 0 [.ref 141, .int a, .int b, .null, .null] [] σ _
  refine xX_blk (w := xw_162) eT_162 1 0 (ls' := [.ref 141, .int a, .int b, .null, .null]) (st' := [.ref 141]) (σ' := σ) rfl ?_
  obtain ⟨r1, hr1, h⟩ := xbd_inv h
  refine xX_c0 (w := xw_162) (i := 1) (ls := [.ref 141, .int a, .int b, .null, .null]) (rest := []) eT_162 rfl (by omega) rfl rfl rfl (T_X11_laysAll σ (by omega) hr1) ?_
  refine xX_blk (w := xw_162) eT_162 4 2 (ls' := [.ref 141, .int a, .int b, .int 0, .int 0]) (st' := []) (σ' := r1) rfl ?_
  obtain ⟨e6, he6, h⟩ := xbd_inv h
  refine TL_X11_ofNow_6 a b 0 0 r1 (by omega) he6 (fun z4 => ?_)
  refine xX_blk (w := xw_162) eT_162 3 30 (ls' := [.ref 141, .int a, .int b, .int e6, .int 0]) (st' := []) (σ' := r1) rfl ?_
  obtain ⟨e11, he11, h⟩ := xbd_inv h
  refine TL_X11_ofNow_31 a b e6 0 r1 (by omega) he11 (fun z4 => ?_)
  refine xX_blk (w := xw_162) eT_162 2 57 (ls' := [.ref 141, .int a, .int b, .int e11, .null]) (st' := [.int b]) (σ' := r1) rfl ?_
  refine xX_ite (c := b = 0) (w := xw_162) (i := 59) (a := 60) (b := 67) (st' := []) eT_162 rfl rfl (fun hc12 => ?_) (fun hc12 => ?_)
  · rw [if_pos hc12] at h
    refine xX_blk (w := xw_162) eT_162 5 60 (ls' := [.ref 141, .int a, .int b, .int e11, .null]) (st' := [.int ((13 : Int32) + a), .ref 142]) (σ' := r1) rfl ?_
    obtain ⟨hi13, h⟩ := xgd_inv h
    refine xX_one (w := xw_162) (i := 65) (ls' := [.ref 141, .int a, .int b, .int e11, .null]) (st' := [.int (r1 142 ((13 : Int32) + a).toNatClampNeg)]) (σ' := r1) eT_162 rfl (e_iald xs_142 hi13) ?_
    refine xX_jmp (w := xw_162) (i := 66) (a := 96) (st' := [.int (r1 142 ((13 : Int32) + a).toNatClampNeg)]) eT_162 rfl rfl ?_
    obtain rfl := Option.some.inj h
    exact xX_ret (w := xw_162) (i := 96) eT_162 rfl rfl
  · rw [if_neg hc12] at h
    refine xX_blk (w := xw_162) eT_162 2 67 (ls' := [.ref 141, .int a, .int b, .int e11, .null]) (st' := [.int 1, .int b]) (σ' := r1) rfl ?_
    refine xX_ite (c := b = 1) (w := xw_162) (i := 69) (a := 70) (b := 77) (st' := []) eT_162 rfl rfl (fun hc14 => ?_) (fun hc14 => ?_)
    · rw [if_pos hc14] at h
      refine xX_blk (w := xw_162) eT_162 5 70 (ls' := [.ref 141, .int a, .int b, .int e11, .null]) (st' := [.int ((21 : Int32) + a), .ref 142]) (σ' := r1) rfl ?_
      obtain ⟨hi15, h⟩ := xgd_inv h
      refine xX_one (w := xw_162) (i := 75) (ls' := [.ref 141, .int a, .int b, .int e11, .null]) (st' := [.int (r1 142 ((21 : Int32) + a).toNatClampNeg)]) (σ' := r1) eT_162 rfl (e_iald xs_142 hi15) ?_
      refine xX_jmp (w := xw_162) (i := 76) (a := 96) (st' := [.int (r1 142 ((21 : Int32) + a).toNatClampNeg)]) eT_162 rfl rfl ?_
      obtain rfl := Option.some.inj h
      exact xX_ret (w := xw_162) (i := 96) eT_162 rfl rfl
    · rw [if_neg hc14] at h
      refine xX_blk (w := xw_162) eT_162 2 77 (ls' := [.ref 141, .int a, .int b, .int e11, .null]) (st' := [.int 2, .int b]) (σ' := r1) rfl ?_
      refine xX_ite (c := b = 2) (w := xw_162) (i := 79) (a := 80) (b := 85) (st' := []) eT_162 rfl rfl (fun hc16 => ?_) (fun hc16 => ?_)
      · rw [if_pos hc16] at h
        refine xX_blk (w := xw_162) eT_162 3 80 (ls' := [.ref 141, .int a, .int b, .int e11, .null]) (st' := [.int a, .ref 147]) (σ' := r1) rfl ?_
        obtain ⟨hi17, h⟩ := xgd_inv h
        refine xX_one (w := xw_162) (i := 83) (ls' := [.ref 141, .int a, .int b, .int e11, .null]) (st' := [.int (r1 147 a.toNatClampNeg)]) (σ' := r1) eT_162 rfl (e_iald xs_147 hi17) ?_
        refine xX_jmp (w := xw_162) (i := 84) (a := 96) (st' := [.int (r1 147 a.toNatClampNeg)]) eT_162 rfl rfl ?_
        obtain rfl := Option.some.inj h
        exact xX_ret (w := xw_162) (i := 96) eT_162 rfl rfl
      · rw [if_neg hc16] at h
        refine xX_blk (w := xw_162) eT_162 2 85 (ls' := [.ref 141, .int a, .int b, .int e11, .null]) (st' := [.int 3, .int b]) (σ' := r1) rfl ?_
        refine xX_ite (c := b = 3) (w := xw_162) (i := 87) (a := 88) (b := 95) (st' := []) eT_162 rfl rfl (fun hc18 => ?_) (fun hc18 => ?_)
        · rw [if_pos hc18] at h
          refine xX_blk (w := xw_162) eT_162 5 88 (ls' := [.ref 141, .int a, .int b, .int e11, .null]) (st' := [.int ((29 : Int32) + a), .ref 142]) (σ' := r1) rfl ?_
          obtain ⟨hi19, h⟩ := xgd_inv h
          refine xX_one (w := xw_162) (i := 93) (ls' := [.ref 141, .int a, .int b, .int e11, .null]) (st' := [.int (r1 142 ((29 : Int32) + a).toNatClampNeg)]) (σ' := r1) eT_162 rfl (e_iald xs_142 hi19) ?_
          refine xX_jmp (w := xw_162) (i := 94) (a := 96) (st' := [.int (r1 142 ((29 : Int32) + a).toNatClampNeg)]) eT_162 rfl rfl ?_
          obtain rfl := Option.some.inj h
          exact xX_ret (w := xw_162) (i := 96) eT_162 rfl rfl
        · rw [if_neg hc18] at h
          refine xX_blk (w := xw_162) eT_162 1 95 (ls' := [.ref 141, .int a, .int b, .int e11, .null]) (st' := [.int e11]) (σ' := r1) rfl ?_
          obtain rfl := Option.some.inj h
          exact xX_ret (w := xw_162) (i := 96) eT_162 rfl rfl
def F_X11_of (a : Int32) (b : Int32) (σ : xM) : Option (Int32 × xM) :=
  xbd (F_X11_isArea a σ) fun r1 =>
  if r1 = 0 then
    xbd (F_X11_refuses (-2) σ) fun r3 =>
    some (r3.1, r3.2)
  else
    xbd (F_X11_in ((b : Int32).toInt64) 0 5 σ) fun r4 =>
    if r4 = 0 then
      xbd (F_X11_refuses (-2) σ) fun r6 =>
      some (r6.1, r6.2)
    else
      xbd (F_X11_ofNow a b σ) fun r7 =>
      some (r7.1, r7.2)
set_option maxHeartbeats 1000000 in
set_option maxRecDepth 20000 in
theorem T_X11_of (a : Int32) (b : Int32) (σ : xM) {d : Nat} {q : Int32 × xM} (hd : 6 ≤ d) (h : F_X11_of a b σ = some q) : xR xT xLn d 163 [.ref 141, .int a, .int b] σ (some (.int q.1), q.2) := by
  unfold F_X11_of at h
  show xX xT xLn d 163 0 [.ref 141, .int a, .int b] [] σ _
  refine xX_blk (w := xw_163) eT_163 2 0 (ls' := [.ref 141, .int a, .int b]) (st' := [.int a, .ref 141]) (σ' := σ) rfl ?_
  obtain ⟨r1, hr1, h⟩ := xbd_inv h
  refine xX_c1 (w := xw_163) (i := 2) (ls := [.ref 141, .int a, .int b]) (rest := []) eT_163 rfl (by omega) rfl rfl rfl (T_X11_isArea a σ (by omega) hr1) ?_
  refine xX_ite (c := r1 = 0) (w := xw_163) (i := 3) (a := 15) (b := 4) (st' := []) eT_163 rfl rfl (fun hc2 => ?_) (fun hc2 => ?_)
  · rw [if_pos hc2] at h
    refine xX_blk (w := xw_163) eT_163 2 15 (ls' := [.ref 141, .int a, .int b]) (st' := [.int (-2), .ref 141]) (σ' := σ) rfl ?_
    obtain ⟨r3, hr3, h⟩ := xbd_inv h
    refine xX_c1 (w := xw_163) (i := 17) (ls := [.ref 141, .int a, .int b]) (rest := []) eT_163 rfl (by omega) rfl rfl rfl (T_X11_refuses (-2) σ (by omega) hr3) ?_
    obtain rfl := Option.some.inj h
    exact xX_ret (w := xw_163) (i := 18) eT_163 rfl rfl
  · rw [if_neg hc2] at h
    refine xX_blk (w := xw_163) eT_163 4 4 (ls' := [.ref 141, .int a, .int b]) (st' := [.long 5, .long 0, .long ((b : Int32).toInt64)]) (σ' := σ) rfl ?_
    obtain ⟨r4, hr4, h⟩ := xbd_inv h
    refine xX_c1 (w := xw_163) (i := 8) (ls := [.ref 141, .int a, .int b]) (rest := []) eT_163 rfl (by omega) rfl rfl rfl (T_X11_in ((b : Int32).toInt64) 0 5 σ (by omega) hr4) ?_
    refine xX_ite (c := r4 = 0) (w := xw_163) (i := 9) (a := 15) (b := 10) (st' := []) eT_163 rfl rfl (fun hc5 => ?_) (fun hc5 => ?_)
    · rw [if_pos hc5] at h
      refine xX_blk (w := xw_163) eT_163 2 15 (ls' := [.ref 141, .int a, .int b]) (st' := [.int (-2), .ref 141]) (σ' := σ) rfl ?_
      obtain ⟨r6, hr6, h⟩ := xbd_inv h
      refine xX_c1 (w := xw_163) (i := 17) (ls := [.ref 141, .int a, .int b]) (rest := []) eT_163 rfl (by omega) rfl rfl rfl (T_X11_refuses (-2) σ (by omega) hr6) ?_
      obtain rfl := Option.some.inj h
      exact xX_ret (w := xw_163) (i := 18) eT_163 rfl rfl
    · rw [if_neg hc5] at h
      refine xX_blk (w := xw_163) eT_163 3 10 (ls' := [.ref 141, .int a, .int b]) (st' := [.int b, .int a, .ref 141]) (σ' := σ) rfl ?_
      obtain ⟨r7, hr7, h⟩ := xbd_inv h
      refine xX_c1 (w := xw_163) (i := 13) (ls := [.ref 141, .int a, .int b]) (rest := []) eT_163 rfl (by omega) rfl rfl rfl (T_X11_ofNow a b σ (by omega) hr7) ?_
      refine xX_jmp (w := xw_163) (i := 14) (a := 18) (st' := [.int r7.1]) eT_163 rfl rfl ?_
      obtain rfl := Option.some.inj h
      exact xX_ret (w := xw_163) (i := 18) eT_163 rfl rfl
def F_X11_isCarried (a : Int32) (σ : xM) : Option (Int32) :=
  xbd (F_X11_ofSession a 0 σ) fun r1 =>
  xgd (xin r1 8) (
  xbd (F_X11_ofSession a 1 σ) fun r3 =>
  if (σ 147 r1.toNatClampNeg) = r3 then
    some 0
  else
    some 1)
set_option maxHeartbeats 1000000 in
set_option maxRecDepth 20000 in
theorem T_X11_isCarried (a : Int32) (σ : xM) {d : Nat} {q : Int32} (hd : 1 ≤ d) (h : F_X11_isCarried a σ = some q) : xR xT xLn d 132 [.ref 141, .int a] σ (some (.int q), σ) := by
  unfold F_X11_isCarried at h
  show xX xT xLn d 132 0 [.ref 141, .int a] [] σ _
  refine xX_blk (w := xw_132) eT_132 5 0 (ls' := [.ref 141, .int a]) (st' := [.int 0, .int a, .ref 141, .ref 147]) (σ' := σ) rfl ?_
  obtain ⟨r1, hr1, h⟩ := xbd_inv h
  refine xX_c1 (w := xw_132) (i := 5) (ls := [.ref 141, .int a]) (rest := [.ref 147]) eT_132 rfl (by omega) rfl rfl rfl (T_X11_ofSession a 0 σ (by omega) hr1) ?_
  obtain ⟨hi2, h⟩ := xgd_inv h
  refine xX_one (w := xw_132) (i := 6) (ls' := [.ref 141, .int a]) (st' := [.int (σ 147 r1.toNatClampNeg)]) (σ' := σ) eT_132 rfl (e_iald xs_147 hi2) ?_
  refine xX_blk (w := xw_132) eT_132 3 7 (ls' := [.ref 141, .int a]) (st' := [.int 1, .int a, .ref 141, .int (σ 147 r1.toNatClampNeg)]) (σ' := σ) rfl ?_
  obtain ⟨r3, hr3, h⟩ := xbd_inv h
  refine xX_c1 (w := xw_132) (i := 10) (ls := [.ref 141, .int a]) (rest := [.int (σ 147 r1.toNatClampNeg)]) eT_132 rfl (by omega) rfl rfl rfl (T_X11_ofSession a 1 σ (by omega) hr3) ?_
  refine xX_ite (c := (σ 147 r1.toNatClampNeg) = r3) (w := xw_132) (i := 11) (a := 14) (b := 12) (st' := []) eT_132 rfl rfl (fun hc4 => ?_) (fun hc4 => ?_)
  · rw [if_pos hc4] at h
    refine xX_blk (w := xw_132) eT_132 1 14 (ls' := [.ref 141, .int a]) (st' := [.int 0]) (σ' := σ) rfl ?_
    obtain rfl := Option.some.inj h
    exact xX_ret (w := xw_132) (i := 15) eT_132 rfl (e_ret2 (by decide))
  · rw [if_neg hc4] at h
    refine xX_blk (w := xw_132) eT_132 1 12 (ls' := [.ref 141, .int a]) (st' := [.int 1]) (σ' := σ) rfl ?_
    refine xX_jmp (w := xw_132) (i := 13) (a := 15) (st' := [.int 1]) eT_132 rfl rfl ?_
    obtain rfl := Option.some.inj h
    exact xX_ret (w := xw_132) (i := 15) eT_132 rfl (e_ret2 (by decide))
def B_X11_load_4 (p1 : Int32) (v2 : Int32) (v3 : Int32) (σ : xM) : Option ((Int32 × Int32) ⊕ ((Int32))) :=
  if (σ 142 0) ≤ v3 then
    some (.inr v2)
  else
    xgd (xin v3 8) (
    if (σ 147 v3.toNatClampNeg) = p1 then
      xgd (xin ((13 : Int32) + v3) 169) (
      some (.inl ((v2 + (σ 142 ((13 : Int32) + v3).toNatClampNeg)), (v3 + 1))))
    else
      some (.inl ((v2 + 0), (v3 + 1))))
def L_X11_load_4 (p1 : Int32) (v2 : Int32) (v3 : Int32) (σ : xM) : Option ((Int32)) := xloop (fun s : Int32 × Int32 => B_X11_load_4 p1 s.1 s.2 σ) 6000 (v2, v3)
set_option maxHeartbeats 1000000 in
set_option maxRecDepth 20000 in
theorem TB_X11_load_4 {d : Nat} {o : Option Value × xM} (p1 : Int32) (v2 : Int32) (v3 : Int32) (σ : xM) {q : (Int32 × Int32) ⊕ ((Int32))} (hd : 0 ≤ d) (h : B_X11_load_4 p1 v2 v3 σ = some q) (hB : ∀ s', q = .inl s' → xX xT xLn d 133 4 [.ref 141, .int p1, .int s'.1, .int s'.2] [] σ o) (hE : ∀ e', q = .inr e' → ∀ (z3 : Value), xX xT xLn d 133 30 [.ref 141, .int p1, .int e', z3] [] σ o) : xX xT xLn d 133 4 [.ref 141, .int p1, .int v2, .int v3] [] σ o := by
  unfold B_X11_load_4 at h
  refine xX_blk (w := xw_133) eT_133 5 4 (ls' := [.ref 141, .int p1, .int v2, .int v3]) (st' := [.int 0, .ref 142, .int v3]) (σ' := σ) rfl ?_
  refine xX_one (w := xw_133) (i := 9) (ls' := [.ref 141, .int p1, .int v2, .int v3]) (st' := [.int (σ 142 0), .int v3]) (σ' := σ) eT_133 rfl (e_ialK xs_142 (by decide) (by decide)) ?_
  refine xX_ite (c := (σ 142 0) ≤ v3) (w := xw_133) (i := 10) (a := 30) (b := 11) (st' := []) eT_133 rfl rfl (fun hc1 => ?_) (fun hc1 => ?_)
  · rw [if_pos hc1] at h
    obtain rfl := Option.some.inj h
    exact hE v2 rfl _
  · rw [if_neg hc1] at h
    refine xX_blk (w := xw_133) eT_133 4 11 (ls' := [.ref 141, .int p1, .int v2, .int v3]) (st' := [.int v3, .ref 147, .int v2]) (σ' := σ) rfl ?_
    obtain ⟨hi2, h⟩ := xgd_inv h
    refine xX_one (w := xw_133) (i := 15) (ls' := [.ref 141, .int p1, .int v2, .int v3]) (st' := [.int (σ 147 v3.toNatClampNeg), .int v2]) (σ' := σ) eT_133 rfl (e_iald xs_147 hi2) ?_
    refine xX_blk (w := xw_133) eT_133 1 16 (ls' := [.ref 141, .int p1, .int v2, .int v3]) (st' := [.int p1, .int (σ 147 v3.toNatClampNeg), .int v2]) (σ' := σ) rfl ?_
    refine xX_ite (c := (σ 147 v3.toNatClampNeg) = p1) (w := xw_133) (i := 17) (a := 18) (b := 25) (st' := [.int v2]) eT_133 rfl rfl (fun hc3 => ?_) (fun hc3 => ?_)
    · rw [if_pos hc3] at h
      refine xX_blk (w := xw_133) eT_133 5 18 (ls' := [.ref 141, .int p1, .int v2, .int v3]) (st' := [.int ((13 : Int32) + v3), .ref 142, .int v2]) (σ' := σ) rfl ?_
      obtain ⟨hi4, h⟩ := xgd_inv h
      refine xX_one (w := xw_133) (i := 23) (ls' := [.ref 141, .int p1, .int v2, .int v3]) (st' := [.int (σ 142 ((13 : Int32) + v3).toNatClampNeg), .int v2]) (σ' := σ) eT_133 rfl (e_iald xs_142 hi4) ?_
      refine xX_jmp (w := xw_133) (i := 24) (a := 26) (st' := [.int (σ 142 ((13 : Int32) + v3).toNatClampNeg), .int v2]) eT_133 rfl rfl ?_
      refine xX_blk (w := xw_133) eT_133 3 26 (ls' := [.ref 141, .int p1, .int (v2 + (σ 142 ((13 : Int32) + v3).toNatClampNeg)), .int (v3 + 1)]) (st' := []) (σ' := σ) rfl ?_
      refine xX_jmp (w := xw_133) (i := 29) (a := 4) (st' := []) eT_133 rfl rfl ?_
      obtain rfl := Option.some.inj h
      exact hB ((v2 + (σ 142 ((13 : Int32) + v3).toNatClampNeg)), (v3 + 1)) rfl
    · rw [if_neg hc3] at h
      refine xX_blk (w := xw_133) eT_133 4 25 (ls' := [.ref 141, .int p1, .int (v2 + 0), .int (v3 + 1)]) (st' := []) (σ' := σ) rfl ?_
      refine xX_jmp (w := xw_133) (i := 29) (a := 4) (st' := []) eT_133 rfl rfl ?_
      obtain rfl := Option.some.inj h
      exact hB ((v2 + 0), (v3 + 1)) rfl
set_option maxHeartbeats 1000000 in
set_option maxRecDepth 20000 in
theorem TL_X11_load_4 {d : Nat} {o : Option Value × xM} (p1 : Int32) (v2 : Int32) (v3 : Int32) (σ : xM) {e : (Int32)} (hd : 0 ≤ d) (h : L_X11_load_4 p1 v2 v3 σ = some e) (hE : ∀ (z3 : Value), xX xT xLn d 133 30 [.ref 141, .int p1, .int e, z3] [] σ o) : xX xT xLn d 133 4 [.ref 141, .int p1, .int v2, .int v3] [] σ o :=
  xloop_snd (X := fun s => xX xT xLn d 133 4 [.ref 141, .int p1, .int s.1, .int s.2] [] σ o) (Y := fun e' => ∀ (z3 : Value), xX xT xLn d 133 30 [.ref 141, .int p1, .int e', z3] [] σ o) (fun s q hs hB hE => TB_X11_load_4 p1 s.1 s.2 σ hd hs hB hE) _ _ _ h hE
def B_X11_load_31 (p1 : Int32) (v2 : Int32) (v3 : Int32) (σ : xM) : Option ((Int32 × Int32) ⊕ ((Int32))) :=
  if (σ 142 2) ≤ v3 then
    some (.inr v2)
  else
    xbd (F_X11_ofSession v3 1 σ) fun r7 =>
    if r7 = p1 then
      xbd (F_X11_isCarried v3 σ) fun r9 =>
      if r9 = 0 then
        some (.inl ((v2 + 0), (v3 + 1)))
      else
        xbd (F_X11_ofSession v3 2 σ) fun r11 =>
        some (.inl ((v2 + r11), (v3 + 1)))
    else
      some (.inl ((v2 + 0), (v3 + 1)))
def L_X11_load_31 (p1 : Int32) (v2 : Int32) (v3 : Int32) (σ : xM) : Option ((Int32)) := xloop (fun s : Int32 × Int32 => B_X11_load_31 p1 s.1 s.2 σ) 6000 (v2, v3)
set_option maxHeartbeats 1000000 in
set_option maxRecDepth 20000 in
theorem TB_X11_load_31 {d : Nat} {o : Option Value × xM} (p1 : Int32) (v2 : Int32) (v3 : Int32) (σ : xM) {q : (Int32 × Int32) ⊕ ((Int32))} (hd : 2 ≤ d) (h : B_X11_load_31 p1 v2 v3 σ = some q) (hB : ∀ s', q = .inl s' → xX xT xLn d 133 33 [.ref 141, .int p1, .int s'.1, .int s'.2] [] σ o) (hE : ∀ e', q = .inr e' → ∀ (z0 z1 z3 : Value), xX xT xLn d 133 61 [z0, z1, .int e', z3] [] σ o) : xX xT xLn d 133 33 [.ref 141, .int p1, .int v2, .int v3] [] σ o := by
  unfold B_X11_load_31 at h
  refine xX_blk (w := xw_133) eT_133 5 33 (ls' := [.ref 141, .int p1, .int v2, .int v3]) (st' := [.int 2, .ref 142, .int v3]) (σ' := σ) rfl ?_
  refine xX_one (w := xw_133) (i := 38) (ls' := [.ref 141, .int p1, .int v2, .int v3]) (st' := [.int (σ 142 2), .int v3]) (σ' := σ) eT_133 rfl (e_ialK xs_142 (by decide) (by decide)) ?_
  refine xX_ite (c := (σ 142 2) ≤ v3) (w := xw_133) (i := 39) (a := 61) (b := 40) (st' := []) eT_133 rfl rfl (fun hc6 => ?_) (fun hc6 => ?_)
  · rw [if_pos hc6] at h
    obtain rfl := Option.some.inj h
    exact hE v2 rfl _ _ _
  · rw [if_neg hc6] at h
    refine xX_blk (w := xw_133) eT_133 4 40 (ls' := [.ref 141, .int p1, .int v2, .int v3]) (st' := [.int 1, .int v3, .ref 141, .int v2]) (σ' := σ) rfl ?_
    obtain ⟨r7, hr7, h⟩ := xbd_inv h
    refine xX_c1 (w := xw_133) (i := 44) (ls := [.ref 141, .int p1, .int v2, .int v3]) (rest := [.int v2]) eT_133 rfl (by omega) rfl rfl rfl (T_X11_ofSession v3 1 σ (by omega) hr7) ?_
    refine xX_blk (w := xw_133) eT_133 1 45 (ls' := [.ref 141, .int p1, .int v2, .int v3]) (st' := [.int p1, .int r7, .int v2]) (σ' := σ) rfl ?_
    refine xX_ite (c := r7 = p1) (w := xw_133) (i := 46) (a := 47) (b := 56) (st' := [.int v2]) eT_133 rfl rfl (fun hc8 => ?_) (fun hc8 => ?_)
    · rw [if_pos hc8] at h
      refine xX_blk (w := xw_133) eT_133 2 47 (ls' := [.ref 141, .int p1, .int v2, .int v3]) (st' := [.int v3, .ref 141, .int v2]) (σ' := σ) rfl ?_
      obtain ⟨r9, hr9, h⟩ := xbd_inv h
      refine xX_c1 (w := xw_133) (i := 49) (ls := [.ref 141, .int p1, .int v2, .int v3]) (rest := [.int v2]) eT_133 rfl (by omega) rfl rfl rfl (T_X11_isCarried v3 σ (by omega) hr9) ?_
      refine xX_ite (c := r9 = 0) (w := xw_133) (i := 50) (a := 56) (b := 51) (st' := [.int v2]) eT_133 rfl rfl (fun hc10 => ?_) (fun hc10 => ?_)
      · rw [if_pos hc10] at h
        refine xX_blk (w := xw_133) eT_133 4 56 (ls' := [.ref 141, .int p1, .int (v2 + 0), .int (v3 + 1)]) (st' := []) (σ' := σ) rfl ?_
        refine xX_jmp (w := xw_133) (i := 60) (a := 33) (st' := []) eT_133 rfl rfl ?_
        obtain rfl := Option.some.inj h
        exact hB ((v2 + 0), (v3 + 1)) rfl
      · rw [if_neg hc10] at h
        refine xX_blk (w := xw_133) eT_133 3 51 (ls' := [.ref 141, .int p1, .int v2, .int v3]) (st' := [.int 2, .int v3, .ref 141, .int v2]) (σ' := σ) rfl ?_
        obtain ⟨r11, hr11, h⟩ := xbd_inv h
        refine xX_c1 (w := xw_133) (i := 54) (ls := [.ref 141, .int p1, .int v2, .int v3]) (rest := [.int v2]) eT_133 rfl (by omega) rfl rfl rfl (T_X11_ofSession v3 2 σ (by omega) hr11) ?_
        refine xX_jmp (w := xw_133) (i := 55) (a := 57) (st' := [.int r11, .int v2]) eT_133 rfl rfl ?_
        refine xX_blk (w := xw_133) eT_133 3 57 (ls' := [.ref 141, .int p1, .int (v2 + r11), .int (v3 + 1)]) (st' := []) (σ' := σ) rfl ?_
        refine xX_jmp (w := xw_133) (i := 60) (a := 33) (st' := []) eT_133 rfl rfl ?_
        obtain rfl := Option.some.inj h
        exact hB ((v2 + r11), (v3 + 1)) rfl
    · rw [if_neg hc8] at h
      refine xX_blk (w := xw_133) eT_133 4 56 (ls' := [.ref 141, .int p1, .int (v2 + 0), .int (v3 + 1)]) (st' := []) (σ' := σ) rfl ?_
      refine xX_jmp (w := xw_133) (i := 60) (a := 33) (st' := []) eT_133 rfl rfl ?_
      obtain rfl := Option.some.inj h
      exact hB ((v2 + 0), (v3 + 1)) rfl
set_option maxHeartbeats 1000000 in
set_option maxRecDepth 20000 in
theorem TL_X11_load_31 {d : Nat} {o : Option Value × xM} (p1 : Int32) (v2 : Int32) (v3 : Int32) (σ : xM) {e : (Int32)} (hd : 2 ≤ d) (h : L_X11_load_31 p1 v2 v3 σ = some e) (hE : ∀ (z0 z1 z3 : Value), xX xT xLn d 133 61 [z0, z1, .int e, z3] [] σ o) : xX xT xLn d 133 33 [.ref 141, .int p1, .int v2, .int v3] [] σ o :=
  xloop_snd (X := fun s => xX xT xLn d 133 33 [.ref 141, .int p1, .int s.1, .int s.2] [] σ o) (Y := fun e' => ∀ (z0 z1 z3 : Value), xX xT xLn d 133 61 [z0, z1, .int e', z3] [] σ o) (fun s q hs hB hE => TB_X11_load_31 p1 s.1 s.2 σ hd hs hB hE) _ _ _ h hE
def F_X11_load (a : Int32) (σ : xM) : Option (Int32) :=
  xbd (L_X11_load_4 a 0 0 σ) fun e5 =>
  xbd (L_X11_load_31 a e5 0 σ) fun e12 =>
  some e12
set_option maxHeartbeats 1000000 in
set_option maxRecDepth 20000 in
theorem T_X11_load (a : Int32) (σ : xM) {d : Nat} {q : Int32} (hd : 2 ≤ d) (h : F_X11_load a σ = some q) : xR xT xLn d 133 [.ref 141, .int a] σ (some (.int q), σ) := by
  unfold F_X11_load at h
  show xX xT xLn d 133 0 [.ref 141, .int a, .null, .null] [] σ _
  refine xX_blk (w := xw_133) eT_133 4 0 (ls' := [.ref 141, .int a, .int 0, .int 0]) (st' := []) (σ' := σ) rfl ?_
  obtain ⟨e5, he5, h⟩ := xbd_inv h
  refine TL_X11_load_4 a 0 0 σ (by omega) he5 (fun z3 => ?_)
  refine xX_blk (w := xw_133) eT_133 3 30 (ls' := [.ref 141, .int a, .int e5, .int 0]) (st' := []) (σ' := σ) rfl ?_
  obtain ⟨e12, he12, h⟩ := xbd_inv h
  refine TL_X11_load_31 a e5 0 σ (by omega) he12 (fun z0 z1 z3 => ?_)
  refine xX_blk (w := xw_133) eT_133 2 61 (ls' := [.null, .null, .int e12, .null]) (st' := [.int e12]) (σ' := σ) rfl ?_
  obtain rfl := Option.some.inj h
  exact xX_ret (w := xw_133) (i := 63) eT_133 rfl rfl
def F_X11_isOver (a : Int32) (σ : xM) : Option (Int32) :=
  xbd (F_X11_stateOf a σ) fun r1 =>
  if r1 = 2 then
    some 0
  else
    xbd (F_X11_load a σ) fun r3 =>
    xbd (F_X11_ofSite a 1 σ) fun r4 =>
    if r3 ≤ r4 then
      some 0
    else
      some 1
set_option maxHeartbeats 1000000 in
set_option maxRecDepth 20000 in
theorem T_X11_isOver (a : Int32) (σ : xM) {d : Nat} {q : Int32} (hd : 3 ≤ d) (h : F_X11_isOver a σ = some q) : xR xT xLn d 134 [.ref 141, .int a] σ (some (.int q), σ) := by
  unfold F_X11_isOver at h
  show xX xT xLn d 134 0 [.ref 141, .int a] [] σ _
  refine xX_blk (w := xw_134) eT_134 2 0 (ls' := [.ref 141, .int a]) (st' := [.int a, .ref 141]) (σ' := σ) rfl ?_
  obtain ⟨r1, hr1, h⟩ := xbd_inv h
  refine xX_c1 (w := xw_134) (i := 2) (ls := [.ref 141, .int a]) (rest := []) eT_134 rfl (by omega) rfl rfl rfl (T_X11_stateOf a σ (by omega) hr1) ?_
  refine xX_blk (w := xw_134) eT_134 1 3 (ls' := [.ref 141, .int a]) (st' := [.int 2, .int r1]) (σ' := σ) rfl ?_
  refine xX_ite (c := r1 = 2) (w := xw_134) (i := 4) (a := 15) (b := 5) (st' := []) eT_134 rfl rfl (fun hc2 => ?_) (fun hc2 => ?_)
  · rw [if_pos hc2] at h
    refine xX_blk (w := xw_134) eT_134 1 15 (ls' := [.ref 141, .int a]) (st' := [.int 0]) (σ' := σ) rfl ?_
    obtain rfl := Option.some.inj h
    exact xX_ret (w := xw_134) (i := 16) eT_134 rfl (e_ret2 (by decide))
  · rw [if_neg hc2] at h
    refine xX_blk (w := xw_134) eT_134 2 5 (ls' := [.ref 141, .int a]) (st' := [.int a, .ref 141]) (σ' := σ) rfl ?_
    obtain ⟨r3, hr3, h⟩ := xbd_inv h
    refine xX_c1 (w := xw_134) (i := 7) (ls := [.ref 141, .int a]) (rest := []) eT_134 rfl (by omega) rfl rfl rfl (T_X11_load a σ (by omega) hr3) ?_
    refine xX_blk (w := xw_134) eT_134 3 8 (ls' := [.ref 141, .int a]) (st' := [.int 1, .int a, .ref 141, .int r3]) (σ' := σ) rfl ?_
    obtain ⟨r4, hr4, h⟩ := xbd_inv h
    refine xX_c1 (w := xw_134) (i := 11) (ls := [.ref 141, .int a]) (rest := [.int r3]) eT_134 rfl (by omega) rfl rfl rfl (T_X11_ofSite a 1 σ (by omega) hr4) ?_
    refine xX_ite (c := r3 ≤ r4) (w := xw_134) (i := 12) (a := 15) (b := 13) (st' := []) eT_134 rfl rfl (fun hc5 => ?_) (fun hc5 => ?_)
    · rw [if_pos hc5] at h
      refine xX_blk (w := xw_134) eT_134 1 15 (ls' := [.ref 141, .int a]) (st' := [.int 0]) (σ' := σ) rfl ?_
      obtain rfl := Option.some.inj h
      exact xX_ret (w := xw_134) (i := 16) eT_134 rfl (e_ret2 (by decide))
    · rw [if_neg hc5] at h
      refine xX_blk (w := xw_134) eT_134 1 13 (ls' := [.ref 141, .int a]) (st' := [.int 1]) (σ' := σ) rfl ?_
      refine xX_jmp (w := xw_134) (i := 14) (a := 16) (st' := [.int 1]) eT_134 rfl rfl ?_
      obtain rfl := Option.some.inj h
      exact xX_ret (w := xw_134) (i := 16) eT_134 rfl (e_ret2 (by decide))
def B_X11_caught_4 (p1 : Int32) (v2 : Int32) (v3 : Int32) (σ : xM) : Option ((Int32 × Int32) ⊕ ((Int32))) :=
  if (σ 142 0) ≤ v3 then
    some (.inr v2)
  else
    xgd (xin v3 8) (
    if (σ 147 v3.toNatClampNeg) = p1 then
      some (.inl ((v2 ||| ((1 : Int32) <<< (v3 &&& 31))), (v3 + 1)))
    else
      some (.inl ((v2 ||| 0), (v3 + 1))))
def L_X11_caught_4 (p1 : Int32) (v2 : Int32) (v3 : Int32) (σ : xM) : Option ((Int32)) := xloop (fun s : Int32 × Int32 => B_X11_caught_4 p1 s.1 s.2 σ) 6000 (v2, v3)
set_option maxHeartbeats 1000000 in
set_option maxRecDepth 20000 in
theorem TB_X11_caught_4 {d : Nat} {o : Option Value × xM} (p1 : Int32) (v2 : Int32) (v3 : Int32) (σ : xM) {q : (Int32 × Int32) ⊕ ((Int32))} (hd : 0 ≤ d) (h : B_X11_caught_4 p1 v2 v3 σ = some q) (hB : ∀ s', q = .inl s' → xX xT xLn d 165 4 [.ref 141, .int p1, .int s'.1, .int s'.2] [] σ o) (hE : ∀ e', q = .inr e' → ∀ (z0 z1 z3 : Value), xX xT xLn d 165 27 [z0, z1, .int e', z3] [] σ o) : xX xT xLn d 165 4 [.ref 141, .int p1, .int v2, .int v3] [] σ o := by
  unfold B_X11_caught_4 at h
  refine xX_blk (w := xw_165) eT_165 5 4 (ls' := [.ref 141, .int p1, .int v2, .int v3]) (st' := [.int 0, .ref 142, .int v3]) (σ' := σ) rfl ?_
  refine xX_one (w := xw_165) (i := 9) (ls' := [.ref 141, .int p1, .int v2, .int v3]) (st' := [.int (σ 142 0), .int v3]) (σ' := σ) eT_165 rfl (e_ialK xs_142 (by decide) (by decide)) ?_
  refine xX_ite (c := (σ 142 0) ≤ v3) (w := xw_165) (i := 10) (a := 27) (b := 11) (st' := []) eT_165 rfl rfl (fun hc1 => ?_) (fun hc1 => ?_)
  · rw [if_pos hc1] at h
    obtain rfl := Option.some.inj h
    exact hE v2 rfl _ _ _
  · rw [if_neg hc1] at h
    refine xX_blk (w := xw_165) eT_165 4 11 (ls' := [.ref 141, .int p1, .int v2, .int v3]) (st' := [.int v3, .ref 147, .int v2]) (σ' := σ) rfl ?_
    obtain ⟨hi2, h⟩ := xgd_inv h
    refine xX_one (w := xw_165) (i := 15) (ls' := [.ref 141, .int p1, .int v2, .int v3]) (st' := [.int (σ 147 v3.toNatClampNeg), .int v2]) (σ' := σ) eT_165 rfl (e_iald xs_147 hi2) ?_
    refine xX_blk (w := xw_165) eT_165 1 16 (ls' := [.ref 141, .int p1, .int v2, .int v3]) (st' := [.int p1, .int (σ 147 v3.toNatClampNeg), .int v2]) (σ' := σ) rfl ?_
    refine xX_ite (c := (σ 147 v3.toNatClampNeg) = p1) (w := xw_165) (i := 17) (a := 18) (b := 22) (st' := [.int v2]) eT_165 rfl rfl (fun hc3 => ?_) (fun hc3 => ?_)
    · rw [if_pos hc3] at h
      refine xX_blk (w := xw_165) eT_165 3 18 (ls' := [.ref 141, .int p1, .int v2, .int v3]) (st' := [.int ((1 : Int32) <<< (v3 &&& 31)), .int v2]) (σ' := σ) rfl ?_
      refine xX_jmp (w := xw_165) (i := 21) (a := 23) (st' := [.int ((1 : Int32) <<< (v3 &&& 31)), .int v2]) eT_165 rfl rfl ?_
      refine xX_blk (w := xw_165) eT_165 3 23 (ls' := [.ref 141, .int p1, .int (v2 ||| ((1 : Int32) <<< (v3 &&& 31))), .int (v3 + 1)]) (st' := []) (σ' := σ) rfl ?_
      refine xX_jmp (w := xw_165) (i := 26) (a := 4) (st' := []) eT_165 rfl rfl ?_
      obtain rfl := Option.some.inj h
      exact hB ((v2 ||| ((1 : Int32) <<< (v3 &&& 31))), (v3 + 1)) rfl
    · rw [if_neg hc3] at h
      refine xX_blk (w := xw_165) eT_165 4 22 (ls' := [.ref 141, .int p1, .int (v2 ||| 0), .int (v3 + 1)]) (st' := []) (σ' := σ) rfl ?_
      refine xX_jmp (w := xw_165) (i := 26) (a := 4) (st' := []) eT_165 rfl rfl ?_
      obtain rfl := Option.some.inj h
      exact hB ((v2 ||| 0), (v3 + 1)) rfl
set_option maxHeartbeats 1000000 in
set_option maxRecDepth 20000 in
theorem TL_X11_caught_4 {d : Nat} {o : Option Value × xM} (p1 : Int32) (v2 : Int32) (v3 : Int32) (σ : xM) {e : (Int32)} (hd : 0 ≤ d) (h : L_X11_caught_4 p1 v2 v3 σ = some e) (hE : ∀ (z0 z1 z3 : Value), xX xT xLn d 165 27 [z0, z1, .int e, z3] [] σ o) : xX xT xLn d 165 4 [.ref 141, .int p1, .int v2, .int v3] [] σ o :=
  xloop_snd (X := fun s => xX xT xLn d 165 4 [.ref 141, .int p1, .int s.1, .int s.2] [] σ o) (Y := fun e' => ∀ (z0 z1 z3 : Value), xX xT xLn d 165 27 [z0, z1, .int e', z3] [] σ o) (fun s q hs hB hE => TB_X11_caught_4 p1 s.1 s.2 σ hd hs hB hE) _ _ _ h hE
def F_X11_caught (a : Int32) (σ : xM) : Option (Int32) :=
  xbd (L_X11_caught_4 a 0 0 σ) fun e4 =>
  some e4
set_option maxHeartbeats 1000000 in
set_option maxRecDepth 20000 in
theorem T_X11_caught (a : Int32) (σ : xM) {d : Nat} {q : Int32} (hd : 0 ≤ d) (h : F_X11_caught a σ = some q) : xR xT xLn d 165 [.ref 141, .int a] σ (some (.int q), σ) := by
  unfold F_X11_caught at h
  show xX xT xLn d 165 0 [.ref 141, .int a, .null, .null] [] σ _
  refine xX_blk (w := xw_165) eT_165 4 0 (ls' := [.ref 141, .int a, .int 0, .int 0]) (st' := []) (σ' := σ) rfl ?_
  obtain ⟨e4, he4, h⟩ := xbd_inv h
  refine TL_X11_caught_4 a 0 0 σ (by omega) he4 (fun z0 z1 z3 => ?_)
  refine xX_blk (w := xw_165) eT_165 2 27 (ls' := [.null, .null, .int e4, .null]) (st' := [.int e4]) (σ' := σ) rfl ?_
  obtain rfl := Option.some.inj h
  exact xX_ret (w := xw_165) (i := 29) eT_165 rfl rfl
def B_X11_sessionsAt_4 (p1 : Int32) (v2 : Int32) (v3 : Int32) (σ : xM) : Option ((Int32 × Int32) ⊕ ((Int32))) :=
  if (σ 142 2) ≤ v3 then
    some (.inr v2)
  else
    xbd (F_X11_ofSession v3 1 σ) fun r2 =>
    if r2 = p1 then
      some (.inl ((v2 + 1), (v3 + 1)))
    else
      some (.inl ((v2 + 0), (v3 + 1)))
def L_X11_sessionsAt_4 (p1 : Int32) (v2 : Int32) (v3 : Int32) (σ : xM) : Option ((Int32)) := xloop (fun s : Int32 × Int32 => B_X11_sessionsAt_4 p1 s.1 s.2 σ) 6000 (v2, v3)
set_option maxHeartbeats 1000000 in
set_option maxRecDepth 20000 in
theorem TB_X11_sessionsAt_4 {d : Nat} {o : Option Value × xM} (p1 : Int32) (v2 : Int32) (v3 : Int32) (σ : xM) {q : (Int32 × Int32) ⊕ ((Int32))} (hd : 1 ≤ d) (h : B_X11_sessionsAt_4 p1 v2 v3 σ = some q) (hB : ∀ s', q = .inl s' → xX xT xLn d 166 4 [.ref 141, .int p1, .int s'.1, .int s'.2] [] σ o) (hE : ∀ e', q = .inr e' → ∀ (z0 z1 z3 : Value), xX xT xLn d 166 25 [z0, z1, .int e', z3] [] σ o) : xX xT xLn d 166 4 [.ref 141, .int p1, .int v2, .int v3] [] σ o := by
  unfold B_X11_sessionsAt_4 at h
  refine xX_blk (w := xw_166) eT_166 5 4 (ls' := [.ref 141, .int p1, .int v2, .int v3]) (st' := [.int 2, .ref 142, .int v3]) (σ' := σ) rfl ?_
  refine xX_one (w := xw_166) (i := 9) (ls' := [.ref 141, .int p1, .int v2, .int v3]) (st' := [.int (σ 142 2), .int v3]) (σ' := σ) eT_166 rfl (e_ialK xs_142 (by decide) (by decide)) ?_
  refine xX_ite (c := (σ 142 2) ≤ v3) (w := xw_166) (i := 10) (a := 25) (b := 11) (st' := []) eT_166 rfl rfl (fun hc1 => ?_) (fun hc1 => ?_)
  · rw [if_pos hc1] at h
    obtain rfl := Option.some.inj h
    exact hE v2 rfl _ _ _
  · rw [if_neg hc1] at h
    refine xX_blk (w := xw_166) eT_166 4 11 (ls' := [.ref 141, .int p1, .int v2, .int v3]) (st' := [.int 1, .int v3, .ref 141, .int v2]) (σ' := σ) rfl ?_
    obtain ⟨r2, hr2, h⟩ := xbd_inv h
    refine xX_c1 (w := xw_166) (i := 15) (ls := [.ref 141, .int p1, .int v2, .int v3]) (rest := [.int v2]) eT_166 rfl (by omega) rfl rfl rfl (T_X11_ofSession v3 1 σ (by omega) hr2) ?_
    refine xX_blk (w := xw_166) eT_166 1 16 (ls' := [.ref 141, .int p1, .int v2, .int v3]) (st' := [.int p1, .int r2, .int v2]) (σ' := σ) rfl ?_
    refine xX_ite (c := r2 = p1) (w := xw_166) (i := 17) (a := 18) (b := 20) (st' := [.int v2]) eT_166 rfl rfl (fun hc3 => ?_) (fun hc3 => ?_)
    · rw [if_pos hc3] at h
      refine xX_blk (w := xw_166) eT_166 1 18 (ls' := [.ref 141, .int p1, .int v2, .int v3]) (st' := [.int 1, .int v2]) (σ' := σ) rfl ?_
      refine xX_jmp (w := xw_166) (i := 19) (a := 21) (st' := [.int 1, .int v2]) eT_166 rfl rfl ?_
      refine xX_blk (w := xw_166) eT_166 3 21 (ls' := [.ref 141, .int p1, .int (v2 + 1), .int (v3 + 1)]) (st' := []) (σ' := σ) rfl ?_
      refine xX_jmp (w := xw_166) (i := 24) (a := 4) (st' := []) eT_166 rfl rfl ?_
      obtain rfl := Option.some.inj h
      exact hB ((v2 + 1), (v3 + 1)) rfl
    · rw [if_neg hc3] at h
      refine xX_blk (w := xw_166) eT_166 4 20 (ls' := [.ref 141, .int p1, .int (v2 + 0), .int (v3 + 1)]) (st' := []) (σ' := σ) rfl ?_
      refine xX_jmp (w := xw_166) (i := 24) (a := 4) (st' := []) eT_166 rfl rfl ?_
      obtain rfl := Option.some.inj h
      exact hB ((v2 + 0), (v3 + 1)) rfl
set_option maxHeartbeats 1000000 in
set_option maxRecDepth 20000 in
theorem TL_X11_sessionsAt_4 {d : Nat} {o : Option Value × xM} (p1 : Int32) (v2 : Int32) (v3 : Int32) (σ : xM) {e : (Int32)} (hd : 1 ≤ d) (h : L_X11_sessionsAt_4 p1 v2 v3 σ = some e) (hE : ∀ (z0 z1 z3 : Value), xX xT xLn d 166 25 [z0, z1, .int e, z3] [] σ o) : xX xT xLn d 166 4 [.ref 141, .int p1, .int v2, .int v3] [] σ o :=
  xloop_snd (X := fun s => xX xT xLn d 166 4 [.ref 141, .int p1, .int s.1, .int s.2] [] σ o) (Y := fun e' => ∀ (z0 z1 z3 : Value), xX xT xLn d 166 25 [z0, z1, .int e', z3] [] σ o) (fun s q hs hB hE => TB_X11_sessionsAt_4 p1 s.1 s.2 σ hd hs hB hE) _ _ _ h hE
def F_X11_sessionsAt (a : Int32) (σ : xM) : Option (Int32) :=
  xbd (L_X11_sessionsAt_4 a 0 0 σ) fun e4 =>
  some e4
set_option maxHeartbeats 1000000 in
set_option maxRecDepth 20000 in
theorem T_X11_sessionsAt (a : Int32) (σ : xM) {d : Nat} {q : Int32} (hd : 1 ≤ d) (h : F_X11_sessionsAt a σ = some q) : xR xT xLn d 166 [.ref 141, .int a] σ (some (.int q), σ) := by
  unfold F_X11_sessionsAt at h
  show xX xT xLn d 166 0 [.ref 141, .int a, .null, .null] [] σ _
  refine xX_blk (w := xw_166) eT_166 4 0 (ls' := [.ref 141, .int a, .int 0, .int 0]) (st' := []) (σ' := σ) rfl ?_
  obtain ⟨e4, he4, h⟩ := xbd_inv h
  refine TL_X11_sessionsAt_4 a 0 0 σ (by omega) he4 (fun z0 z1 z3 => ?_)
  refine xX_blk (w := xw_166) eT_166 2 25 (ls' := [.null, .null, .int e4, .null]) (st' := [.int e4]) (σ' := σ) rfl ?_
  obtain rfl := Option.some.inj h
  exact xX_ret (w := xw_166) (i := 27) eT_166 rfl rfl
def B_X11_over_6 (v1 : Int32) (v2 : Int32) (σ : xM) : Option ((Int32 × Int32) ⊕ ((Int32))) :=
  if (σ 142 1) ≤ v2 then
    some (.inr v1)
  else
    xbd (F_X11_isOver v2 σ) fun r3 =>
    if r3 = 0 then
      some (.inl ((v1 ||| 0), (v2 + 1)))
    else
      some (.inl ((v1 ||| ((1 : Int32) <<< (v2 &&& 31))), (v2 + 1)))
def L_X11_over_6 (v1 : Int32) (v2 : Int32) (σ : xM) : Option ((Int32)) := xloop (fun s : Int32 × Int32 => B_X11_over_6 s.1 s.2 σ) 6000 (v1, v2)
set_option maxHeartbeats 1000000 in
set_option maxRecDepth 20000 in
theorem TB_X11_over_6 {d : Nat} {o : Option Value × xM} (v1 : Int32) (v2 : Int32) (σ : xM) {q : (Int32 × Int32) ⊕ ((Int32))} (hd : 4 ≤ d) (h : B_X11_over_6 v1 v2 σ = some q) (hB : ∀ s', q = .inl s' → xX xT xLn d 135 6 [.ref 141, .int s'.1, .int s'.2] [] σ o) (hE : ∀ e', q = .inr e' → ∀ (z0 z2 : Value), xX xT xLn d 135 27 [z0, .int e', z2] [] σ o) : xX xT xLn d 135 6 [.ref 141, .int v1, .int v2] [] σ o := by
  unfold B_X11_over_6 at h
  refine xX_blk (w := xw_135) eT_135 5 6 (ls' := [.ref 141, .int v1, .int v2]) (st' := [.int 1, .ref 142, .int v2]) (σ' := σ) rfl ?_
  refine xX_one (w := xw_135) (i := 11) (ls' := [.ref 141, .int v1, .int v2]) (st' := [.int (σ 142 1), .int v2]) (σ' := σ) eT_135 rfl (e_ialK xs_142 (by decide) (by decide)) ?_
  refine xX_ite (c := (σ 142 1) ≤ v2) (w := xw_135) (i := 12) (a := 27) (b := 13) (st' := []) eT_135 rfl rfl (fun hc2 => ?_) (fun hc2 => ?_)
  · rw [if_pos hc2] at h
    obtain rfl := Option.some.inj h
    exact hE v1 rfl _ _
  · rw [if_neg hc2] at h
    refine xX_blk (w := xw_135) eT_135 3 13 (ls' := [.ref 141, .int v1, .int v2]) (st' := [.int v2, .ref 141, .int v1]) (σ' := σ) rfl ?_
    obtain ⟨r3, hr3, h⟩ := xbd_inv h
    refine xX_c1 (w := xw_135) (i := 16) (ls := [.ref 141, .int v1, .int v2]) (rest := [.int v1]) eT_135 rfl (by omega) rfl rfl rfl (T_X11_isOver v2 σ (by omega) hr3) ?_
    refine xX_ite (c := r3 = 0) (w := xw_135) (i := 17) (a := 22) (b := 18) (st' := [.int v1]) eT_135 rfl rfl (fun hc4 => ?_) (fun hc4 => ?_)
    · rw [if_pos hc4] at h
      refine xX_blk (w := xw_135) eT_135 4 22 (ls' := [.ref 141, .int (v1 ||| 0), .int (v2 + 1)]) (st' := []) (σ' := σ) rfl ?_
      refine xX_jmp (w := xw_135) (i := 26) (a := 6) (st' := []) eT_135 rfl rfl ?_
      obtain rfl := Option.some.inj h
      exact hB ((v1 ||| 0), (v2 + 1)) rfl
    · rw [if_neg hc4] at h
      refine xX_blk (w := xw_135) eT_135 3 18 (ls' := [.ref 141, .int v1, .int v2]) (st' := [.int ((1 : Int32) <<< (v2 &&& 31)), .int v1]) (σ' := σ) rfl ?_
      refine xX_jmp (w := xw_135) (i := 21) (a := 23) (st' := [.int ((1 : Int32) <<< (v2 &&& 31)), .int v1]) eT_135 rfl rfl ?_
      refine xX_blk (w := xw_135) eT_135 3 23 (ls' := [.ref 141, .int (v1 ||| ((1 : Int32) <<< (v2 &&& 31))), .int (v2 + 1)]) (st' := []) (σ' := σ) rfl ?_
      refine xX_jmp (w := xw_135) (i := 26) (a := 6) (st' := []) eT_135 rfl rfl ?_
      obtain rfl := Option.some.inj h
      exact hB ((v1 ||| ((1 : Int32) <<< (v2 &&& 31))), (v2 + 1)) rfl
set_option maxHeartbeats 1000000 in
set_option maxRecDepth 20000 in
theorem TL_X11_over_6 {d : Nat} {o : Option Value × xM} (v1 : Int32) (v2 : Int32) (σ : xM) {e : (Int32)} (hd : 4 ≤ d) (h : L_X11_over_6 v1 v2 σ = some e) (hE : ∀ (z0 z2 : Value), xX xT xLn d 135 27 [z0, .int e, z2] [] σ o) : xX xT xLn d 135 6 [.ref 141, .int v1, .int v2] [] σ o :=
  xloop_snd (X := fun s => xX xT xLn d 135 6 [.ref 141, .int s.1, .int s.2] [] σ o) (Y := fun e' => ∀ (z0 z2 : Value), xX xT xLn d 135 27 [z0, .int e', z2] [] σ o) (fun s q hs hB hE => TB_X11_over_6 s.1 s.2 σ hd hs hB hE) _ _ _ h hE
def F_X11_over (σ : xM) : Option (Int32 × xM) :=
  xbd (F_X11_laysCatches σ) fun r1 =>
  xbd (L_X11_over_6 0 0 r1) fun e5 =>
  some (e5, r1)
set_option maxHeartbeats 1000000 in
set_option maxRecDepth 20000 in
theorem T_X11_over (σ : xM) {d : Nat} {q : Int32 × xM} (hd : 4 ≤ d) (h : F_X11_over σ = some q) : xR xT xLn d 135 [.ref 141] σ (some (.int q.1), q.2) := by
  unfold F_X11_over at h
  show xX xT xLn d 135 0 [.ref 141, .null, .null] [] σ _
  refine xX_blk (w := xw_135) eT_135 3 0 (ls' := [.ref 141, .int 0, .null]) (st' := [.ref 141]) (σ' := σ) rfl ?_
  obtain ⟨r1, hr1, h⟩ := xbd_inv h
  refine xX_c0 (w := xw_135) (i := 3) (ls := [.ref 141, .int 0, .null]) (rest := []) eT_135 rfl (by omega) rfl rfl rfl (T_X11_laysCatches σ (by omega) hr1) ?_
  refine xX_blk (w := xw_135) eT_135 2 4 (ls' := [.ref 141, .int 0, .int 0]) (st' := []) (σ' := r1) rfl ?_
  obtain ⟨e5, he5, h⟩ := xbd_inv h
  refine TL_X11_over_6 0 0 r1 (by omega) he5 (fun z0 z2 => ?_)
  refine xX_blk (w := xw_135) eT_135 2 27 (ls' := [.null, .int e5, .null]) (st' := [.int e5]) (σ' := r1) rfl ?_
  obtain rfl := Option.some.inj h
  exact xX_ret (w := xw_135) (i := 29) eT_135 rfl rfl
def F_X11_overWithout (a : Int32) (σ : xM) : Option (Int32 × xM) :=
  xbd (F_X11_stateOf a σ) fun r1 =>
  xbd (F_X11_putsState a 2 σ) fun r2 =>
  xbd (F_X11_over r2) fun r3 =>
  xbd (F_X11_putsState a r1 r3.2) fun r4 =>
  xbd (F_X11_laysCatches r4) fun r5 =>
  some (r3.1, r5)
set_option maxHeartbeats 1000000 in
set_option maxRecDepth 20000 in
theorem T_X11_overWithout (a : Int32) (σ : xM) {d : Nat} {q : Int32 × xM} (hd : 5 ≤ d) (h : F_X11_overWithout a σ = some q) : xR xT xLn d 164 [.ref 141, .int a] σ (some (.int q.1), q.2) := by
  unfold F_X11_overWithout at h
  show xX xT xLn d 164 0 [.ref 141, .int a, .null, .null] [] σ _
  refine xX_blk (w := xw_164) eT_164 2 0 (ls' := [.ref 141, .int a, .null, .null]) (st' := [.int a, .ref 141]) (σ' := σ) rfl ?_
  obtain ⟨r1, hr1, h⟩ := xbd_inv h
  refine xX_c1 (w := xw_164) (i := 2) (ls := [.ref 141, .int a, .null, .null]) (rest := []) eT_164 rfl (by omega) rfl rfl rfl (T_X11_stateOf a σ (by omega) hr1) ?_
  refine xX_blk (w := xw_164) eT_164 4 3 (ls' := [.ref 141, .int a, .int r1, .null]) (st' := [.int 2, .int a, .ref 141]) (σ' := σ) rfl ?_
  obtain ⟨r2, hr2, h⟩ := xbd_inv h
  refine xX_c0 (w := xw_164) (i := 7) (ls := [.ref 141, .int a, .int r1, .null]) (rest := []) eT_164 rfl (by omega) rfl rfl rfl (T_X11_putsState a 2 σ (by omega) hr2) ?_
  refine xX_blk (w := xw_164) eT_164 1 8 (ls' := [.ref 141, .int a, .int r1, .null]) (st' := [.ref 141]) (σ' := r2) rfl ?_
  obtain ⟨r3, hr3, h⟩ := xbd_inv h
  refine xX_c1 (w := xw_164) (i := 9) (ls := [.ref 141, .int a, .int r1, .null]) (rest := []) eT_164 rfl (by omega) rfl rfl rfl (T_X11_over r2 (by omega) hr3) ?_
  refine xX_blk (w := xw_164) eT_164 4 10 (ls' := [.ref 141, .int a, .int r1, .int r3.1]) (st' := [.int r1, .int a, .ref 141]) (σ' := r3.2) rfl ?_
  obtain ⟨r4, hr4, h⟩ := xbd_inv h
  refine xX_c0 (w := xw_164) (i := 14) (ls := [.ref 141, .int a, .int r1, .int r3.1]) (rest := []) eT_164 rfl (by omega) rfl rfl rfl (T_X11_putsState a r1 r3.2 (by omega) hr4) ?_
  refine xX_blk (w := xw_164) eT_164 1 15 (ls' := [.ref 141, .int a, .int r1, .int r3.1]) (st' := [.ref 141]) (σ' := r4) rfl ?_
  obtain ⟨r5, hr5, h⟩ := xbd_inv h
  refine xX_c0 (w := xw_164) (i := 16) (ls := [.ref 141, .int a, .int r1, .int r3.1]) (rest := []) eT_164 rfl (by omega) rfl rfl rfl (T_X11_laysCatches r4 (by omega) hr5) ?_
  refine xX_blk (w := xw_164) eT_164 1 17 (ls' := [.ref 141, .int a, .int r1, .int r3.1]) (st' := [.int r3.1]) (σ' := r5) rfl ?_
  obtain rfl := Option.some.inj h
  exact xX_ret (w := xw_164) (i := 18) eT_164 rfl rfl
def F_X11_siteThen (a : Int32) (b : Int32) (σ : xM) : Option (Int32 × xM) :=
  xbd (F_X11_laysAll σ) fun r1 =>
  if b = 4 then
    xbd (F_X11_load a r1) fun r3 =>
    some (r3, r1)
  else if b = 5 then
    xbd (F_X11_isOver a r1) fun r5 =>
    if r5 = 0 then
      some (0, r1)
    else
      some (1, r1)
  else if b = 6 then
    xbd (F_X11_caught a r1) fun r8 =>
    some (r8, r1)
  else if b = 7 then
    xbd (F_X11_sessionsAt a r1) fun r10 =>
    some (r10, r1)
  else if b = 8 then
    xbd (F_X11_placeOf a r1) fun r12 =>
    some (r12, r1)
  else if b = 9 then
    xbd (F_X11_stateOf a r1) fun r14 =>
    if r14 = 2 then
      some (0, r1)
    else
      xbd (F_X11_overWithout a r1) fun r16 =>
      if r16.1 = 0 then
        some (1, r16.2)
      else
        some (0, r16.2)
  else 
  xbd (F_X11_ofSite a b r1) fun r18 =>
  some (r18, r1)
set_option maxHeartbeats 1000000 in
set_option maxRecDepth 20000 in
theorem T_X11_siteThen (a : Int32) (b : Int32) (σ : xM) {d : Nat} {q : Int32 × xM} (hd : 6 ≤ d) (h : F_X11_siteThen a b σ = some q) : xR xT xLn d 167 [.ref 141, .int a, .int b] σ (some (.int q.1), q.2) := by
  unfold F_X11_siteThen at h
  show xX xT xLn d 167 0 [.ref 141, .int a, .int b] [] σ _
  refine xX_blk (w := xw_167) eT_167 1 0 (ls' := [.ref 141, .int a, .int b]) (st' := [.ref 141]) (σ' := σ) rfl ?_
  obtain ⟨r1, hr1, h⟩ := xbd_inv h
  refine xX_c0 (w := xw_167) (i := 1) (ls := [.ref 141, .int a, .int b]) (rest := []) eT_167 rfl (by omega) rfl rfl rfl (T_X11_laysAll σ (by omega) hr1) ?_
  refine xX_blk (w := xw_167) eT_167 1 2 (ls' := [.ref 141, .int a, .int b]) (st' := [.int b]) (σ' := r1) rfl ?_
  by_cases hc2 : b = 4
  · rw [if_pos hc2] at h
    refine xX_jmp (w := xw_167) (i := 3) (a := 4) (st' := []) eT_167 rfl (e_tsw (by rw [hc2]; decide)) ?_
    refine xX_blk (w := xw_167) eT_167 2 4 (ls' := [.ref 141, .int a, .int b]) (st' := [.int a, .ref 141]) (σ' := r1) rfl ?_
    obtain ⟨r3, hr3, h⟩ := xbd_inv h
    refine xX_c1 (w := xw_167) (i := 6) (ls := [.ref 141, .int a, .int b]) (rest := []) eT_167 rfl (by omega) rfl rfl rfl (T_X11_load a r1 (by omega) hr3) ?_
    obtain rfl := Option.some.inj h
    exact xX_ret (w := xw_167) (i := 7) eT_167 rfl rfl
  rw [if_neg hc2] at h
  by_cases hc4 : b = 5
  · rw [if_pos hc4] at h
    refine xX_jmp (w := xw_167) (i := 3) (a := 8) (st' := []) eT_167 rfl (e_tsw (by rw [hc4]; decide)) ?_
    refine xX_blk (w := xw_167) eT_167 2 8 (ls' := [.ref 141, .int a, .int b]) (st' := [.int a, .ref 141]) (σ' := r1) rfl ?_
    obtain ⟨r5, hr5, h⟩ := xbd_inv h
    refine xX_c1 (w := xw_167) (i := 10) (ls := [.ref 141, .int a, .int b]) (rest := []) eT_167 rfl (by omega) rfl rfl rfl (T_X11_isOver a r1 (by omega) hr5) ?_
    refine xX_ite (c := r5 = 0) (w := xw_167) (i := 11) (a := 14) (b := 12) (st' := []) eT_167 rfl rfl (fun hc6 => ?_) (fun hc6 => ?_)
    · rw [if_pos hc6] at h
      refine xX_blk (w := xw_167) eT_167 1 14 (ls' := [.ref 141, .int a, .int b]) (st' := [.int 0]) (σ' := r1) rfl ?_
      obtain rfl := Option.some.inj h
      exact xX_ret (w := xw_167) (i := 15) eT_167 rfl rfl
    · rw [if_neg hc6] at h
      refine xX_blk (w := xw_167) eT_167 1 12 (ls' := [.ref 141, .int a, .int b]) (st' := [.int 1]) (σ' := r1) rfl ?_
      refine xX_jmp (w := xw_167) (i := 13) (a := 15) (st' := [.int 1]) eT_167 rfl rfl ?_
      obtain rfl := Option.some.inj h
      exact xX_ret (w := xw_167) (i := 15) eT_167 rfl rfl
  rw [if_neg hc4] at h
  by_cases hc7 : b = 6
  · rw [if_pos hc7] at h
    refine xX_jmp (w := xw_167) (i := 3) (a := 16) (st' := []) eT_167 rfl (e_tsw (by rw [hc7]; decide)) ?_
    refine xX_blk (w := xw_167) eT_167 2 16 (ls' := [.ref 141, .int a, .int b]) (st' := [.int a, .ref 141]) (σ' := r1) rfl ?_
    obtain ⟨r8, hr8, h⟩ := xbd_inv h
    refine xX_c1 (w := xw_167) (i := 18) (ls := [.ref 141, .int a, .int b]) (rest := []) eT_167 rfl (by omega) rfl rfl rfl (T_X11_caught a r1 (by omega) hr8) ?_
    obtain rfl := Option.some.inj h
    exact xX_ret (w := xw_167) (i := 19) eT_167 rfl rfl
  rw [if_neg hc7] at h
  by_cases hc9 : b = 7
  · rw [if_pos hc9] at h
    refine xX_jmp (w := xw_167) (i := 3) (a := 20) (st' := []) eT_167 rfl (e_tsw (by rw [hc9]; decide)) ?_
    refine xX_blk (w := xw_167) eT_167 2 20 (ls' := [.ref 141, .int a, .int b]) (st' := [.int a, .ref 141]) (σ' := r1) rfl ?_
    obtain ⟨r10, hr10, h⟩ := xbd_inv h
    refine xX_c1 (w := xw_167) (i := 22) (ls := [.ref 141, .int a, .int b]) (rest := []) eT_167 rfl (by omega) rfl rfl rfl (T_X11_sessionsAt a r1 (by omega) hr10) ?_
    obtain rfl := Option.some.inj h
    exact xX_ret (w := xw_167) (i := 23) eT_167 rfl rfl
  rw [if_neg hc9] at h
  by_cases hc11 : b = 8
  · rw [if_pos hc11] at h
    refine xX_jmp (w := xw_167) (i := 3) (a := 24) (st' := []) eT_167 rfl (e_tsw (by rw [hc11]; decide)) ?_
    refine xX_blk (w := xw_167) eT_167 2 24 (ls' := [.ref 141, .int a, .int b]) (st' := [.int a, .ref 141]) (σ' := r1) rfl ?_
    obtain ⟨r12, hr12, h⟩ := xbd_inv h
    refine xX_c1 (w := xw_167) (i := 26) (ls := [.ref 141, .int a, .int b]) (rest := []) eT_167 rfl (by omega) rfl rfl rfl (T_X11_placeOf a r1 (by omega) hr12) ?_
    obtain rfl := Option.some.inj h
    exact xX_ret (w := xw_167) (i := 27) eT_167 rfl rfl
  rw [if_neg hc11] at h
  by_cases hc13 : b = 9
  · rw [if_pos hc13] at h
    refine xX_jmp (w := xw_167) (i := 3) (a := 28) (st' := []) eT_167 rfl (e_tsw (by rw [hc13]; decide)) ?_
    refine xX_blk (w := xw_167) eT_167 2 28 (ls' := [.ref 141, .int a, .int b]) (st' := [.int a, .ref 141]) (σ' := r1) rfl ?_
    obtain ⟨r14, hr14, h⟩ := xbd_inv h
    refine xX_c1 (w := xw_167) (i := 30) (ls := [.ref 141, .int a, .int b]) (rest := []) eT_167 rfl (by omega) rfl rfl rfl (T_X11_stateOf a r1 (by omega) hr14) ?_
    refine xX_blk (w := xw_167) eT_167 1 31 (ls' := [.ref 141, .int a, .int b]) (st' := [.int 2, .int r14]) (σ' := r1) rfl ?_
    refine xX_ite (c := r14 = 2) (w := xw_167) (i := 32) (a := 39) (b := 33) (st' := []) eT_167 rfl rfl (fun hc15 => ?_) (fun hc15 => ?_)
    · rw [if_pos hc15] at h
      refine xX_blk (w := xw_167) eT_167 1 39 (ls' := [.ref 141, .int a, .int b]) (st' := [.int 0]) (σ' := r1) rfl ?_
      obtain rfl := Option.some.inj h
      exact xX_ret (w := xw_167) (i := 40) eT_167 rfl rfl
    · rw [if_neg hc15] at h
      refine xX_blk (w := xw_167) eT_167 2 33 (ls' := [.ref 141, .int a, .int b]) (st' := [.int a, .ref 141]) (σ' := r1) rfl ?_
      obtain ⟨r16, hr16, h⟩ := xbd_inv h
      refine xX_c1 (w := xw_167) (i := 35) (ls := [.ref 141, .int a, .int b]) (rest := []) eT_167 rfl (by omega) rfl rfl rfl (T_X11_overWithout a r1 (by omega) hr16) ?_
      refine xX_ite (c := r16.1 = 0) (w := xw_167) (i := 36) (a := 37) (b := 39) (st' := []) eT_167 rfl rfl (fun hc17 => ?_) (fun hc17 => ?_)
      · rw [if_pos hc17] at h
        refine xX_blk (w := xw_167) eT_167 1 37 (ls' := [.ref 141, .int a, .int b]) (st' := [.int 1]) (σ' := r16.2) rfl ?_
        refine xX_jmp (w := xw_167) (i := 38) (a := 40) (st' := [.int 1]) eT_167 rfl rfl ?_
        obtain rfl := Option.some.inj h
        exact xX_ret (w := xw_167) (i := 40) eT_167 rfl rfl
      · rw [if_neg hc17] at h
        refine xX_blk (w := xw_167) eT_167 1 39 (ls' := [.ref 141, .int a, .int b]) (st' := [.int 0]) (σ' := r16.2) rfl ?_
        obtain rfl := Option.some.inj h
        exact xX_ret (w := xw_167) (i := 40) eT_167 rfl rfl
  rw [if_neg hc13] at h
  refine xX_jmp (w := xw_167) (i := 3) (a := 41) (st' := []) eT_167 rfl (e_tsw (e_tswd [4, 5, 6, 7, 8, 9] (by decide) (List.forall_mem_cons.mpr ⟨hc2, List.forall_mem_cons.mpr ⟨hc4, List.forall_mem_cons.mpr ⟨hc7, List.forall_mem_cons.mpr ⟨hc9, List.forall_mem_cons.mpr ⟨hc11, List.forall_mem_cons.mpr ⟨hc13, fun _ h => absurd h List.not_mem_nil⟩⟩⟩⟩⟩⟩))) ?_
  refine xX_blk (w := xw_167) eT_167 3 41 (ls' := [.ref 141, .int a, .int b]) (st' := [.int b, .int a, .ref 141]) (σ' := r1) rfl ?_
  obtain ⟨r18, hr18, h⟩ := xbd_inv h
  refine xX_c1 (w := xw_167) (i := 44) (ls := [.ref 141, .int a, .int b]) (rest := []) eT_167 rfl (by omega) rfl rfl rfl (T_X11_ofSite a b r1 (by omega) hr18) ?_
  obtain rfl := Option.some.inj h
  exact xX_ret (w := xw_167) (i := 45) eT_167 rfl rfl
def F_X11_siteOf (a : Int32) (b : Int32) (σ : xM) : Option (Int32 × xM) :=
  xbd (F_X11_isSite a σ) fun r1 =>
  if r1 = 0 then
    xbd (F_X11_refuses (-2) σ) fun r3 =>
    some (r3.1, r3.2)
  else
    xbd (F_X11_in ((b : Int32).toInt64) 0 9 σ) fun r4 =>
    if r4 = 0 then
      xbd (F_X11_refuses (-2) σ) fun r6 =>
      some (r6.1, r6.2)
    else
      xbd (F_X11_siteThen a b σ) fun r7 =>
      some (r7.1, r7.2)
set_option maxHeartbeats 1000000 in
set_option maxRecDepth 20000 in
theorem T_X11_siteOf (a : Int32) (b : Int32) (σ : xM) {d : Nat} {q : Int32 × xM} (hd : 7 ≤ d) (h : F_X11_siteOf a b σ = some q) : xR xT xLn d 168 [.ref 141, .int a, .int b] σ (some (.int q.1), q.2) := by
  unfold F_X11_siteOf at h
  show xX xT xLn d 168 0 [.ref 141, .int a, .int b] [] σ _
  refine xX_blk (w := xw_168) eT_168 2 0 (ls' := [.ref 141, .int a, .int b]) (st' := [.int a, .ref 141]) (σ' := σ) rfl ?_
  obtain ⟨r1, hr1, h⟩ := xbd_inv h
  refine xX_c1 (w := xw_168) (i := 2) (ls := [.ref 141, .int a, .int b]) (rest := []) eT_168 rfl (by omega) rfl rfl rfl (T_X11_isSite a σ (by omega) hr1) ?_
  refine xX_ite (c := r1 = 0) (w := xw_168) (i := 3) (a := 15) (b := 4) (st' := []) eT_168 rfl rfl (fun hc2 => ?_) (fun hc2 => ?_)
  · rw [if_pos hc2] at h
    refine xX_blk (w := xw_168) eT_168 2 15 (ls' := [.ref 141, .int a, .int b]) (st' := [.int (-2), .ref 141]) (σ' := σ) rfl ?_
    obtain ⟨r3, hr3, h⟩ := xbd_inv h
    refine xX_c1 (w := xw_168) (i := 17) (ls := [.ref 141, .int a, .int b]) (rest := []) eT_168 rfl (by omega) rfl rfl rfl (T_X11_refuses (-2) σ (by omega) hr3) ?_
    obtain rfl := Option.some.inj h
    exact xX_ret (w := xw_168) (i := 18) eT_168 rfl rfl
  · rw [if_neg hc2] at h
    refine xX_blk (w := xw_168) eT_168 4 4 (ls' := [.ref 141, .int a, .int b]) (st' := [.long 9, .long 0, .long ((b : Int32).toInt64)]) (σ' := σ) rfl ?_
    obtain ⟨r4, hr4, h⟩ := xbd_inv h
    refine xX_c1 (w := xw_168) (i := 8) (ls := [.ref 141, .int a, .int b]) (rest := []) eT_168 rfl (by omega) rfl rfl rfl (T_X11_in ((b : Int32).toInt64) 0 9 σ (by omega) hr4) ?_
    refine xX_ite (c := r4 = 0) (w := xw_168) (i := 9) (a := 15) (b := 10) (st' := []) eT_168 rfl rfl (fun hc5 => ?_) (fun hc5 => ?_)
    · rw [if_pos hc5] at h
      refine xX_blk (w := xw_168) eT_168 2 15 (ls' := [.ref 141, .int a, .int b]) (st' := [.int (-2), .ref 141]) (σ' := σ) rfl ?_
      obtain ⟨r6, hr6, h⟩ := xbd_inv h
      refine xX_c1 (w := xw_168) (i := 17) (ls := [.ref 141, .int a, .int b]) (rest := []) eT_168 rfl (by omega) rfl rfl rfl (T_X11_refuses (-2) σ (by omega) hr6) ?_
      obtain rfl := Option.some.inj h
      exact xX_ret (w := xw_168) (i := 18) eT_168 rfl rfl
    · rw [if_neg hc5] at h
      refine xX_blk (w := xw_168) eT_168 3 10 (ls' := [.ref 141, .int a, .int b]) (st' := [.int b, .int a, .ref 141]) (σ' := σ) rfl ?_
      obtain ⟨r7, hr7, h⟩ := xbd_inv h
      refine xX_c1 (w := xw_168) (i := 13) (ls := [.ref 141, .int a, .int b]) (rest := []) eT_168 rfl (by omega) rfl rfl rfl (T_X11_siteThen a b σ (by omega) hr7) ?_
      refine xX_jmp (w := xw_168) (i := 14) (a := 18) (st' := [.int r7.1]) eT_168 rfl rfl ?_
      obtain rfl := Option.some.inj h
      exact xX_ret (w := xw_168) (i := 18) eT_168 rfl rfl
