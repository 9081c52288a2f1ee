def F_X11_seems (a : Int32) (b : Int32) (σ : xM) : Option (Int32 × xM) :=
  xbd (F_X11_isArea a σ) fun r1 =>
  if r1 = 0 then
    xbd (F_X11_refuses (-2) σ) fun r3 =>
    some (r3.1, r3.2)
  else
    xbd (F_X11_isSite b σ) fun r4 =>
    if r4 = 0 then
      xbd (F_X11_refuses (-2) σ) fun r6 =>
      some (r6.1, r6.2)
    else
      xbd (F_X11_laysWays σ) fun r7 =>
      xbd (F_X11_seemsThen a b r7) fun r8 =>
      some (r8, r7)
set_option maxHeartbeats 1000000 in
set_option maxRecDepth 20000 in
theorem T_X11_seems (a : Int32) (b : Int32) (σ : xM) {d : Nat} {q : Int32 × xM} (hd : 2 ≤ d) (h : F_X11_seems a b σ = some q) : xR xT xLn d 169 [.ref 141, .int a, .int b] σ (some (.int q.1), q.2) := by
  unfold F_X11_seems at h
  show xX xT xLn d 169 0 [.ref 141, .int a, .int b] [] σ _
  refine xX_blk (w := xw_169) eT_169 2 0 (ls' := [.ref 141, .int a, .int b]) (st' := [.int a, .ref 141]) (σ' := σ) rfl ?_
  obtain ⟨r1, hr1, h⟩ := xbd_inv h
  refine xX_c1 (w := xw_169) (i := 2) (ls := [.ref 141, .int a, .int b]) (rest := []) eT_169 rfl (by omega) rfl rfl rfl (T_X11_isArea a σ (by omega) hr1) ?_
  refine xX_ite (c := r1 = 0) (w := xw_169) (i := 3) (a := 8) (b := 4) (st' := []) eT_169 rfl rfl (fun hc2 => ?_) (fun hc2 => ?_)
  · rw [if_pos hc2] at h
    refine xX_blk (w := xw_169) eT_169 2 8 (ls' := [.ref 141, .int a, .int b]) (st' := [.int (-2), .ref 141]) (σ' := σ) rfl ?_
    obtain ⟨r3, hr3, h⟩ := xbd_inv h
    refine xX_c1 (w := xw_169) (i := 10) (ls := [.ref 141, .int a, .int b]) (rest := []) eT_169 rfl (by omega) rfl rfl rfl (T_X11_refuses (-2) σ (by omega) hr3) ?_
    obtain rfl := Option.some.inj h
    exact xX_ret (w := xw_169) (i := 11) eT_169 rfl rfl
  · rw [if_neg hc2] at h
    refine xX_blk (w := xw_169) eT_169 2 4 (ls' := [.ref 141, .int a, .int b]) (st' := [.int b, .ref 141]) (σ' := σ) rfl ?_
    obtain ⟨r4, hr4, h⟩ := xbd_inv h
    refine xX_c1 (w := xw_169) (i := 6) (ls := [.ref 141, .int a, .int b]) (rest := []) eT_169 rfl (by omega) rfl rfl rfl (T_X11_isSite b σ (by omega) hr4) ?_
    refine xX_ite (c := r4 = 0) (w := xw_169) (i := 7) (a := 8) (b := 12) (st' := []) eT_169 rfl rfl (fun hc5 => ?_) (fun hc5 => ?_)
    · rw [if_pos hc5] at h
      refine xX_blk (w := xw_169) eT_169 2 8 (ls' := [.ref 141, .int a, .int b]) (st' := [.int (-2), .ref 141]) (σ' := σ) rfl ?_
      obtain ⟨r6, hr6, h⟩ := xbd_inv h
      refine xX_c1 (w := xw_169) (i := 10) (ls := [.ref 141, .int a, .int b]) (rest := []) eT_169 rfl (by omega) rfl rfl rfl (T_X11_refuses (-2) σ (by omega) hr6) ?_
      obtain rfl := Option.some.inj h
      exact xX_ret (w := xw_169) (i := 11) eT_169 rfl rfl
    · rw [if_neg hc5] at h
      refine xX_blk (w := xw_169) eT_169 1 12 (ls' := [.ref 141, .int a, .int b]) (st' := [.ref 141]) (σ' := σ) rfl ?_
      obtain ⟨r7, hr7, h⟩ := xbd_inv h
      refine xX_c0 (w := xw_169) (i := 13) (ls := [.ref 141, .int a, .int b]) (rest := []) eT_169 rfl (by omega) rfl rfl rfl (T_X11_laysWays σ (by omega) hr7) ?_
      refine xX_blk (w := xw_169) eT_169 3 14 (ls' := [.ref 141, .int a, .int b]) (st' := [.int b, .int a, .ref 141]) (σ' := r7) rfl ?_
      obtain ⟨r8, hr8, h⟩ := xbd_inv h
      refine xX_c1 (w := xw_169) (i := 17) (ls := [.ref 141, .int a, .int b]) (rest := []) eT_169 rfl (by omega) rfl rfl rfl (T_X11_seemsThen a b r7 (by omega) hr8) ?_
      obtain rfl := Option.some.inj h
      exact xX_ret (w := xw_169) (i := 18) eT_169 rfl rfl
def F_X11_canOpen (a : Int32) (b : Int32) (c : Int32) (σ : xM) : Option (Int32 × xM) :=
  xbd (F_X11_isArea a σ) fun r1 =>
  if r1 = 0 then
    some ((-2), σ)
  else
    xbd (F_X11_in ((b : Int32).toInt64) 1 9 σ) fun r3 =>
    if r3 = 0 then
      some ((-2), σ)
    else
      xbd (F_X11_in ((c : Int32).toInt64) 1 30 σ) fun r5 =>
      if r5 = 0 then
        some ((-2), σ)
      else
        xbd (F_X11_laysWays σ) fun r7 =>
        xbd (F_X11_catchOf a r7) fun r8 =>
        if r8 = (-1) then
          some ((-3), r7)
        else
          if (r7 142 2) = 12 then
            some ((-4), r7)
          else
            some (0, r7)
set_option maxHeartbeats 1000000 in
set_option maxRecDepth 20000 in
theorem T_X11_canOpen (a : Int32) (b : Int32) (c : Int32) (σ : xM) {d : Nat} {q : Int32 × xM} (hd : 3 ≤ d) (h : F_X11_canOpen a b c σ = some q) : xR xT xLn d 170 [.ref 141, .int a, .int b, .int c] σ (some (.int q.1), q.2) := by
  unfold F_X11_canOpen at h
  show xX xT xLn d 170 0 [.ref 141, .int a, .int b, .int c] [] σ _
  refine xX_blk (w := xw_170) eT_170 2 0 (ls' := [.ref 141, .int a, .int b, .int c]) (st' := [.int a, .ref 141]) (σ' := σ) rfl ?_
  obtain ⟨r1, hr1, h⟩ := xbd_inv h
  refine xX_c1 (w := xw_170) (i := 2) (ls := [.ref 141, .int a, .int b, .int c]) (rest := []) eT_170 rfl (by omega) rfl rfl rfl (T_X11_isArea a σ (by omega) hr1) ?_
  refine xX_ite (c := r1 = 0) (w := xw_170) (i := 3) (a := 16) (b := 4) (st' := []) eT_170 rfl rfl (fun hc2 => ?_) (fun hc2 => ?_)
  · rw [if_pos hc2] at h
    refine xX_blk (w := xw_170) eT_170 1 16 (ls' := [.ref 141, .int a, .int b, .int c]) (st' := [.int (-2)]) (σ' := σ) rfl ?_
    obtain rfl := Option.some.inj h
    exact xX_ret (w := xw_170) (i := 17) eT_170 rfl rfl
  · rw [if_neg hc2] at h
    refine xX_blk (w := xw_170) eT_170 4 4 (ls' := [.ref 141, .int a, .int b, .int c]) (st' := [.long 9, .long 1, .long ((b : Int32).toInt64)]) (σ' := σ) rfl ?_
    obtain ⟨r3, hr3, h⟩ := xbd_inv h
    refine xX_c1 (w := xw_170) (i := 8) (ls := [.ref 141, .int a, .int b, .int c]) (rest := []) eT_170 rfl (by omega) rfl rfl rfl (T_X11_in ((b : Int32).toInt64) 1 9 σ (by omega) hr3) ?_
    refine xX_ite (c := r3 = 0) (w := xw_170) (i := 9) (a := 16) (b := 10) (st' := []) eT_170 rfl rfl (fun hc4 => ?_) (fun hc4 => ?_)
    · rw [if_pos hc4] at h
      refine xX_blk (w := xw_170) eT_170 1 16 (ls' := [.ref 141, .int a, .int b, .int c]) (st' := [.int (-2)]) (σ' := σ) rfl ?_
      obtain rfl := Option.some.inj h
      exact xX_ret (w := xw_170) (i := 17) eT_170 rfl rfl
    · rw [if_neg hc4] at h
      refine xX_blk (w := xw_170) eT_170 4 10 (ls' := [.ref 141, .int a, .int b, .int c]) (st' := [.long 30, .long 1, .long ((c : Int32).toInt64)]) (σ' := σ) rfl ?_
      obtain ⟨r5, hr5, h⟩ := xbd_inv h
      refine xX_c1 (w := xw_170) (i := 14) (ls := [.ref 141, .int a, .int b, .int c]) (rest := []) eT_170 rfl (by omega) rfl rfl rfl (T_X11_in ((c : Int32).toInt64) 1 30 σ (by omega) hr5) ?_
      refine xX_ite (c := r5 = 0) (w := xw_170) (i := 15) (a := 16) (b := 18) (st' := []) eT_170 rfl rfl (fun hc6 => ?_) (fun hc6 => ?_)
      · rw [if_pos hc6] at h
        refine xX_blk (w := xw_170) eT_170 1 16 (ls' := [.ref 141, .int a, .int b, .int c]) (st' := [.int (-2)]) (σ' := σ) rfl ?_
        obtain rfl := Option.some.inj h
        exact xX_ret (w := xw_170) (i := 17) eT_170 rfl rfl
      · rw [if_neg hc6] at h
        refine xX_blk (w := xw_170) eT_170 1 18 (ls' := [.ref 141, .int a, .int b, .int c]) (st' := [.ref 141]) (σ' := σ) rfl ?_
        obtain ⟨r7, hr7, h⟩ := xbd_inv h
        refine xX_c0 (w := xw_170) (i := 19) (ls := [.ref 141, .int a, .int b, .int c]) (rest := []) eT_170 rfl (by omega) rfl rfl rfl (T_X11_laysWays σ (by omega) hr7) ?_
        refine xX_blk (w := xw_170) eT_170 2 20 (ls' := [.ref 141, .int a, .int b, .int c]) (st' := [.int a, .ref 141]) (σ' := r7) rfl ?_
        obtain ⟨r8, hr8, h⟩ := xbd_inv h
        refine xX_c1 (w := xw_170) (i := 22) (ls := [.ref 141, .int a, .int b, .int c]) (rest := []) eT_170 rfl (by omega) rfl rfl rfl (T_X11_catchOf a r7 (by omega) hr8) ?_
        refine xX_blk (w := xw_170) eT_170 1 23 (ls' := [.ref 141, .int a, .int b, .int c]) (st' := [.int (-1), .int r8]) (σ' := r7) rfl ?_
        refine xX_ite (c := r8 = (-1)) (w := xw_170) (i := 24) (a := 25) (b := 27) (st' := []) eT_170 rfl rfl (fun hc9 => ?_) (fun hc9 => ?_)
        · rw [if_pos hc9] at h
          refine xX_blk (w := xw_170) eT_170 1 25 (ls' := [.ref 141, .int a, .int b, .int c]) (st' := [.int (-3)]) (σ' := r7) rfl ?_
          refine xX_jmp (w := xw_170) (i := 26) (a := 36) (st' := [.int (-3)]) eT_170 rfl rfl ?_
          obtain rfl := Option.some.inj h
          exact xX_ret (w := xw_170) (i := 36) eT_170 rfl rfl
        · rw [if_neg hc9] at h
          refine xX_blk (w := xw_170) eT_170 3 27 (ls' := [.ref 141, .int a, .int b, .int c]) (st' := [.int 2, .ref 142]) (σ' := r7) rfl ?_
          refine xX_one (w := xw_170) (i := 30) (ls' := [.ref 141, .int a, .int b, .int c]) (st' := [.int (r7 142 2)]) (σ' := r7) eT_170 rfl (e_ialK xs_142 (by decide) (by decide)) ?_
          refine xX_blk (w := xw_170) eT_170 1 31 (ls' := [.ref 141, .int a, .int b, .int c]) (st' := [.int 12, .int (r7 142 2)]) (σ' := r7) rfl ?_
          refine xX_ite (c := (r7 142 2) = 12) (w := xw_170) (i := 32) (a := 33) (b := 35) (st' := []) eT_170 rfl rfl (fun hc10 => ?_) (fun hc10 => ?_)
          · rw [if_pos hc10] at h
            refine xX_blk (w := xw_170) eT_170 1 33 (ls' := [.ref 141, .int a, .int b, .int c]) (st' := [.int (-4)]) (σ' := r7) rfl ?_
            refine xX_jmp (w := xw_170) (i := 34) (a := 36) (st' := [.int (-4)]) eT_170 rfl rfl ?_
            obtain rfl := Option.some.inj h
            exact xX_ret (w := xw_170) (i := 36) eT_170 rfl rfl
          · rw [if_neg hc10] at h
            refine xX_blk (w := xw_170) eT_170 1 35 (ls' := [.ref 141, .int a, .int b, .int c]) (st' := [.int 0]) (σ' := r7) rfl ?_
            obtain rfl := Option.some.inj h
            exact xX_ret (w := xw_170) (i := 36) eT_170 rfl rfl
def F_X11_openNow (a : Int32) (b : Int32) (c : Int32) (σ : xM) : Option (Int32 × xM) :=
  xbd (F_X11_laysWays σ) fun r1 =>
  xgd (xin ((121 : Int32) + ((4 : Int32) * (σ 142 2))) 169) (
  xlet (xup r1 142 ((121 : Int32) + ((4 : Int32) * (σ 142 2))).toNatClampNeg a) fun σ3 =>
  xbd (F_X11_catchOf a σ3) fun r4 =>
  xgd (xin (((121 : Int32) + ((4 : Int32) * (σ 142 2))) + 1) 169) (
  xlet (xup σ3 142 (((121 : Int32) + ((4 : Int32) * (σ 142 2))) + 1).toNatClampNeg r4) fun σ6 =>
  xgd (xin (((121 : Int32) + ((4 : Int32) * (σ 142 2))) + 2) 169) (
  xlet (xup σ6 142 (((121 : Int32) + ((4 : Int32) * (σ 142 2))) + 2).toNatClampNeg b) fun σ8 =>
  xgd (xin (((121 : Int32) + ((4 : Int32) * (σ 142 2))) + 3) 169) (
  xlet (xup σ8 142 (((121 : Int32) + ((4 : Int32) * (σ 142 2))) + 3).toNatClampNeg c) fun σ10 =>
  xlet (xup σ10 142 2 ((σ10 142 2) + 1)) fun σ11 =>
  some ((σ11 142 2), σ11)))))
set_option maxHeartbeats 1000000 in
set_option maxRecDepth 20000 in
theorem T_X11_openNow (a : Int32) (b : Int32) (c : Int32) (σ : xM) {d : Nat} {q : Int32 × xM} (hd : 3 ≤ d) (h : F_X11_openNow a b c σ = some q) : xR xT xLn d 171 [.ref 141, .int a, .int b, .int c] σ (some (.int q.1), q.2) := by
  unfold F_X11_openNow at h
  show xX xT xLn d 171 0 [.ref 141, .int a, .int b, .int c, .null] [] σ _
  refine xX_blk (w := xw_171) eT_171 5 0 (ls' := [.ref 141, .int a, .int b, .int c, .null]) (st' := [.int 2, .ref 142, .int 4, .int 121]) (σ' := σ) rfl ?_
  refine xX_one (w := xw_171) (i := 5) (ls' := [.ref 141, .int a, .int b, .int c, .null]) (st' := [.int (σ 142 2), .int 4, .int 121]) (σ' := σ) eT_171 rfl (e_ialK xs_142 (by decide) (by decide)) ?_
  refine xX_blk (w := xw_171) eT_171 4 6 (ls' := [.ref 141, .int a, .int b, .int c, .int ((121 : Int32) + ((4 : Int32) * (σ 142 2)))]) (st' := [.ref 141]) (σ' := σ) rfl ?_
  obtain ⟨r1, hr1, h⟩ := xbd_inv h
  refine xX_c0 (w := xw_171) (i := 10) (ls := [.ref 141, .int a, .int b, .int c, .int ((121 : Int32) + ((4 : Int32) * (σ 142 2)))]) (rest := []) eT_171 rfl (by omega) rfl rfl rfl (T_X11_laysWays σ (by omega) hr1) ?_
  refine xX_blk (w := xw_171) eT_171 4 11 (ls' := [.ref 141, .int a, .int b, .int c, .int ((121 : Int32) + ((4 : Int32) * (σ 142 2)))]) (st' := [.int a, .int ((121 : Int32) + ((4 : Int32) * (σ 142 2))), .ref 142]) (σ' := r1) rfl ?_
  obtain ⟨hi2, h⟩ := xgd_inv h
  refine xX_one (w := xw_171) (i := 15) (ls' := [.ref 141, .int a, .int b, .int c, .int ((121 : Int32) + ((4 : Int32) * (σ 142 2)))]) (st' := []) (σ' := xup r1 142 ((121 : Int32) + ((4 : Int32) * (σ 142 2))).toNatClampNeg a) eT_171 rfl (e_iast xs_142 hi2) ?_
  obtain ⟨σ3, eσ3, h⟩ := xlet_inv h
  rw [← eσ3]
  refine xX_blk (w := xw_171) eT_171 7 16 (ls' := [.ref 141, .int a, .int b, .int c, .int ((121 : Int32) + ((4 : Int32) * (σ 142 2)))]) (st' := [.int a, .ref 141, .int (((121 : Int32) + ((4 : Int32) * (σ 142 2))) + 1), .ref 142]) (σ' := σ3) rfl ?_
  obtain ⟨r4, hr4, h⟩ := xbd_inv h
  refine xX_c1 (w := xw_171) (i := 23) (ls := [.ref 141, .int a, .int b, .int c, .int ((121 : Int32) + ((4 : Int32) * (σ 142 2)))]) (rest := [.int (((121 : Int32) + ((4 : Int32) * (σ 142 2))) + 1), .ref 142]) eT_171 rfl (by omega) rfl rfl rfl (T_X11_catchOf a σ3 (by omega) hr4) ?_
  obtain ⟨hi5, h⟩ := xgd_inv h
  refine xX_one (w := xw_171) (i := 24) (ls' := [.ref 141, .int a, .int b, .int c, .int ((121 : Int32) + ((4 : Int32) * (σ 142 2)))]) (st' := []) (σ' := xup σ3 142 (((121 : Int32) + ((4 : Int32) * (σ 142 2))) + 1).toNatClampNeg r4) eT_171 rfl (e_iast xs_142 hi5) ?_
  obtain ⟨σ6, eσ6, h⟩ := xlet_inv h
  rw [← eσ6]
  refine xX_blk (w := xw_171) eT_171 6 25 (ls' := [.ref 141, .int a, .int b, .int c, .int ((121 : Int32) + ((4 : Int32) * (σ 142 2)))]) (st' := [.int b, .int (((121 : Int32) + ((4 : Int32) * (σ 142 2))) + 2), .ref 142]) (σ' := σ6) rfl ?_
  obtain ⟨hi7, h⟩ := xgd_inv h
  refine xX_one (w := xw_171) (i := 31) (ls' := [.ref 141, .int a, .int b, .int c, .int ((121 : Int32) + ((4 : Int32) * (σ 142 2)))]) (st' := []) (σ' := xup σ6 142 (((121 : Int32) + ((4 : Int32) * (σ 142 2))) + 2).toNatClampNeg b) eT_171 rfl (e_iast xs_142 hi7) ?_
  obtain ⟨σ8, eσ8, h⟩ := xlet_inv h
  rw [← eσ8]
  refine xX_blk (w := xw_171) eT_171 6 32 (ls' := [.ref 141, .int a, .int b, .int c, .int ((121 : Int32) + ((4 : Int32) * (σ 142 2)))]) (st' := [.int c, .int (((121 : Int32) + ((4 : Int32) * (σ 142 2))) + 3), .ref 142]) (σ' := σ8) rfl ?_
  obtain ⟨hi9, h⟩ := xgd_inv h
  refine xX_one (w := xw_171) (i := 38) (ls' := [.ref 141, .int a, .int b, .int c, .int ((121 : Int32) + ((4 : Int32) * (σ 142 2)))]) (st' := []) (σ' := xup σ8 142 (((121 : Int32) + ((4 : Int32) * (σ 142 2))) + 3).toNatClampNeg c) eT_171 rfl (e_iast xs_142 hi9) ?_
  obtain ⟨σ10, eσ10, h⟩ := xlet_inv h
  rw [← eσ10]
  refine xX_blk (w := xw_171) eT_171 4 39 (ls' := [.ref 141, .int a, .int b, .int c, .int ((121 : Int32) + ((4 : Int32) * (σ 142 2)))]) (st' := [.int 2, .ref 142, .int 2, .ref 142]) (σ' := σ10) rfl ?_
  refine xX_one (w := xw_171) (i := 43) (ls' := [.ref 141, .int a, .int b, .int c, .int ((121 : Int32) + ((4 : Int32) * (σ 142 2)))]) (st' := [.int (σ10 142 2), .int 2, .ref 142]) (σ' := σ10) eT_171 rfl (e_ialK xs_142 (by decide) (by decide)) ?_
  refine xX_blk (w := xw_171) eT_171 2 44 (ls' := [.ref 141, .int a, .int b, .int c, .int ((121 : Int32) + ((4 : Int32) * (σ 142 2)))]) (st' := [.int ((σ10 142 2) + 1), .int 2, .ref 142]) (σ' := σ10) rfl ?_
  refine xX_one (w := xw_171) (i := 46) (ls' := [.ref 141, .int a, .int b, .int c, .int ((121 : Int32) + ((4 : Int32) * (σ 142 2)))]) (st' := []) (σ' := xup σ10 142 2 ((σ10 142 2) + 1)) eT_171 rfl (e_iasK xs_142 (by decide) (by decide)) ?_
  obtain ⟨σ11, eσ11, h⟩ := xlet_inv h
  rw [← eσ11]
  refine xX_blk (w := xw_171) eT_171 3 47 (ls' := [.ref 141, .int a, .int b, .int c, .int ((121 : Int32) + ((4 : Int32) * (σ 142 2)))]) (st' := [.int 2, .ref 142]) (σ' := σ11) rfl ?_
  refine xX_one (w := xw_171) (i := 50) (ls' := [.ref 141, .int a, .int b, .int c, .int ((121 : Int32) + ((4 : Int32) * (σ 142 2)))]) (st' := [.int (σ11 142 2)]) (σ' := σ11) eT_171 rfl (e_ialK xs_142 (by decide) (by decide)) ?_
  obtain rfl := Option.some.inj h
  exact xX_ret (w := xw_171) (i := 51) eT_171 rfl rfl
def F_X11_opens (a : Int32) (b : Int32) (c : Int32) (σ : xM) : Option (Int32 × xM) :=
  xbd (F_X11_canOpen a b c σ) fun r1 =>
  if 0 ≤ r1.1 then
    xbd (F_X11_keep r1.2) fun r3 =>
    xbd (F_X11_openNow a b c r3) fun r4 =>
    some (r4.1, r4.2)
  else
    xbd (F_X11_refuses r1.1 r1.2) fun r5 =>
    some (r5.1, r5.2)
set_option maxHeartbeats 1000000 in
set_option maxRecDepth 20000 in
theorem T_X11_opens (a : Int32) (b : Int32) (c : Int32) (σ : xM) {d : Nat} {q : Int32 × xM} (hd : 4 ≤ d) (h : F_X11_opens a b c σ = some q) : xR xT xLn d 172 [.ref 141, .int a, .int b, .int c] σ (some (.int q.1), q.2) := by
  unfold F_X11_opens at h
  show xX xT xLn d 172 0 [.ref 141, .int a, .int b, .int c, .null] [] σ _
  refine xX_blk (w := xw_172) eT_172 4 0 (ls' := [.ref 141, .int a, .int b, .int c, .null]) (st' := [.int c, .int b, .int a, .ref 141]) (σ' := σ) rfl ?_
  obtain ⟨r1, hr1, h⟩ := xbd_inv h
  refine xX_c1 (w := xw_172) (i := 4) (ls := [.ref 141, .int a, .int b, .int c, .null]) (rest := []) eT_172 rfl (by omega) rfl rfl rfl (T_X11_canOpen a b c σ (by omega) hr1) ?_
  refine xX_blk (w := xw_172) eT_172 2 5 (ls' := [.ref 141, .int a, .int b, .int c, .int r1.1]) (st' := [.int r1.1]) (σ' := r1.2) rfl ?_
  refine xX_ite (c := 0 ≤ r1.1) (w := xw_172) (i := 7) (a := 12) (b := 8) (st' := []) eT_172 rfl rfl (fun hc2 => ?_) (fun hc2 => ?_)
  · rw [if_pos hc2] at h
    refine xX_blk (w := xw_172) eT_172 1 12 (ls' := [.ref 141, .int a, .int b, .int c, .int r1.1]) (st' := [.ref 141]) (σ' := r1.2) rfl ?_
    obtain ⟨r3, hr3, h⟩ := xbd_inv h
    refine xX_c0 (w := xw_172) (i := 13) (ls := [.ref 141, .int a, .int b, .int c, .int r1.1]) (rest := []) eT_172 rfl (by omega) rfl rfl rfl (T_X11_keep r1.2 (by omega) hr3) ?_
    refine xX_blk (w := xw_172) eT_172 4 14 (ls' := [.ref 141, .int a, .int b, .int c, .int r1.1]) (st' := [.int c, .int b, .int a, .ref 141]) (σ' := r3) rfl ?_
    obtain ⟨r4, hr4, h⟩ := xbd_inv h
    refine xX_c1 (w := xw_172) (i := 18) (ls := [.ref 141, .int a, .int b, .int c, .int r1.1]) (rest := []) eT_172 rfl (by omega) rfl rfl rfl (T_X11_openNow a b c r3 (by omega) hr4) ?_
    obtain rfl := Option.some.inj h
    exact xX_ret (w := xw_172) (i := 19) eT_172 rfl rfl
  · rw [if_neg hc2] at h
    refine xX_blk (w := xw_172) eT_172 2 8 (ls' := [.ref 141, .int a, .int b, .int c, .int r1.1]) (st' := [.int r1.1, .ref 141]) (σ' := r1.2) rfl ?_
    obtain ⟨r5, hr5, h⟩ := xbd_inv h
    refine xX_c1 (w := xw_172) (i := 10) (ls := [.ref 141, .int a, .int b, .int c, .int r1.1]) (rest := []) eT_172 rfl (by omega) rfl rfl rfl (T_X11_refuses r1.1 r1.2 (by omega) hr5) ?_
    obtain rfl := Option.some.inj h
    exact xX_ret (w := xw_172) (i := 11) eT_172 rfl rfl
def F_X11_sessionNow (a : Int32) (b : Int32) (σ : xM) : Option (Int32 × xM) :=
  xbd (F_X11_laysAll σ) fun r1 =>
  if b = 4 then
    xbd (F_X11_isCarried a r1) fun r3 =>
    if r3 = 0 then
      some (0, r1)
    else
      some (1, r1)
  else
    xbd (F_X11_ofSession a b r1) fun r5 =>
    some (r5, r1)
set_option maxHeartbeats 1000000 in
set_option maxRecDepth 20000 in
theorem T_X11_sessionNow (a : Int32) (b : Int32) (σ : xM) {d : Nat} {q : Int32 × xM} (hd : 5 ≤ d) (h : F_X11_sessionNow a b σ = some q) : xR xT xLn d 173 [.ref 141, .int a, .int b] σ (some (.int q.1), q.2) := by
  unfold F_X11_sessionNow at h
  show xX xT xLn d 173 0 [.ref 141, .int a, .int b] [] σ _
  refine xX_blk (w := xw_173) eT_173 1 0 (ls' := [.ref 141, .int a, .int b]) (st' := [.ref 141]) (σ' := σ) rfl ?_
  obtain ⟨r1, hr1, h⟩ := xbd_inv h
  refine xX_c0 (w := xw_173) (i := 1) (ls := [.ref 141, .int a, .int b]) (rest := []) eT_173 rfl (by omega) rfl rfl rfl (T_X11_laysAll σ (by omega) hr1) ?_
  refine xX_blk (w := xw_173) eT_173 2 2 (ls' := [.ref 141, .int a, .int b]) (st' := [.int 4, .int b]) (σ' := r1) rfl ?_
  refine xX_ite (c := b = 4) (w := xw_173) (i := 4) (a := 5) (b := 13) (st' := []) eT_173 rfl rfl (fun hc2 => ?_) (fun hc2 => ?_)
  · rw [if_pos hc2] at h
    refine xX_blk (w := xw_173) eT_173 2 5 (ls' := [.ref 141, .int a, .int b]) (st' := [.int a, .ref 141]) (σ' := r1) rfl ?_
    obtain ⟨r3, hr3, h⟩ := xbd_inv h
    refine xX_c1 (w := xw_173) (i := 7) (ls := [.ref 141, .int a, .int b]) (rest := []) eT_173 rfl (by omega) rfl rfl rfl (T_X11_isCarried a r1 (by omega) hr3) ?_
    refine xX_ite (c := r3 = 0) (w := xw_173) (i := 8) (a := 11) (b := 9) (st' := []) eT_173 rfl rfl (fun hc4 => ?_) (fun hc4 => ?_)
    · rw [if_pos hc4] at h
      refine xX_blk (w := xw_173) eT_173 1 11 (ls' := [.ref 141, .int a, .int b]) (st' := [.int 0]) (σ' := r1) rfl ?_
      refine xX_jmp (w := xw_173) (i := 12) (a := 17) (st' := [.int 0]) eT_173 rfl rfl ?_
      obtain rfl := Option.some.inj h
      exact xX_ret (w := xw_173) (i := 17) eT_173 rfl rfl
    · rw [if_neg hc4] at h
      refine xX_blk (w := xw_173) eT_173 1 9 (ls' := [.ref 141, .int a, .int b]) (st' := [.int 1]) (σ' := r1) rfl ?_
      refine xX_jmp (w := xw_173) (i := 10) (a := 17) (st' := [.int 1]) eT_173 rfl rfl ?_
      obtain rfl := Option.some.inj h
      exact xX_ret (w := xw_173) (i := 17) eT_173 rfl rfl
  · rw [if_neg hc2] at h
    refine xX_blk (w := xw_173) eT_173 3 13 (ls' := [.ref 141, .int a, .int b]) (st' := [.int b, .int a, .ref 141]) (σ' := r1) rfl ?_
    obtain ⟨r5, hr5, h⟩ := xbd_inv h
    refine xX_c1 (w := xw_173) (i := 16) (ls := [.ref 141, .int a, .int b]) (rest := []) eT_173 rfl (by omega) rfl rfl rfl (T_X11_ofSession a b r1 (by omega) hr5) ?_
    obtain rfl := Option.some.inj h
    exact xX_ret (w := xw_173) (i := 17) eT_173 rfl rfl
def F_X11_session (a : Int32) (b : Int32) (σ : xM) : Option (Int32 × xM) :=
  if a < 0 then
    xbd (F_X11_refuses (-2) σ) fun r2 =>
    some (r2.1, r2.2)
  else
    xbd (F_X11_in ((b : Int32).toInt64) 0 4 σ) fun r3 =>
    if r3 = 0 then
      xbd (F_X11_refuses (-2) σ) fun r5 =>
      some (r5.1, r5.2)
    else
      if (σ 142 2) ≤ a then
        some ((-1), σ)
      else
        xbd (F_X11_sessionNow a b σ) fun r7 =>
        some (r7.1, r7.2)
set_option maxHeartbeats 1000000 in
set_option maxRecDepth 20000 in
theorem T_X11_session (a : Int32) (b : Int32) (σ : xM) {d : Nat} {q : Int32 × xM} (hd : 6 ≤ d) (h : F_X11_session a b σ = some q) : xR xT xLn d 174 [.ref 141, .int a, .int b] σ (some (.int q.1), q.2) := by
  unfold F_X11_session at h
  show xX xT xLn d 174 0 [.ref 141, .int a, .int b] [] σ _
  refine xX_blk (w := xw_174) eT_174 1 0 (ls' := [.ref 141, .int a, .int b]) (st' := [.int a]) (σ' := σ) rfl ?_
  refine xX_ite (c := a < 0) (w := xw_174) (i := 1) (a := 8) (b := 2) (st' := []) eT_174 rfl rfl (fun hc1 => ?_) (fun hc1 => ?_)
  · rw [if_pos hc1] at h
    refine xX_blk (w := xw_174) eT_174 2 8 (ls' := [.ref 141, .int a, .int b]) (st' := [.int (-2), .ref 141]) (σ' := σ) rfl ?_
    obtain ⟨r2, hr2, h⟩ := xbd_inv h
    refine xX_c1 (w := xw_174) (i := 10) (ls := [.ref 141, .int a, .int b]) (rest := []) eT_174 rfl (by omega) rfl rfl rfl (T_X11_refuses (-2) σ (by omega) hr2) ?_
    obtain rfl := Option.some.inj h
    exact xX_ret (w := xw_174) (i := 11) eT_174 rfl rfl
  · rw [if_neg hc1] at h
    refine xX_blk (w := xw_174) eT_174 4 2 (ls' := [.ref 141, .int a, .int b]) (st' := [.long 4, .long 0, .long ((b : Int32).toInt64)]) (σ' := σ) rfl ?_
    obtain ⟨r3, hr3, h⟩ := xbd_inv h
    refine xX_c1 (w := xw_174) (i := 6) (ls := [.ref 141, .int a, .int b]) (rest := []) eT_174 rfl (by omega) rfl rfl rfl (T_X11_in ((b : Int32).toInt64) 0 4 σ (by omega) hr3) ?_
    refine xX_ite (c := r3 = 0) (w := xw_174) (i := 7) (a := 8) (b := 12) (st' := []) eT_174 rfl rfl (fun hc4 => ?_) (fun hc4 => ?_)
    · rw [if_pos hc4] at h
      refine xX_blk (w := xw_174) eT_174 2 8 (ls' := [.ref 141, .int a, .int b]) (st' := [.int (-2), .ref 141]) (σ' := σ) rfl ?_
      obtain ⟨r5, hr5, h⟩ := xbd_inv h
      refine xX_c1 (w := xw_174) (i := 10) (ls := [.ref 141, .int a, .int b]) (rest := []) eT_174 rfl (by omega) rfl rfl rfl (T_X11_refuses (-2) σ (by omega) hr5) ?_
      obtain rfl := Option.some.inj h
      exact xX_ret (w := xw_174) (i := 11) eT_174 rfl rfl
    · rw [if_neg hc4] at h
      refine xX_blk (w := xw_174) eT_174 4 12 (ls' := [.ref 141, .int a, .int b]) (st' := [.int 2, .ref 142, .int a]) (σ' := σ) rfl ?_
      refine xX_one (w := xw_174) (i := 16) (ls' := [.ref 141, .int a, .int b]) (st' := [.int (σ 142 2), .int a]) (σ' := σ) eT_174 rfl (e_ialK xs_142 (by decide) (by decide)) ?_
      refine xX_ite (c := (σ 142 2) ≤ a) (w := xw_174) (i := 17) (a := 23) (b := 18) (st' := []) eT_174 rfl rfl (fun hc6 => ?_) (fun hc6 => ?_)
      · rw [if_pos hc6] at h
        refine xX_blk (w := xw_174) eT_174 1 23 (ls' := [.ref 141, .int a, .int b]) (st' := [.int (-1)]) (σ' := σ) rfl ?_
        obtain rfl := Option.some.inj h
        exact xX_ret (w := xw_174) (i := 24) eT_174 rfl rfl
      · rw [if_neg hc6] at h
        refine xX_blk (w := xw_174) eT_174 3 18 (ls' := [.ref 141, .int a, .int b]) (st' := [.int b, .int a, .ref 141]) (σ' := σ) rfl ?_
        obtain ⟨r7, hr7, h⟩ := xbd_inv h
        refine xX_c1 (w := xw_174) (i := 21) (ls := [.ref 141, .int a, .int b]) (rest := []) eT_174 rfl (by omega) rfl rfl rfl (T_X11_sessionNow a b σ (by omega) hr7) ?_
        refine xX_jmp (w := xw_174) (i := 22) (a := 24) (st' := [.int r7.1]) eT_174 rfl rfl ?_
        obtain rfl := Option.some.inj h
        exact xX_ret (w := xw_174) (i := 24) eT_174 rfl rfl
def B_X11_endsOne_14 (v2 : Int32) (σ : xM) : Option ((Int32 × xM) ⊕ ((xM))) :=
  if ((121 : Int32) + ((4 : Int32) * (σ 142 2))) ≤ v2 then
    some (.inr σ)
  else
    xgd (xin (v2 + 4) 169) (
    xgd (xin v2 169) (
    xlet (xup σ 142 v2.toNatClampNeg (σ 142 (v2 + 4).toNatClampNeg)) fun σ5 =>
    some (.inl ((v2 + 1), σ5))))
def L_X11_endsOne_14 (v2 : Int32) (σ : xM) : Option ((xM)) := xloop (fun s : Int32 × xM => B_X11_endsOne_14 s.1 s.2) 6000 (v2, σ)
set_option maxHeartbeats 1000000 in
set_option maxRecDepth 20000 in
theorem TB_X11_endsOne_14 {d : Nat} {o : Option Value × xM} (v2 : Int32) (σ : xM) {q : (Int32 × xM) ⊕ ((xM))} (hd : 0 ≤ d) (h : B_X11_endsOne_14 v2 σ = some q) (hB : ∀ s', q = .inl s' → ∀ (z1 : Value), xX xT xLn d 175 14 [.ref 141, z1, .int s'.1] [] s'.2 o) (hE : ∀ e', q = .inr e' → ∀ (z1 z2 : Value), xX xT xLn d 175 37 [.ref 141, z1, z2] [] e' o) (z1 : Value) : xX xT xLn d 175 14 [.ref 141, z1, .int v2] [] σ o := by
  unfold B_X11_endsOne_14 at h
  refine xX_blk (w := xw_175) eT_175 7 14 (ls' := [.ref 141, .null, .int v2]) (st' := [.int 2, .ref 142, .int 4, .int 121, .int v2]) (σ' := σ) rfl ?_
  refine xX_one (w := xw_175) (i := 21) (ls' := [.ref 141, .null, .int v2]) (st' := [.int (σ 142 2), .int 4, .int 121, .int v2]) (σ' := σ) eT_175 rfl (e_ialK xs_142 (by decide) (by decide)) ?_
  refine xX_blk (w := xw_175) eT_175 2 22 (ls' := [.ref 141, .null, .int v2]) (st' := [.int ((121 : Int32) + ((4 : Int32) * (σ 142 2))), .int v2]) (σ' := σ) rfl ?_
  refine xX_ite (c := ((121 : Int32) + ((4 : Int32) * (σ 142 2))) ≤ v2) (w := xw_175) (i := 24) (a := 37) (b := 25) (st' := []) eT_175 rfl rfl (fun hc2 => ?_) (fun hc2 => ?_)
  · rw [if_pos hc2] at h
    obtain rfl := Option.some.inj h
    exact hE σ rfl _ _
  · rw [if_neg hc2] at h
    refine xX_blk (w := xw_175) eT_175 8 25 (ls' := [.ref 141, .null, .int v2]) (st' := [.int (v2 + 4), .ref 142, .int v2, .ref 142]) (σ' := σ) rfl ?_
    obtain ⟨hi3, h⟩ := xgd_inv h
    refine xX_one (w := xw_175) (i := 33) (ls' := [.ref 141, .null, .int v2]) (st' := [.int (σ 142 (v2 + 4).toNatClampNeg), .int v2, .ref 142]) (σ' := σ) eT_175 rfl (e_iald xs_142 hi3) ?_
    obtain ⟨hi4, h⟩ := xgd_inv h
    refine xX_one (w := xw_175) (i := 34) (ls' := [.ref 141, .null, .int v2]) (st' := []) (σ' := xup σ 142 v2.toNatClampNeg (σ 142 (v2 + 4).toNatClampNeg)) eT_175 rfl (e_iast xs_142 hi4) ?_
    obtain ⟨σ5, eσ5, h⟩ := xlet_inv h
    rw [← eσ5]
    refine xX_blk (w := xw_175) eT_175 1 35 (ls' := [.ref 141, .null, .int (v2 + 1)]) (st' := []) (σ' := σ5) rfl ?_
    refine xX_jmp (w := xw_175) (i := 36) (a := 14) (st' := []) eT_175 rfl rfl ?_
    obtain rfl := Option.some.inj h
    exact hB ((v2 + 1), σ5) rfl _
set_option maxHeartbeats 1000000 in
set_option maxRecDepth 20000 in
theorem TL_X11_endsOne_14 {d : Nat} {o : Option Value × xM} (v2 : Int32) (σ : xM) {e : (xM)} (hd : 0 ≤ d) (h : L_X11_endsOne_14 v2 σ = some e) (hE : ∀ (z1 z2 : Value), xX xT xLn d 175 37 [.ref 141, z1, z2] [] e o) (z1 : Value) : xX xT xLn d 175 14 [.ref 141, z1, .int v2] [] σ o :=
  xloop_snd (X := fun s => ∀ (z1 : Value), xX xT xLn d 175 14 [.ref 141, z1, .int s.1] [] s.2 o) (Y := fun e' => ∀ (z1 z2 : Value), xX xT xLn d 175 37 [.ref 141, z1, z2] [] e' o) (fun s q hs hB hE z1 => TB_X11_endsOne_14 s.1 s.2 hd hs hB hE z1) _ _ _ h hE z1
def F_X11_endsOne (a : Int32) (σ : xM) : Option (xM) :=
  xlet (xup σ 142 2 ((σ 142 2) - 1)) fun σ1 =>
  xbd (L_X11_endsOne_14 ((121 : Int32) + ((4 : Int32) * a)) σ1) fun e6 =>
  xlet (xup e6 142 4 ((e6 142 4) + 1)) fun σ7 =>
  some σ7
set_option maxHeartbeats 1000000 in
set_option maxRecDepth 20000 in
theorem T_X11_endsOne (a : Int32) (σ : xM) {d : Nat} {q : xM} (hd : 0 ≤ d) (h : F_X11_endsOne a σ = some q) : xR xT xLn d 175 [.ref 141, .int a] σ (none, q) := by
  unfold F_X11_endsOne at h
  show xX xT xLn d 175 0 [.ref 141, .int a, .null] [] σ _
  refine xX_blk (w := xw_175) eT_175 4 0 (ls' := [.ref 141, .int a, .null]) (st' := [.int 2, .ref 142, .int 2, .ref 142]) (σ' := σ) rfl ?_
  refine xX_one (w := xw_175) (i := 4) (ls' := [.ref 141, .int a, .null]) (st' := [.int (σ 142 2), .int 2, .ref 142]) (σ' := σ) eT_175 rfl (e_ialK xs_142 (by decide) (by decide)) ?_
  refine xX_blk (w := xw_175) eT_175 2 5 (ls' := [.ref 141, .int a, .null]) (st' := [.int ((σ 142 2) - 1), .int 2, .ref 142]) (σ' := σ) rfl ?_
  refine xX_one (w := xw_175) (i := 7) (ls' := [.ref 141, .int a, .null]) (st' := []) (σ' := xup σ 142 2 ((σ 142 2) - 1)) eT_175 rfl (e_iasK xs_142 (by decide) (by decide)) ?_
  obtain ⟨σ1, eσ1, h⟩ := xlet_inv h
  rw [← eσ1]
  refine xX_blk (w := xw_175) eT_175 6 8 (ls' := [.ref 141, .int a, .int ((121 : Int32) + ((4 : Int32) * a))]) (st' := []) (σ' := σ1) rfl ?_
  obtain ⟨e6, he6, h⟩ := xbd_inv h
  refine TL_X11_endsOne_14 ((121 : Int32) + ((4 : Int32) * a)) σ1 (by omega) he6 (fun z1 z2 => ?_) _
  refine xX_blk (w := xw_175) eT_175 5 37 (ls' := [.ref 141, .null, .null]) (st' := [.int 4, .ref 142, .int 4, .ref 142]) (σ' := e6) rfl ?_
  refine xX_one (w := xw_175) (i := 42) (ls' := [.ref 141, .null, .null]) (st' := [.int (e6 142 4), .int 4, .ref 142]) (σ' := e6) eT_175 rfl (e_ialK xs_142 (by decide) (by decide)) ?_
  refine xX_blk (w := xw_175) eT_175 2 43 (ls' := [.ref 141, .null, .null]) (st' := [.int ((e6 142 4) + 1), .int 4, .ref 142]) (σ' := e6) rfl ?_
  refine xX_one (w := xw_175) (i := 45) (ls' := [.ref 141, .null, .null]) (st' := []) (σ' := xup e6 142 4 ((e6 142 4) + 1)) eT_175 rfl (e_iasK xs_142 (by decide) (by decide)) ?_
  obtain ⟨σ7, eσ7, h⟩ := xlet_inv h
  rw [← eσ7]
  obtain rfl := Option.some.inj h
  exact xX_ret (w := xw_175) (i := 46) eT_175 rfl rfl
def F_X11_ends (a : Int32) (σ : xM) : Option (Int32 × xM) :=
  xbd (F_X11_in ((a : Int32).toInt64) 0 ((((σ 142 2) - 1) : Int32).toInt64) σ) fun r1 =>
  if r1 = 0 then
    xbd (F_X11_refuses (-2) σ) fun r3 =>
    some (r3.1, r3.2)
  else
    xbd (F_X11_keep σ) fun r4 =>
    xbd (F_X11_endsOne a r4) fun r5 =>
    some ((r5 142 2), r5)
set_option maxHeartbeats 1000000 in
set_option maxRecDepth 20000 in
theorem T_X11_ends (a : Int32) (σ : xM) {d : Nat} {q : Int32 × xM} (hd : 1 ≤ d) (h : F_X11_ends a σ = some q) : xR xT xLn d 176 [.ref 141, .int a] σ (some (.int q.1), q.2) := by
  unfold F_X11_ends at h
  show xX xT xLn d 176 0 [.ref 141, .int a] [] σ _
  refine xX_blk (w := xw_176) eT_176 6 0 (ls' := [.ref 141, .int a]) (st' := [.int 2, .ref 142, .long 0, .long ((a : Int32).toInt64)]) (σ' := σ) rfl ?_
  refine xX_one (w := xw_176) (i := 6) (ls' := [.ref 141, .int a]) (st' := [.int (σ 142 2), .long 0, .long ((a : Int32).toInt64)]) (σ' := σ) eT_176 rfl (e_ialK xs_142 (by decide) (by decide)) ?_
  refine xX_blk (w := xw_176) eT_176 3 7 (ls' := [.ref 141, .int a]) (st' := [.long ((((σ 142 2) - 1) : Int32).toInt64), .long 0, .long ((a : Int32).toInt64)]) (σ' := σ) rfl ?_
  obtain ⟨r1, hr1, h⟩ := xbd_inv h
  refine xX_c1 (w := xw_176) (i := 10) (ls := [.ref 141, .int a]) (rest := []) eT_176 rfl (by omega) rfl rfl rfl (T_X11_in ((a : Int32).toInt64) 0 ((((σ 142 2) - 1) : Int32).toInt64) σ (by omega) hr1) ?_
  refine xX_ite (c := r1 = 0) (w := xw_176) (i := 11) (a := 12) (b := 16) (st' := []) eT_176 rfl rfl (fun hc2 => ?_) (fun hc2 => ?_)
  · rw [if_pos hc2] at h
    refine xX_blk (w := xw_176) eT_176 2 12 (ls' := [.ref 141, .int a]) (st' := [.int (-2), .ref 141]) (σ' := σ) rfl ?_
    obtain ⟨r3, hr3, h⟩ := xbd_inv h
    refine xX_c1 (w := xw_176) (i := 14) (ls := [.ref 141, .int a]) (rest := []) eT_176 rfl (by omega) rfl rfl rfl (T_X11_refuses (-2) σ (by omega) hr3) ?_
    obtain rfl := Option.some.inj h
    exact xX_ret (w := xw_176) (i := 15) eT_176 rfl rfl
  · rw [if_neg hc2] at h
    refine xX_blk (w := xw_176) eT_176 1 16 (ls' := [.ref 141, .int a]) (st' := [.ref 141]) (σ' := σ) rfl ?_
    obtain ⟨r4, hr4, h⟩ := xbd_inv h
    refine xX_c0 (w := xw_176) (i := 17) (ls := [.ref 141, .int a]) (rest := []) eT_176 rfl (by omega) rfl rfl rfl (T_X11_keep σ (by omega) hr4) ?_
    refine xX_blk (w := xw_176) eT_176 2 18 (ls' := [.ref 141, .int a]) (st' := [.int a, .ref 141]) (σ' := r4) rfl ?_
    obtain ⟨r5, hr5, h⟩ := xbd_inv h
    refine xX_c0 (w := xw_176) (i := 20) (ls := [.ref 141, .int a]) (rest := []) eT_176 rfl (by omega) rfl rfl rfl (T_X11_endsOne a r4 (by omega) hr5) ?_
    refine xX_blk (w := xw_176) eT_176 3 21 (ls' := [.ref 141, .int a]) (st' := [.int 2, .ref 142]) (σ' := r5) rfl ?_
    refine xX_one (w := xw_176) (i := 24) (ls' := [.ref 141, .int a]) (st' := [.int (r5 142 2)]) (σ' := r5) eT_176 rfl (e_ialK xs_142 (by decide) (by decide)) ?_
    obtain rfl := Option.some.inj h
    exact xX_ret (w := xw_176) (i := 25) eT_176 rfl rfl
def B_X11_runsSessions_2 (v1 : Int32) (σ : xM) : Option ((Int32 × xM) ⊕ ((xM))) :=
  if (σ 142 2) ≤ v1 then
    some (.inr σ)
  else
    xgd (xin (((121 : Int32) + ((4 : Int32) * v1)) + 3) 169) (
    xgd (xin (((121 : Int32) + ((4 : Int32) * v1)) + 3) 169) (
    xlet (xup σ 142 (((121 : Int32) + ((4 : Int32) * v1)) + 3).toNatClampNeg ((σ 142 (((121 : Int32) + ((4 : Int32) * v1)) + 3).toNatClampNeg) - 1)) fun σ4 =>
    xgd (xin (((121 : Int32) + ((4 : Int32) * v1)) + 3) 169) (
    if (σ4 142 (((121 : Int32) + ((4 : Int32) * v1)) + 3).toNatClampNeg) = 0 then
      xbd (F_X11_endsOne v1 σ4) fun r7 =>
      some (.inl (v1, r7))
    else
      xgd (xin (((121 : Int32) + ((4 : Int32) * v1)) + 1) 169) (
      xbd (F_X11_stateOf (σ4 142 (((121 : Int32) + ((4 : Int32) * v1)) + 1).toNatClampNeg) σ4) fun r9 =>
      if r9 = 2 then
        xlet (xup σ4 142 5 ((σ4 142 5) + 1)) fun σ11 =>
        xgd (xin ((121 : Int32) + ((4 : Int32) * v1)) 169) (
        xbd (F_X11_catchOf (σ11 142 ((121 : Int32) + ((4 : Int32) * v1)).toNatClampNeg) σ11) fun r13 =>
        if r13 = (-1) then
          xgd (xin (((121 : Int32) + ((4 : Int32) * v1)) + 1) 169) (
          xgd (xin (((121 : Int32) + ((4 : Int32) * v1)) + 1) 169) (
          xlet (xup σ11 142 (((121 : Int32) + ((4 : Int32) * v1)) + 1).toNatClampNeg (σ11 142 (((121 : Int32) + ((4 : Int32) * v1)) + 1).toNatClampNeg)) fun σ17 =>
          xbd (F_X11_endsOne v1 σ17) fun r18 =>
          some (.inl (v1, r18))))
        else
          xgd (xin (((121 : Int32) + ((4 : Int32) * v1)) + 1) 169) (
          xlet (xup σ11 142 (((121 : Int32) + ((4 : Int32) * v1)) + 1).toNatClampNeg r13) fun σ20 =>
          some (.inl ((v1 + 1), σ20))))
      else
        some (.inl ((v1 + 1), σ4))))))
def L_X11_runsSessions_2 (v1 : Int32) (σ : xM) : Option ((xM)) := xloop (fun s : Int32 × xM => B_X11_runsSessions_2 s.1 s.2) 6000 (v1, σ)
set_option maxHeartbeats 1000000 in
set_option maxRecDepth 20000 in
theorem TB_X11_runsSessions_2 {d : Nat} {o : Option Value × xM} (v1 : Int32) (σ : xM) {q : (Int32 × xM) ⊕ ((xM))} (hd : 3 ≤ d) (h : B_X11_runsSessions_2 v1 σ = some q) (hB : ∀ s', q = .inl s' → ∀ (z2 z3 z4 : Value), xX xT xLn d 177 2 [.ref 141, .int s'.1, z2, z3, z4] [] s'.2 o) (hE : ∀ e', q = .inr e' → ∀ (z0 z1 z2 z3 z4 : Value), xX xT xLn d 177 94 [z0, z1, z2, z3, z4] [] e' o) (z2 : Value) (z3 : Value) (z4 : Value) : xX xT xLn d 177 2 [.ref 141, .int v1, z2, z3, z4] [] σ o := by
  unfold B_X11_runsSessions_2 at h
  refine xX_blk (w := xw_177) eT_177 5 2 (ls' := [.ref 141, .int v1, .null, .null, .null]) (st' := [.int 2, .ref 142, .int v1]) (σ' := σ) rfl ?_
  refine xX_one (w := xw_177) (i := 7) (ls' := [.ref 141, .int v1, .null, .null, .null]) (st' := [.int (σ 142 2), .int v1]) (σ' := σ) eT_177 rfl (e_ialK xs_142 (by decide) (by decide)) ?_
  refine xX_ite (c := (σ 142 2) ≤ v1) (w := xw_177) (i := 8) (a := 94) (b := 9) (st' := []) eT_177 rfl rfl (fun hc1 => ?_) (fun hc1 => ?_)
  · rw [if_pos hc1] at h
    obtain rfl := Option.some.inj h
    exact hE σ rfl _ _ _ _ _
  · rw [if_neg hc1] at h
    refine xX_blk (w := xw_177) eT_177 12 9 (ls' := [.ref 141, .int v1, .int ((121 : Int32) + ((4 : Int32) * v1)), .null, .null]) (st' := [.int (((121 : Int32) + ((4 : Int32) * v1)) + 3), .ref 142, .int (((121 : Int32) + ((4 : Int32) * v1)) + 3), .ref 142]) (σ' := σ) rfl ?_
    obtain ⟨hi2, h⟩ := xgd_inv h
    refine xX_one (w := xw_177) (i := 21) (ls' := [.ref 141, .int v1, .int ((121 : Int32) + ((4 : Int32) * v1)), .null, .null]) (st' := [.int (σ 142 (((121 : Int32) + ((4 : Int32) * v1)) + 3).toNatClampNeg), .int (((121 : Int32) + ((4 : Int32) * v1)) + 3), .ref 142]) (σ' := σ) eT_177 rfl (e_iald xs_142 hi2) ?_
    refine xX_blk (w := xw_177) eT_177 2 22 (ls' := [.ref 141, .int v1, .int ((121 : Int32) + ((4 : Int32) * v1)), .null, .null]) (st' := [.int ((σ 142 (((121 : Int32) + ((4 : Int32) * v1)) + 3).toNatClampNeg) - 1), .int (((121 : Int32) + ((4 : Int32) * v1)) + 3), .ref 142]) (σ' := σ) rfl ?_
    obtain ⟨hi3, h⟩ := xgd_inv h
    refine xX_one (w := xw_177) (i := 24) (ls' := [.ref 141, .int v1, .int ((121 : Int32) + ((4 : Int32) * v1)), .null, .null]) (st' := []) (σ' := xup σ 142 (((121 : Int32) + ((4 : Int32) * v1)) + 3).toNatClampNeg ((σ 142 (((121 : Int32) + ((4 : Int32) * v1)) + 3).toNatClampNeg) - 1)) eT_177 rfl (e_iast xs_142 hi3) ?_
    obtain ⟨σ4, eσ4, h⟩ := xlet_inv h
    rw [← eσ4]
    refine xX_blk (w := xw_177) eT_177 5 25 (ls' := [.ref 141, .int v1, .int ((121 : Int32) + ((4 : Int32) * v1)), .null, .null]) (st' := [.int (((121 : Int32) + ((4 : Int32) * v1)) + 3), .ref 142]) (σ' := σ4) rfl ?_
    obtain ⟨hi5, h⟩ := xgd_inv h
    refine xX_one (w := xw_177) (i := 30) (ls' := [.ref 141, .int v1, .int ((121 : Int32) + ((4 : Int32) * v1)), .null, .null]) (st' := [.int (σ4 142 (((121 : Int32) + ((4 : Int32) * v1)) + 3).toNatClampNeg)]) (σ' := σ4) eT_177 rfl (e_iald xs_142 hi5) ?_
    refine xX_ite (c := (σ4 142 (((121 : Int32) + ((4 : Int32) * v1)) + 3).toNatClampNeg) = 0) (w := xw_177) (i := 31) (a := 32) (b := 34) (st' := []) eT_177 rfl rfl (fun hc6 => ?_) (fun hc6 => ?_)
    · rw [if_pos hc6] at h
      refine xX_blk (w := xw_177) eT_177 1 32 (ls' := [.ref 141, .int v1, .int ((121 : Int32) + ((4 : Int32) * v1)), .null, .null]) (st' := [.int 1]) (σ' := σ4) rfl ?_
      refine xX_jmp (w := xw_177) (i := 33) (a := 35) (st' := [.int 1]) eT_177 rfl rfl ?_
      refine xX_blk (w := xw_177) eT_177 2 35 (ls' := [.ref 141, .int v1, .int ((121 : Int32) + ((4 : Int32) * v1)), .int 1, .null]) (st' := [.int 1]) (σ' := σ4) rfl ?_
      refine xX_ite (c := (1 : Int32) = 0) (w := xw_177) (i := 37) (a := 38) (b := 86) (st' := []) eT_177 rfl rfl (fun hc => absurd hc (by decide)) (fun _ => ?_)
      refine xX_blk (w := xw_177) eT_177 1 86 (ls' := [.ref 141, .int v1, .int ((121 : Int32) + ((4 : Int32) * v1)), .int 1, .null]) (st' := [.int 1]) (σ' := σ4) rfl ?_
      refine xX_ite (c := (1 : Int32) = 0) (w := xw_177) (i := 87) (a := 92) (b := 88) (st' := []) eT_177 rfl rfl (fun hc => absurd hc (by decide)) (fun _ => ?_)
      refine xX_blk (w := xw_177) eT_177 2 88 (ls' := [.ref 141, .int v1, .int ((121 : Int32) + ((4 : Int32) * v1)), .int 1, .null]) (st' := [.int v1, .ref 141]) (σ' := σ4) rfl ?_
      obtain ⟨r7, hr7, h⟩ := xbd_inv h
      refine xX_c0 (w := xw_177) (i := 90) (ls := [.ref 141, .int v1, .int ((121 : Int32) + ((4 : Int32) * v1)), .int 1, .null]) (rest := []) eT_177 rfl (by omega) rfl rfl rfl (T_X11_endsOne v1 σ4 (by omega) hr7) ?_
      refine xX_jmp (w := xw_177) (i := 91) (a := 93) (st' := []) eT_177 rfl rfl ?_
      refine xX_jmp (w := xw_177) (i := 93) (a := 2) (st' := []) eT_177 rfl rfl ?_
      obtain rfl := Option.some.inj h
      exact hB (v1, r7) rfl _ _ _
    · rw [if_neg hc6] at h
      refine xX_blk (w := xw_177) eT_177 3 34 (ls' := [.ref 141, .int v1, .int ((121 : Int32) + ((4 : Int32) * v1)), .int 0, .null]) (st' := [.int 0]) (σ' := σ4) rfl ?_
      refine xX_ite (c := (0 : Int32) = 0) (w := xw_177) (i := 37) (a := 38) (b := 86) (st' := []) eT_177 rfl rfl (fun _ => ?_) (fun hc => absurd (by decide) hc)
      refine xX_blk (w := xw_177) eT_177 6 38 (ls' := [.ref 141, .int v1, .int ((121 : Int32) + ((4 : Int32) * v1)), .int 0, .null]) (st' := [.int (((121 : Int32) + ((4 : Int32) * v1)) + 1), .ref 142, .ref 141]) (σ' := σ4) rfl ?_
      obtain ⟨hi8, h⟩ := xgd_inv h
      refine xX_one (w := xw_177) (i := 44) (ls' := [.ref 141, .int v1, .int ((121 : Int32) + ((4 : Int32) * v1)), .int 0, .null]) (st' := [.int (σ4 142 (((121 : Int32) + ((4 : Int32) * v1)) + 1).toNatClampNeg), .ref 141]) (σ' := σ4) eT_177 rfl (e_iald xs_142 hi8) ?_
      obtain ⟨r9, hr9, h⟩ := xbd_inv h
      refine xX_c1 (w := xw_177) (i := 45) (ls := [.ref 141, .int v1, .int ((121 : Int32) + ((4 : Int32) * v1)), .int 0, .null]) (rest := []) eT_177 rfl (by omega) rfl rfl rfl (T_X11_stateOf (σ4 142 (((121 : Int32) + ((4 : Int32) * v1)) + 1).toNatClampNeg) σ4 (by omega) hr9) ?_
      refine xX_blk (w := xw_177) eT_177 1 46 (ls' := [.ref 141, .int v1, .int ((121 : Int32) + ((4 : Int32) * v1)), .int 0, .null]) (st' := [.int 2, .int r9]) (σ' := σ4) rfl ?_
      refine xX_ite (c := r9 = 2) (w := xw_177) (i := 47) (a := 48) (b := 86) (st' := []) eT_177 rfl rfl (fun hc10 => ?_) (fun hc10 => ?_)
      · rw [if_pos hc10] at h
        refine xX_blk (w := xw_177) eT_177 4 48 (ls' := [.ref 141, .int v1, .int ((121 : Int32) + ((4 : Int32) * v1)), .int 0, .null]) (st' := [.int 5, .ref 142, .int 5, .ref 142]) (σ' := σ4) rfl ?_
        refine xX_one (w := xw_177) (i := 52) (ls' := [.ref 141, .int v1, .int ((121 : Int32) + ((4 : Int32) * v1)), .int 0, .null]) (st' := [.int (σ4 142 5), .int 5, .ref 142]) (σ' := σ4) eT_177 rfl (e_ialK xs_142 (by decide) (by decide)) ?_
        refine xX_blk (w := xw_177) eT_177 2 53 (ls' := [.ref 141, .int v1, .int ((121 : Int32) + ((4 : Int32) * v1)), .int 0, .null]) (st' := [.int ((σ4 142 5) + 1), .int 5, .ref 142]) (σ' := σ4) rfl ?_
        refine xX_one (w := xw_177) (i := 55) (ls' := [.ref 141, .int v1, .int ((121 : Int32) + ((4 : Int32) * v1)), .int 0, .null]) (st' := []) (σ' := xup σ4 142 5 ((σ4 142 5) + 1)) eT_177 rfl (e_iasK xs_142 (by decide) (by decide)) ?_
        obtain ⟨σ11, eσ11, h⟩ := xlet_inv h
        rw [← eσ11]
        refine xX_blk (w := xw_177) eT_177 4 56 (ls' := [.ref 141, .int v1, .int ((121 : Int32) + ((4 : Int32) * v1)), .int 0, .null]) (st' := [.int ((121 : Int32) + ((4 : Int32) * v1)), .ref 142, .ref 141]) (σ' := σ11) rfl ?_
        obtain ⟨hi12, h⟩ := xgd_inv h
        refine xX_one (w := xw_177) (i := 60) (ls' := [.ref 141, .int v1, .int ((121 : Int32) + ((4 : Int32) * v1)), .int 0, .null]) (st' := [.int (σ11 142 ((121 : Int32) + ((4 : Int32) * v1)).toNatClampNeg), .ref 141]) (σ' := σ11) eT_177 rfl (e_iald xs_142 hi12) ?_
        obtain ⟨r13, hr13, h⟩ := xbd_inv h
        refine xX_c1 (w := xw_177) (i := 61) (ls := [.ref 141, .int v1, .int ((121 : Int32) + ((4 : Int32) * v1)), .int 0, .null]) (rest := []) eT_177 rfl (by omega) rfl rfl rfl (T_X11_catchOf (σ11 142 ((121 : Int32) + ((4 : Int32) * v1)).toNatClampNeg) σ11 (by omega) hr13) ?_
        refine xX_blk (w := xw_177) eT_177 3 62 (ls' := [.ref 141, .int v1, .int ((121 : Int32) + ((4 : Int32) * v1)), .int 0, .int r13]) (st' := [.int (-1), .int r13]) (σ' := σ11) rfl ?_
        refine xX_ite (c := r13 = (-1)) (w := xw_177) (i := 65) (a := 66) (b := 68) (st' := []) eT_177 rfl rfl (fun hc14 => ?_) (fun hc14 => ?_)
        · rw [if_pos hc14] at h
          refine xX_blk (w := xw_177) eT_177 1 66 (ls' := [.ref 141, .int v1, .int ((121 : Int32) + ((4 : Int32) * v1)), .int 0, .int r13]) (st' := [.int 1]) (σ' := σ11) rfl ?_
          refine xX_jmp (w := xw_177) (i := 67) (a := 69) (st' := [.int 1]) eT_177 rfl rfl ?_
          refine xX_blk (w := xw_177) eT_177 7 69 (ls' := [.ref 141, .int v1, .int ((121 : Int32) + ((4 : Int32) * v1)), .int 1, .int r13]) (st' := [.int 1, .int (((121 : Int32) + ((4 : Int32) * v1)) + 1), .ref 142]) (σ' := σ11) rfl ?_
          refine xX_ite (c := (1 : Int32) = 0) (w := xw_177) (i := 76) (a := 84) (b := 77) (st' := [.int (((121 : Int32) + ((4 : Int32) * v1)) + 1), .ref 142]) eT_177 rfl rfl (fun hc => absurd hc (by decide)) (fun _ => ?_)
          refine xX_blk (w := xw_177) eT_177 5 77 (ls' := [.ref 141, .int v1, .int ((121 : Int32) + ((4 : Int32) * v1)), .int 1, .int r13]) (st' := [.int (((121 : Int32) + ((4 : Int32) * v1)) + 1), .ref 142, .int (((121 : Int32) + ((4 : Int32) * v1)) + 1), .ref 142]) (σ' := σ11) rfl ?_
          obtain ⟨hi15, h⟩ := xgd_inv h
          refine xX_one (w := xw_177) (i := 82) (ls' := [.ref 141, .int v1, .int ((121 : Int32) + ((4 : Int32) * v1)), .int 1, .int r13]) (st' := [.int (σ11 142 (((121 : Int32) + ((4 : Int32) * v1)) + 1).toNatClampNeg), .int (((121 : Int32) + ((4 : Int32) * v1)) + 1), .ref 142]) (σ' := σ11) eT_177 rfl (e_iald xs_142 hi15) ?_
          refine xX_jmp (w := xw_177) (i := 83) (a := 85) (st' := [.int (σ11 142 (((121 : Int32) + ((4 : Int32) * v1)) + 1).toNatClampNeg), .int (((121 : Int32) + ((4 : Int32) * v1)) + 1), .ref 142]) eT_177 rfl rfl ?_
          obtain ⟨hi16, h⟩ := xgd_inv h
          refine xX_one (w := xw_177) (i := 85) (ls' := [.ref 141, .int v1, .int ((121 : Int32) + ((4 : Int32) * v1)), .int 1, .int r13]) (st' := []) (σ' := xup σ11 142 (((121 : Int32) + ((4 : Int32) * v1)) + 1).toNatClampNeg (σ11 142 (((121 : Int32) + ((4 : Int32) * v1)) + 1).toNatClampNeg)) eT_177 rfl (e_iast xs_142 hi16) ?_
          obtain ⟨σ17, eσ17, h⟩ := xlet_inv h
          rw [← eσ17]
          refine xX_blk (w := xw_177) eT_177 1 86 (ls' := [.ref 141, .int v1, .int ((121 : Int32) + ((4 : Int32) * v1)), .int 1, .int r13]) (st' := [.int 1]) (σ' := σ17) rfl ?_
          refine xX_ite (c := (1 : Int32) = 0) (w := xw_177) (i := 87) (a := 92) (b := 88) (st' := []) eT_177 rfl rfl (fun hc => absurd hc (by decide)) (fun _ => ?_)
          refine xX_blk (w := xw_177) eT_177 2 88 (ls' := [.ref 141, .int v1, .int ((121 : Int32) + ((4 : Int32) * v1)), .int 1, .int r13]) (st' := [.int v1, .ref 141]) (σ' := σ17) rfl ?_
          obtain ⟨r18, hr18, h⟩ := xbd_inv h
          refine xX_c0 (w := xw_177) (i := 90) (ls := [.ref 141, .int v1, .int ((121 : Int32) + ((4 : Int32) * v1)), .int 1, .int r13]) (rest := []) eT_177 rfl (by omega) rfl rfl rfl (T_X11_endsOne v1 σ17 (by omega) hr18) ?_
          refine xX_jmp (w := xw_177) (i := 91) (a := 93) (st' := []) eT_177 rfl rfl ?_
          refine xX_jmp (w := xw_177) (i := 93) (a := 2) (st' := []) eT_177 rfl rfl ?_
          obtain rfl := Option.some.inj h
          exact hB (v1, r18) rfl _ _ _
        · rw [if_neg hc14] at h
          refine xX_blk (w := xw_177) eT_177 8 68 (ls' := [.ref 141, .int v1, .int ((121 : Int32) + ((4 : Int32) * v1)), .int 0, .int r13]) (st' := [.int 0, .int (((121 : Int32) + ((4 : Int32) * v1)) + 1), .ref 142]) (σ' := σ11) rfl ?_
          refine xX_ite (c := (0 : Int32) = 0) (w := xw_177) (i := 76) (a := 84) (b := 77) (st' := [.int (((121 : Int32) + ((4 : Int32) * v1)) + 1), .ref 142]) eT_177 rfl rfl (fun _ => ?_) (fun hc => absurd (by decide) hc)
          refine xX_blk (w := xw_177) eT_177 1 84 (ls' := [.ref 141, .int v1, .int ((121 : Int32) + ((4 : Int32) * v1)), .int 0, .int r13]) (st' := [.int r13, .int (((121 : Int32) + ((4 : Int32) * v1)) + 1), .ref 142]) (σ' := σ11) rfl ?_
          obtain ⟨hi19, h⟩ := xgd_inv h
          refine xX_one (w := xw_177) (i := 85) (ls' := [.ref 141, .int v1, .int ((121 : Int32) + ((4 : Int32) * v1)), .int 0, .int r13]) (st' := []) (σ' := xup σ11 142 (((121 : Int32) + ((4 : Int32) * v1)) + 1).toNatClampNeg r13) eT_177 rfl (e_iast xs_142 hi19) ?_
          obtain ⟨σ20, eσ20, h⟩ := xlet_inv h
          rw [← eσ20]
          refine xX_blk (w := xw_177) eT_177 1 86 (ls' := [.ref 141, .int v1, .int ((121 : Int32) + ((4 : Int32) * v1)), .int 0, .int r13]) (st' := [.int 0]) (σ' := σ20) rfl ?_
          refine xX_ite (c := (0 : Int32) = 0) (w := xw_177) (i := 87) (a := 92) (b := 88) (st' := []) eT_177 rfl rfl (fun _ => ?_) (fun hc => absurd (by decide) hc)
          refine xX_blk (w := xw_177) eT_177 1 92 (ls' := [.ref 141, .int (v1 + 1), .int ((121 : Int32) + ((4 : Int32) * v1)), .int 0, .int r13]) (st' := []) (σ' := σ20) rfl ?_
          refine xX_jmp (w := xw_177) (i := 93) (a := 2) (st' := []) eT_177 rfl rfl ?_
          obtain rfl := Option.some.inj h
          exact hB ((v1 + 1), σ20) rfl _ _ _
      · rw [if_neg hc10] at h
        refine xX_blk (w := xw_177) eT_177 1 86 (ls' := [.ref 141, .int v1, .int ((121 : Int32) + ((4 : Int32) * v1)), .int 0, .null]) (st' := [.int 0]) (σ' := σ4) rfl ?_
        refine xX_ite (c := (0 : Int32) = 0) (w := xw_177) (i := 87) (a := 92) (b := 88) (st' := []) eT_177 rfl rfl (fun _ => ?_) (fun hc => absurd (by decide) hc)
        refine xX_blk (w := xw_177) eT_177 1 92 (ls' := [.ref 141, .int (v1 + 1), .int ((121 : Int32) + ((4 : Int32) * v1)), .int 0, .null]) (st' := []) (σ' := σ4) rfl ?_
        refine xX_jmp (w := xw_177) (i := 93) (a := 2) (st' := []) eT_177 rfl rfl ?_
        obtain rfl := Option.some.inj h
        exact hB ((v1 + 1), σ4) rfl _ _ _
set_option maxHeartbeats 1000000 in
set_option maxRecDepth 20000 in
theorem TL_X11_runsSessions_2 {d : Nat} {o : Option Value × xM} (v1 : Int32) (σ : xM) {e : (xM)} (hd : 3 ≤ d) (h : L_X11_runsSessions_2 v1 σ = some e) (hE : ∀ (z0 z1 z2 z3 z4 : Value), xX xT xLn d 177 94 [z0, z1, z2, z3, z4] [] e o) (z2 : Value) (z3 : Value) (z4 : Value) : xX xT xLn d 177 2 [.ref 141, .int v1, z2, z3, z4] [] σ o :=
  xloop_snd (X := fun s => ∀ (z2 z3 z4 : Value), xX xT xLn d 177 2 [.ref 141, .int s.1, z2, z3, z4] [] s.2 o) (Y := fun e' => ∀ (z0 z1 z2 z3 z4 : Value), xX xT xLn d 177 94 [z0, z1, z2, z3, z4] [] e' o) (fun s q hs hB hE z2 z3 z4 => TB_X11_runsSessions_2 s.1 s.2 hd hs hB hE z2 z3 z4) _ _ _ h hE z2 z3 z4
def F_X11_runsSessions (σ : xM) : Option (xM) :=
  xbd (L_X11_runsSessions_2 0 σ) fun e21 =>
  some e21
set_option maxHeartbeats 1000000 in
set_option maxRecDepth 20000 in
theorem T_X11_runsSessions (σ : xM) {d : Nat} {q : xM} (hd : 3 ≤ d) (h : F_X11_runsSessions σ = some q) : xR xT xLn d 177 [.ref 141] σ (none, q) := by
  unfold F_X11_runsSessions at h
  show xX xT xLn d 177 0 [.ref 141, .null, .null, .null, .null] [] σ _
  refine xX_blk (w := xw_177) eT_177 2 0 (ls' := [.ref 141, .int 0, .null, .null, .null]) (st' := []) (σ' := σ) rfl ?_
  obtain ⟨e21, he21, h⟩ := xbd_inv h
  refine TL_X11_runsSessions_2 0 σ (by omega) he21 (fun z0 z1 z2 z3 z4 => ?_) _ _ _
  refine xX_blk (w := xw_177) eT_177 1 94 (ls' := [.null, .null, .null, .null, .null]) (st' := []) (σ' := e21) rfl ?_
  obtain rfl := Option.some.inj h
  exact xX_ret (w := xw_177) (i := 95) eT_177 rfl rfl
def B_X11_drainsOne_10 (p1 : Int32) (p2 : Int32) (v3 : Int32) (σ : xM) : Option ((Int32 × xM) ⊕ ((xM))) :=
  if 169 ≤ v3 then
    some (.inr σ)
  else
    xgd (xin v3 169) (
    xgd (xin v3 169) (
    xlet (xup σ 148 v3.toNatClampNeg (σ 142 v3.toNatClampNeg)) fun σ5 =>
    some (.inl ((v3 + 1), σ5))))
def L_X11_drainsOne_10 (p1 : Int32) (p2 : Int32) (v3 : Int32) (σ : xM) : Option ((xM)) := xloop (fun s : Int32 × xM => B_X11_drainsOne_10 p1 p2 s.1 s.2) 6000 (v3, σ)
set_option maxHeartbeats 1000000 in
set_option maxRecDepth 20000 in
theorem TB_X11_drainsOne_10 {d : Nat} {o : Option Value × xM} (p1 : Int32) (p2 : Int32) (v3 : Int32) (σ : xM) {q : (Int32 × xM) ⊕ ((xM))} (hd : 5 ≤ d) (h : B_X11_drainsOne_10 p1 p2 v3 σ = some q) (hB : ∀ s', q = .inl s' → xX xT xLn d 178 10 [.ref 141, .int p1, .int p2, .int s'.1] [] s'.2 o) (hE : ∀ e', q = .inr e' → ∀ (z3 : Value), xX xT xLn d 178 24 [.ref 141, .int p1, .int p2, z3] [] e' o) : xX xT xLn d 178 10 [.ref 141, .int p1, .int p2, .int v3] [] σ o := by
  unfold B_X11_drainsOne_10 at h
  refine xX_blk (w := xw_178) eT_178 3 10 (ls' := [.ref 141, .int p1, .int p2, .int v3]) (st' := [.int 169, .int v3]) (σ' := σ) rfl ?_
  refine xX_ite (c := 169 ≤ v3) (w := xw_178) (i := 13) (a := 24) (b := 14) (st' := []) eT_178 rfl rfl (fun hc2 => ?_) (fun hc2 => ?_)
  · rw [if_pos hc2] at h
    obtain rfl := Option.some.inj h
    exact hE σ rfl _
  · rw [if_neg hc2] at h
    refine xX_blk (w := xw_178) eT_178 6 14 (ls' := [.ref 141, .int p1, .int p2, .int v3]) (st' := [.int v3, .ref 142, .int v3, .ref 148]) (σ' := σ) rfl ?_
    obtain ⟨hi3, h⟩ := xgd_inv h
    refine xX_one (w := xw_178) (i := 20) (ls' := [.ref 141, .int p1, .int p2, .int v3]) (st' := [.int (σ 142 v3.toNatClampNeg), .int v3, .ref 148]) (σ' := σ) eT_178 rfl (e_iald xs_142 hi3) ?_
    obtain ⟨hi4, h⟩ := xgd_inv h
    refine xX_one (w := xw_178) (i := 21) (ls' := [.ref 141, .int p1, .int p2, .int v3]) (st' := []) (σ' := xup σ 148 v3.toNatClampNeg (σ 142 v3.toNatClampNeg)) eT_178 rfl (e_iast xs_148 hi4) ?_
    obtain ⟨σ5, eσ5, h⟩ := xlet_inv h
    rw [← eσ5]
    refine xX_blk (w := xw_178) eT_178 1 22 (ls' := [.ref 141, .int p1, .int p2, .int (v3 + 1)]) (st' := []) (σ' := σ5) rfl ?_
    refine xX_jmp (w := xw_178) (i := 23) (a := 10) (st' := []) eT_178 rfl rfl ?_
    obtain rfl := Option.some.inj h
    exact hB ((v3 + 1), σ5) rfl
set_option maxHeartbeats 1000000 in
set_option maxRecDepth 20000 in
theorem TL_X11_drainsOne_10 {d : Nat} {o : Option Value × xM} (p1 : Int32) (p2 : Int32) (v3 : Int32) (σ : xM) {e : (xM)} (hd : 5 ≤ d) (h : L_X11_drainsOne_10 p1 p2 v3 σ = some e) (hE : ∀ (z3 : Value), xX xT xLn d 178 24 [.ref 141, .int p1, .int p2, z3] [] e o) : xX xT xLn d 178 10 [.ref 141, .int p1, .int p2, .int v3] [] σ o :=
  xloop_snd (X := fun s => xX xT xLn d 178 10 [.ref 141, .int p1, .int p2, .int s.1] [] s.2 o) (Y := fun e' => ∀ (z3 : Value), xX xT xLn d 178 24 [.ref 141, .int p1, .int p2, z3] [] e' o) (fun s q hs hB hE => TB_X11_drainsOne_10 p1 p2 s.1 s.2 hd hs hB hE) _ _ _ h hE
def B_X11_drainsOne_59 (v3 : Int32) (σ : xM) : Option ((Int32 × xM) ⊕ ((xM))) :=
  if 169 ≤ v3 then
    some (.inr σ)
  else
    xgd (xin v3 169) (
    xgd (xin v3 169) (
    xlet (xup σ 142 v3.toNatClampNeg (σ 148 v3.toNatClampNeg)) fun σ15 =>
    some (.inl ((v3 + 1), σ15))))
def L_X11_drainsOne_59 (v3 : Int32) (σ : xM) : Option ((xM)) := xloop (fun s : Int32 × xM => B_X11_drainsOne_59 s.1 s.2) 6000 (v3, σ)
set_option maxHeartbeats 1000000 in
set_option maxRecDepth 20000 in
theorem TB_X11_drainsOne_59 {d : Nat} {o : Option Value × xM} (v3 : Int32) (σ : xM) {q : (Int32 × xM) ⊕ ((xM))} (hd : 5 ≤ d) (h : B_X11_drainsOne_59 v3 σ = some q) (hB : ∀ s', q = .inl s' → ∀ (z1 z2 : Value), xX xT xLn d 178 61 [.ref 141, z1, z2, .int s'.1] [] s'.2 o) (hE : ∀ e', q = .inr e' → ∀ (z1 z2 z3 : Value), xX xT xLn d 178 75 [.ref 141, z1, z2, z3] [] e' o) (z1 : Value) (z2 : Value) : xX xT xLn d 178 61 [.ref 141, z1, z2, .int v3] [] σ o := by
  unfold B_X11_drainsOne_59 at h
  refine xX_blk (w := xw_178) eT_178 3 61 (ls' := [.ref 141, .null, .null, .int v3]) (st' := [.int 169, .int v3]) (σ' := σ) rfl ?_
  refine xX_ite (c := 169 ≤ v3) (w := xw_178) (i := 64) (a := 75) (b := 65) (st' := []) eT_178 rfl rfl (fun hc12 => ?_) (fun hc12 => ?_)
  · rw [if_pos hc12] at h
    obtain rfl := Option.some.inj h
    exact hE σ rfl _ _ _
  · rw [if_neg hc12] at h
    refine xX_blk (w := xw_178) eT_178 6 65 (ls' := [.ref 141, .null, .null, .int v3]) (st' := [.int v3, .ref 148, .int v3, .ref 142]) (σ' := σ) rfl ?_
    obtain ⟨hi13, h⟩ := xgd_inv h
    refine xX_one (w := xw_178) (i := 71) (ls' := [.ref 141, .null, .null, .int v3]) (st' := [.int (σ 148 v3.toNatClampNeg), .int v3, .ref 142]) (σ' := σ) eT_178 rfl (e_iald xs_148 hi13) ?_
    obtain ⟨hi14, h⟩ := xgd_inv h
    refine xX_one (w := xw_178) (i := 72) (ls' := [.ref 141, .null, .null, .int v3]) (st' := []) (σ' := xup σ 142 v3.toNatClampNeg (σ 148 v3.toNatClampNeg)) eT_178 rfl (e_iast xs_142 hi14) ?_
    obtain ⟨σ15, eσ15, h⟩ := xlet_inv h
    rw [← eσ15]
    refine xX_blk (w := xw_178) eT_178 1 73 (ls' := [.ref 141, .null, .null, .int (v3 + 1)]) (st' := []) (σ' := σ15) rfl ?_
    refine xX_jmp (w := xw_178) (i := 74) (a := 61) (st' := []) eT_178 rfl rfl ?_
    obtain rfl := Option.some.inj h
    exact hB ((v3 + 1), σ15) rfl _ _
set_option maxHeartbeats 1000000 in
set_option maxRecDepth 20000 in
theorem TL_X11_drainsOne_59 {d : Nat} {o : Option Value × xM} (v3 : Int32) (σ : xM) {e : (xM)} (hd : 5 ≤ d) (h : L_X11_drainsOne_59 v3 σ = some e) (hE : ∀ (z1 z2 z3 : Value), xX xT xLn d 178 75 [.ref 141, z1, z2, z3] [] e o) (z1 : Value) (z2 : Value) : xX xT xLn d 178 61 [.ref 141, z1, z2, .int v3] [] σ o :=
  xloop_snd (X := fun s => ∀ (z1 z2 : Value), xX xT xLn d 178 61 [.ref 141, z1, z2, .int s.1] [] s.2 o) (Y := fun e' => ∀ (z1 z2 z3 : Value), xX xT xLn d 178 75 [.ref 141, z1, z2, z3] [] e' o) (fun s q hs hB hE z1 z2 => TB_X11_drainsOne_59 s.1 s.2 hd hs hB hE z1 z2) _ _ _ h hE z1 z2
def F_X11_drainsOne (σ : xM) : Option (xM) :=
  xbd (F_X11_over σ) fun r1 =>
  xbd (L_X11_drainsOne_10 (σ 142 8) r1.1 0 r1.2) fun e6 =>
  xbd (F_X11_caught (σ 142 8) e6) fun r7 =>
  if r7 = 0 then
    xbd (F_X11_goesOff (σ 142 8) e6) fun r9 =>
    xbd (F_X11_over r9) fun r10 =>
    if ((r10.1 &&& (r1.1 ^^^ (-1))) &&& (((1 : Int32) <<< ((σ 142 8) &&& 31)) ^^^ (-1))) = 0 then
      some r10.2
    else
      xbd (L_X11_drainsOne_59 0 r10.2) fun e16 =>
      xlet (xup e16 142 6 ((e16 142 6) + 1)) fun σ17 =>
      some σ17
  else
    xbd (F_X11_stepOf (σ 142 8) e6) fun r18 =>
    if r18 = 4 then
      xbd (F_X11_goesOff (σ 142 8) e6) fun r20 =>
      xbd (F_X11_over r20) fun r21 =>
      if ((r21.1 &&& (r1.1 ^^^ (-1))) &&& (((1 : Int32) <<< ((σ 142 8) &&& 31)) ^^^ (-1))) = 0 then
        some r21.2
      else
        xbd (L_X11_drainsOne_59 0 r21.2) fun e23 =>
        xlet (xup e23 142 6 ((e23 142 6) + 1)) fun σ24 =>
        some σ24
    else
      xbd (F_X11_stepOf (σ 142 8) e6) fun r25 =>
      xbd (F_X11_putsStep (σ 142 8) (r25 + 1) e6) fun r26 =>
      xbd (F_X11_over r26) fun r27 =>
      if ((r27.1 &&& (r1.1 ^^^ (-1))) &&& (((1 : Int32) <<< ((σ 142 8) &&& 31)) ^^^ (-1))) = 0 then
        some r27.2
      else
        xbd (L_X11_drainsOne_59 0 r27.2) fun e29 =>
        xlet (xup e29 142 6 ((e29 142 6) + 1)) fun σ30 =>
        some σ30
set_option maxHeartbeats 1000000 in
set_option maxRecDepth 20000 in
theorem T_X11_drainsOne (σ : xM) {d : Nat} {q : xM} (hd : 5 ≤ d) (h : F_X11_drainsOne σ = some q) : xR xT xLn d 178 [.ref 141] σ (none, q) := by
  unfold F_X11_drainsOne at h
  show xX xT xLn d 178 0 [.ref 141, .null, .null, .null] [] σ _
  refine xX_blk (w := xw_178) eT_178 3 0 (ls' := [.ref 141, .null, .null, .null]) (st' := [.int 8, .ref 142]) (σ' := σ) rfl ?_
  refine xX_one (w := xw_178) (i := 3) (ls' := [.ref 141, .null, .null, .null]) (st' := [.int (σ 142 8)]) (σ' := σ) eT_178 rfl (e_ialK xs_142 (by decide) (by decide)) ?_
  refine xX_blk (w := xw_178) eT_178 2 4 (ls' := [.ref 141, .int (σ 142 8), .null, .null]) (st' := [.ref 141]) (σ' := σ) rfl ?_
  obtain ⟨r1, hr1, h⟩ := xbd_inv h
  refine xX_c1 (w := xw_178) (i := 6) (ls := [.ref 141, .int (σ 142 8), .null, .null]) (rest := []) eT_178 rfl (by omega) rfl rfl rfl (T_X11_over σ (by omega) hr1) ?_
  refine xX_blk (w := xw_178) eT_178 3 7 (ls' := [.ref 141, .int (σ 142 8), .int r1.1, .int 0]) (st' := []) (σ' := r1.2) rfl ?_
  obtain ⟨e6, he6, h⟩ := xbd_inv h
  refine TL_X11_drainsOne_10 (σ 142 8) r1.1 0 r1.2 (by omega) he6 (fun z3 => ?_)
  refine xX_blk (w := xw_178) eT_178 3 24 (ls' := [.ref 141, .int (σ 142 8), .int r1.1, .null]) (st' := [.int (σ 142 8), .ref 141]) (σ' := e6) rfl ?_
  obtain ⟨r7, hr7, h⟩ := xbd_inv h
  refine xX_c1 (w := xw_178) (i := 27) (ls := [.ref 141, .int (σ 142 8), .int r1.1, .null]) (rest := []) eT_178 rfl (by omega) rfl rfl rfl (T_X11_caught (σ 142 8) e6 (by omega) hr7) ?_
  refine xX_ite (c := r7 = 0) (w := xw_178) (i := 28) (a := 34) (b := 29) (st' := []) eT_178 rfl rfl (fun hc8 => ?_) (fun hc8 => ?_)
  · rw [if_pos hc8] at h
    refine xX_blk (w := xw_178) eT_178 2 34 (ls' := [.ref 141, .int (σ 142 8), .int r1.1, .null]) (st' := [.int (σ 142 8), .ref 141]) (σ' := e6) rfl ?_
    obtain ⟨r9, hr9, h⟩ := xbd_inv h
    refine xX_c0 (w := xw_178) (i := 36) (ls := [.ref 141, .int (σ 142 8), .int r1.1, .null]) (rest := []) eT_178 rfl (by omega) rfl rfl rfl (T_X11_goesOff (σ 142 8) e6 (by omega) hr9) ?_
    refine xX_jmp (w := xw_178) (i := 37) (a := 46) (st' := []) eT_178 rfl rfl ?_
    refine xX_blk (w := xw_178) eT_178 1 46 (ls' := [.ref 141, .int (σ 142 8), .int r1.1, .null]) (st' := [.ref 141]) (σ' := r9) rfl ?_
    obtain ⟨r10, hr10, h⟩ := xbd_inv h
    refine xX_c1 (w := xw_178) (i := 47) (ls := [.ref 141, .int (σ 142 8), .int r1.1, .null]) (rest := []) eT_178 rfl (by omega) rfl rfl rfl (T_X11_over r9 (by omega) hr10) ?_
    refine xX_blk (w := xw_178) eT_178 10 48 (ls' := [.ref 141, .int (σ 142 8), .int r1.1, .null]) (st' := [.int ((r10.1 &&& (r1.1 ^^^ (-1))) &&& (((1 : Int32) <<< ((σ 142 8) &&& 31)) ^^^ (-1)))]) (σ' := r10.2) rfl ?_
    refine xX_ite (c := ((r10.1 &&& (r1.1 ^^^ (-1))) &&& (((1 : Int32) <<< ((σ 142 8) &&& 31)) ^^^ (-1))) = 0) (w := xw_178) (i := 58) (a := 84) (b := 59) (st' := []) eT_178 rfl rfl (fun hc11 => ?_) (fun hc11 => ?_)
    · rw [if_pos hc11] at h
      obtain rfl := Option.some.inj h
      exact xX_ret (w := xw_178) (i := 84) eT_178 rfl rfl
    · rw [if_neg hc11] at h
      refine xX_blk (w := xw_178) eT_178 2 59 (ls' := [.ref 141, .int (σ 142 8), .int r1.1, .int 0]) (st' := []) (σ' := r10.2) rfl ?_
      obtain ⟨e16, he16, h⟩ := xbd_inv h
      refine TL_X11_drainsOne_59 0 r10.2 (by omega) he16 (fun z1 z2 z3 => ?_) _ _
      refine xX_blk (w := xw_178) eT_178 5 75 (ls' := [.ref 141, .null, .null, .null]) (st' := [.int 6, .ref 142, .int 6, .ref 142]) (σ' := e16) rfl ?_
      refine xX_one (w := xw_178) (i := 80) (ls' := [.ref 141, .null, .null, .null]) (st' := [.int (e16 142 6), .int 6, .ref 142]) (σ' := e16) eT_178 rfl (e_ialK xs_142 (by decide) (by decide)) ?_
      refine xX_blk (w := xw_178) eT_178 2 81 (ls' := [.ref 141, .null, .null, .null]) (st' := [.int ((e16 142 6) + 1), .int 6, .ref 142]) (σ' := e16) rfl ?_
      refine xX_one (w := xw_178) (i := 83) (ls' := [.ref 141, .null, .null, .null]) (st' := []) (σ' := xup e16 142 6 ((e16 142 6) + 1)) eT_178 rfl (e_iasK xs_142 (by decide) (by decide)) ?_
      obtain ⟨σ17, eσ17, h⟩ := xlet_inv h
      rw [← eσ17]
      obtain rfl := Option.some.inj h
      exact xX_ret (w := xw_178) (i := 84) eT_178 rfl rfl
  · rw [if_neg hc8] at h
    refine xX_blk (w := xw_178) eT_178 2 29 (ls' := [.ref 141, .int (σ 142 8), .int r1.1, .null]) (st' := [.int (σ 142 8), .ref 141]) (σ' := e6) rfl ?_
    obtain ⟨r18, hr18, h⟩ := xbd_inv h
    refine xX_c1 (w := xw_178) (i := 31) (ls := [.ref 141, .int (σ 142 8), .int r1.1, .null]) (rest := []) eT_178 rfl (by omega) rfl rfl rfl (T_X11_stepOf (σ 142 8) e6 (by omega) hr18) ?_
    refine xX_blk (w := xw_178) eT_178 1 32 (ls' := [.ref 141, .int (σ 142 8), .int r1.1, .null]) (st' := [.int 4, .int r18]) (σ' := e6) rfl ?_
    refine xX_ite (c := r18 = 4) (w := xw_178) (i := 33) (a := 34) (b := 38) (st' := []) eT_178 rfl rfl (fun hc19 => ?_) (fun hc19 => ?_)
    · rw [if_pos hc19] at h
      refine xX_blk (w := xw_178) eT_178 2 34 (ls' := [.ref 141, .int (σ 142 8), .int r1.1, .null]) (st' := [.int (σ 142 8), .ref 141]) (σ' := e6) rfl ?_
      obtain ⟨r20, hr20, h⟩ := xbd_inv h
      refine xX_c0 (w := xw_178) (i := 36) (ls := [.ref 141, .int (σ 142 8), .int r1.1, .null]) (rest := []) eT_178 rfl (by omega) rfl rfl rfl (T_X11_goesOff (σ 142 8) e6 (by omega) hr20) ?_
      refine xX_jmp (w := xw_178) (i := 37) (a := 46) (st' := []) eT_178 rfl rfl ?_
      refine xX_blk (w := xw_178) eT_178 1 46 (ls' := [.ref 141, .int (σ 142 8), .int r1.1, .null]) (st' := [.ref 141]) (σ' := r20) rfl ?_
      obtain ⟨r21, hr21, h⟩ := xbd_inv h
      refine xX_c1 (w := xw_178) (i := 47) (ls := [.ref 141, .int (σ 142 8), .int r1.1, .null]) (rest := []) eT_178 rfl (by omega) rfl rfl rfl (T_X11_over r20 (by omega) hr21) ?_
      refine xX_blk (w := xw_178) eT_178 10 48 (ls' := [.ref 141, .int (σ 142 8), .int r1.1, .null]) (st' := [.int ((r21.1 &&& (r1.1 ^^^ (-1))) &&& (((1 : Int32) <<< ((σ 142 8) &&& 31)) ^^^ (-1)))]) (σ' := r21.2) rfl ?_
      refine xX_ite (c := ((r21.1 &&& (r1.1 ^^^ (-1))) &&& (((1 : Int32) <<< ((σ 142 8) &&& 31)) ^^^ (-1))) = 0) (w := xw_178) (i := 58) (a := 84) (b := 59) (st' := []) eT_178 rfl rfl (fun hc22 => ?_) (fun hc22 => ?_)
      · rw [if_pos hc22] at h
        obtain rfl := Option.some.inj h
        exact xX_ret (w := xw_178) (i := 84) eT_178 rfl rfl
      · rw [if_neg hc22] at h
        refine xX_blk (w := xw_178) eT_178 2 59 (ls' := [.ref 141, .int (σ 142 8), .int r1.1, .int 0]) (st' := []) (σ' := r21.2) rfl ?_
        obtain ⟨e23, he23, h⟩ := xbd_inv h
        refine TL_X11_drainsOne_59 0 r21.2 (by omega) he23 (fun z1 z2 z3 => ?_) _ _
        refine xX_blk (w := xw_178) eT_178 5 75 (ls' := [.ref 141, .null, .null, .null]) (st' := [.int 6, .ref 142, .int 6, .ref 142]) (σ' := e23) rfl ?_
        refine xX_one (w := xw_178) (i := 80) (ls' := [.ref 141, .null, .null, .null]) (st' := [.int (e23 142 6), .int 6, .ref 142]) (σ' := e23) eT_178 rfl (e_ialK xs_142 (by decide) (by decide)) ?_
        refine xX_blk (w := xw_178) eT_178 2 81 (ls' := [.ref 141, .null, .null, .null]) (st' := [.int ((e23 142 6) + 1), .int 6, .ref 142]) (σ' := e23) rfl ?_
        refine xX_one (w := xw_178) (i := 83) (ls' := [.ref 141, .null, .null, .null]) (st' := []) (σ' := xup e23 142 6 ((e23 142 6) + 1)) eT_178 rfl (e_iasK xs_142 (by decide) (by decide)) ?_
        obtain ⟨σ24, eσ24, h⟩ := xlet_inv h
        rw [← eσ24]
        obtain rfl := Option.some.inj h
        exact xX_ret (w := xw_178) (i := 84) eT_178 rfl rfl
    · rw [if_neg hc19] at h
      refine xX_blk (w := xw_178) eT_178 4 38 (ls' := [.ref 141, .int (σ 142 8), .int r1.1, .null]) (st' := [.int (σ 142 8), .ref 141, .int (σ 142 8), .ref 141]) (σ' := e6) rfl ?_
      obtain ⟨r25, hr25, h⟩ := xbd_inv h
      refine xX_c1 (w := xw_178) (i := 42) (ls := [.ref 141, .int (σ 142 8), .int r1.1, .null]) (rest := [.int (σ 142 8), .ref 141]) eT_178 rfl (by omega) rfl rfl rfl (T_X11_stepOf (σ 142 8) e6 (by omega) hr25) ?_
      refine xX_blk (w := xw_178) eT_178 2 43 (ls' := [.ref 141, .int (σ 142 8), .int r1.1, .null]) (st' := [.int (r25 + 1), .int (σ 142 8), .ref 141]) (σ' := e6) rfl ?_
      obtain ⟨r26, hr26, h⟩ := xbd_inv h
      refine xX_c0 (w := xw_178) (i := 45) (ls := [.ref 141, .int (σ 142 8), .int r1.1, .null]) (rest := []) eT_178 rfl (by omega) rfl rfl rfl (T_X11_putsStep (σ 142 8) (r25 + 1) e6 (by omega) hr26) ?_
      refine xX_blk (w := xw_178) eT_178 1 46 (ls' := [.ref 141, .int (σ 142 8), .int r1.1, .null]) (st' := [.ref 141]) (σ' := r26) rfl ?_
      obtain ⟨r27, hr27, h⟩ := xbd_inv h
      refine xX_c1 (w := xw_178) (i := 47) (ls := [.ref 141, .int (σ 142 8), .int r1.1, .null]) (rest := []) eT_178 rfl (by omega) rfl rfl rfl (T_X11_over r26 (by omega) hr27) ?_
      refine xX_blk (w := xw_178) eT_178 10 48 (ls' := [.ref 141, .int (σ 142 8), .int r1.1, .null]) (st' := [.int ((r27.1 &&& (r1.1 ^^^ (-1))) &&& (((1 : Int32) <<< ((σ 142 8) &&& 31)) ^^^ (-1)))]) (σ' := r27.2) rfl ?_
      refine xX_ite (c := ((r27.1 &&& (r1.1 ^^^ (-1))) &&& (((1 : Int32) <<< ((σ 142 8) &&& 31)) ^^^ (-1))) = 0) (w := xw_178) (i := 58) (a := 84) (b := 59) (st' := []) eT_178 rfl rfl (fun hc28 => ?_) (fun hc28 => ?_)
      · rw [if_pos hc28] at h
        obtain rfl := Option.some.inj h
        exact xX_ret (w := xw_178) (i := 84) eT_178 rfl rfl
      · rw [if_neg hc28] at h
        refine xX_blk (w := xw_178) eT_178 2 59 (ls' := [.ref 141, .int (σ 142 8), .int r1.1, .int 0]) (st' := []) (σ' := r27.2) rfl ?_
        obtain ⟨e29, he29, h⟩ := xbd_inv h
        refine TL_X11_drainsOne_59 0 r27.2 (by omega) he29 (fun z1 z2 z3 => ?_) _ _
        refine xX_blk (w := xw_178) eT_178 5 75 (ls' := [.ref 141, .null, .null, .null]) (st' := [.int 6, .ref 142, .int 6, .ref 142]) (σ' := e29) rfl ?_
        refine xX_one (w := xw_178) (i := 80) (ls' := [.ref 141, .null, .null, .null]) (st' := [.int (e29 142 6), .int 6, .ref 142]) (σ' := e29) eT_178 rfl (e_ialK xs_142 (by decide) (by decide)) ?_
        refine xX_blk (w := xw_178) eT_178 2 81 (ls' := [.ref 141, .null, .null, .null]) (st' := [.int ((e29 142 6) + 1), .int 6, .ref 142]) (σ' := e29) rfl ?_
        refine xX_one (w := xw_178) (i := 83) (ls' := [.ref 141, .null, .null, .null]) (st' := []) (σ' := xup e29 142 6 ((e29 142 6) + 1)) eT_178 rfl (e_iasK xs_142 (by decide) (by decide)) ?_
        obtain ⟨σ30, eσ30, h⟩ := xlet_inv h
        rw [← eσ30]
        obtain rfl := Option.some.inj h
        exact xX_ret (w := xw_178) (i := 84) eT_178 rfl rfl
def B_X11_ticksOne_15 (v1 : Int32) (σ : xM) : Option ((Int32 × xM) ⊕ ((xM))) :=
  if (σ 142 0) ≤ v1 then
    some (.inr σ)
  else
    xgd (xin v1 8) (
    xgd (xin ((29 : Int32) + v1) 169) (
    xlet (xup σ 142 ((29 : Int32) + v1).toNatClampNeg (σ 147 v1.toNatClampNeg)) fun σ8 =>
    some (.inl ((v1 + 1), σ8))))
def L_X11_ticksOne_15 (v1 : Int32) (σ : xM) : Option ((xM)) := xloop (fun s : Int32 × xM => B_X11_ticksOne_15 s.1 s.2) 6000 (v1, σ)
set_option maxHeartbeats 1000000 in
set_option maxRecDepth 20000 in
theorem TB_X11_ticksOne_15 {d : Nat} {o : Option Value × xM} (v1 : Int32) (σ : xM) {q : (Int32 × xM) ⊕ ((xM))} (hd : 4 ≤ d) (h : B_X11_ticksOne_15 v1 σ = some q) (hB : ∀ s', q = .inl s' → xX xT xLn d 179 15 [.ref 141, .int s'.1] [] s'.2 o) (hE : ∀ e', q = .inr e' → ∀ (z1 : Value), xX xT xLn d 179 34 [.ref 141, z1] [] e' o) : xX xT xLn d 179 15 [.ref 141, .int v1] [] σ o := by
  unfold B_X11_ticksOne_15 at h
  refine xX_blk (w := xw_179) eT_179 5 15 (ls' := [.ref 141, .int v1]) (st' := [.int 0, .ref 142, .int v1]) (σ' := σ) rfl ?_
  refine xX_one (w := xw_179) (i := 20) (ls' := [.ref 141, .int v1]) (st' := [.int (σ 142 0), .int v1]) (σ' := σ) eT_179 rfl (e_ialK xs_142 (by decide) (by decide)) ?_
  refine xX_ite (c := (σ 142 0) ≤ v1) (w := xw_179) (i := 21) (a := 34) (b := 22) (st' := []) eT_179 rfl rfl (fun hc5 => ?_) (fun hc5 => ?_)
  · rw [if_pos hc5] at h
    obtain rfl := Option.some.inj h
    exact hE σ rfl _
  · rw [if_neg hc5] at h
    refine xX_blk (w := xw_179) eT_179 8 22 (ls' := [.ref 141, .int v1]) (st' := [.int v1, .ref 147, .int ((29 : Int32) + v1), .ref 142]) (σ' := σ) rfl ?_
    obtain ⟨hi6, h⟩ := xgd_inv h
    refine xX_one (w := xw_179) (i := 30) (ls' := [.ref 141, .int v1]) (st' := [.int (σ 147 v1.toNatClampNeg), .int ((29 : Int32) + v1), .ref 142]) (σ' := σ) eT_179 rfl (e_iald xs_147 hi6) ?_
    obtain ⟨hi7, h⟩ := xgd_inv h
    refine xX_one (w := xw_179) (i := 31) (ls' := [.ref 141, .int v1]) (st' := []) (σ' := xup σ 142 ((29 : Int32) + v1).toNatClampNeg (σ 147 v1.toNatClampNeg)) eT_179 rfl (e_iast xs_142 hi7) ?_
    obtain ⟨σ8, eσ8, h⟩ := xlet_inv h
    rw [← eσ8]
    refine xX_blk (w := xw_179) eT_179 1 32 (ls' := [.ref 141, .int (v1 + 1)]) (st' := []) (σ' := σ8) rfl ?_
    refine xX_jmp (w := xw_179) (i := 33) (a := 15) (st' := []) eT_179 rfl rfl ?_
    obtain rfl := Option.some.inj h
    exact hB ((v1 + 1), σ8) rfl
set_option maxHeartbeats 1000000 in
set_option maxRecDepth 20000 in
theorem TL_X11_ticksOne_15 {d : Nat} {o : Option Value × xM} (v1 : Int32) (σ : xM) {e : (xM)} (hd : 4 ≤ d) (h : L_X11_ticksOne_15 v1 σ = some e) (hE : ∀ (z1 : Value), xX xT xLn d 179 34 [.ref 141, z1] [] e o) : xX xT xLn d 179 15 [.ref 141, .int v1] [] σ o :=
  xloop_snd (X := fun s => xX xT xLn d 179 15 [.ref 141, .int s.1] [] s.2 o) (Y := fun e' => ∀ (z1 : Value), xX xT xLn d 179 34 [.ref 141, z1] [] e' o) (fun s q hs hB hE => TB_X11_ticksOne_15 s.1 s.2 hd hs hB hE) _ _ _ h hE
def F_X11_ticksOne (σ : xM) : Option (xM) :=
  xbd (F_X11_laysWays σ) fun r1 =>
  xbd (F_X11_runsSessions r1) fun r2 =>
  if (r2 142 7) ≤ 0 then
    xbd (F_X11_laysCatches r2) fun r4 =>
    xbd (L_X11_ticksOne_15 0 r4) fun e9 =>
    xlet (xup e9 142 3 ((e9 142 3) + 1)) fun σ10 =>
    some σ10
  else
    xbd (F_X11_drainsOne r2) fun r11 =>
    xbd (F_X11_laysCatches r11) fun r12 =>
    xbd (L_X11_ticksOne_15 0 r12) fun e13 =>
    xlet (xup e13 142 3 ((e13 142 3) + 1)) fun σ14 =>
    some σ14
set_option maxHeartbeats 1000000 in
set_option maxRecDepth 20000 in
theorem T_X11_ticksOne (σ : xM) {d : Nat} {q : xM} (hd : 6 ≤ d) (h : F_X11_ticksOne σ = some q) : xR xT xLn d 179 [.ref 141] σ (none, q) := by
  unfold F_X11_ticksOne at h
  show xX xT xLn d 179 0 [.ref 141, .null] [] σ _
  refine xX_blk (w := xw_179) eT_179 1 0 (ls' := [.ref 141, .null]) (st' := [.ref 141]) (σ' := σ) rfl ?_
  obtain ⟨r1, hr1, h⟩ := xbd_inv h
  refine xX_c0 (w := xw_179) (i := 1) (ls := [.ref 141, .null]) (rest := []) eT_179 rfl (by omega) rfl rfl rfl (T_X11_laysWays σ (by omega) hr1) ?_
  refine xX_blk (w := xw_179) eT_179 1 2 (ls' := [.ref 141, .null]) (st' := [.ref 141]) (σ' := r1) rfl ?_
  obtain ⟨r2, hr2, h⟩ := xbd_inv h
  refine xX_c0 (w := xw_179) (i := 3) (ls := [.ref 141, .null]) (rest := []) eT_179 rfl (by omega) rfl rfl rfl (T_X11_runsSessions r1 (by omega) hr2) ?_
  refine xX_blk (w := xw_179) eT_179 3 4 (ls' := [.ref 141, .null]) (st' := [.int 7, .ref 142]) (σ' := r2) rfl ?_
  refine xX_one (w := xw_179) (i := 7) (ls' := [.ref 141, .null]) (st' := [.int (r2 142 7)]) (σ' := r2) eT_179 rfl (e_ialK xs_142 (by decide) (by decide)) ?_
  refine xX_ite (c := (r2 142 7) ≤ 0) (w := xw_179) (i := 8) (a := 11) (b := 9) (st' := []) eT_179 rfl rfl (fun hc3 => ?_) (fun hc3 => ?_)
  · rw [if_pos hc3] at h
    refine xX_blk (w := xw_179) eT_179 1 11 (ls' := [.ref 141, .null]) (st' := [.ref 141]) (σ' := r2) rfl ?_
    obtain ⟨r4, hr4, h⟩ := xbd_inv h
    refine xX_c0 (w := xw_179) (i := 12) (ls := [.ref 141, .null]) (rest := []) eT_179 rfl (by omega) rfl rfl rfl (T_X11_laysCatches r2 (by omega) hr4) ?_
    refine xX_blk (w := xw_179) eT_179 2 13 (ls' := [.ref 141, .int 0]) (st' := []) (σ' := r4) rfl ?_
    obtain ⟨e9, he9, h⟩ := xbd_inv h
    refine TL_X11_ticksOne_15 0 r4 (by omega) he9 (fun z1 => ?_)
    refine xX_blk (w := xw_179) eT_179 5 34 (ls' := [.ref 141, .null]) (st' := [.int 3, .ref 142, .int 3, .ref 142]) (σ' := e9) rfl ?_
    refine xX_one (w := xw_179) (i := 39) (ls' := [.ref 141, .null]) (st' := [.int (e9 142 3), .int 3, .ref 142]) (σ' := e9) eT_179 rfl (e_ialK xs_142 (by decide) (by decide)) ?_
    refine xX_blk (w := xw_179) eT_179 2 40 (ls' := [.ref 141, .null]) (st' := [.int ((e9 142 3) + 1), .int 3, .ref 142]) (σ' := e9) rfl ?_
    refine xX_one (w := xw_179) (i := 42) (ls' := [.ref 141, .null]) (st' := []) (σ' := xup e9 142 3 ((e9 142 3) + 1)) eT_179 rfl (e_iasK xs_142 (by decide) (by decide)) ?_
    obtain ⟨σ10, eσ10, h⟩ := xlet_inv h
    rw [← eσ10]
    obtain rfl := Option.some.inj h
    exact xX_ret (w := xw_179) (i := 43) eT_179 rfl rfl
  · rw [if_neg hc3] at h
    refine xX_blk (w := xw_179) eT_179 1 9 (ls' := [.ref 141, .null]) (st' := [.ref 141]) (σ' := r2) rfl ?_
    obtain ⟨r11, hr11, h⟩ := xbd_inv h
    refine xX_c0 (w := xw_179) (i := 10) (ls := [.ref 141, .null]) (rest := []) eT_179 rfl (by omega) rfl rfl rfl (T_X11_drainsOne r2 (by omega) hr11) ?_
    refine xX_blk (w := xw_179) eT_179 1 11 (ls' := [.ref 141, .null]) (st' := [.ref 141]) (σ' := r11) rfl ?_
    obtain ⟨r12, hr12, h⟩ := xbd_inv h
    refine xX_c0 (w := xw_179) (i := 12) (ls := [.ref 141, .null]) (rest := []) eT_179 rfl (by omega) rfl rfl rfl (T_X11_laysCatches r11 (by omega) hr12) ?_
    refine xX_blk (w := xw_179) eT_179 2 13 (ls' := [.ref 141, .int 0]) (st' := []) (σ' := r12) rfl ?_
    obtain ⟨e13, he13, h⟩ := xbd_inv h
    refine TL_X11_ticksOne_15 0 r12 (by omega) he13 (fun z1 => ?_)
    refine xX_blk (w := xw_179) eT_179 5 34 (ls' := [.ref 141, .null]) (st' := [.int 3, .ref 142, .int 3, .ref 142]) (σ' := e13) rfl ?_
    refine xX_one (w := xw_179) (i := 39) (ls' := [.ref 141, .null]) (st' := [.int (e13 142 3), .int 3, .ref 142]) (σ' := e13) eT_179 rfl (e_ialK xs_142 (by decide) (by decide)) ?_
    refine xX_blk (w := xw_179) eT_179 2 40 (ls' := [.ref 141, .null]) (st' := [.int ((e13 142 3) + 1), .int 3, .ref 142]) (σ' := e13) rfl ?_
    refine xX_one (w := xw_179) (i := 42) (ls' := [.ref 141, .null]) (st' := []) (σ' := xup e13 142 3 ((e13 142 3) + 1)) eT_179 rfl (e_iasK xs_142 (by decide) (by decide)) ?_
    obtain ⟨σ14, eσ14, h⟩ := xlet_inv h
    rw [← eσ14]
    obtain rfl := Option.some.inj h
    exact xX_ret (w := xw_179) (i := 43) eT_179 rfl rfl
def B_X11_tickNow_7 (p1 : Int32) (p2 : Int32) (v3 : Int32) (σ : xM) : Option ((Int32 × xM) ⊕ ((xM))) :=
  if p1 ≤ v3 then
    some (.inr σ)
  else
    xbd (F_X11_ticksOne σ) fun r2 =>
    some (.inl ((v3 + 1), r2))
def L_X11_tickNow_7 (p1 : Int32) (p2 : Int32) (v3 : Int32) (σ : xM) : Option ((xM)) := xloop (fun s : Int32 × xM => B_X11_tickNow_7 p1 p2 s.1 s.2) 6000 (v3, σ)
set_option maxHeartbeats 1000000 in
set_option maxRecDepth 20000 in
theorem TB_X11_tickNow_7 {d : Nat} {o : Option Value × xM} (p1 : Int32) (p2 : Int32) (v3 : Int32) (σ : xM) {q : (Int32 × xM) ⊕ ((xM))} (hd : 7 ≤ d) (h : B_X11_tickNow_7 p1 p2 v3 σ = some q) (hB : ∀ s', q = .inl s' → xX xT xLn d 180 7 [.ref 141, .int p1, .int p2, .int s'.1] [] s'.2 o) (hE : ∀ e', q = .inr e' → ∀ (z1 z3 : Value), xX xT xLn d 180 15 [.ref 141, z1, .int p2, z3] [] e' o) : xX xT xLn d 180 7 [.ref 141, .int p1, .int p2, .int v3] [] σ o := by
  unfold B_X11_tickNow_7 at h
  refine xX_blk (w := xw_180) eT_180 3 7 (ls' := [.ref 141, .int p1, .int p2, .int v3]) (st' := [.int p1, .int v3]) (σ' := σ) rfl ?_
  refine xX_ite (c := p1 ≤ v3) (w := xw_180) (i := 10) (a := 15) (b := 11) (st' := []) eT_180 rfl rfl (fun hc1 => ?_) (fun hc1 => ?_)
  · rw [if_pos hc1] at h
    obtain rfl := Option.some.inj h
    exact hE σ rfl _ _
  · rw [if_neg hc1] at h
    refine xX_blk (w := xw_180) eT_180 1 11 (ls' := [.ref 141, .int p1, .int p2, .int v3]) (st' := [.ref 141]) (σ' := σ) rfl ?_
    obtain ⟨r2, hr2, h⟩ := xbd_inv h
    refine xX_c0 (w := xw_180) (i := 12) (ls := [.ref 141, .int p1, .int p2, .int v3]) (rest := []) eT_180 rfl (by omega) rfl rfl rfl (T_X11_ticksOne σ (by omega) hr2) ?_
    refine xX_blk (w := xw_180) eT_180 1 13 (ls' := [.ref 141, .int p1, .int p2, .int (v3 + 1)]) (st' := []) (σ' := r2) rfl ?_
    refine xX_jmp (w := xw_180) (i := 14) (a := 7) (st' := []) eT_180 rfl rfl ?_
    obtain rfl := Option.some.inj h
    exact hB ((v3 + 1), r2) rfl
set_option maxHeartbeats 1000000 in
set_option maxRecDepth 20000 in
theorem TL_X11_tickNow_7 {d : Nat} {o : Option Value × xM} (p1 : Int32) (p2 : Int32) (v3 : Int32) (σ : xM) {e : (xM)} (hd : 7 ≤ d) (h : L_X11_tickNow_7 p1 p2 v3 σ = some e) (hE : ∀ (z1 z3 : Value), xX xT xLn d 180 15 [.ref 141, z1, .int p2, z3] [] e o) : xX xT xLn d 180 7 [.ref 141, .int p1, .int p2, .int v3] [] σ o :=
  xloop_snd (X := fun s => xX xT xLn d 180 7 [.ref 141, .int p1, .int p2, .int s.1] [] s.2 o) (Y := fun e' => ∀ (z1 z3 : Value), xX xT xLn d 180 15 [.ref 141, z1, .int p2, z3] [] e' o) (fun s q hs hB hE => TB_X11_tickNow_7 p1 p2 s.1 s.2 hd hs hB hE) _ _ _ h hE
def F_X11_tickNow (a : Int32) (σ : xM) : Option (Int32 × xM) :=
  xbd (L_X11_tickNow_7 a (σ 142 4) 0 σ) fun e3 =>
  some (((e3 142 4) - (σ 142 4)), e3)
set_option maxHeartbeats 1000000 in
set_option maxRecDepth 20000 in
theorem T_X11_tickNow (a : Int32) (σ : xM) {d : Nat} {q : Int32 × xM} (hd : 7 ≤ d) (h : F_X11_tickNow a σ = some q) : xR xT xLn d 180 [.ref 141, .int a] σ (some (.int q.1), q.2) := by
  unfold F_X11_tickNow at h
  show xX xT xLn d 180 0 [.ref 141, .int a, .null, .null] [] σ _
  refine xX_blk (w := xw_180) eT_180 3 0 (ls' := [.ref 141, .int a, .null, .null]) (st' := [.int 4, .ref 142]) (σ' := σ) rfl ?_
  refine xX_one (w := xw_180) (i := 3) (ls' := [.ref 141, .int a, .null, .null]) (st' := [.int (σ 142 4)]) (σ' := σ) eT_180 rfl (e_ialK xs_142 (by decide) (by decide)) ?_
  refine xX_blk (w := xw_180) eT_180 3 4 (ls' := [.ref 141, .int a, .int (σ 142 4), .int 0]) (st' := []) (σ' := σ) rfl ?_
  obtain ⟨e3, he3, h⟩ := xbd_inv h
  refine TL_X11_tickNow_7 a (σ 142 4) 0 σ (by omega) he3 (fun z1 z3 => ?_)
  refine xX_blk (w := xw_180) eT_180 4 15 (ls' := [.ref 141, .null, .int (σ 142 4), .null]) (st' := [.int 4, .ref 142]) (σ' := e3) rfl ?_
  refine xX_one (w := xw_180) (i := 19) (ls' := [.ref 141, .null, .int (σ 142 4), .null]) (st' := [.int (e3 142 4)]) (σ' := e3) eT_180 rfl (e_ialK xs_142 (by decide) (by decide)) ?_
  refine xX_blk (w := xw_180) eT_180 2 20 (ls' := [.ref 141, .null, .int (σ 142 4), .null]) (st' := [.int ((e3 142 4) - (σ 142 4))]) (σ' := e3) rfl ?_
  obtain rfl := Option.some.inj h
  exact xX_ret (w := xw_180) (i := 22) eT_180 rfl rfl
def F_X11_ticks (a : Int32) (σ : xM) : Option (Int32 × xM) :=
  xbd (F_X11_in ((a : Int32).toInt64) 1 30 σ) fun r1 =>
  if r1 = 0 then
    xbd (F_X11_refuses (-2) σ) fun r3 =>
    some (r3.1, r3.2)
  else
    xbd (F_X11_keep σ) fun r4 =>
    xbd (F_X11_tickNow a r4) fun r5 =>
    some (r5.1, r5.2)
set_option maxHeartbeats 1000000 in
set_option maxRecDepth 20000 in
theorem T_X11_ticks (a : Int32) (σ : xM) {d : Nat} {q : Int32 × xM} (hd : 8 ≤ d) (h : F_X11_ticks a σ = some q) : xR xT xLn d 181 [.ref 141, .int a] σ (some (.int q.1), q.2) := by
  unfold F_X11_ticks at h
  show xX xT xLn d 181 0 [.ref 141, .int a] [] σ _
  refine xX_blk (w := xw_181) eT_181 4 0 (ls' := [.ref 141, .int a]) (st' := [.long 30, .long 1, .long ((a : Int32).toInt64)]) (σ' := σ) rfl ?_
  obtain ⟨r1, hr1, h⟩ := xbd_inv h
  refine xX_c1 (w := xw_181) (i := 4) (ls := [.ref 141, .int a]) (rest := []) eT_181 rfl (by omega) rfl rfl rfl (T_X11_in ((a : Int32).toInt64) 1 30 σ (by omega) hr1) ?_
  refine xX_ite (c := r1 = 0) (w := xw_181) (i := 5) (a := 6) (b := 10) (st' := []) eT_181 rfl rfl (fun hc2 => ?_) (fun hc2 => ?_)
  · rw [if_pos hc2] at h
    refine xX_blk (w := xw_181) eT_181 2 6 (ls' := [.ref 141, .int a]) (st' := [.int (-2), .ref 141]) (σ' := σ) rfl ?_
    obtain ⟨r3, hr3, h⟩ := xbd_inv h
    refine xX_c1 (w := xw_181) (i := 8) (ls := [.ref 141, .int a]) (rest := []) eT_181 rfl (by omega) rfl rfl rfl (T_X11_refuses (-2) σ (by omega) hr3) ?_
    obtain rfl := Option.some.inj h
    exact xX_ret (w := xw_181) (i := 9) eT_181 rfl rfl
  · rw [if_neg hc2] at h
    refine xX_blk (w := xw_181) eT_181 1 10 (ls' := [.ref 141, .int a]) (st' := [.ref 141]) (σ' := σ) rfl ?_
    obtain ⟨r4, hr4, h⟩ := xbd_inv h
    refine xX_c0 (w := xw_181) (i := 11) (ls := [.ref 141, .int a]) (rest := []) eT_181 rfl (by omega) rfl rfl rfl (T_X11_keep σ (by omega) hr4) ?_
    refine xX_blk (w := xw_181) eT_181 2 12 (ls' := [.ref 141, .int a]) (st' := [.int a, .ref 141]) (σ' := r4) rfl ?_
    obtain ⟨r5, hr5, h⟩ := xbd_inv h
    refine xX_c1 (w := xw_181) (i := 14) (ls := [.ref 141, .int a]) (rest := []) eT_181 rfl (by omega) rfl rfl rfl (T_X11_tickNow a r4 (by omega) hr5) ?_
    obtain rfl := Option.some.inj h
    exact xX_ret (w := xw_181) (i := 15) eT_181 rfl rfl
def B_X11_stepsSum_4 (v1 : Int32) (v2 : Int32) (σ : xM) : Option ((Int32 × Int32) ⊕ ((Int32))) :=
  if (σ 142 1) ≤ v2 then
    some (.inr v1)
  else
    xbd (F_X11_stateOf v2 σ) fun r2 =>
    if r2 = 2 then
      some (.inl ((v1 + 0), (v2 + 1)))
    else
      xbd (F_X11_stepOf v2 σ) fun r4 =>
      some (.inl ((v1 + r4), (v2 + 1)))
def L_X11_stepsSum_4 (v1 : Int32) (v2 : Int32) (σ : xM) : Option ((Int32)) := xloop (fun s : Int32 × Int32 => B_X11_stepsSum_4 s.1 s.2 σ) 6000 (v1, v2)
set_option maxHeartbeats 1000000 in
set_option maxRecDepth 20000 in
theorem TB_X11_stepsSum_4 {d : Nat} {o : Option Value × xM} (v1 : Int32) (v2 : Int32) (σ : xM) {q : (Int32 × Int32) ⊕ ((Int32))} (hd : 1 ≤ d) (h : B_X11_stepsSum_4 v1 v2 σ = some q) (hB : ∀ s', q = .inl s' → xX xT xLn d 183 4 [.ref 141, .int s'.1, .int s'.2] [] σ o) (hE : ∀ e', q = .inr e' → ∀ (z0 z2 : Value), xX xT xLn d 183 26 [z0, .int e', z2] [] σ o) : xX xT xLn d 183 4 [.ref 141, .int v1, .int v2] [] σ o := by
  unfold B_X11_stepsSum_4 at h
  refine xX_blk (w := xw_183) eT_183 5 4 (ls' := [.ref 141, .int v1, .int v2]) (st' := [.int 1, .ref 142, .int v2]) (σ' := σ) rfl ?_
  refine xX_one (w := xw_183) (i := 9) (ls' := [.ref 141, .int v1, .int v2]) (st' := [.int (σ 142 1), .int v2]) (σ' := σ) eT_183 rfl (e_ialK xs_142 (by decide) (by decide)) ?_
  refine xX_ite (c := (σ 142 1) ≤ v2) (w := xw_183) (i := 10) (a := 26) (b := 11) (st' := []) eT_183 rfl rfl (fun hc1 => ?_) (fun hc1 => ?_)
  · rw [if_pos hc1] at h
    obtain rfl := Option.some.inj h
    exact hE v1 rfl _ _
  · rw [if_neg hc1] at h
    refine xX_blk (w := xw_183) eT_183 3 11 (ls' := [.ref 141, .int v1, .int v2]) (st' := [.int v2, .ref 141, .int v1]) (σ' := σ) rfl ?_
    obtain ⟨r2, hr2, h⟩ := xbd_inv h
    refine xX_c1 (w := xw_183) (i := 14) (ls := [.ref 141, .int v1, .int v2]) (rest := [.int v1]) eT_183 rfl (by omega) rfl rfl rfl (T_X11_stateOf v2 σ (by omega) hr2) ?_
    refine xX_blk (w := xw_183) eT_183 1 15 (ls' := [.ref 141, .int v1, .int v2]) (st' := [.int 2, .int r2, .int v1]) (σ' := σ) rfl ?_
    refine xX_ite (c := r2 = 2) (w := xw_183) (i := 16) (a := 17) (b := 19) (st' := [.int v1]) eT_183 rfl rfl (fun hc3 => ?_) (fun hc3 => ?_)
    · rw [if_pos hc3] at h
      refine xX_blk (w := xw_183) eT_183 1 17 (ls' := [.ref 141, .int v1, .int v2]) (st' := [.int 0, .int v1]) (σ' := σ) rfl ?_
      refine xX_jmp (w := xw_183) (i := 18) (a := 22) (st' := [.int 0, .int v1]) eT_183 rfl rfl ?_
      refine xX_blk (w := xw_183) eT_183 3 22 (ls' := [.ref 141, .int (v1 + 0), .int (v2 + 1)]) (st' := []) (σ' := σ) rfl ?_
      refine xX_jmp (w := xw_183) (i := 25) (a := 4) (st' := []) eT_183 rfl rfl ?_
      obtain rfl := Option.some.inj h
      exact hB ((v1 + 0), (v2 + 1)) rfl
    · rw [if_neg hc3] at h
      refine xX_blk (w := xw_183) eT_183 2 19 (ls' := [.ref 141, .int v1, .int v2]) (st' := [.int v2, .ref 141, .int v1]) (σ' := σ) rfl ?_
      obtain ⟨r4, hr4, h⟩ := xbd_inv h
      refine xX_c1 (w := xw_183) (i := 21) (ls := [.ref 141, .int v1, .int v2]) (rest := [.int v1]) eT_183 rfl (by omega) rfl rfl rfl (T_X11_stepOf v2 σ (by omega) hr4) ?_
      refine xX_blk (w := xw_183) eT_183 3 22 (ls' := [.ref 141, .int (v1 + r4), .int (v2 + 1)]) (st' := []) (σ' := σ) rfl ?_
      refine xX_jmp (w := xw_183) (i := 25) (a := 4) (st' := []) eT_183 rfl rfl ?_
      obtain rfl := Option.some.inj h
      exact hB ((v1 + r4), (v2 + 1)) rfl
set_option maxHeartbeats 1000000 in
set_option maxRecDepth 20000 in
theorem TL_X11_stepsSum_4 {d : Nat} {o : Option Value × xM} (v1 : Int32) (v2 : Int32) (σ : xM) {e : (Int32)} (hd : 1 ≤ d) (h : L_X11_stepsSum_4 v1 v2 σ = some e) (hE : ∀ (z0 z2 : Value), xX xT xLn d 183 26 [z0, .int e, z2] [] σ o) : xX xT xLn d 183 4 [.ref 141, .int v1, .int v2] [] σ o :=
  xloop_snd (X := fun s => xX xT xLn d 183 4 [.ref 141, .int s.1, .int s.2] [] σ o) (Y := fun e' => ∀ (z0 z2 : Value), xX xT xLn d 183 26 [z0, .int e', z2] [] σ o) (fun s q hs hB hE => TB_X11_stepsSum_4 s.1 s.2 σ hd hs hB hE) _ _ _ h hE
def F_X11_stepsSum (σ : xM) : Option (Int32) :=
  xbd (L_X11_stepsSum_4 0 0 σ) fun e5 =>
  some e5
set_option maxHeartbeats 1000000 in
set_option maxRecDepth 20000 in
theorem T_X11_stepsSum (σ : xM) {d : Nat} {q : Int32} (hd : 1 ≤ d) (h : F_X11_stepsSum σ = some q) : xR xT xLn d 183 [.ref 141] σ (some (.int q), σ) := by
  unfold F_X11_stepsSum at h
  show xX xT xLn d 183 0 [.ref 141, .null, .null] [] σ _
  refine xX_blk (w := xw_183) eT_183 4 0 (ls' := [.ref 141, .int 0, .int 0]) (st' := []) (σ' := σ) rfl ?_
  obtain ⟨e5, he5, h⟩ := xbd_inv h
  refine TL_X11_stepsSum_4 0 0 σ (by omega) he5 (fun z0 z2 => ?_)
  refine xX_blk (w := xw_183) eT_183 2 26 (ls' := [.null, .int e5, .null]) (st' := [.int e5]) (σ' := σ) rfl ?_
  obtain rfl := Option.some.inj h
  exact xX_ret (w := xw_183) (i := 28) eT_183 rfl rfl
def B_X11_nextSteps_7 (v1 : Int32) (σ : xM) : Option ((Int32 × xM) ⊕ ((Int32 × xM) ⊕ (xM))) :=
  if v1 < 0 then
    some (.inr (.inr σ))
  else
    xbd (F_X11_stateOf v1 σ) fun r2 =>
    if r2 = 2 then
      some (.inl ((v1 + (-1)), σ))
    else
      xbd (F_X11_stepOf v1 σ) fun r4 =>
      if 4 ≤ r4 then
        xbd (F_X11_putsStep v1 0 σ) fun r6 =>
        some (.inl ((v1 + (-1)), r6))
      else
        some (.inr (.inl (v1, σ)))
def L_X11_nextSteps_7 (v1 : Int32) (σ : xM) : Option ((Int32 × xM) ⊕ (xM)) := xloop (fun s : Int32 × xM => B_X11_nextSteps_7 s.1 s.2) 6000 (v1, σ)
set_option maxHeartbeats 1000000 in
set_option maxRecDepth 20000 in
theorem TB_X11_nextSteps_7 {d : Nat} {o : Option Value × xM} (v1 : Int32) (σ : xM) {q : (Int32 × xM) ⊕ ((Int32 × xM) ⊕ (xM))} (hd : 1 ≤ d) (h : B_X11_nextSteps_7 v1 σ = some q) (hB : ∀ s', q = .inl s' → xX xT xLn d 182 7 [.ref 141, .int s'.1] [] s'.2 o) (hE : ∀ e', q = .inr e' → (∀ a, e' = .inl a → xX xT xLn d 182 20 [.ref 141, .int a.1] [] a.2 o) ∧ (∀ a, e' = .inr (a) → ∀ (z0 z1 : Value), xX xT xLn d 182 37 [z0, z1] [] a o)) : xX xT xLn d 182 7 [.ref 141, .int v1] [] σ o := by
  unfold B_X11_nextSteps_7 at h
  refine xX_blk (w := xw_182) eT_182 2 7 (ls' := [.ref 141, .int v1]) (st' := [.int v1]) (σ' := σ) rfl ?_
  refine xX_ite (c := v1 < 0) (w := xw_182) (i := 9) (a := 37) (b := 10) (st' := []) eT_182 rfl rfl (fun hc1 => ?_) (fun hc1 => ?_)
  · rw [if_pos hc1] at h
    obtain rfl := Option.some.inj h
    exact (hE (.inr σ) rfl).2 σ rfl _ _
  · rw [if_neg hc1] at h
    refine xX_blk (w := xw_182) eT_182 2 10 (ls' := [.ref 141, .int v1]) (st' := [.int v1, .ref 141]) (σ' := σ) rfl ?_
    obtain ⟨r2, hr2, h⟩ := xbd_inv h
    refine xX_c1 (w := xw_182) (i := 12) (ls := [.ref 141, .int v1]) (rest := []) eT_182 rfl (by omega) rfl rfl rfl (T_X11_stateOf v1 σ (by omega) hr2) ?_
    refine xX_blk (w := xw_182) eT_182 1 13 (ls' := [.ref 141, .int v1]) (st' := [.int 2, .int r2]) (σ' := σ) rfl ?_
    refine xX_ite (c := r2 = 2) (w := xw_182) (i := 14) (a := 35) (b := 15) (st' := []) eT_182 rfl rfl (fun hc3 => ?_) (fun hc3 => ?_)
    · rw [if_pos hc3] at h
      refine xX_blk (w := xw_182) eT_182 1 35 (ls' := [.ref 141, .int (v1 + (-1))]) (st' := []) (σ' := σ) rfl ?_
      refine xX_jmp (w := xw_182) (i := 36) (a := 7) (st' := []) eT_182 rfl rfl ?_
      obtain rfl := Option.some.inj h
      exact hB ((v1 + (-1)), σ) rfl
    · rw [if_neg hc3] at h
      refine xX_blk (w := xw_182) eT_182 2 15 (ls' := [.ref 141, .int v1]) (st' := [.int v1, .ref 141]) (σ' := σ) rfl ?_
      obtain ⟨r4, hr4, h⟩ := xbd_inv h
      refine xX_c1 (w := xw_182) (i := 17) (ls := [.ref 141, .int v1]) (rest := []) eT_182 rfl (by omega) rfl rfl rfl (T_X11_stepOf v1 σ (by omega) hr4) ?_
      refine xX_blk (w := xw_182) eT_182 1 18 (ls' := [.ref 141, .int v1]) (st' := [.int 4, .int r4]) (σ' := σ) rfl ?_
      refine xX_ite (c := 4 ≤ r4) (w := xw_182) (i := 19) (a := 31) (b := 20) (st' := []) eT_182 rfl rfl (fun hc5 => ?_) (fun hc5 => ?_)
      · rw [if_pos hc5] at h
        refine xX_blk (w := xw_182) eT_182 3 31 (ls' := [.ref 141, .int v1]) (st' := [.int 0, .int v1, .ref 141]) (σ' := σ) rfl ?_
        obtain ⟨r6, hr6, h⟩ := xbd_inv h
        refine xX_c0 (w := xw_182) (i := 34) (ls := [.ref 141, .int v1]) (rest := []) eT_182 rfl (by omega) rfl rfl rfl (T_X11_putsStep v1 0 σ (by omega) hr6) ?_
        refine xX_blk (w := xw_182) eT_182 1 35 (ls' := [.ref 141, .int (v1 + (-1))]) (st' := []) (σ' := r6) rfl ?_
        refine xX_jmp (w := xw_182) (i := 36) (a := 7) (st' := []) eT_182 rfl rfl ?_
        obtain rfl := Option.some.inj h
        exact hB ((v1 + (-1)), r6) rfl
      · rw [if_neg hc5] at h
        obtain rfl := Option.some.inj h
        exact (hE (.inl (v1, σ)) rfl).1 (v1, σ) rfl
set_option maxHeartbeats 1000000 in
set_option maxRecDepth 20000 in
theorem TL_X11_nextSteps_7 {d : Nat} {o : Option Value × xM} (v1 : Int32) (σ : xM) {e : (Int32 × xM) ⊕ (xM)} (hd : 1 ≤ d) (h : L_X11_nextSteps_7 v1 σ = some e) (hE0 : ∀ a, e = .inl a → xX xT xLn d 182 20 [.ref 141, .int a.1] [] a.2 o) (hE1 : ∀ a, e = .inr (a) → ∀ (z0 z1 : Value), xX xT xLn d 182 37 [z0, z1] [] a o) : xX xT xLn d 182 7 [.ref 141, .int v1] [] σ o :=
  xloop_snd (X := fun s => xX xT xLn d 182 7 [.ref 141, .int s.1] [] s.2 o) (Y := fun e' => (∀ a, e' = .inl a → xX xT xLn d 182 20 [.ref 141, .int a.1] [] a.2 o) ∧ (∀ a, e' = .inr (a) → ∀ (z0 z1 : Value), xX xT xLn d 182 37 [z0, z1] [] a o)) (fun s q hs hB hE => TB_X11_nextSteps_7 s.1 s.2 hd hs hB hE) _ _ _ h ⟨hE0, hE1⟩
def F_X11_nextSteps (σ : xM) : Option (Int32 × xM) :=
  xbd (L_X11_nextSteps_7 ((σ 142 1) - 1) σ) fun e7 =>
  xsm e7 (fun ae70 =>
    xbd (F_X11_stepOf ae70.1 ae70.2) fun r8 =>
    xbd (F_X11_putsStep ae70.1 (r8 + 1) ae70.2) fun r9 =>
    some (1, r9))
  (fun ae71 =>
    some (0, ae71))
set_option maxHeartbeats 1000000 in
set_option maxRecDepth 20000 in
theorem T_X11_nextSteps (σ : xM) {d : Nat} {q : Int32 × xM} (hd : 1 ≤ d) (h : F_X11_nextSteps σ = some q) : xR xT xLn d 182 [.ref 141] σ (some (.int q.1), q.2) := by
  unfold F_X11_nextSteps at h
  show xX xT xLn d 182 0 [.ref 141, .null] [] σ _
  refine xX_blk (w := xw_182) eT_182 3 0 (ls' := [.ref 141, .null]) (st' := [.int 1, .ref 142]) (σ' := σ) rfl ?_
  refine xX_one (w := xw_182) (i := 3) (ls' := [.ref 141, .null]) (st' := [.int (σ 142 1)]) (σ' := σ) eT_182 rfl (e_ialK xs_142 (by decide) (by decide)) ?_
  refine xX_blk (w := xw_182) eT_182 3 4 (ls' := [.ref 141, .int ((σ 142 1) - 1)]) (st' := []) (σ' := σ) rfl ?_
  obtain ⟨e7, he7, h⟩ := xbd_inv h
  refine TL_X11_nextSteps_7 ((σ 142 1) - 1) σ (by omega) he7 (fun ae70 hee70 => ?_) (fun ae71 hee71 z0 z1 => ?_)
  · subst hee70
    rw [xsm_l] at h
    refine xX_blk (w := xw_182) eT_182 5 20 (ls' := [.ref 141, .int ae70.1]) (st' := [.int ae70.1, .ref 141, .int ae70.1, .ref 141]) (σ' := ae70.2) rfl ?_
    obtain ⟨r8, hr8, h⟩ := xbd_inv h
    refine xX_c1 (w := xw_182) (i := 25) (ls := [.ref 141, .int ae70.1]) (rest := [.int ae70.1, .ref 141]) eT_182 rfl (by omega) rfl rfl rfl (T_X11_stepOf ae70.1 ae70.2 (by omega) hr8) ?_
    refine xX_blk (w := xw_182) eT_182 2 26 (ls' := [.ref 141, .int ae70.1]) (st' := [.int (r8 + 1), .int ae70.1, .ref 141]) (σ' := ae70.2) rfl ?_
    obtain ⟨r9, hr9, h⟩ := xbd_inv h
    refine xX_c0 (w := xw_182) (i := 28) (ls := [.ref 141, .int ae70.1]) (rest := []) eT_182 rfl (by omega) rfl rfl rfl (T_X11_putsStep ae70.1 (r8 + 1) ae70.2 (by omega) hr9) ?_
    refine xX_blk (w := xw_182) eT_182 1 29 (ls' := [.ref 141, .int ae70.1]) (st' := [.int 1]) (σ' := r9) rfl ?_
    obtain rfl := Option.some.inj h
    exact xX_ret (w := xw_182) (i := 30) eT_182 rfl (e_ret2 (by decide))
  · subst hee71
    rw [xsm_r] at h
    refine xX_blk (w := xw_182) eT_182 2 37 (ls' := [.null, .null]) (st' := [.int 0]) (σ' := ae71) rfl ?_
    obtain rfl := Option.some.inj h
    exact xX_ret (w := xw_182) (i := 39) eT_182 rfl (e_ret2 (by decide))
def B_X11_findsPlan_6 (p1 : Int32) (v2 : Int32) (σ : xM) : Option ((Int32 × xM) ⊕ ((xM))) :=
  if (σ 142 1) ≤ v2 then
    some (.inr σ)
  else
    xbd (F_X11_stepOf v2 σ) fun r3 =>
    xgd (xin v2 5) (
    xlet (xup σ 150 v2.toNatClampNeg r3) fun σ5 =>
    xbd (F_X11_stateOf v2 σ5) fun r6 =>
    if r6 = 2 then
      xbd (F_X11_stepOf v2 σ5) fun r8 =>
      xbd (F_X11_putsStep v2 r8 σ5) fun r9 =>
      some (.inl ((v2 + 1), r9))
    else
      xbd (F_X11_putsStep v2 0 σ5) fun r10 =>
      some (.inl ((v2 + 1), r10)))
def L_X11_findsPlan_6 (p1 : Int32) (v2 : Int32) (σ : xM) : Option ((xM)) := xloop (fun s : Int32 × xM => B_X11_findsPlan_6 p1 s.1 s.2) 6000 (v2, σ)
set_option maxHeartbeats 1000000 in
set_option maxRecDepth 20000 in
theorem TB_X11_findsPlan_6 {d : Nat} {o : Option Value × xM} (p1 : Int32) (v2 : Int32) (σ : xM) {q : (Int32 × xM) ⊕ ((xM))} (hd : 1 ≤ d) (h : B_X11_findsPlan_6 p1 v2 σ = some q) (hB : ∀ s', q = .inl s' → ∀ (z3 : Value), xX xT xLn d 184 6 [.ref 141, .int p1, .int s'.1, z3] [] s'.2 o) (hE : ∀ e', q = .inr e' → ∀ (z2 z3 : Value), xX xT xLn d 184 35 [.ref 141, .int p1, z2, z3] [] e' o) (z3 : Value) : xX xT xLn d 184 6 [.ref 141, .int p1, .int v2, z3] [] σ o := by
  unfold B_X11_findsPlan_6 at h
  refine xX_blk (w := xw_184) eT_184 5 6 (ls' := [.ref 141, .int p1, .int v2, .null]) (st' := [.int 1, .ref 142, .int v2]) (σ' := σ) rfl ?_
  refine xX_one (w := xw_184) (i := 11) (ls' := [.ref 141, .int p1, .int v2, .null]) (st' := [.int (σ 142 1), .int v2]) (σ' := σ) eT_184 rfl (e_ialK xs_142 (by decide) (by decide)) ?_
  refine xX_ite (c := (σ 142 1) ≤ v2) (w := xw_184) (i := 12) (a := 35) (b := 13) (st' := []) eT_184 rfl rfl (fun hc2 => ?_) (fun hc2 => ?_)
  · rw [if_pos hc2] at h
    obtain rfl := Option.some.inj h
    exact hE σ rfl _ _
  · rw [if_neg hc2] at h
    refine xX_blk (w := xw_184) eT_184 5 13 (ls' := [.ref 141, .int p1, .int v2, .null]) (st' := [.int v2, .ref 141, .int v2, .ref 150]) (σ' := σ) rfl ?_
    obtain ⟨r3, hr3, h⟩ := xbd_inv h
    refine xX_c1 (w := xw_184) (i := 18) (ls := [.ref 141, .int p1, .int v2, .null]) (rest := [.int v2, .ref 150]) eT_184 rfl (by omega) rfl rfl rfl (T_X11_stepOf v2 σ (by omega) hr3) ?_
    obtain ⟨hi4, h⟩ := xgd_inv h
    refine xX_one (w := xw_184) (i := 19) (ls' := [.ref 141, .int p1, .int v2, .null]) (st' := []) (σ' := xup σ 150 v2.toNatClampNeg r3) eT_184 rfl (e_iast xs_150 hi4) ?_
    obtain ⟨σ5, eσ5, h⟩ := xlet_inv h
    rw [← eσ5]
    refine xX_blk (w := xw_184) eT_184 4 20 (ls' := [.ref 141, .int p1, .int v2, .null]) (st' := [.int v2, .ref 141, .int v2, .ref 141]) (σ' := σ5) rfl ?_
    obtain ⟨r6, hr6, h⟩ := xbd_inv h
    refine xX_c1 (w := xw_184) (i := 24) (ls := [.ref 141, .int p1, .int v2, .null]) (rest := [.int v2, .ref 141]) eT_184 rfl (by omega) rfl rfl rfl (T_X11_stateOf v2 σ5 (by omega) hr6) ?_
    refine xX_blk (w := xw_184) eT_184 1 25 (ls' := [.ref 141, .int p1, .int v2, .null]) (st' := [.int 2, .int r6, .int v2, .ref 141]) (σ' := σ5) rfl ?_
    refine xX_ite (c := r6 = 2) (w := xw_184) (i := 26) (a := 27) (b := 31) (st' := [.int v2, .ref 141]) eT_184 rfl rfl (fun hc7 => ?_) (fun hc7 => ?_)
    · rw [if_pos hc7] at h
      refine xX_blk (w := xw_184) eT_184 2 27 (ls' := [.ref 141, .int p1, .int v2, .null]) (st' := [.int v2, .ref 141, .int v2, .ref 141]) (σ' := σ5) rfl ?_
      obtain ⟨r8, hr8, h⟩ := xbd_inv h
      refine xX_c1 (w := xw_184) (i := 29) (ls := [.ref 141, .int p1, .int v2, .null]) (rest := [.int v2, .ref 141]) eT_184 rfl (by omega) rfl rfl rfl (T_X11_stepOf v2 σ5 (by omega) hr8) ?_
      refine xX_jmp (w := xw_184) (i := 30) (a := 32) (st' := [.int r8, .int v2, .ref 141]) eT_184 rfl rfl ?_
      obtain ⟨r9, hr9, h⟩ := xbd_inv h
      refine xX_c0 (w := xw_184) (i := 32) (ls := [.ref 141, .int p1, .int v2, .null]) (rest := []) eT_184 rfl (by omega) rfl rfl rfl (T_X11_putsStep v2 r8 σ5 (by omega) hr9) ?_
      refine xX_blk (w := xw_184) eT_184 1 33 (ls' := [.ref 141, .int p1, .int (v2 + 1), .null]) (st' := []) (σ' := r9) rfl ?_
      refine xX_jmp (w := xw_184) (i := 34) (a := 6) (st' := []) eT_184 rfl rfl ?_
      obtain rfl := Option.some.inj h
      exact hB ((v2 + 1), r9) rfl _
    · rw [if_neg hc7] at h
      refine xX_blk (w := xw_184) eT_184 1 31 (ls' := [.ref 141, .int p1, .int v2, .null]) (st' := [.int 0, .int v2, .ref 141]) (σ' := σ5) rfl ?_
      obtain ⟨r10, hr10, h⟩ := xbd_inv h
      refine xX_c0 (w := xw_184) (i := 32) (ls := [.ref 141, .int p1, .int v2, .null]) (rest := []) eT_184 rfl (by omega) rfl rfl rfl (T_X11_putsStep v2 0 σ5 (by omega) hr10) ?_
      refine xX_blk (w := xw_184) eT_184 1 33 (ls' := [.ref 141, .int p1, .int (v2 + 1), .null]) (st' := []) (σ' := r10) rfl ?_
      refine xX_jmp (w := xw_184) (i := 34) (a := 6) (st' := []) eT_184 rfl rfl ?_
      obtain rfl := Option.some.inj h
      exact hB ((v2 + 1), r10) rfl _
set_option maxHeartbeats 1000000 in
set_option maxRecDepth 20000 in
theorem TL_X11_findsPlan_6 {d : Nat} {o : Option Value × xM} (p1 : Int32) (v2 : Int32) (σ : xM) {e : (xM)} (hd : 1 ≤ d) (h : L_X11_findsPlan_6 p1 v2 σ = some e) (hE : ∀ (z2 z3 : Value), xX xT xLn d 184 35 [.ref 141, .int p1, z2, z3] [] e o) (z3 : Value) : xX xT xLn d 184 6 [.ref 141, .int p1, .int v2, z3] [] σ o :=
  xloop_snd (X := fun s => ∀ (z3 : Value), xX xT xLn d 184 6 [.ref 141, .int p1, .int s.1, z3] [] s.2 o) (Y := fun e' => ∀ (z2 z3 : Value), xX xT xLn d 184 35 [.ref 141, .int p1, z2, z3] [] e' o) (fun s q hs hB hE z3 => TB_X11_findsPlan_6 p1 s.1 s.2 hd hs hB hE z3) _ _ _ h hE z3
def B_X11_findsPlan_53 (p1 : Int32) (v3 : Int32) (σ : xM) : Option ((Int32 × xM) ⊕ ((xM))) :=
  if (σ 142 1) ≤ v3 then
    some (.inr σ)
  else
    xbd (F_X11_stepOf v3 σ) fun r18 =>
    xgd (xin v3 5) (
    xlet (xup σ 149 v3.toNatClampNeg r18) fun σ20 =>
    some (.inl ((v3 + 1), σ20)))
def L_X11_findsPlan_53 (p1 : Int32) (v3 : Int32) (σ : xM) : Option ((xM)) := xloop (fun s : Int32 × xM => B_X11_findsPlan_53 p1 s.1 s.2) 6000 (v3, σ)
set_option maxHeartbeats 1000000 in
set_option maxRecDepth 20000 in
theorem TB_X11_findsPlan_53 {d : Nat} {o : Option Value × xM} (p1 : Int32) (v3 : Int32) (σ : xM) {q : (Int32 × xM) ⊕ ((xM))} (hd : 5 ≤ d) (h : B_X11_findsPlan_53 p1 v3 σ = some q) (hB : ∀ s', q = .inl s' → ∀ (z2 : Value), xX xT xLn d 184 56 [.ref 141, .int p1, z2, .int s'.1] [] s'.2 o) (hE : ∀ e', q = .inr e' → ∀ (z2 z3 : Value), xX xT xLn d 184 72 [.ref 141, .int p1, z2, z3] [] e' o) (z2 : Value) : xX xT xLn d 184 56 [.ref 141, .int p1, z2, .int v3] [] σ o := by
  unfold B_X11_findsPlan_53 at h
  refine xX_blk (w := xw_184) eT_184 5 56 (ls' := [.ref 141, .int p1, .null, .int v3]) (st' := [.int 1, .ref 142, .int v3]) (σ' := σ) rfl ?_
  refine xX_one (w := xw_184) (i := 61) (ls' := [.ref 141, .int p1, .null, .int v3]) (st' := [.int (σ 142 1), .int v3]) (σ' := σ) eT_184 rfl (e_ialK xs_142 (by decide) (by decide)) ?_
  refine xX_ite (c := (σ 142 1) ≤ v3) (w := xw_184) (i := 62) (a := 72) (b := 63) (st' := []) eT_184 rfl rfl (fun hc17 => ?_) (fun hc17 => ?_)
  · rw [if_pos hc17] at h
    obtain rfl := Option.some.inj h
    exact hE σ rfl _ _
  · rw [if_neg hc17] at h
    refine xX_blk (w := xw_184) eT_184 5 63 (ls' := [.ref 141, .int p1, .null, .int v3]) (st' := [.int v3, .ref 141, .int v3, .ref 149]) (σ' := σ) rfl ?_
    obtain ⟨r18, hr18, h⟩ := xbd_inv h
    refine xX_c1 (w := xw_184) (i := 68) (ls := [.ref 141, .int p1, .null, .int v3]) (rest := [.int v3, .ref 149]) eT_184 rfl (by omega) rfl rfl rfl (T_X11_stepOf v3 σ (by omega) hr18) ?_
    obtain ⟨hi19, h⟩ := xgd_inv h
    refine xX_one (w := xw_184) (i := 69) (ls' := [.ref 141, .int p1, .null, .int v3]) (st' := []) (σ' := xup σ 149 v3.toNatClampNeg r18) eT_184 rfl (e_iast xs_149 hi19) ?_
    obtain ⟨σ20, eσ20, h⟩ := xlet_inv h
    rw [← eσ20]
    refine xX_blk (w := xw_184) eT_184 1 70 (ls' := [.ref 141, .int p1, .null, .int (v3 + 1)]) (st' := []) (σ' := σ20) rfl ?_
    refine xX_jmp (w := xw_184) (i := 71) (a := 56) (st' := []) eT_184 rfl rfl ?_
    obtain rfl := Option.some.inj h
    exact hB ((v3 + 1), σ20) rfl _
set_option maxHeartbeats 1000000 in
set_option maxRecDepth 20000 in
theorem TL_X11_findsPlan_53 {d : Nat} {o : Option Value × xM} (p1 : Int32) (v3 : Int32) (σ : xM) {e : (xM)} (hd : 5 ≤ d) (h : L_X11_findsPlan_53 p1 v3 σ = some e) (hE : ∀ (z2 z3 : Value), xX xT xLn d 184 72 [.ref 141, .int p1, z2, z3] [] e o) (z2 : Value) : xX xT xLn d 184 56 [.ref 141, .int p1, z2, .int v3] [] σ o :=
  xloop_snd (X := fun s => ∀ (z2 : Value), xX xT xLn d 184 56 [.ref 141, .int p1, z2, .int s.1] [] s.2 o) (Y := fun e' => ∀ (z2 z3 : Value), xX xT xLn d 184 72 [.ref 141, .int p1, z2, z3] [] e' o) (fun s q hs hB hE z2 => TB_X11_findsPlan_53 p1 s.1 s.2 hd hs hB hE z2) _ _ _ h hE z2
def B_X11_findsPlan_36 (v1 : Int32) (v2 : Int32) (σ : xM) : Option ((Int32 × Int32 × xM) ⊕ ((Int32 × xM))) :=
  if v2 = 0 then
    some (.inr (v1, σ))
  else
    if v1 = (-1) then
      xbd (F_X11_over σ) fun r14 =>
      if r14.1 = 0 then
        xbd (F_X11_stepsSum r14.2) fun r16 =>
        xbd (L_X11_findsPlan_53 r16 0 r14.2) fun e21 =>
        xbd (F_X11_nextSteps e21) fun r22 =>
        some (.inl (r16, r22.1, r22.2))
      else
        xbd (F_X11_nextSteps r14.2) fun r23 =>
        some (.inl (v1, r23.1, r23.2))
    else
      xbd (F_X11_stepsSum σ) fun r24 =>
      if v1 ≤ r24 then
        xbd (F_X11_nextSteps σ) fun r26 =>
        some (.inl (v1, r26.1, r26.2))
      else
        xbd (F_X11_over σ) fun r27 =>
        if r27.1 = 0 then
          xbd (F_X11_stepsSum r27.2) fun r29 =>
          xbd (L_X11_findsPlan_53 r29 0 r27.2) fun e30 =>
          xbd (F_X11_nextSteps e30) fun r31 =>
          some (.inl (r29, r31.1, r31.2))
        else
          xbd (F_X11_nextSteps r27.2) fun r32 =>
          some (.inl (v1, r32.1, r32.2))
def L_X11_findsPlan_36 (v1 : Int32) (v2 : Int32) (σ : xM) : Option ((Int32 × xM)) := xloop (fun s : Int32 × Int32 × xM => B_X11_findsPlan_36 s.1 s.2.1 s.2.2) 6000 (v1, v2, σ)
set_option maxHeartbeats 1000000 in
set_option maxRecDepth 20000 in
theorem TB_X11_findsPlan_36 {d : Nat} {o : Option Value × xM} (v1 : Int32) (v2 : Int32) (σ : xM) {q : (Int32 × Int32 × xM) ⊕ ((Int32 × xM))} (hd : 5 ≤ d) (h : B_X11_findsPlan_36 v1 v2 σ = some q) (hB : ∀ s', q = .inl s' → ∀ (z3 : Value), xX xT xLn d 184 38 [.ref 141, .int s'.1, .int s'.2.1, z3] [] s'.2.2 o) (hE : ∀ e', q = .inr e' → ∀ (z2 z3 : Value), xX xT xLn d 184 77 [.ref 141, .int e'.1, z2, z3] [] e'.2 o) (z3 : Value) : xX xT xLn d 184 38 [.ref 141, .int v1, .int v2, z3] [] σ o := by
  unfold B_X11_findsPlan_36 at h
  refine xX_blk (w := xw_184) eT_184 2 38 (ls' := [.ref 141, .int v1, .int v2, .null]) (st' := [.int v2]) (σ' := σ) rfl ?_
  refine xX_ite (c := v2 = 0) (w := xw_184) (i := 40) (a := 77) (b := 41) (st' := []) eT_184 rfl rfl (fun hc12 => ?_) (fun hc12 => ?_)
  · rw [if_pos hc12] at h
    obtain rfl := Option.some.inj h
    exact hE (v1, σ) rfl _ _
  · rw [if_neg hc12] at h
    refine xX_blk (w := xw_184) eT_184 2 41 (ls' := [.ref 141, .int v1, .int v2, .null]) (st' := [.int (-1), .int v1]) (σ' := σ) rfl ?_
    refine xX_ite (c := v1 = (-1)) (w := xw_184) (i := 43) (a := 48) (b := 44) (st' := []) eT_184 rfl rfl (fun hc13 => ?_) (fun hc13 => ?_)
    · rw [if_pos hc13] at h
      refine xX_blk (w := xw_184) eT_184 1 48 (ls' := [.ref 141, .int v1, .int v2, .null]) (st' := [.ref 141]) (σ' := σ) rfl ?_
      obtain ⟨r14, hr14, h⟩ := xbd_inv h
      refine xX_c1 (w := xw_184) (i := 49) (ls := [.ref 141, .int v1, .int v2, .null]) (rest := []) eT_184 rfl (by omega) rfl rfl rfl (T_X11_over σ (by omega) hr14) ?_
      refine xX_ite (c := r14.1 = 0) (w := xw_184) (i := 50) (a := 51) (b := 72) (st' := []) eT_184 rfl rfl (fun hc15 => ?_) (fun hc15 => ?_)
      · rw [if_pos hc15] at h
        refine xX_blk (w := xw_184) eT_184 1 51 (ls' := [.ref 141, .int v1, .int v2, .null]) (st' := [.ref 141]) (σ' := r14.2) rfl ?_
        obtain ⟨r16, hr16, h⟩ := xbd_inv h
        refine xX_c1 (w := xw_184) (i := 52) (ls := [.ref 141, .int v1, .int v2, .null]) (rest := []) eT_184 rfl (by omega) rfl rfl rfl (T_X11_stepsSum r14.2 (by omega) hr16) ?_
        refine xX_blk (w := xw_184) eT_184 3 53 (ls' := [.ref 141, .int r16, .int v2, .int 0]) (st' := []) (σ' := r14.2) rfl ?_
        obtain ⟨e21, he21, h⟩ := xbd_inv h
        refine TL_X11_findsPlan_53 r16 0 r14.2 (by omega) he21 (fun z2 z3 => ?_) _
        refine xX_blk (w := xw_184) eT_184 2 72 (ls' := [.ref 141, .int r16, .null, .null]) (st' := [.ref 141]) (σ' := e21) rfl ?_
        obtain ⟨r22, hr22, h⟩ := xbd_inv h
        refine xX_c1 (w := xw_184) (i := 74) (ls := [.ref 141, .int r16, .null, .null]) (rest := []) eT_184 rfl (by omega) rfl rfl rfl (T_X11_nextSteps e21 (by omega) hr22) ?_
        refine xX_blk (w := xw_184) eT_184 1 75 (ls' := [.ref 141, .int r16, .int r22.1, .null]) (st' := []) (σ' := r22.2) rfl ?_
        refine xX_jmp (w := xw_184) (i := 76) (a := 38) (st' := []) eT_184 rfl rfl ?_
        obtain rfl := Option.some.inj h
        exact hB (r16, r22.1, r22.2) rfl _
      · rw [if_neg hc15] at h
        refine xX_blk (w := xw_184) eT_184 2 72 (ls' := [.ref 141, .int v1, .null, .null]) (st' := [.ref 141]) (σ' := r14.2) rfl ?_
        obtain ⟨r23, hr23, h⟩ := xbd_inv h
        refine xX_c1 (w := xw_184) (i := 74) (ls := [.ref 141, .int v1, .null, .null]) (rest := []) eT_184 rfl (by omega) rfl rfl rfl (T_X11_nextSteps r14.2 (by omega) hr23) ?_
        refine xX_blk (w := xw_184) eT_184 1 75 (ls' := [.ref 141, .int v1, .int r23.1, .null]) (st' := []) (σ' := r23.2) rfl ?_
        refine xX_jmp (w := xw_184) (i := 76) (a := 38) (st' := []) eT_184 rfl rfl ?_
        obtain rfl := Option.some.inj h
        exact hB (v1, r23.1, r23.2) rfl _
    · rw [if_neg hc13] at h
      refine xX_blk (w := xw_184) eT_184 1 44 (ls' := [.ref 141, .int v1, .int v2, .null]) (st' := [.ref 141]) (σ' := σ) rfl ?_
      obtain ⟨r24, hr24, h⟩ := xbd_inv h
      refine xX_c1 (w := xw_184) (i := 45) (ls := [.ref 141, .int v1, .int v2, .null]) (rest := []) eT_184 rfl (by omega) rfl rfl rfl (T_X11_stepsSum σ (by omega) hr24) ?_
      refine xX_blk (w := xw_184) eT_184 1 46 (ls' := [.ref 141, .int v1, .int v2, .null]) (st' := [.int v1, .int r24]) (σ' := σ) rfl ?_
      refine xX_ite (c := v1 ≤ r24) (w := xw_184) (i := 47) (a := 72) (b := 48) (st' := []) eT_184 rfl rfl (fun hc25 => ?_) (fun hc25 => ?_)
      · rw [if_pos hc25] at h
        refine xX_blk (w := xw_184) eT_184 2 72 (ls' := [.ref 141, .int v1, .null, .null]) (st' := [.ref 141]) (σ' := σ) rfl ?_
        obtain ⟨r26, hr26, h⟩ := xbd_inv h
        refine xX_c1 (w := xw_184) (i := 74) (ls := [.ref 141, .int v1, .null, .null]) (rest := []) eT_184 rfl (by omega) rfl rfl rfl (T_X11_nextSteps σ (by omega) hr26) ?_
        refine xX_blk (w := xw_184) eT_184 1 75 (ls' := [.ref 141, .int v1, .int r26.1, .null]) (st' := []) (σ' := r26.2) rfl ?_
        refine xX_jmp (w := xw_184) (i := 76) (a := 38) (st' := []) eT_184 rfl rfl ?_
        obtain rfl := Option.some.inj h
        exact hB (v1, r26.1, r26.2) rfl _
      · rw [if_neg hc25] at h
        refine xX_blk (w := xw_184) eT_184 1 48 (ls' := [.ref 141, .int v1, .int v2, .null]) (st' := [.ref 141]) (σ' := σ) rfl ?_
        obtain ⟨r27, hr27, h⟩ := xbd_inv h
        refine xX_c1 (w := xw_184) (i := 49) (ls := [.ref 141, .int v1, .int v2, .null]) (rest := []) eT_184 rfl (by omega) rfl rfl rfl (T_X11_over σ (by omega) hr27) ?_
        refine xX_ite (c := r27.1 = 0) (w := xw_184) (i := 50) (a := 51) (b := 72) (st' := []) eT_184 rfl rfl (fun hc28 => ?_) (fun hc28 => ?_)
        · rw [if_pos hc28] at h
          refine xX_blk (w := xw_184) eT_184 1 51 (ls' := [.ref 141, .int v1, .int v2, .null]) (st' := [.ref 141]) (σ' := r27.2) rfl ?_
          obtain ⟨r29, hr29, h⟩ := xbd_inv h
          refine xX_c1 (w := xw_184) (i := 52) (ls := [.ref 141, .int v1, .int v2, .null]) (rest := []) eT_184 rfl (by omega) rfl rfl rfl (T_X11_stepsSum r27.2 (by omega) hr29) ?_
          refine xX_blk (w := xw_184) eT_184 3 53 (ls' := [.ref 141, .int r29, .int v2, .int 0]) (st' := []) (σ' := r27.2) rfl ?_
          obtain ⟨e30, he30, h⟩ := xbd_inv h
          refine TL_X11_findsPlan_53 r29 0 r27.2 (by omega) he30 (fun z2 z3 => ?_) _
          refine xX_blk (w := xw_184) eT_184 2 72 (ls' := [.ref 141, .int r29, .null, .null]) (st' := [.ref 141]) (σ' := e30) rfl ?_
          obtain ⟨r31, hr31, h⟩ := xbd_inv h
          refine xX_c1 (w := xw_184) (i := 74) (ls := [.ref 141, .int r29, .null, .null]) (rest := []) eT_184 rfl (by omega) rfl rfl rfl (T_X11_nextSteps e30 (by omega) hr31) ?_
          refine xX_blk (w := xw_184) eT_184 1 75 (ls' := [.ref 141, .int r29, .int r31.1, .null]) (st' := []) (σ' := r31.2) rfl ?_
          refine xX_jmp (w := xw_184) (i := 76) (a := 38) (st' := []) eT_184 rfl rfl ?_
          obtain rfl := Option.some.inj h
          exact hB (r29, r31.1, r31.2) rfl _
        · rw [if_neg hc28] at h
          refine xX_blk (w := xw_184) eT_184 2 72 (ls' := [.ref 141, .int v1, .null, .null]) (st' := [.ref 141]) (σ' := r27.2) rfl ?_
          obtain ⟨r32, hr32, h⟩ := xbd_inv h
          refine xX_c1 (w := xw_184) (i := 74) (ls := [.ref 141, .int v1, .null, .null]) (rest := []) eT_184 rfl (by omega) rfl rfl rfl (T_X11_nextSteps r27.2 (by omega) hr32) ?_
          refine xX_blk (w := xw_184) eT_184 1 75 (ls' := [.ref 141, .int v1, .int r32.1, .null]) (st' := []) (σ' := r32.2) rfl ?_
          refine xX_jmp (w := xw_184) (i := 76) (a := 38) (st' := []) eT_184 rfl rfl ?_
          obtain rfl := Option.some.inj h
          exact hB (v1, r32.1, r32.2) rfl _
set_option maxHeartbeats 1000000 in
set_option maxRecDepth 20000 in
theorem TL_X11_findsPlan_36 {d : Nat} {o : Option Value × xM} (v1 : Int32) (v2 : Int32) (σ : xM) {e : (Int32 × xM)} (hd : 5 ≤ d) (h : L_X11_findsPlan_36 v1 v2 σ = some e) (hE : ∀ (z2 z3 : Value), xX xT xLn d 184 77 [.ref 141, .int e.1, z2, z3] [] e.2 o) (z3 : Value) : xX xT xLn d 184 38 [.ref 141, .int v1, .int v2, z3] [] σ o :=
  xloop_snd (X := fun s => ∀ (z3 : Value), xX xT xLn d 184 38 [.ref 141, .int s.1, .int s.2.1, z3] [] s.2.2 o) (Y := fun e' => ∀ (z2 z3 : Value), xX xT xLn d 184 77 [.ref 141, .int e'.1, z2, z3] [] e'.2 o) (fun s q hs hB hE z3 => TB_X11_findsPlan_36 s.1 s.2.1 s.2.2 hd hs hB hE z3) _ _ _ h hE z3
def B_X11_findsPlan_74 (p1 : Int32) (v3 : Int32) (σ : xM) : Option ((Int32 × xM) ⊕ ((xM))) :=
  if (σ 142 1) ≤ v3 then
    some (.inr σ)
  else
    xgd (xin v3 5) (
    xbd (F_X11_putsStep v3 (σ 150 v3.toNatClampNeg) σ) fun r36 =>
    some (.inl ((v3 + 1), r36)))
def L_X11_findsPlan_74 (p1 : Int32) (v3 : Int32) (σ : xM) : Option ((xM)) := xloop (fun s : Int32 × xM => B_X11_findsPlan_74 p1 s.1 s.2) 6000 (v3, σ)
set_option maxHeartbeats 1000000 in
set_option maxRecDepth 20000 in
theorem TB_X11_findsPlan_74 {d : Nat} {o : Option Value × xM} (p1 : Int32) (v3 : Int32) (σ : xM) {q : (Int32 × xM) ⊕ ((xM))} (hd : 5 ≤ d) (h : B_X11_findsPlan_74 p1 v3 σ = some q) (hB : ∀ s', q = .inl s' → ∀ (z2 : Value), xX xT xLn d 184 80 [.ref 141, .int p1, z2, .int s'.1] [] s'.2 o) (hE : ∀ e', q = .inr e' → ∀ (z0 z2 z3 : Value), xX xT xLn d 184 96 [z0, .int p1, z2, z3] [] e' o) (z2 : Value) : xX xT xLn d 184 80 [.ref 141, .int p1, z2, .int v3] [] σ o := by
  unfold B_X11_findsPlan_74 at h
  refine xX_blk (w := xw_184) eT_184 5 80 (ls' := [.ref 141, .int p1, .null, .int v3]) (st' := [.int 1, .ref 142, .int v3]) (σ' := σ) rfl ?_
  refine xX_one (w := xw_184) (i := 85) (ls' := [.ref 141, .int p1, .null, .int v3]) (st' := [.int (σ 142 1), .int v3]) (σ' := σ) eT_184 rfl (e_ialK xs_142 (by decide) (by decide)) ?_
  refine xX_ite (c := (σ 142 1) ≤ v3) (w := xw_184) (i := 86) (a := 96) (b := 87) (st' := []) eT_184 rfl rfl (fun hc34 => ?_) (fun hc34 => ?_)
  · rw [if_pos hc34] at h
    obtain rfl := Option.some.inj h
    exact hE σ rfl _ _ _
  · rw [if_neg hc34] at h
    refine xX_blk (w := xw_184) eT_184 5 87 (ls' := [.ref 141, .int p1, .null, .int v3]) (st' := [.int v3, .ref 150, .int v3, .ref 141]) (σ' := σ) rfl ?_
    obtain ⟨hi35, h⟩ := xgd_inv h
    refine xX_one (w := xw_184) (i := 92) (ls' := [.ref 141, .int p1, .null, .int v3]) (st' := [.int (σ 150 v3.toNatClampNeg), .int v3, .ref 141]) (σ' := σ) eT_184 rfl (e_iald xs_150 hi35) ?_
    obtain ⟨r36, hr36, h⟩ := xbd_inv h
    refine xX_c0 (w := xw_184) (i := 93) (ls := [.ref 141, .int p1, .null, .int v3]) (rest := []) eT_184 rfl (by omega) rfl rfl rfl (T_X11_putsStep v3 (σ 150 v3.toNatClampNeg) σ (by omega) hr36) ?_
    refine xX_blk (w := xw_184) eT_184 1 94 (ls' := [.ref 141, .int p1, .null, .int (v3 + 1)]) (st' := []) (σ' := r36) rfl ?_
    refine xX_jmp (w := xw_184) (i := 95) (a := 80) (st' := []) eT_184 rfl rfl ?_
    obtain rfl := Option.some.inj h
    exact hB ((v3 + 1), r36) rfl _
set_option maxHeartbeats 1000000 in
set_option maxRecDepth 20000 in
theorem TL_X11_findsPlan_74 {d : Nat} {o : Option Value × xM} (p1 : Int32) (v3 : Int32) (σ : xM) {e : (xM)} (hd : 5 ≤ d) (h : L_X11_findsPlan_74 p1 v3 σ = some e) (hE : ∀ (z0 z2 z3 : Value), xX xT xLn d 184 96 [z0, .int p1, z2, z3] [] e o) (z2 : Value) : xX xT xLn d 184 80 [.ref 141, .int p1, z2, .int v3] [] σ o :=
  xloop_snd (X := fun s => ∀ (z2 : Value), xX xT xLn d 184 80 [.ref 141, .int p1, z2, .int s.1] [] s.2 o) (Y := fun e' => ∀ (z0 z2 z3 : Value), xX xT xLn d 184 96 [z0, .int p1, z2, z3] [] e' o) (fun s q hs hB hE z2 => TB_X11_findsPlan_74 p1 s.1 s.2 hd hs hB hE z2) _ _ _ h hE z2
def F_X11_findsPlan (σ : xM) : Option (Int32 × xM) :=
  xbd (F_X11_laysWays σ) fun r1 =>
  xbd (L_X11_findsPlan_6 (-1) 0 r1) fun e11 =>
  xbd (L_X11_findsPlan_36 (-1) 1 e11) fun e33 =>
  xbd (L_X11_findsPlan_74 e33.1 0 e33.2) fun e37 =>
  some (e33.1, e37)
set_option maxHeartbeats 1000000 in
set_option maxRecDepth 20000 in
theorem T_X11_findsPlan (σ : xM) {d : Nat} {q : Int32 × xM} (hd : 5 ≤ d) (h : F_X11_findsPlan σ = some q) : xR xT xLn d 184 [.ref 141] σ (some (.int q.1), q.2) := by
  unfold F_X11_findsPlan at h
  show xX xT xLn d 184 0 [.ref 141, .null, .null, .null] [] σ _
  refine xX_blk (w := xw_184) eT_184 3 0 (ls' := [.ref 141, .int (-1), .null, .null]) (st' := [.ref 141]) (σ' := σ) rfl ?_
  obtain ⟨r1, hr1, h⟩ := xbd_inv h
  refine xX_c0 (w := xw_184) (i := 3) (ls := [.ref 141, .int (-1), .null, .null]) (rest := []) eT_184 rfl (by omega) rfl rfl rfl (T_X11_laysWays σ (by omega) hr1) ?_
  refine xX_blk (w := xw_184) eT_184 2 4 (ls' := [.ref 141, .int (-1), .int 0, .null]) (st' := []) (σ' := r1) rfl ?_
  obtain ⟨e11, he11, h⟩ := xbd_inv h
  refine TL_X11_findsPlan_6 (-1) 0 r1 (by omega) he11 (fun z2 z3 => ?_) _
  refine xX_blk (w := xw_184) eT_184 3 35 (ls' := [.ref 141, .int (-1), .int 1, .null]) (st' := []) (σ' := e11) rfl ?_
  obtain ⟨e33, he33, h⟩ := xbd_inv h
  refine TL_X11_findsPlan_36 (-1) 1 e11 (by omega) he33 (fun z2 z3 => ?_) _
  refine xX_blk (w := xw_184) eT_184 3 77 (ls' := [.ref 141, .int e33.1, .null, .int 0]) (st' := []) (σ' := e33.2) rfl ?_
  obtain ⟨e37, he37, h⟩ := xbd_inv h
  refine TL_X11_findsPlan_74 e33.1 0 e33.2 (by omega) he37 (fun z0 z2 z3 => ?_) _
  refine xX_blk (w := xw_184) eT_184 2 96 (ls' := [.null, .int e33.1, .null, .null]) (st' := [.int e33.1]) (σ' := e37) rfl ?_
  obtain rfl := Option.some.inj h
  exact xX_ret (w := xw_184) (i := 98) eT_184 rfl rfl
