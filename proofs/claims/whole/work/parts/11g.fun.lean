def F_X11_areaNow (a : Int32) (σ : xM) : Option (Int32 × xM) :=
  xgd (xin ((13 : Int32) + (σ 142 0)) 169) (
  xlet (xup σ 142 ((13 : Int32) + (σ 142 0)).toNatClampNeg a) fun σ2 =>
  xgd (xin ((21 : Int32) + (σ 142 0)) 169) (
  xlet (xup σ2 142 ((21 : Int32) + (σ 142 0)).toNatClampNeg 0) fun σ4 =>
  xgd (xin ((29 : Int32) + (σ 142 0)) 169) (
  xlet (xup σ4 142 ((29 : Int32) + (σ 142 0)).toNatClampNeg (-1)) fun σ6 =>
  xlet (xup σ6 142 0 ((σ6 142 0) + 1)) fun σ7 =>
  some ((σ 142 0), σ7))))
set_option maxHeartbeats 1000000 in
set_option maxRecDepth 20000 in
theorem T_X11_areaNow (a : Int32) (σ : xM) {d : Nat} {q : Int32 × xM} (hd : 0 ≤ d) (h : F_X11_areaNow a σ = some q) : xR xT xLn d 137 [.ref 141, .int a] σ (some (.int q.1), q.2) := by
  unfold F_X11_areaNow at h
  show xX xT xLn d 137 0 [.ref 141, .int a, .null] [] σ _
  refine xX_blk (w := xw_137) eT_137 3 0 (ls' := [.ref 141, .int a, .null]) (st' := [.int 0, .ref 142]) (σ' := σ) rfl ?_
  refine xX_one (w := xw_137) (i := 3) (ls' := [.ref 141, .int a, .null]) (st' := [.int (σ 142 0)]) (σ' := σ) eT_137 rfl (e_ialK xs_142 (by decide) (by decide)) ?_
  refine xX_blk (w := xw_137) eT_137 7 4 (ls' := [.ref 141, .int a, .int (σ 142 0)]) (st' := [.int a, .int ((13 : Int32) + (σ 142 0)), .ref 142]) (σ' := σ) rfl ?_
  obtain ⟨hi1, h⟩ := xgd_inv h
  refine xX_one (w := xw_137) (i := 11) (ls' := [.ref 141, .int a, .int (σ 142 0)]) (st' := []) (σ' := xup σ 142 ((13 : Int32) + (σ 142 0)).toNatClampNeg a) eT_137 rfl (e_iast xs_142 hi1) ?_
  obtain ⟨σ2, eσ2, h⟩ := xlet_inv h
  rw [← eσ2]
  refine xX_blk (w := xw_137) eT_137 6 12 (ls' := [.ref 141, .int a, .int (σ 142 0)]) (st' := [.int 0, .int ((21 : Int32) + (σ 142 0)), .ref 142]) (σ' := σ2) rfl ?_
  obtain ⟨hi3, h⟩ := xgd_inv h
  refine xX_one (w := xw_137) (i := 18) (ls' := [.ref 141, .int a, .int (σ 142 0)]) (st' := []) (σ' := xup σ2 142 ((21 : Int32) + (σ 142 0)).toNatClampNeg 0) eT_137 rfl (e_iast xs_142 hi3) ?_
  obtain ⟨σ4, eσ4, h⟩ := xlet_inv h
  rw [← eσ4]
  refine xX_blk (w := xw_137) eT_137 6 19 (ls' := [.ref 141, .int a, .int (σ 142 0)]) (st' := [.int (-1), .int ((29 : Int32) + (σ 142 0)), .ref 142]) (σ' := σ4) rfl ?_
  obtain ⟨hi5, h⟩ := xgd_inv h
  refine xX_one (w := xw_137) (i := 25) (ls' := [.ref 141, .int a, .int (σ 142 0)]) (st' := []) (σ' := xup σ4 142 ((29 : Int32) + (σ 142 0)).toNatClampNeg (-1)) eT_137 rfl (e_iast xs_142 hi5) ?_
  obtain ⟨σ6, eσ6, h⟩ := xlet_inv h
  rw [← eσ6]
  refine xX_blk (w := xw_137) eT_137 4 26 (ls' := [.ref 141, .int a, .int (σ 142 0)]) (st' := [.int 0, .ref 142, .int 0, .ref 142]) (σ' := σ6) rfl ?_
  refine xX_one (w := xw_137) (i := 30) (ls' := [.ref 141, .int a, .int (σ 142 0)]) (st' := [.int (σ6 142 0), .int 0, .ref 142]) (σ' := σ6) eT_137 rfl (e_ialK xs_142 (by decide) (by decide)) ?_
  refine xX_blk (w := xw_137) eT_137 2 31 (ls' := [.ref 141, .int a, .int (σ 142 0)]) (st' := [.int ((σ6 142 0) + 1), .int 0, .ref 142]) (σ' := σ6) rfl ?_
  refine xX_one (w := xw_137) (i := 33) (ls' := [.ref 141, .int a, .int (σ 142 0)]) (st' := []) (σ' := xup σ6 142 0 ((σ6 142 0) + 1)) eT_137 rfl (e_iasK xs_142 (by decide) (by decide)) ?_
  obtain ⟨σ7, eσ7, h⟩ := xlet_inv h
  rw [← eσ7]
  refine xX_blk (w := xw_137) eT_137 1 34 (ls' := [.ref 141, .int a, .int (σ 142 0)]) (st' := [.int (σ 142 0)]) (σ' := σ7) rfl ?_
  obtain rfl := Option.some.inj h
  exact xX_ret (w := xw_137) (i := 35) eT_137 rfl rfl
def F_X11_refuses (a : Int32) (σ : xM) : Option (Int32 × xM) :=
  xgd (xin ((-2 : Int32) - a) 3) (
  xgd (xin ((-2 : Int32) - a) 3) (
  xlet (xup σ 145 ((-2 : Int32) - a).toNatClampNeg ((σ 145 ((-2 : Int32) - a).toNatClampNeg) + 1)) fun σ3 =>
  some (a, σ3)))
set_option maxHeartbeats 1000000 in
set_option maxRecDepth 20000 in
theorem T_X11_refuses (a : Int32) (σ : xM) {d : Nat} {q : Int32 × xM} (hd : 0 ≤ d) (h : F_X11_refuses a σ = some q) : xR xT xLn d 116 [.ref 141, .int a] σ (some (.int q.1), q.2) := by
  unfold F_X11_refuses at h
  show xX xT xLn d 116 0 [.ref 141, .int a] [] σ _
  refine xX_blk (w := xw_116) eT_116 6 0 (ls' := [.ref 141, .int a]) (st' := [.int ((-2 : Int32) - a), .ref 145, .int ((-2 : Int32) - a), .ref 145]) (σ' := σ) rfl ?_
  obtain ⟨hi1, h⟩ := xgd_inv h
  refine xX_one (w := xw_116) (i := 6) (ls' := [.ref 141, .int a]) (st' := [.int (σ 145 ((-2 : Int32) - a).toNatClampNeg), .int ((-2 : Int32) - a), .ref 145]) (σ' := σ) eT_116 rfl (e_iald xs_145 hi1) ?_
  refine xX_blk (w := xw_116) eT_116 2 7 (ls' := [.ref 141, .int a]) (st' := [.int ((σ 145 ((-2 : Int32) - a).toNatClampNeg) + 1), .int ((-2 : Int32) - a), .ref 145]) (σ' := σ) rfl ?_
  obtain ⟨hi2, h⟩ := xgd_inv h
  refine xX_one (w := xw_116) (i := 9) (ls' := [.ref 141, .int a]) (st' := []) (σ' := xup σ 145 ((-2 : Int32) - a).toNatClampNeg ((σ 145 ((-2 : Int32) - a).toNatClampNeg) + 1)) eT_116 rfl (e_iast xs_145 hi2) ?_
  obtain ⟨σ3, eσ3, h⟩ := xlet_inv h
  rw [← eσ3]
  refine xX_blk (w := xw_116) eT_116 1 10 (ls' := [.ref 141, .int a]) (st' := [.int a]) (σ' := σ3) rfl ?_
  obtain rfl := Option.some.inj h
  exact xX_ret (w := xw_116) (i := 11) eT_116 rfl rfl
def F_X11_area (a : Int32) (σ : xM) : Option (Int32 × xM) :=
  xbd (F_X11_canArea a σ) fun r1 =>
  if 0 ≤ r1 then
    xbd (F_X11_keep σ) fun r3 =>
    xbd (F_X11_areaNow a r3) fun r4 =>
    some (r4.1, r4.2)
  else
    xbd (F_X11_refuses r1 σ) fun r5 =>
    some (r5.1, r5.2)
set_option maxHeartbeats 1000000 in
set_option maxRecDepth 20000 in
theorem T_X11_area (a : Int32) (σ : xM) {d : Nat} {q : Int32 × xM} (hd : 2 ≤ d) (h : F_X11_area a σ = some q) : xR xT xLn d 138 [.ref 141, .int a] σ (some (.int q.1), q.2) := by
  unfold F_X11_area at h
  show xX xT xLn d 138 0 [.ref 141, .int a, .null] [] σ _
  refine xX_blk (w := xw_138) eT_138 2 0 (ls' := [.ref 141, .int a, .null]) (st' := [.int a, .ref 141]) (σ' := σ) rfl ?_
  obtain ⟨r1, hr1, h⟩ := xbd_inv h
  refine xX_c1 (w := xw_138) (i := 2) (ls := [.ref 141, .int a, .null]) (rest := []) eT_138 rfl (by omega) rfl rfl rfl (T_X11_canArea a σ (by omega) hr1) ?_
  refine xX_blk (w := xw_138) eT_138 2 3 (ls' := [.ref 141, .int a, .int r1]) (st' := [.int r1]) (σ' := σ) rfl ?_
  refine xX_ite (c := 0 ≤ r1) (w := xw_138) (i := 5) (a := 10) (b := 6) (st' := []) eT_138 rfl rfl (fun hc2 => ?_) (fun hc2 => ?_)
  · rw [if_pos hc2] at h
    refine xX_blk (w := xw_138) eT_138 1 10 (ls' := [.ref 141, .int a, .int r1]) (st' := [.ref 141]) (σ' := σ) rfl ?_
    obtain ⟨r3, hr3, h⟩ := xbd_inv h
    refine xX_c0 (w := xw_138) (i := 11) (ls := [.ref 141, .int a, .int r1]) (rest := []) eT_138 rfl (by omega) rfl rfl rfl (T_X11_keep σ (by omega) hr3) ?_
    refine xX_blk (w := xw_138) eT_138 2 12 (ls' := [.ref 141, .int a, .int r1]) (st' := [.int a, .ref 141]) (σ' := r3) rfl ?_
    obtain ⟨r4, hr4, h⟩ := xbd_inv h
    refine xX_c1 (w := xw_138) (i := 14) (ls := [.ref 141, .int a, .int r1]) (rest := []) eT_138 rfl (by omega) rfl rfl rfl (T_X11_areaNow a r3 (by omega) hr4) ?_
    obtain rfl := Option.some.inj h
    exact xX_ret (w := xw_138) (i := 15) eT_138 rfl rfl
  · rw [if_neg hc2] at h
    refine xX_blk (w := xw_138) eT_138 2 6 (ls' := [.ref 141, .int a, .int r1]) (st' := [.int r1, .ref 141]) (σ' := σ) rfl ?_
    obtain ⟨r5, hr5, h⟩ := xbd_inv h
    refine xX_c1 (w := xw_138) (i := 8) (ls := [.ref 141, .int a, .int r1]) (rest := []) eT_138 rfl (by omega) rfl rfl rfl (T_X11_refuses r1 σ (by omega) hr5) ?_
    obtain rfl := Option.some.inj h
    exact xX_ret (w := xw_138) (i := 9) eT_138 rfl rfl
def F_X11_isArea (a : Int32) (σ : xM) : Option (Int32) :=
  xbd (F_X11_in ((a : Int32).toInt64) 0 ((((σ 142 0) - 1) : Int32).toInt64) σ) fun r1 =>
  xgd (xzok true r1) (some r1)
set_option maxHeartbeats 1000000 in
set_option maxRecDepth 20000 in
theorem T_X11_isArea (a : Int32) (σ : xM) {d : Nat} {q : Int32} (hd : 1 ≤ d) (h : F_X11_isArea a σ = some q) : xR xT xLn d 118 [.ref 141, .int a] σ (some (.int q), σ) := by
  unfold F_X11_isArea at h
  show xX xT xLn d 118 0 [.ref 141, .int a] [] σ _
  refine xX_blk (w := xw_118) eT_118 6 0 (ls' := [.ref 141, .int a]) (st' := [.int 0, .ref 142, .long 0, .long ((a : Int32).toInt64)]) (σ' := σ) rfl ?_
  refine xX_one (w := xw_118) (i := 6) (ls' := [.ref 141, .int a]) (st' := [.int (σ 142 0), .long 0, .long ((a : Int32).toInt64)]) (σ' := σ) eT_118 rfl (e_ialK xs_142 (by decide) (by decide)) ?_
  refine xX_blk (w := xw_118) eT_118 3 7 (ls' := [.ref 141, .int a]) (st' := [.long ((((σ 142 0) - 1) : Int32).toInt64), .long 0, .long ((a : Int32).toInt64)]) (σ' := σ) rfl ?_
  obtain ⟨r1, hr1, h⟩ := xbd_inv h
  refine xX_c1 (w := xw_118) (i := 10) (ls := [.ref 141, .int a]) (rest := []) eT_118 rfl (by omega) rfl rfl rfl (T_X11_in ((a : Int32).toInt64) 0 ((((σ 142 0) - 1) : Int32).toInt64) σ (by omega) hr1) ?_
  obtain ⟨hi2, h⟩ := xgd_inv h
  obtain rfl := Option.some.inj h
  exact xX_ret (w := xw_118) (i := 11) eT_118 rfl (e_ret2 hi2)
def F_X11_wants (a : Int32) (b : Int32) (σ : xM) : Option (Int32 × xM) :=
  xbd (F_X11_isArea a σ) fun r1 =>
  if r1 = 0 then
    xbd (F_X11_refuses (-2) σ) fun r3 =>
    some (r3.1, r3.2)
  else
    xbd (F_X11_in ((b : Int32).toInt64) 0 99 σ) fun r4 =>
    if r4 = 0 then
      xbd (F_X11_refuses (-2) σ) fun r6 =>
      some (r6.1, r6.2)
    else
      xbd (F_X11_keep σ) fun r7 =>
      xgd (xin ((13 : Int32) + a) 169) (
      xgd (xin ((13 : Int32) + a) 169) (
      xlet (xup r7 142 ((13 : Int32) + a).toNatClampNeg b) fun σ10 =>
      some ((r7 142 ((13 : Int32) + a).toNatClampNeg), σ10)))
set_option maxHeartbeats 1000000 in
set_option maxRecDepth 20000 in
theorem T_X11_wants (a : Int32) (b : Int32) (σ : xM) {d : Nat} {q : Int32 × xM} (hd : 2 ≤ d) (h : F_X11_wants a b σ = some q) : xR xT xLn d 139 [.ref 141, .int a, .int b] σ (some (.int q.1), q.2) := by
  unfold F_X11_wants at h
  show xX xT xLn d 139 0 [.ref 141, .int a, .int b, .null] [] σ _
  refine xX_blk (w := xw_139) eT_139 2 0 (ls' := [.ref 141, .int a, .int b, .null]) (st' := [.int a, .ref 141]) (σ' := σ) rfl ?_
  obtain ⟨r1, hr1, h⟩ := xbd_inv h
  refine xX_c1 (w := xw_139) (i := 2) (ls := [.ref 141, .int a, .int b, .null]) (rest := []) eT_139 rfl (by omega) rfl rfl rfl (T_X11_isArea a σ (by omega) hr1) ?_
  refine xX_ite (c := r1 = 0) (w := xw_139) (i := 3) (a := 10) (b := 4) (st' := []) eT_139 rfl rfl (fun hc2 => ?_) (fun hc2 => ?_)
  · rw [if_pos hc2] at h
    refine xX_blk (w := xw_139) eT_139 2 10 (ls' := [.ref 141, .int a, .int b, .null]) (st' := [.int (-2), .ref 141]) (σ' := σ) rfl ?_
    obtain ⟨r3, hr3, h⟩ := xbd_inv h
    refine xX_c1 (w := xw_139) (i := 12) (ls := [.ref 141, .int a, .int b, .null]) (rest := []) eT_139 rfl (by omega) rfl rfl rfl (T_X11_refuses (-2) σ (by omega) hr3) ?_
    obtain rfl := Option.some.inj h
    exact xX_ret (w := xw_139) (i := 13) eT_139 rfl rfl
  · rw [if_neg hc2] at h
    refine xX_blk (w := xw_139) eT_139 4 4 (ls' := [.ref 141, .int a, .int b, .null]) (st' := [.long 99, .long 0, .long ((b : Int32).toInt64)]) (σ' := σ) rfl ?_
    obtain ⟨r4, hr4, h⟩ := xbd_inv h
    refine xX_c1 (w := xw_139) (i := 8) (ls := [.ref 141, .int a, .int b, .null]) (rest := []) eT_139 rfl (by omega) rfl rfl rfl (T_X11_in ((b : Int32).toInt64) 0 99 σ (by omega) hr4) ?_
    refine xX_ite (c := r4 = 0) (w := xw_139) (i := 9) (a := 10) (b := 14) (st' := []) eT_139 rfl rfl (fun hc5 => ?_) (fun hc5 => ?_)
    · rw [if_pos hc5] at h
      refine xX_blk (w := xw_139) eT_139 2 10 (ls' := [.ref 141, .int a, .int b, .null]) (st' := [.int (-2), .ref 141]) (σ' := σ) rfl ?_
      obtain ⟨r6, hr6, h⟩ := xbd_inv h
      refine xX_c1 (w := xw_139) (i := 12) (ls := [.ref 141, .int a, .int b, .null]) (rest := []) eT_139 rfl (by omega) rfl rfl rfl (T_X11_refuses (-2) σ (by omega) hr6) ?_
      obtain rfl := Option.some.inj h
      exact xX_ret (w := xw_139) (i := 13) eT_139 rfl rfl
    · rw [if_neg hc5] at h
      refine xX_blk (w := xw_139) eT_139 1 14 (ls' := [.ref 141, .int a, .int b, .null]) (st' := [.ref 141]) (σ' := σ) rfl ?_
      obtain ⟨r7, hr7, h⟩ := xbd_inv h
      refine xX_c0 (w := xw_139) (i := 15) (ls := [.ref 141, .int a, .int b, .null]) (rest := []) eT_139 rfl (by omega) rfl rfl rfl (T_X11_keep σ (by omega) hr7) ?_
      refine xX_blk (w := xw_139) eT_139 5 16 (ls' := [.ref 141, .int a, .int b, .null]) (st' := [.int ((13 : Int32) + a), .ref 142]) (σ' := r7) rfl ?_
      obtain ⟨hi8, h⟩ := xgd_inv h
      refine xX_one (w := xw_139) (i := 21) (ls' := [.ref 141, .int a, .int b, .null]) (st' := [.int (r7 142 ((13 : Int32) + a).toNatClampNeg)]) (σ' := r7) eT_139 rfl (e_iald xs_142 hi8) ?_
      refine xX_blk (w := xw_139) eT_139 7 22 (ls' := [.ref 141, .int a, .int b, .int (r7 142 ((13 : Int32) + a).toNatClampNeg)]) (st' := [.int b, .int ((13 : Int32) + a), .ref 142]) (σ' := r7) rfl ?_
      obtain ⟨hi9, h⟩ := xgd_inv h
      refine xX_one (w := xw_139) (i := 29) (ls' := [.ref 141, .int a, .int b, .int (r7 142 ((13 : Int32) + a).toNatClampNeg)]) (st' := []) (σ' := xup r7 142 ((13 : Int32) + a).toNatClampNeg b) eT_139 rfl (e_iast xs_142 hi9) ?_
      obtain ⟨σ10, eσ10, h⟩ := xlet_inv h
      rw [← eσ10]
      refine xX_blk (w := xw_139) eT_139 1 30 (ls' := [.ref 141, .int a, .int b, .int (r7 142 ((13 : Int32) + a).toNatClampNeg)]) (st' := [.int (r7 142 ((13 : Int32) + a).toNatClampNeg)]) (σ' := σ10) rfl ?_
      obtain rfl := Option.some.inj h
      exact xX_ret (w := xw_139) (i := 31) eT_139 rfl rfl
def F_X11_canLine (a : Int32) (b : Int32) (c : Int32) (σ : xM) : Option (Int32) :=
  xbd (F_X11_isArea a σ) fun r1 =>
  if r1 = 0 then
    some (-2)
  else
    xbd (F_X11_isArea b σ) fun r3 =>
    if r3 = 0 then
      some (-2)
    else
      if a = b then
        some (-2)
      else
        xbd (F_X11_in ((c : Int32).toInt64) 0 9 σ) fun r6 =>
        if r6 = 0 then
          some (-2)
        else
          some 0
set_option maxHeartbeats 1000000 in
set_option maxRecDepth 20000 in
theorem T_X11_canLine (a : Int32) (b : Int32) (c : Int32) (σ : xM) {d : Nat} {q : Int32} (hd : 2 ≤ d) (h : F_X11_canLine a b c σ = some q) : xR xT xLn d 140 [.ref 141, .int a, .int b, .int c] σ (some (.int q), σ) := by
  unfold F_X11_canLine at h
  show xX xT xLn d 140 0 [.ref 141, .int a, .int b, .int c] [] σ _
  refine xX_blk (w := xw_140) eT_140 2 0 (ls' := [.ref 141, .int a, .int b, .int c]) (st' := [.int a, .ref 141]) (σ' := σ) rfl ?_
  obtain ⟨r1, hr1, h⟩ := xbd_inv h
  refine xX_c1 (w := xw_140) (i := 2) (ls := [.ref 141, .int a, .int b, .int c]) (rest := []) eT_140 rfl (by omega) rfl rfl rfl (T_X11_isArea a σ (by omega) hr1) ?_
  refine xX_ite (c := r1 = 0) (w := xw_140) (i := 3) (a := 19) (b := 4) (st' := []) eT_140 rfl rfl (fun hc2 => ?_) (fun hc2 => ?_)
  · rw [if_pos hc2] at h
    refine xX_blk (w := xw_140) eT_140 1 19 (ls' := [.ref 141, .int a, .int b, .int c]) (st' := [.int (-2)]) (σ' := σ) rfl ?_
    obtain rfl := Option.some.inj h
    exact xX_ret (w := xw_140) (i := 20) eT_140 rfl rfl
  · rw [if_neg hc2] at h
    refine xX_blk (w := xw_140) eT_140 2 4 (ls' := [.ref 141, .int a, .int b, .int c]) (st' := [.int b, .ref 141]) (σ' := σ) rfl ?_
    obtain ⟨r3, hr3, h⟩ := xbd_inv h
    refine xX_c1 (w := xw_140) (i := 6) (ls := [.ref 141, .int a, .int b, .int c]) (rest := []) eT_140 rfl (by omega) rfl rfl rfl (T_X11_isArea b σ (by omega) hr3) ?_
    refine xX_ite (c := r3 = 0) (w := xw_140) (i := 7) (a := 19) (b := 8) (st' := []) eT_140 rfl rfl (fun hc4 => ?_) (fun hc4 => ?_)
    · rw [if_pos hc4] at h
      refine xX_blk (w := xw_140) eT_140 1 19 (ls' := [.ref 141, .int a, .int b, .int c]) (st' := [.int (-2)]) (σ' := σ) rfl ?_
      obtain rfl := Option.some.inj h
      exact xX_ret (w := xw_140) (i := 20) eT_140 rfl rfl
    · rw [if_neg hc4] at h
      refine xX_blk (w := xw_140) eT_140 2 8 (ls' := [.ref 141, .int a, .int b, .int c]) (st' := [.int b, .int a]) (σ' := σ) rfl ?_
      refine xX_ite (c := a = b) (w := xw_140) (i := 10) (a := 19) (b := 11) (st' := []) eT_140 rfl rfl (fun hc5 => ?_) (fun hc5 => ?_)
      · rw [if_pos hc5] at h
        refine xX_blk (w := xw_140) eT_140 1 19 (ls' := [.ref 141, .int a, .int b, .int c]) (st' := [.int (-2)]) (σ' := σ) rfl ?_
        obtain rfl := Option.some.inj h
        exact xX_ret (w := xw_140) (i := 20) eT_140 rfl rfl
      · rw [if_neg hc5] at h
        refine xX_blk (w := xw_140) eT_140 4 11 (ls' := [.ref 141, .int a, .int b, .int c]) (st' := [.long 9, .long 0, .long ((c : Int32).toInt64)]) (σ' := σ) rfl ?_
        obtain ⟨r6, hr6, h⟩ := xbd_inv h
        refine xX_c1 (w := xw_140) (i := 15) (ls := [.ref 141, .int a, .int b, .int c]) (rest := []) eT_140 rfl (by omega) rfl rfl rfl (T_X11_in ((c : Int32).toInt64) 0 9 σ (by omega) hr6) ?_
        refine xX_ite (c := r6 = 0) (w := xw_140) (i := 16) (a := 19) (b := 17) (st' := []) eT_140 rfl rfl (fun hc7 => ?_) (fun hc7 => ?_)
        · rw [if_pos hc7] at h
          refine xX_blk (w := xw_140) eT_140 1 19 (ls' := [.ref 141, .int a, .int b, .int c]) (st' := [.int (-2)]) (σ' := σ) rfl ?_
          obtain rfl := Option.some.inj h
          exact xX_ret (w := xw_140) (i := 20) eT_140 rfl rfl
        · rw [if_neg hc7] at h
          refine xX_blk (w := xw_140) eT_140 1 17 (ls' := [.ref 141, .int a, .int b, .int c]) (st' := [.int 0]) (σ' := σ) rfl ?_
          refine xX_jmp (w := xw_140) (i := 18) (a := 20) (st' := [.int 0]) eT_140 rfl rfl ?_
          obtain rfl := Option.some.inj h
          exact xX_ret (w := xw_140) (i := 20) eT_140 rfl rfl
def F_X11_lineNow (a : Int32) (b : Int32) (c : Int32) (σ : xM) : Option (Int32 × xM) :=
  xgd (xin (((37 : Int32) + ((8 : Int32) * a)) + b) 169) (
  xgd (xin (((37 : Int32) + ((8 : Int32) * a)) + b) 169) (
  xlet (xup σ 142 (((37 : Int32) + ((8 : Int32) * a)) + b).toNatClampNeg c) fun σ3 =>
  xgd (xin (((37 : Int32) + ((8 : Int32) * b)) + a) 169) (
  xlet (xup σ3 142 (((37 : Int32) + ((8 : Int32) * b)) + a).toNatClampNeg c) fun σ5 =>
  some ((σ 142 (((37 : Int32) + ((8 : Int32) * a)) + b).toNatClampNeg), σ5))))
set_option maxHeartbeats 1000000 in
set_option maxRecDepth 20000 in
theorem T_X11_lineNow (a : Int32) (b : Int32) (c : Int32) (σ : xM) {d : Nat} {q : Int32 × xM} (hd : 0 ≤ d) (h : F_X11_lineNow a b c σ = some q) : xR xT xLn d 141 [.ref 141, .int a, .int b, .int c] σ (some (.int q.1), q.2) := by
  unfold F_X11_lineNow at h
  show xX xT xLn d 141 0 [.ref 141, .int a, .int b, .int c, .null] [] σ _
  refine xX_blk (w := xw_141) eT_141 9 0 (ls' := [.ref 141, .int a, .int b, .int c, .null]) (st' := [.int (((37 : Int32) + ((8 : Int32) * a)) + b), .ref 142]) (σ' := σ) rfl ?_
  obtain ⟨hi1, h⟩ := xgd_inv h
  refine xX_one (w := xw_141) (i := 9) (ls' := [.ref 141, .int a, .int b, .int c, .null]) (st' := [.int (σ 142 (((37 : Int32) + ((8 : Int32) * a)) + b).toNatClampNeg)]) (σ' := σ) eT_141 rfl (e_iald xs_142 hi1) ?_
  refine xX_blk (w := xw_141) eT_141 11 10 (ls' := [.ref 141, .int a, .int b, .int c, .int (σ 142 (((37 : Int32) + ((8 : Int32) * a)) + b).toNatClampNeg)]) (st' := [.int c, .int (((37 : Int32) + ((8 : Int32) * a)) + b), .ref 142]) (σ' := σ) rfl ?_
  obtain ⟨hi2, h⟩ := xgd_inv h
  refine xX_one (w := xw_141) (i := 21) (ls' := [.ref 141, .int a, .int b, .int c, .int (σ 142 (((37 : Int32) + ((8 : Int32) * a)) + b).toNatClampNeg)]) (st' := []) (σ' := xup σ 142 (((37 : Int32) + ((8 : Int32) * a)) + b).toNatClampNeg c) eT_141 rfl (e_iast xs_142 hi2) ?_
  obtain ⟨σ3, eσ3, h⟩ := xlet_inv h
  rw [← eσ3]
  refine xX_blk (w := xw_141) eT_141 10 22 (ls' := [.ref 141, .int a, .int b, .int c, .int (σ 142 (((37 : Int32) + ((8 : Int32) * a)) + b).toNatClampNeg)]) (st' := [.int c, .int (((37 : Int32) + ((8 : Int32) * b)) + a), .ref 142]) (σ' := σ3) rfl ?_
  obtain ⟨hi4, h⟩ := xgd_inv h
  refine xX_one (w := xw_141) (i := 32) (ls' := [.ref 141, .int a, .int b, .int c, .int (σ 142 (((37 : Int32) + ((8 : Int32) * a)) + b).toNatClampNeg)]) (st' := []) (σ' := xup σ3 142 (((37 : Int32) + ((8 : Int32) * b)) + a).toNatClampNeg c) eT_141 rfl (e_iast xs_142 hi4) ?_
  obtain ⟨σ5, eσ5, h⟩ := xlet_inv h
  rw [← eσ5]
  refine xX_blk (w := xw_141) eT_141 1 33 (ls' := [.ref 141, .int a, .int b, .int c, .int (σ 142 (((37 : Int32) + ((8 : Int32) * a)) + b).toNatClampNeg)]) (st' := [.int (σ 142 (((37 : Int32) + ((8 : Int32) * a)) + b).toNatClampNeg)]) (σ' := σ5) rfl ?_
  obtain rfl := Option.some.inj h
  exact xX_ret (w := xw_141) (i := 34) eT_141 rfl rfl
def F_X11_line (a : Int32) (b : Int32) (c : Int32) (σ : xM) : Option (Int32 × xM) :=
  xbd (F_X11_canLine a b c σ) fun r1 =>
  if 0 ≤ r1 then
    xbd (F_X11_keep σ) fun r3 =>
    xbd (F_X11_lineNow a b c r3) fun r4 =>
    some (r4.1, r4.2)
  else
    xbd (F_X11_refuses r1 σ) fun r5 =>
    some (r5.1, r5.2)
set_option maxHeartbeats 1000000 in
set_option maxRecDepth 20000 in
theorem T_X11_line (a : Int32) (b : Int32) (c : Int32) (σ : xM) {d : Nat} {q : Int32 × xM} (hd : 3 ≤ d) (h : F_X11_line a b c σ = some q) : xR xT xLn d 142 [.ref 141, .int a, .int b, .int c] σ (some (.int q.1), q.2) := by
  unfold F_X11_line at h
  show xX xT xLn d 142 0 [.ref 141, .int a, .int b, .int c, .null] [] σ _
  refine xX_blk (w := xw_142) eT_142 4 0 (ls' := [.ref 141, .int a, .int b, .int c, .null]) (st' := [.int c, .int b, .int a, .ref 141]) (σ' := σ) rfl ?_
  obtain ⟨r1, hr1, h⟩ := xbd_inv h
  refine xX_c1 (w := xw_142) (i := 4) (ls := [.ref 141, .int a, .int b, .int c, .null]) (rest := []) eT_142 rfl (by omega) rfl rfl rfl (T_X11_canLine a b c σ (by omega) hr1) ?_
  refine xX_blk (w := xw_142) eT_142 2 5 (ls' := [.ref 141, .int a, .int b, .int c, .int r1]) (st' := [.int r1]) (σ' := σ) rfl ?_
  refine xX_ite (c := 0 ≤ r1) (w := xw_142) (i := 7) (a := 12) (b := 8) (st' := []) eT_142 rfl rfl (fun hc2 => ?_) (fun hc2 => ?_)
  · rw [if_pos hc2] at h
    refine xX_blk (w := xw_142) eT_142 1 12 (ls' := [.ref 141, .int a, .int b, .int c, .int r1]) (st' := [.ref 141]) (σ' := σ) rfl ?_
    obtain ⟨r3, hr3, h⟩ := xbd_inv h
    refine xX_c0 (w := xw_142) (i := 13) (ls := [.ref 141, .int a, .int b, .int c, .int r1]) (rest := []) eT_142 rfl (by omega) rfl rfl rfl (T_X11_keep σ (by omega) hr3) ?_
    refine xX_blk (w := xw_142) eT_142 4 14 (ls' := [.ref 141, .int a, .int b, .int c, .int r1]) (st' := [.int c, .int b, .int a, .ref 141]) (σ' := r3) rfl ?_
    obtain ⟨r4, hr4, h⟩ := xbd_inv h
    refine xX_c1 (w := xw_142) (i := 18) (ls := [.ref 141, .int a, .int b, .int c, .int r1]) (rest := []) eT_142 rfl (by omega) rfl rfl rfl (T_X11_lineNow a b c r3 (by omega) hr4) ?_
    obtain rfl := Option.some.inj h
    exact xX_ret (w := xw_142) (i := 19) eT_142 rfl rfl
  · rw [if_neg hc2] at h
    refine xX_blk (w := xw_142) eT_142 2 8 (ls' := [.ref 141, .int a, .int b, .int c, .int r1]) (st' := [.int r1, .ref 141]) (σ' := σ) rfl ?_
    obtain ⟨r5, hr5, h⟩ := xbd_inv h
    refine xX_c1 (w := xw_142) (i := 10) (ls := [.ref 141, .int a, .int b, .int c, .int r1]) (rest := []) eT_142 rfl (by omega) rfl rfl rfl (T_X11_refuses r1 σ (by omega) hr5) ?_
    obtain rfl := Option.some.inj h
    exact xX_ret (w := xw_142) (i := 11) eT_142 rfl rfl
def F_X11_canMood (a : Int32) (b : Int32) (σ : xM) : Option (Int32) :=
  xbd (F_X11_isArea a σ) fun r1 =>
  if r1 = 0 then
    some (-2)
  else
    xbd (F_X11_in ((b : Int32).toInt64) 0 2 σ) fun r3 =>
    if r3 = 0 then
      some (-2)
    else
      some 0
set_option maxHeartbeats 1000000 in
set_option maxRecDepth 20000 in
theorem T_X11_canMood (a : Int32) (b : Int32) (σ : xM) {d : Nat} {q : Int32} (hd : 2 ≤ d) (h : F_X11_canMood a b σ = some q) : xR xT xLn d 143 [.ref 141, .int a, .int b] σ (some (.int q), σ) := by
  unfold F_X11_canMood at h
  show xX xT xLn d 143 0 [.ref 141, .int a, .int b] [] σ _
  refine xX_blk (w := xw_143) eT_143 2 0 (ls' := [.ref 141, .int a, .int b]) (st' := [.int a, .ref 141]) (σ' := σ) rfl ?_
  obtain ⟨r1, hr1, h⟩ := xbd_inv h
  refine xX_c1 (w := xw_143) (i := 2) (ls := [.ref 141, .int a, .int b]) (rest := []) eT_143 rfl (by omega) rfl rfl rfl (T_X11_isArea a σ (by omega) hr1) ?_
  refine xX_ite (c := r1 = 0) (w := xw_143) (i := 3) (a := 12) (b := 4) (st' := []) eT_143 rfl rfl (fun hc2 => ?_) (fun hc2 => ?_)
  · rw [if_pos hc2] at h
    refine xX_blk (w := xw_143) eT_143 1 12 (ls' := [.ref 141, .int a, .int b]) (st' := [.int (-2)]) (σ' := σ) rfl ?_
    obtain rfl := Option.some.inj h
    exact xX_ret (w := xw_143) (i := 13) eT_143 rfl rfl
  · rw [if_neg hc2] at h
    refine xX_blk (w := xw_143) eT_143 4 4 (ls' := [.ref 141, .int a, .int b]) (st' := [.long 2, .long 0, .long ((b : Int32).toInt64)]) (σ' := σ) rfl ?_
    obtain ⟨r3, hr3, h⟩ := xbd_inv h
    refine xX_c1 (w := xw_143) (i := 8) (ls := [.ref 141, .int a, .int b]) (rest := []) eT_143 rfl (by omega) rfl rfl rfl (T_X11_in ((b : Int32).toInt64) 0 2 σ (by omega) hr3) ?_
    refine xX_ite (c := r3 = 0) (w := xw_143) (i := 9) (a := 12) (b := 10) (st' := []) eT_143 rfl rfl (fun hc4 => ?_) (fun hc4 => ?_)
    · rw [if_pos hc4] at h
      refine xX_blk (w := xw_143) eT_143 1 12 (ls' := [.ref 141, .int a, .int b]) (st' := [.int (-2)]) (σ' := σ) rfl ?_
      obtain rfl := Option.some.inj h
      exact xX_ret (w := xw_143) (i := 13) eT_143 rfl rfl
    · rw [if_neg hc4] at h
      refine xX_blk (w := xw_143) eT_143 1 10 (ls' := [.ref 141, .int a, .int b]) (st' := [.int 0]) (σ' := σ) rfl ?_
      refine xX_jmp (w := xw_143) (i := 11) (a := 13) (st' := [.int 0]) eT_143 rfl rfl ?_
      obtain rfl := Option.some.inj h
      exact xX_ret (w := xw_143) (i := 13) eT_143 rfl rfl
def B_X11_laysWays_2 (v1 : Int32) (σ : xM) : Option ((Int32 × xM) ⊕ ((xM))) :=
  if 64 ≤ v1 then
    some (.inr σ)
  else
    if (v1 / 8) = (v1 - v1 / 8 * 8) then
      xgd (xin v1 64) (
      xlet (xup σ 146 v1.toNatClampNeg 0) fun σ4 =>
      some (.inl ((v1 + 1), σ4)))
    else
      xgd (xin ((37 : Int32) + v1) 169) (
      if (σ 142 ((37 : Int32) + v1).toNatClampNeg) = 0 then
        xgd (xin v1 64) (
        xlet (xup σ 146 v1.toNatClampNeg (-1)) fun σ8 =>
        some (.inl ((v1 + 1), σ8)))
      else
        xgd (xin ((37 : Int32) + v1) 169) (
        xgd (xin v1 64) (
        xlet (xup σ 146 v1.toNatClampNeg (σ 142 ((37 : Int32) + v1).toNatClampNeg)) fun σ11 =>
        some (.inl ((v1 + 1), σ11)))))
def L_X11_laysWays_2 (v1 : Int32) (σ : xM) : Option ((xM)) := xloop (fun s : Int32 × xM => B_X11_laysWays_2 s.1 s.2) 6000 (v1, σ)
set_option maxHeartbeats 1000000 in
set_option maxRecDepth 20000 in
theorem TB_X11_laysWays_2 {d : Nat} {o : Option Value × xM} (v1 : Int32) (σ : xM) {q : (Int32 × xM) ⊕ ((xM))} (hd : 0 ≤ d) (h : B_X11_laysWays_2 v1 σ = some q) (hB : ∀ s', q = .inl s' → ∀ (z2 z3 z4 : Value), xX xT xLn d 126 2 [.ref 141, .int s'.1, z2, z3, z4] [] s'.2 o) (hE : ∀ e', q = .inr e' → ∀ (z1 z2 z3 z4 : Value), xX xT xLn d 126 36 [.ref 141, z1, z2, z3, z4] [] e' o) (z2 : Value) (z3 : Value) (z4 : Value) : xX xT xLn d 126 2 [.ref 141, .int v1, z2, z3, z4] [] σ o := by
  unfold B_X11_laysWays_2 at h
  refine xX_blk (w := xw_126) eT_126 3 2 (ls' := [.ref 141, .int v1, .null, .null, .null]) (st' := [.int 64, .int v1]) (σ' := σ) rfl ?_
  refine xX_ite (c := 64 ≤ v1) (w := xw_126) (i := 5) (a := 36) (b := 6) (st' := []) eT_126 rfl rfl (fun hc1 => ?_) (fun hc1 => ?_)
  · rw [if_pos hc1] at h
    obtain rfl := Option.some.inj h
    exact hE σ rfl _ _ _ _
  · rw [if_neg hc1] at h
    refine xX_blk (w := xw_126) eT_126 5 6 (ls' := [.ref 141, .int v1, .null, .null, .null]) (st' := [.int 8, .int v1, .int v1, .ref 146]) (σ' := σ) rfl ?_
    refine xX_one (w := xw_126) (i := 11) (ls' := [.ref 141, .int v1, .null, .null, .null]) (st' := [.int (v1 / 8), .int v1, .ref 146]) (σ' := σ) eT_126 rfl (e_idiv (by decide)) ?_
    refine xX_blk (w := xw_126) eT_126 2 12 (ls' := [.ref 141, .int v1, .null, .null, .null]) (st' := [.int 8, .int v1, .int (v1 / 8), .int v1, .ref 146]) (σ' := σ) rfl ?_
    refine xX_one (w := xw_126) (i := 14) (ls' := [.ref 141, .int v1, .null, .null, .null]) (st' := [.int (v1 - v1 / 8 * 8), .int (v1 / 8), .int v1, .ref 146]) (σ' := σ) eT_126 rfl (e_irem (by decide)) ?_
    refine xX_ite (c := (v1 / 8) = (v1 - v1 / 8 * 8)) (w := xw_126) (i := 15) (a := 16) (b := 18) (st' := [.int v1, .ref 146]) eT_126 rfl rfl (fun hc2 => ?_) (fun hc2 => ?_)
    · rw [if_pos hc2] at h
      refine xX_blk (w := xw_126) eT_126 1 16 (ls' := [.ref 141, .int v1, .null, .null, .null]) (st' := [.int 0, .int v1, .ref 146]) (σ' := σ) rfl ?_
      refine xX_jmp (w := xw_126) (i := 17) (a := 33) (st' := [.int 0, .int v1, .ref 146]) eT_126 rfl rfl ?_
      obtain ⟨hi3, h⟩ := xgd_inv h
      refine xX_one (w := xw_126) (i := 33) (ls' := [.ref 141, .int v1, .null, .null, .null]) (st' := []) (σ' := xup σ 146 v1.toNatClampNeg 0) eT_126 rfl (e_iast xs_146 hi3) ?_
      obtain ⟨σ4, eσ4, h⟩ := xlet_inv h
      rw [← eσ4]
      refine xX_blk (w := xw_126) eT_126 1 34 (ls' := [.ref 141, .int (v1 + 1), .null, .null, .null]) (st' := []) (σ' := σ4) rfl ?_
      refine xX_jmp (w := xw_126) (i := 35) (a := 2) (st' := []) eT_126 rfl rfl ?_
      obtain rfl := Option.some.inj h
      exact hB ((v1 + 1), σ4) rfl _ _ _
    · rw [if_neg hc2] at h
      refine xX_blk (w := xw_126) eT_126 5 18 (ls' := [.ref 141, .int v1, .null, .null, .null]) (st' := [.int ((37 : Int32) + v1), .ref 142, .int v1, .ref 146]) (σ' := σ) rfl ?_
      obtain ⟨hi5, h⟩ := xgd_inv h
      refine xX_one (w := xw_126) (i := 23) (ls' := [.ref 141, .int v1, .null, .null, .null]) (st' := [.int (σ 142 ((37 : Int32) + v1).toNatClampNeg), .int v1, .ref 146]) (σ' := σ) eT_126 rfl (e_iald xs_142 hi5) ?_
      refine xX_ite (c := (σ 142 ((37 : Int32) + v1).toNatClampNeg) = 0) (w := xw_126) (i := 24) (a := 25) (b := 27) (st' := [.int v1, .ref 146]) eT_126 rfl rfl (fun hc6 => ?_) (fun hc6 => ?_)
      · rw [if_pos hc6] at h
        refine xX_blk (w := xw_126) eT_126 1 25 (ls' := [.ref 141, .int v1, .null, .null, .null]) (st' := [.int (-1), .int v1, .ref 146]) (σ' := σ) rfl ?_
        refine xX_jmp (w := xw_126) (i := 26) (a := 33) (st' := [.int (-1), .int v1, .ref 146]) eT_126 rfl rfl ?_
        obtain ⟨hi7, h⟩ := xgd_inv h
        refine xX_one (w := xw_126) (i := 33) (ls' := [.ref 141, .int v1, .null, .null, .null]) (st' := []) (σ' := xup σ 146 v1.toNatClampNeg (-1)) eT_126 rfl (e_iast xs_146 hi7) ?_
        obtain ⟨σ8, eσ8, h⟩ := xlet_inv h
        rw [← eσ8]
        refine xX_blk (w := xw_126) eT_126 1 34 (ls' := [.ref 141, .int (v1 + 1), .null, .null, .null]) (st' := []) (σ' := σ8) rfl ?_
        refine xX_jmp (w := xw_126) (i := 35) (a := 2) (st' := []) eT_126 rfl rfl ?_
        obtain rfl := Option.some.inj h
        exact hB ((v1 + 1), σ8) rfl _ _ _
      · rw [if_neg hc6] at h
        refine xX_blk (w := xw_126) eT_126 5 27 (ls' := [.ref 141, .int v1, .null, .null, .null]) (st' := [.int ((37 : Int32) + v1), .ref 142, .int v1, .ref 146]) (σ' := σ) rfl ?_
        obtain ⟨hi9, h⟩ := xgd_inv h
        refine xX_one (w := xw_126) (i := 32) (ls' := [.ref 141, .int v1, .null, .null, .null]) (st' := [.int (σ 142 ((37 : Int32) + v1).toNatClampNeg), .int v1, .ref 146]) (σ' := σ) eT_126 rfl (e_iald xs_142 hi9) ?_
        obtain ⟨hi10, h⟩ := xgd_inv h
        refine xX_one (w := xw_126) (i := 33) (ls' := [.ref 141, .int v1, .null, .null, .null]) (st' := []) (σ' := xup σ 146 v1.toNatClampNeg (σ 142 ((37 : Int32) + v1).toNatClampNeg)) eT_126 rfl (e_iast xs_146 hi10) ?_
        obtain ⟨σ11, eσ11, h⟩ := xlet_inv h
        rw [← eσ11]
        refine xX_blk (w := xw_126) eT_126 1 34 (ls' := [.ref 141, .int (v1 + 1), .null, .null, .null]) (st' := []) (σ' := σ11) rfl ?_
        refine xX_jmp (w := xw_126) (i := 35) (a := 2) (st' := []) eT_126 rfl rfl ?_
        obtain rfl := Option.some.inj h
        exact hB ((v1 + 1), σ11) rfl _ _ _
set_option maxHeartbeats 1000000 in
set_option maxRecDepth 20000 in
theorem TL_X11_laysWays_2 {d : Nat} {o : Option Value × xM} (v1 : Int32) (σ : xM) {e : (xM)} (hd : 0 ≤ d) (h : L_X11_laysWays_2 v1 σ = some e) (hE : ∀ (z1 z2 z3 z4 : Value), xX xT xLn d 126 36 [.ref 141, z1, z2, z3, z4] [] e o) (z2 : Value) (z3 : Value) (z4 : Value) : xX xT xLn d 126 2 [.ref 141, .int v1, z2, z3, z4] [] σ o :=
  xloop_snd (X := fun s => ∀ (z2 z3 z4 : Value), xX xT xLn d 126 2 [.ref 141, .int s.1, z2, z3, z4] [] s.2 o) (Y := fun e' => ∀ (z1 z2 z3 z4 : Value), xX xT xLn d 126 36 [.ref 141, z1, z2, z3, z4] [] e' o) (fun s q hs hB hE z2 z3 z4 => TB_X11_laysWays_2 s.1 s.2 hd hs hB hE z2 z3 z4) _ _ _ h hE z2 z3 z4
def B_X11_laysWays_42 (p1 : Int32) (v2 : Int32) (σ : xM) : Option ((Int32 × xM) ⊕ ((xM))) :=
  if 64 ≤ v2 then
    some (.inr σ)
  else
    xgd (xin (((8 : Int32) * (v2 / 8)) + p1) 64) (
    xgd (xin (((8 : Int32) * p1) + (v2 - v2 / 8 * 8)) 64) (
    if (σ 146 (((8 : Int32) * (v2 / 8)) + p1).toNatClampNeg) = (-1) then
      xgd (xin v2 64) (
      xgd (xin v2 64) (
      xlet (xup σ 146 v2.toNatClampNeg (σ 146 v2.toNatClampNeg)) fun σ20 =>
      some (.inl ((v2 + 1), σ20))))
    else
      if (σ 146 (((8 : Int32) * p1) + (v2 - v2 / 8 * 8)).toNatClampNeg) = (-1) then
        xgd (xin v2 64) (
        xgd (xin v2 64) (
        xlet (xup σ 146 v2.toNatClampNeg (σ 146 v2.toNatClampNeg)) fun σ24 =>
        some (.inl ((v2 + 1), σ24))))
      else
        xgd (xin v2 64) (
        if (σ 146 v2.toNatClampNeg) = (-1) then
          xgd (xin v2 64) (
          xlet (xup σ 146 v2.toNatClampNeg ((σ 146 (((8 : Int32) * (v2 / 8)) + p1).toNatClampNeg) + (σ 146 (((8 : Int32) * p1) + (v2 - v2 / 8 * 8)).toNatClampNeg))) fun σ28 =>
          some (.inl ((v2 + 1), σ28)))
        else
          xgd (xin v2 64) (
          if (σ 146 v2.toNatClampNeg) ≤ ((σ 146 (((8 : Int32) * (v2 / 8)) + p1).toNatClampNeg) + (σ 146 (((8 : Int32) * p1) + (v2 - v2 / 8 * 8)).toNatClampNeg)) then
            xgd (xin v2 64) (
            xgd (xin v2 64) (
            xlet (xup σ 146 v2.toNatClampNeg (σ 146 v2.toNatClampNeg)) fun σ33 =>
            some (.inl ((v2 + 1), σ33))))
          else
            xgd (xin v2 64) (
            xlet (xup σ 146 v2.toNatClampNeg ((σ 146 (((8 : Int32) * (v2 / 8)) + p1).toNatClampNeg) + (σ 146 (((8 : Int32) * p1) + (v2 - v2 / 8 * 8)).toNatClampNeg))) fun σ35 =>
            some (.inl ((v2 + 1), σ35)))))))
def L_X11_laysWays_42 (p1 : Int32) (v2 : Int32) (σ : xM) : Option ((xM)) := xloop (fun s : Int32 × xM => B_X11_laysWays_42 p1 s.1 s.2) 6000 (v2, σ)
set_option maxHeartbeats 1000000 in
set_option maxRecDepth 20000 in
theorem TB_X11_laysWays_42 {d : Nat} {o : Option Value × xM} (p1 : Int32) (v2 : Int32) (σ : xM) {q : (Int32 × xM) ⊕ ((xM))} (hd : 0 ≤ d) (h : B_X11_laysWays_42 p1 v2 σ = some q) (hB : ∀ s', q = .inl s' → ∀ (z3 z4 : Value), xX xT xLn d 126 45 [.ref 141, .int p1, .int s'.1, z3, z4] [] s'.2 o) (hE : ∀ e', q = .inr e' → ∀ (z2 z3 z4 : Value), xX xT xLn d 126 105 [.ref 141, .int p1, z2, z3, z4] [] e' o) (z3 : Value) (z4 : Value) : xX xT xLn d 126 45 [.ref 141, .int p1, .int v2, z3, z4] [] σ o := by
  unfold B_X11_laysWays_42 at h
  refine xX_blk (w := xw_126) eT_126 3 45 (ls' := [.ref 141, .int p1, .int v2, .null, .null]) (st' := [.int 64, .int v2]) (σ' := σ) rfl ?_
  refine xX_ite (c := 64 ≤ v2) (w := xw_126) (i := 48) (a := 105) (b := 49) (st' := []) eT_126 rfl rfl (fun hc14 => ?_) (fun hc14 => ?_)
  · rw [if_pos hc14] at h
    obtain rfl := Option.some.inj h
    exact hE σ rfl _ _ _
  · rw [if_neg hc14] at h
    refine xX_blk (w := xw_126) eT_126 5 49 (ls' := [.ref 141, .int p1, .int v2, .null, .null]) (st' := [.int 8, .int v2, .int 8, .ref 146]) (σ' := σ) rfl ?_
    refine xX_one (w := xw_126) (i := 54) (ls' := [.ref 141, .int p1, .int v2, .null, .null]) (st' := [.int (v2 / 8), .int 8, .ref 146]) (σ' := σ) eT_126 rfl (e_idiv (by decide)) ?_
    refine xX_blk (w := xw_126) eT_126 3 55 (ls' := [.ref 141, .int p1, .int v2, .null, .null]) (st' := [.int (((8 : Int32) * (v2 / 8)) + p1), .ref 146]) (σ' := σ) rfl ?_
    obtain ⟨hi15, h⟩ := xgd_inv h
    refine xX_one (w := xw_126) (i := 58) (ls' := [.ref 141, .int p1, .int v2, .null, .null]) (st' := [.int (σ 146 (((8 : Int32) * (v2 / 8)) + p1).toNatClampNeg)]) (σ' := σ) eT_126 rfl (e_iald xs_146 hi15) ?_
    refine xX_blk (w := xw_126) eT_126 8 59 (ls' := [.ref 141, .int p1, .int v2, .int (σ 146 (((8 : Int32) * (v2 / 8)) + p1).toNatClampNeg), .null]) (st' := [.int 8, .int v2, .int ((8 : Int32) * p1), .ref 146]) (σ' := σ) rfl ?_
    refine xX_one (w := xw_126) (i := 67) (ls' := [.ref 141, .int p1, .int v2, .int (σ 146 (((8 : Int32) * (v2 / 8)) + p1).toNatClampNeg), .null]) (st' := [.int (v2 - v2 / 8 * 8), .int ((8 : Int32) * p1), .ref 146]) (σ' := σ) eT_126 rfl (e_irem (by decide)) ?_
    refine xX_blk (w := xw_126) eT_126 1 68 (ls' := [.ref 141, .int p1, .int v2, .int (σ 146 (((8 : Int32) * (v2 / 8)) + p1).toNatClampNeg), .null]) (st' := [.int (((8 : Int32) * p1) + (v2 - v2 / 8 * 8)), .ref 146]) (σ' := σ) rfl ?_
    obtain ⟨hi16, h⟩ := xgd_inv h
    refine xX_one (w := xw_126) (i := 69) (ls' := [.ref 141, .int p1, .int v2, .int (σ 146 (((8 : Int32) * (v2 / 8)) + p1).toNatClampNeg), .null]) (st' := [.int (σ 146 (((8 : Int32) * p1) + (v2 - v2 / 8 * 8)).toNatClampNeg)]) (σ' := σ) eT_126 rfl (e_iald xs_146 hi16) ?_
    refine xX_blk (w := xw_126) eT_126 6 70 (ls' := [.ref 141, .int p1, .int v2, .int (σ 146 (((8 : Int32) * (v2 / 8)) + p1).toNatClampNeg), .int (σ 146 (((8 : Int32) * p1) + (v2 - v2 / 8 * 8)).toNatClampNeg)]) (st' := [.int (-1), .int (σ 146 (((8 : Int32) * (v2 / 8)) + p1).toNatClampNeg), .int v2, .ref 146]) (σ' := σ) rfl ?_
    refine xX_ite (c := (σ 146 (((8 : Int32) * (v2 / 8)) + p1).toNatClampNeg) = (-1)) (w := xw_126) (i := 76) (a := 98) (b := 77) (st' := [.int v2, .ref 146]) eT_126 rfl rfl (fun hc17 => ?_) (fun hc17 => ?_)
    · rw [if_pos hc17] at h
      refine xX_blk (w := xw_126) eT_126 3 98 (ls' := [.ref 141, .int p1, .int v2, .int (σ 146 (((8 : Int32) * (v2 / 8)) + p1).toNatClampNeg), .int (σ 146 (((8 : Int32) * p1) + (v2 - v2 / 8 * 8)).toNatClampNeg)]) (st' := [.int v2, .ref 146, .int v2, .ref 146]) (σ' := σ) rfl ?_
      obtain ⟨hi18, h⟩ := xgd_inv h
      refine xX_one (w := xw_126) (i := 101) (ls' := [.ref 141, .int p1, .int v2, .int (σ 146 (((8 : Int32) * (v2 / 8)) + p1).toNatClampNeg), .int (σ 146 (((8 : Int32) * p1) + (v2 - v2 / 8 * 8)).toNatClampNeg)]) (st' := [.int (σ 146 v2.toNatClampNeg), .int v2, .ref 146]) (σ' := σ) eT_126 rfl (e_iald xs_146 hi18) ?_
      obtain ⟨hi19, h⟩ := xgd_inv h
      refine xX_one (w := xw_126) (i := 102) (ls' := [.ref 141, .int p1, .int v2, .int (σ 146 (((8 : Int32) * (v2 / 8)) + p1).toNatClampNeg), .int (σ 146 (((8 : Int32) * p1) + (v2 - v2 / 8 * 8)).toNatClampNeg)]) (st' := []) (σ' := xup σ 146 v2.toNatClampNeg (σ 146 v2.toNatClampNeg)) eT_126 rfl (e_iast xs_146 hi19) ?_
      obtain ⟨σ20, eσ20, h⟩ := xlet_inv h
      rw [← eσ20]
      refine xX_blk (w := xw_126) eT_126 1 103 (ls' := [.ref 141, .int p1, .int (v2 + 1), .int (σ 146 (((8 : Int32) * (v2 / 8)) + p1).toNatClampNeg), .int (σ 146 (((8 : Int32) * p1) + (v2 - v2 / 8 * 8)).toNatClampNeg)]) (st' := []) (σ' := σ20) rfl ?_
      refine xX_jmp (w := xw_126) (i := 104) (a := 45) (st' := []) eT_126 rfl rfl ?_
      obtain rfl := Option.some.inj h
      exact hB ((v2 + 1), σ20) rfl _ _
    · rw [if_neg hc17] at h
      refine xX_blk (w := xw_126) eT_126 2 77 (ls' := [.ref 141, .int p1, .int v2, .int (σ 146 (((8 : Int32) * (v2 / 8)) + p1).toNatClampNeg), .int (σ 146 (((8 : Int32) * p1) + (v2 - v2 / 8 * 8)).toNatClampNeg)]) (st' := [.int (-1), .int (σ 146 (((8 : Int32) * p1) + (v2 - v2 / 8 * 8)).toNatClampNeg), .int v2, .ref 146]) (σ' := σ) rfl ?_
      refine xX_ite (c := (σ 146 (((8 : Int32) * p1) + (v2 - v2 / 8 * 8)).toNatClampNeg) = (-1)) (w := xw_126) (i := 79) (a := 98) (b := 80) (st' := [.int v2, .ref 146]) eT_126 rfl rfl (fun hc21 => ?_) (fun hc21 => ?_)
      · rw [if_pos hc21] at h
        refine xX_blk (w := xw_126) eT_126 3 98 (ls' := [.ref 141, .int p1, .int v2, .int (σ 146 (((8 : Int32) * (v2 / 8)) + p1).toNatClampNeg), .int (σ 146 (((8 : Int32) * p1) + (v2 - v2 / 8 * 8)).toNatClampNeg)]) (st' := [.int v2, .ref 146, .int v2, .ref 146]) (σ' := σ) rfl ?_
        obtain ⟨hi22, h⟩ := xgd_inv h
        refine xX_one (w := xw_126) (i := 101) (ls' := [.ref 141, .int p1, .int v2, .int (σ 146 (((8 : Int32) * (v2 / 8)) + p1).toNatClampNeg), .int (σ 146 (((8 : Int32) * p1) + (v2 - v2 / 8 * 8)).toNatClampNeg)]) (st' := [.int (σ 146 v2.toNatClampNeg), .int v2, .ref 146]) (σ' := σ) eT_126 rfl (e_iald xs_146 hi22) ?_
        obtain ⟨hi23, h⟩ := xgd_inv h
        refine xX_one (w := xw_126) (i := 102) (ls' := [.ref 141, .int p1, .int v2, .int (σ 146 (((8 : Int32) * (v2 / 8)) + p1).toNatClampNeg), .int (σ 146 (((8 : Int32) * p1) + (v2 - v2 / 8 * 8)).toNatClampNeg)]) (st' := []) (σ' := xup σ 146 v2.toNatClampNeg (σ 146 v2.toNatClampNeg)) eT_126 rfl (e_iast xs_146 hi23) ?_
        obtain ⟨σ24, eσ24, h⟩ := xlet_inv h
        rw [← eσ24]
        refine xX_blk (w := xw_126) eT_126 1 103 (ls' := [.ref 141, .int p1, .int (v2 + 1), .int (σ 146 (((8 : Int32) * (v2 / 8)) + p1).toNatClampNeg), .int (σ 146 (((8 : Int32) * p1) + (v2 - v2 / 8 * 8)).toNatClampNeg)]) (st' := []) (σ' := σ24) rfl ?_
        refine xX_jmp (w := xw_126) (i := 104) (a := 45) (st' := []) eT_126 rfl rfl ?_
        obtain rfl := Option.some.inj h
        exact hB ((v2 + 1), σ24) rfl _ _
      · rw [if_neg hc21] at h
        refine xX_blk (w := xw_126) eT_126 3 80 (ls' := [.ref 141, .int p1, .int v2, .int (σ 146 (((8 : Int32) * (v2 / 8)) + p1).toNatClampNeg), .int (σ 146 (((8 : Int32) * p1) + (v2 - v2 / 8 * 8)).toNatClampNeg)]) (st' := [.int v2, .ref 146, .int v2, .ref 146]) (σ' := σ) rfl ?_
        obtain ⟨hi25, h⟩ := xgd_inv h
        refine xX_one (w := xw_126) (i := 83) (ls' := [.ref 141, .int p1, .int v2, .int (σ 146 (((8 : Int32) * (v2 / 8)) + p1).toNatClampNeg), .int (σ 146 (((8 : Int32) * p1) + (v2 - v2 / 8 * 8)).toNatClampNeg)]) (st' := [.int (σ 146 v2.toNatClampNeg), .int v2, .ref 146]) (σ' := σ) eT_126 rfl (e_iald xs_146 hi25) ?_
        refine xX_blk (w := xw_126) eT_126 1 84 (ls' := [.ref 141, .int p1, .int v2, .int (σ 146 (((8 : Int32) * (v2 / 8)) + p1).toNatClampNeg), .int (σ 146 (((8 : Int32) * p1) + (v2 - v2 / 8 * 8)).toNatClampNeg)]) (st' := [.int (-1), .int (σ 146 v2.toNatClampNeg), .int v2, .ref 146]) (σ' := σ) rfl ?_
        refine xX_ite (c := (σ 146 v2.toNatClampNeg) = (-1)) (w := xw_126) (i := 85) (a := 94) (b := 86) (st' := [.int v2, .ref 146]) eT_126 rfl rfl (fun hc26 => ?_) (fun hc26 => ?_)
        · rw [if_pos hc26] at h
          refine xX_blk (w := xw_126) eT_126 3 94 (ls' := [.ref 141, .int p1, .int v2, .int (σ 146 (((8 : Int32) * (v2 / 8)) + p1).toNatClampNeg), .int (σ 146 (((8 : Int32) * p1) + (v2 - v2 / 8 * 8)).toNatClampNeg)]) (st' := [.int ((σ 146 (((8 : Int32) * (v2 / 8)) + p1).toNatClampNeg) + (σ 146 (((8 : Int32) * p1) + (v2 - v2 / 8 * 8)).toNatClampNeg)), .int v2, .ref 146]) (σ' := σ) rfl ?_
          refine xX_jmp (w := xw_126) (i := 97) (a := 102) (st' := [.int ((σ 146 (((8 : Int32) * (v2 / 8)) + p1).toNatClampNeg) + (σ 146 (((8 : Int32) * p1) + (v2 - v2 / 8 * 8)).toNatClampNeg)), .int v2, .ref 146]) eT_126 rfl rfl ?_
          obtain ⟨hi27, h⟩ := xgd_inv h
          refine xX_one (w := xw_126) (i := 102) (ls' := [.ref 141, .int p1, .int v2, .int (σ 146 (((8 : Int32) * (v2 / 8)) + p1).toNatClampNeg), .int (σ 146 (((8 : Int32) * p1) + (v2 - v2 / 8 * 8)).toNatClampNeg)]) (st' := []) (σ' := xup σ 146 v2.toNatClampNeg ((σ 146 (((8 : Int32) * (v2 / 8)) + p1).toNatClampNeg) + (σ 146 (((8 : Int32) * p1) + (v2 - v2 / 8 * 8)).toNatClampNeg))) eT_126 rfl (e_iast xs_146 hi27) ?_
          obtain ⟨σ28, eσ28, h⟩ := xlet_inv h
          rw [← eσ28]
          refine xX_blk (w := xw_126) eT_126 1 103 (ls' := [.ref 141, .int p1, .int (v2 + 1), .int (σ 146 (((8 : Int32) * (v2 / 8)) + p1).toNatClampNeg), .int (σ 146 (((8 : Int32) * p1) + (v2 - v2 / 8 * 8)).toNatClampNeg)]) (st' := []) (σ' := σ28) rfl ?_
          refine xX_jmp (w := xw_126) (i := 104) (a := 45) (st' := []) eT_126 rfl rfl ?_
          obtain rfl := Option.some.inj h
          exact hB ((v2 + 1), σ28) rfl _ _
        · rw [if_neg hc26] at h
          refine xX_blk (w := xw_126) eT_126 6 86 (ls' := [.ref 141, .int p1, .int v2, .int (σ 146 (((8 : Int32) * (v2 / 8)) + p1).toNatClampNeg), .int (σ 146 (((8 : Int32) * p1) + (v2 - v2 / 8 * 8)).toNatClampNeg)]) (st' := [.int v2, .ref 146, .int ((σ 146 (((8 : Int32) * (v2 / 8)) + p1).toNatClampNeg) + (σ 146 (((8 : Int32) * p1) + (v2 - v2 / 8 * 8)).toNatClampNeg)), .int v2, .ref 146]) (σ' := σ) rfl ?_
          obtain ⟨hi29, h⟩ := xgd_inv h
          refine xX_one (w := xw_126) (i := 92) (ls' := [.ref 141, .int p1, .int v2, .int (σ 146 (((8 : Int32) * (v2 / 8)) + p1).toNatClampNeg), .int (σ 146 (((8 : Int32) * p1) + (v2 - v2 / 8 * 8)).toNatClampNeg)]) (st' := [.int (σ 146 v2.toNatClampNeg), .int ((σ 146 (((8 : Int32) * (v2 / 8)) + p1).toNatClampNeg) + (σ 146 (((8 : Int32) * p1) + (v2 - v2 / 8 * 8)).toNatClampNeg)), .int v2, .ref 146]) (σ' := σ) eT_126 rfl (e_iald xs_146 hi29) ?_
          refine xX_ite (c := (σ 146 v2.toNatClampNeg) ≤ ((σ 146 (((8 : Int32) * (v2 / 8)) + p1).toNatClampNeg) + (σ 146 (((8 : Int32) * p1) + (v2 - v2 / 8 * 8)).toNatClampNeg))) (w := xw_126) (i := 93) (a := 98) (b := 94) (st' := [.int v2, .ref 146]) eT_126 rfl rfl (fun hc30 => ?_) (fun hc30 => ?_)
          · rw [if_pos hc30] at h
            refine xX_blk (w := xw_126) eT_126 3 98 (ls' := [.ref 141, .int p1, .int v2, .int (σ 146 (((8 : Int32) * (v2 / 8)) + p1).toNatClampNeg), .int (σ 146 (((8 : Int32) * p1) + (v2 - v2 / 8 * 8)).toNatClampNeg)]) (st' := [.int v2, .ref 146, .int v2, .ref 146]) (σ' := σ) rfl ?_
            obtain ⟨hi31, h⟩ := xgd_inv h
            refine xX_one (w := xw_126) (i := 101) (ls' := [.ref 141, .int p1, .int v2, .int (σ 146 (((8 : Int32) * (v2 / 8)) + p1).toNatClampNeg), .int (σ 146 (((8 : Int32) * p1) + (v2 - v2 / 8 * 8)).toNatClampNeg)]) (st' := [.int (σ 146 v2.toNatClampNeg), .int v2, .ref 146]) (σ' := σ) eT_126 rfl (e_iald xs_146 hi31) ?_
            obtain ⟨hi32, h⟩ := xgd_inv h
            refine xX_one (w := xw_126) (i := 102) (ls' := [.ref 141, .int p1, .int v2, .int (σ 146 (((8 : Int32) * (v2 / 8)) + p1).toNatClampNeg), .int (σ 146 (((8 : Int32) * p1) + (v2 - v2 / 8 * 8)).toNatClampNeg)]) (st' := []) (σ' := xup σ 146 v2.toNatClampNeg (σ 146 v2.toNatClampNeg)) eT_126 rfl (e_iast xs_146 hi32) ?_
            obtain ⟨σ33, eσ33, h⟩ := xlet_inv h
            rw [← eσ33]
            refine xX_blk (w := xw_126) eT_126 1 103 (ls' := [.ref 141, .int p1, .int (v2 + 1), .int (σ 146 (((8 : Int32) * (v2 / 8)) + p1).toNatClampNeg), .int (σ 146 (((8 : Int32) * p1) + (v2 - v2 / 8 * 8)).toNatClampNeg)]) (st' := []) (σ' := σ33) rfl ?_
            refine xX_jmp (w := xw_126) (i := 104) (a := 45) (st' := []) eT_126 rfl rfl ?_
            obtain rfl := Option.some.inj h
            exact hB ((v2 + 1), σ33) rfl _ _
          · rw [if_neg hc30] at h
            refine xX_blk (w := xw_126) eT_126 3 94 (ls' := [.ref 141, .int p1, .int v2, .int (σ 146 (((8 : Int32) * (v2 / 8)) + p1).toNatClampNeg), .int (σ 146 (((8 : Int32) * p1) + (v2 - v2 / 8 * 8)).toNatClampNeg)]) (st' := [.int ((σ 146 (((8 : Int32) * (v2 / 8)) + p1).toNatClampNeg) + (σ 146 (((8 : Int32) * p1) + (v2 - v2 / 8 * 8)).toNatClampNeg)), .int v2, .ref 146]) (σ' := σ) rfl ?_
            refine xX_jmp (w := xw_126) (i := 97) (a := 102) (st' := [.int ((σ 146 (((8 : Int32) * (v2 / 8)) + p1).toNatClampNeg) + (σ 146 (((8 : Int32) * p1) + (v2 - v2 / 8 * 8)).toNatClampNeg)), .int v2, .ref 146]) eT_126 rfl rfl ?_
            obtain ⟨hi34, h⟩ := xgd_inv h
            refine xX_one (w := xw_126) (i := 102) (ls' := [.ref 141, .int p1, .int v2, .int (σ 146 (((8 : Int32) * (v2 / 8)) + p1).toNatClampNeg), .int (σ 146 (((8 : Int32) * p1) + (v2 - v2 / 8 * 8)).toNatClampNeg)]) (st' := []) (σ' := xup σ 146 v2.toNatClampNeg ((σ 146 (((8 : Int32) * (v2 / 8)) + p1).toNatClampNeg) + (σ 146 (((8 : Int32) * p1) + (v2 - v2 / 8 * 8)).toNatClampNeg))) eT_126 rfl (e_iast xs_146 hi34) ?_
            obtain ⟨σ35, eσ35, h⟩ := xlet_inv h
            rw [← eσ35]
            refine xX_blk (w := xw_126) eT_126 1 103 (ls' := [.ref 141, .int p1, .int (v2 + 1), .int (σ 146 (((8 : Int32) * (v2 / 8)) + p1).toNatClampNeg), .int (σ 146 (((8 : Int32) * p1) + (v2 - v2 / 8 * 8)).toNatClampNeg)]) (st' := []) (σ' := σ35) rfl ?_
            refine xX_jmp (w := xw_126) (i := 104) (a := 45) (st' := []) eT_126 rfl rfl ?_
            obtain rfl := Option.some.inj h
            exact hB ((v2 + 1), σ35) rfl _ _
set_option maxHeartbeats 1000000 in
set_option maxRecDepth 20000 in
theorem TL_X11_laysWays_42 {d : Nat} {o : Option Value × xM} (p1 : Int32) (v2 : Int32) (σ : xM) {e : (xM)} (hd : 0 ≤ d) (h : L_X11_laysWays_42 p1 v2 σ = some e) (hE : ∀ (z2 z3 z4 : Value), xX xT xLn d 126 105 [.ref 141, .int p1, z2, z3, z4] [] e o) (z3 : Value) (z4 : Value) : xX xT xLn d 126 45 [.ref 141, .int p1, .int v2, z3, z4] [] σ o :=
  xloop_snd (X := fun s => ∀ (z3 z4 : Value), xX xT xLn d 126 45 [.ref 141, .int p1, .int s.1, z3, z4] [] s.2 o) (Y := fun e' => ∀ (z2 z3 z4 : Value), xX xT xLn d 126 105 [.ref 141, .int p1, z2, z3, z4] [] e' o) (fun s q hs hB hE z3 z4 => TB_X11_laysWays_42 p1 s.1 s.2 hd hs hB hE z3 z4) _ _ _ h hE z3 z4
def B_X11_laysWays_37 (v1 : Int32) (σ : xM) : Option ((Int32 × xM) ⊕ ((xM))) :=
  if 8 ≤ v1 then
    some (.inr σ)
  else
    xbd (L_X11_laysWays_42 v1 0 σ) fun e36 =>
    some (.inl ((v1 + 1), e36))
def L_X11_laysWays_37 (v1 : Int32) (σ : xM) : Option ((xM)) := xloop (fun s : Int32 × xM => B_X11_laysWays_37 s.1 s.2) 6000 (v1, σ)
set_option maxHeartbeats 1000000 in
set_option maxRecDepth 20000 in
theorem TB_X11_laysWays_37 {d : Nat} {o : Option Value × xM} (v1 : Int32) (σ : xM) {q : (Int32 × xM) ⊕ ((xM))} (hd : 0 ≤ d) (h : B_X11_laysWays_37 v1 σ = some q) (hB : ∀ s', q = .inl s' → ∀ (z2 z3 z4 : Value), xX xT xLn d 126 39 [.ref 141, .int s'.1, z2, z3, z4] [] s'.2 o) (hE : ∀ e', q = .inr e' → ∀ (z0 z1 z2 z3 z4 : Value), xX xT xLn d 126 108 [z0, z1, z2, z3, z4] [] e' o) (z2 : Value) (z3 : Value) (z4 : Value) : xX xT xLn d 126 39 [.ref 141, .int v1, z2, z3, z4] [] σ o := by
  unfold B_X11_laysWays_37 at h
  refine xX_blk (w := xw_126) eT_126 3 39 (ls' := [.ref 141, .int v1, .null, .null, .null]) (st' := [.int 8, .int v1]) (σ' := σ) rfl ?_
  refine xX_ite (c := 8 ≤ v1) (w := xw_126) (i := 42) (a := 108) (b := 43) (st' := []) eT_126 rfl rfl (fun hc13 => ?_) (fun hc13 => ?_)
  · rw [if_pos hc13] at h
    obtain rfl := Option.some.inj h
    exact hE σ rfl _ _ _ _ _
  · rw [if_neg hc13] at h
    refine xX_blk (w := xw_126) eT_126 2 43 (ls' := [.ref 141, .int v1, .int 0, .null, .null]) (st' := []) (σ' := σ) rfl ?_
    obtain ⟨e36, he36, h⟩ := xbd_inv h
    refine TL_X11_laysWays_42 v1 0 σ (by omega) he36 (fun z2 z3 z4 => ?_) _ _
    refine xX_blk (w := xw_126) eT_126 2 105 (ls' := [.ref 141, .int (v1 + 1), .null, .null, .null]) (st' := []) (σ' := e36) rfl ?_
    refine xX_jmp (w := xw_126) (i := 107) (a := 39) (st' := []) eT_126 rfl rfl ?_
    obtain rfl := Option.some.inj h
    exact hB ((v1 + 1), e36) rfl _ _ _
set_option maxHeartbeats 1000000 in
set_option maxRecDepth 20000 in
theorem TL_X11_laysWays_37 {d : Nat} {o : Option Value × xM} (v1 : Int32) (σ : xM) {e : (xM)} (hd : 0 ≤ d) (h : L_X11_laysWays_37 v1 σ = some e) (hE : ∀ (z0 z1 z2 z3 z4 : Value), xX xT xLn d 126 108 [z0, z1, z2, z3, z4] [] e o) (z2 : Value) (z3 : Value) (z4 : Value) : xX xT xLn d 126 39 [.ref 141, .int v1, z2, z3, z4] [] σ o :=
  xloop_snd (X := fun s => ∀ (z2 z3 z4 : Value), xX xT xLn d 126 39 [.ref 141, .int s.1, z2, z3, z4] [] s.2 o) (Y := fun e' => ∀ (z0 z1 z2 z3 z4 : Value), xX xT xLn d 126 108 [z0, z1, z2, z3, z4] [] e' o) (fun s q hs hB hE z2 z3 z4 => TB_X11_laysWays_37 s.1 s.2 hd hs hB hE z2 z3 z4) _ _ _ h hE z2 z3 z4
def F_X11_laysWays (σ : xM) : Option (xM) :=
  xbd (L_X11_laysWays_2 0 σ) fun e12 =>
  xbd (L_X11_laysWays_37 0 e12) fun e37 =>
  some e37
set_option maxHeartbeats 1000000 in
set_option maxRecDepth 20000 in
theorem T_X11_laysWays (σ : xM) {d : Nat} {q : xM} (hd : 0 ≤ d) (h : F_X11_laysWays σ = some q) : xR xT xLn d 126 [.ref 141] σ (none, q) := by
  unfold F_X11_laysWays at h
  show xX xT xLn d 126 0 [.ref 141, .null, .null, .null, .null] [] σ _
  refine xX_blk (w := xw_126) eT_126 2 0 (ls' := [.ref 141, .int 0, .null, .null, .null]) (st' := []) (σ' := σ) rfl ?_
  obtain ⟨e12, he12, h⟩ := xbd_inv h
  refine TL_X11_laysWays_2 0 σ (by omega) he12 (fun z1 z2 z3 z4 => ?_) _ _ _
  refine xX_blk (w := xw_126) eT_126 3 36 (ls' := [.ref 141, .int 0, .null, .null, .null]) (st' := []) (σ' := e12) rfl ?_
  obtain ⟨e37, he37, h⟩ := xbd_inv h
  refine TL_X11_laysWays_37 0 e12 (by omega) he37 (fun z0 z1 z2 z3 z4 => ?_) _ _ _
  refine xX_blk (w := xw_126) eT_126 1 108 (ls' := [.null, .null, .null, .null, .null]) (st' := []) (σ' := e37) rfl ?_
  obtain rfl := Option.some.inj h
  exact xX_ret (w := xw_126) (i := 109) eT_126 rfl rfl
def F_X11_ofSite (a : Int32) (b : Int32) (σ : xM) : Option (Int32) :=
  xgd (xin (((101 : Int32) + ((4 : Int32) * a)) + b) 169) (
  some (σ 142 (((101 : Int32) + ((4 : Int32) * a)) + b).toNatClampNeg))
set_option maxHeartbeats 1000000 in
set_option maxRecDepth 20000 in
theorem T_X11_ofSite (a : Int32) (b : Int32) (σ : xM) {d : Nat} {q : Int32} (hd : 0 ≤ d) (h : F_X11_ofSite a b σ = some q) : xR xT xLn d 120 [.ref 141, .int a, .int b] σ (some (.int q), σ) := by
  unfold F_X11_ofSite at h
  show xX xT xLn d 120 0 [.ref 141, .int a, .int b] [] σ _
  refine xX_blk (w := xw_120) eT_120 9 0 (ls' := [.ref 141, .int a, .int b]) (st' := [.int (((101 : Int32) + ((4 : Int32) * a)) + b), .ref 142]) (σ' := σ) rfl ?_
  obtain ⟨hi1, h⟩ := xgd_inv h
  refine xX_one (w := xw_120) (i := 9) (ls' := [.ref 141, .int a, .int b]) (st' := [.int (σ 142 (((101 : Int32) + ((4 : Int32) * a)) + b).toNatClampNeg)]) (σ' := σ) eT_120 rfl (e_iald xs_142 hi1) ?_
  obtain rfl := Option.some.inj h
  exact xX_ret (w := xw_120) (i := 10) eT_120 rfl rfl
def F_X11_way (a : Int32) (b : Int32) (σ : xM) : Option (Int32) :=
  xgd (xin (((8 : Int32) * a) + b) 64) (
  some (σ 146 (((8 : Int32) * a) + b).toNatClampNeg))
set_option maxHeartbeats 1000000 in
set_option maxRecDepth 20000 in
theorem T_X11_way (a : Int32) (b : Int32) (σ : xM) {d : Nat} {q : Int32} (hd : 0 ≤ d) (h : F_X11_way a b σ = some q) : xR xT xLn d 127 [.ref 141, .int a, .int b] σ (some (.int q), σ) := by
  unfold F_X11_way at h
  show xX xT xLn d 127 0 [.ref 141, .int a, .int b] [] σ _
  refine xX_blk (w := xw_127) eT_127 7 0 (ls' := [.ref 141, .int a, .int b]) (st' := [.int (((8 : Int32) * a) + b), .ref 146]) (σ' := σ) rfl ?_
  obtain ⟨hi1, h⟩ := xgd_inv h
  refine xX_one (w := xw_127) (i := 7) (ls' := [.ref 141, .int a, .int b]) (st' := [.int (σ 146 (((8 : Int32) * a) + b).toNatClampNeg)]) (σ' := σ) eT_127 rfl (e_iald xs_146 hi1) ?_
  obtain rfl := Option.some.inj h
  exact xX_ret (w := xw_127) (i := 8) eT_127 rfl rfl
def F_X11_stateOf (a : Int32) (σ : xM) : Option (Int32) :=
  xgd (xin (((101 : Int32) + ((4 : Int32) * a)) + 3) 169) (
  some (σ 142 (((101 : Int32) + ((4 : Int32) * a)) + 3).toNatClampNeg))
set_option maxHeartbeats 1000000 in
set_option maxRecDepth 20000 in
theorem T_X11_stateOf (a : Int32) (σ : xM) {d : Nat} {q : Int32} (hd : 0 ≤ d) (h : F_X11_stateOf a σ = some q) : xR xT xLn d 122 [.ref 141, .int a] σ (some (.int q), σ) := by
  unfold F_X11_stateOf at h
  show xX xT xLn d 122 0 [.ref 141, .int a] [] σ _
  refine xX_blk (w := xw_122) eT_122 9 0 (ls' := [.ref 141, .int a]) (st' := [.int (((101 : Int32) + ((4 : Int32) * a)) + 3), .ref 142]) (σ' := σ) rfl ?_
  obtain ⟨hi1, h⟩ := xgd_inv h
  refine xX_one (w := xw_122) (i := 9) (ls' := [.ref 141, .int a]) (st' := [.int (σ 142 (((101 : Int32) + ((4 : Int32) * a)) + 3).toNatClampNeg)]) (σ' := σ) eT_122 rfl (e_iald xs_142 hi1) ?_
  obtain rfl := Option.some.inj h
  exact xX_ret (w := xw_122) (i := 10) eT_122 rfl rfl
def F_X11_stepOf (a : Int32) (σ : xM) : Option (Int32) :=
  xgd (xin (((101 : Int32) + ((4 : Int32) * a)) + 2) 169) (
  some (σ 142 (((101 : Int32) + ((4 : Int32) * a)) + 2).toNatClampNeg))
set_option maxHeartbeats 1000000 in
set_option maxRecDepth 20000 in
theorem T_X11_stepOf (a : Int32) (σ : xM) {d : Nat} {q : Int32} (hd : 0 ≤ d) (h : F_X11_stepOf a σ = some q) : xR xT xLn d 121 [.ref 141, .int a] σ (some (.int q), σ) := by
  unfold F_X11_stepOf at h
  show xX xT xLn d 121 0 [.ref 141, .int a] [] σ _
  refine xX_blk (w := xw_121) eT_121 9 0 (ls' := [.ref 141, .int a]) (st' := [.int (((101 : Int32) + ((4 : Int32) * a)) + 2), .ref 142]) (σ' := σ) rfl ?_
  obtain ⟨hi1, h⟩ := xgd_inv h
  refine xX_one (w := xw_121) (i := 9) (ls' := [.ref 141, .int a]) (st' := [.int (σ 142 (((101 : Int32) + ((4 : Int32) * a)) + 2).toNatClampNeg)]) (σ' := σ) eT_121 rfl (e_iald xs_142 hi1) ?_
  obtain rfl := Option.some.inj h
  exact xX_ret (w := xw_121) (i := 10) eT_121 rfl rfl
def F_X11_seemsThen (a : Int32) (b : Int32) (σ : xM) : Option (Int32) :=
  xbd (F_X11_ofSite b 0 σ) fun r1 =>
  xbd (F_X11_way a r1 σ) fun r2 =>
  if r2 = (-1) then
    some (-1)
  else
    xbd (F_X11_stateOf b σ) fun r4 =>
    if r4 = 2 then
      some (-1)
    else
      xgd (xin ((21 : Int32) + a) 169) (
      if (σ 142 ((21 : Int32) + a).toNatClampNeg) = 1 then
        some (r2 + 0)
      else
        xbd (F_X11_stepOf b σ) fun r8 =>
        some (r2 + ((3 : Int32) * r8)))
set_option maxHeartbeats 1000000 in
set_option maxRecDepth 20000 in
theorem T_X11_seemsThen (a : Int32) (b : Int32) (σ : xM) {d : Nat} {q : Int32} (hd : 1 ≤ d) (h : F_X11_seemsThen a b σ = some q) : xR xT xLn d 128 [.ref 141, .int a, .int b] σ (some (.int q), σ) := by
  unfold F_X11_seemsThen at h
  show xX xT xLn d 128 0 [.ref 141, .int a, .int b, .null] [] σ _
  refine xX_blk (w := xw_128) eT_128 5 0 (ls' := [.ref 141, .int a, .int b, .null]) (st' := [.int 0, .int b, .ref 141, .int a, .ref 141]) (σ' := σ) rfl ?_
  obtain ⟨r1, hr1, h⟩ := xbd_inv h
  refine xX_c1 (w := xw_128) (i := 5) (ls := [.ref 141, .int a, .int b, .null]) (rest := [.int a, .ref 141]) eT_128 rfl (by omega) rfl rfl rfl (T_X11_ofSite b 0 σ (by omega) hr1) ?_
  obtain ⟨r2, hr2, h⟩ := xbd_inv h
  refine xX_c1 (w := xw_128) (i := 6) (ls := [.ref 141, .int a, .int b, .null]) (rest := []) eT_128 rfl (by omega) rfl rfl rfl (T_X11_way a r1 σ (by omega) hr2) ?_
  refine xX_blk (w := xw_128) eT_128 3 7 (ls' := [.ref 141, .int a, .int b, .int r2]) (st' := [.int (-1), .int r2]) (σ' := σ) rfl ?_
  refine xX_ite (c := r2 = (-1)) (w := xw_128) (i := 10) (a := 16) (b := 11) (st' := []) eT_128 rfl rfl (fun hc3 => ?_) (fun hc3 => ?_)
  · rw [if_pos hc3] at h
    refine xX_blk (w := xw_128) eT_128 1 16 (ls' := [.ref 141, .int a, .int b, .int r2]) (st' := [.int (-1)]) (σ' := σ) rfl ?_
    refine xX_jmp (w := xw_128) (i := 17) (a := 35) (st' := [.int (-1)]) eT_128 rfl rfl ?_
    obtain rfl := Option.some.inj h
    exact xX_ret (w := xw_128) (i := 35) eT_128 rfl rfl
  · rw [if_neg hc3] at h
    refine xX_blk (w := xw_128) eT_128 2 11 (ls' := [.ref 141, .int a, .int b, .int r2]) (st' := [.int b, .ref 141]) (σ' := σ) rfl ?_
    obtain ⟨r4, hr4, h⟩ := xbd_inv h
    refine xX_c1 (w := xw_128) (i := 13) (ls := [.ref 141, .int a, .int b, .int r2]) (rest := []) eT_128 rfl (by omega) rfl rfl rfl (T_X11_stateOf b σ (by omega) hr4) ?_
    refine xX_blk (w := xw_128) eT_128 1 14 (ls' := [.ref 141, .int a, .int b, .int r2]) (st' := [.int 2, .int r4]) (σ' := σ) rfl ?_
    refine xX_ite (c := r4 = 2) (w := xw_128) (i := 15) (a := 16) (b := 18) (st' := []) eT_128 rfl rfl (fun hc5 => ?_) (fun hc5 => ?_)
    · rw [if_pos hc5] at h
      refine xX_blk (w := xw_128) eT_128 1 16 (ls' := [.ref 141, .int a, .int b, .int r2]) (st' := [.int (-1)]) (σ' := σ) rfl ?_
      refine xX_jmp (w := xw_128) (i := 17) (a := 35) (st' := [.int (-1)]) eT_128 rfl rfl ?_
      obtain rfl := Option.some.inj h
      exact xX_ret (w := xw_128) (i := 35) eT_128 rfl rfl
    · rw [if_neg hc5] at h
      refine xX_blk (w := xw_128) eT_128 6 18 (ls' := [.ref 141, .int a, .int b, .int r2]) (st' := [.int ((21 : Int32) + a), .ref 142, .int r2]) (σ' := σ) rfl ?_
      obtain ⟨hi6, h⟩ := xgd_inv h
      refine xX_one (w := xw_128) (i := 24) (ls' := [.ref 141, .int a, .int b, .int r2]) (st' := [.int (σ 142 ((21 : Int32) + a).toNatClampNeg), .int r2]) (σ' := σ) eT_128 rfl (e_iald xs_142 hi6) ?_
      refine xX_blk (w := xw_128) eT_128 1 25 (ls' := [.ref 141, .int a, .int b, .int r2]) (st' := [.int 1, .int (σ 142 ((21 : Int32) + a).toNatClampNeg), .int r2]) (σ' := σ) rfl ?_
      refine xX_ite (c := (σ 142 ((21 : Int32) + a).toNatClampNeg) = 1) (w := xw_128) (i := 26) (a := 27) (b := 29) (st' := [.int r2]) eT_128 rfl rfl (fun hc7 => ?_) (fun hc7 => ?_)
      · rw [if_pos hc7] at h
        refine xX_blk (w := xw_128) eT_128 1 27 (ls' := [.ref 141, .int a, .int b, .int r2]) (st' := [.int 0, .int r2]) (σ' := σ) rfl ?_
        refine xX_jmp (w := xw_128) (i := 28) (a := 34) (st' := [.int 0, .int r2]) eT_128 rfl rfl ?_
        refine xX_blk (w := xw_128) eT_128 1 34 (ls' := [.ref 141, .int a, .int b, .int r2]) (st' := [.int (r2 + 0)]) (σ' := σ) rfl ?_
        obtain rfl := Option.some.inj h
        exact xX_ret (w := xw_128) (i := 35) eT_128 rfl rfl
      · rw [if_neg hc7] at h
        refine xX_blk (w := xw_128) eT_128 3 29 (ls' := [.ref 141, .int a, .int b, .int r2]) (st' := [.int b, .ref 141, .int 3, .int r2]) (σ' := σ) rfl ?_
        obtain ⟨r8, hr8, h⟩ := xbd_inv h
        refine xX_c1 (w := xw_128) (i := 32) (ls := [.ref 141, .int a, .int b, .int r2]) (rest := [.int 3, .int r2]) eT_128 rfl (by omega) rfl rfl rfl (T_X11_stepOf b σ (by omega) hr8) ?_
        refine xX_blk (w := xw_128) eT_128 2 33 (ls' := [.ref 141, .int a, .int b, .int r2]) (st' := [.int (r2 + ((3 : Int32) * r8))]) (σ' := σ) rfl ?_
        obtain rfl := Option.some.inj h
        exact xX_ret (w := xw_128) (i := 35) eT_128 rfl rfl
def B_X11_catchOf_30 (p1 : Int32) (v3 : Int32) (v4 : Int32) (σ : xM) : Option ((Int32 × Int32) ⊕ ((Int32))) :=
  if (σ 142 1) ≤ v4 then
    some (.inr v3)
  else
    xbd (F_X11_seemsThen p1 v4 σ) fun r6 =>
    if v3 = (-1) then
      if v3 = (-1) then
        if r6 = (-1) then
          some (.inl (v3, (v4 + 1)))
        else
          some (.inl (v4, (v4 + 1)))
      else
        if r6 < 0 then
          if r6 = (-1) then
            some (.inl (v3, (v4 + 1)))
          else
            some (.inl (v4, (v4 + 1)))
        else
          if r6 = 0 then
            xbd (F_X11_stepOf v4 σ) fun r13 =>
            xbd (F_X11_stepOf v3 σ) fun r14 =>
            if r14 ≤ r13 then
              if r6 = (-1) then
                some (.inl (v3, (v4 + 1)))
              else
                some (.inl (v3, (v4 + 1)))
            else
              if r6 = (-1) then
                some (.inl (v3, (v4 + 1)))
              else
                some (.inl (v4, (v4 + 1)))
          else
            if r6 = (-1) then
              some (.inl (v3, (v4 + 1)))
            else
              some (.inl (v3, (v4 + 1)))
    else
      xbd (F_X11_seemsThen p1 v3 σ) fun r19 =>
      if v3 = (-1) then
        if r6 = (-1) then
          some (.inl (v3, (v4 + 1)))
        else
          some (.inl (v4, (v4 + 1)))
      else
        if r6 < r19 then
          if r6 = (-1) then
            some (.inl (v3, (v4 + 1)))
          else
            some (.inl (v4, (v4 + 1)))
        else
          if r6 = r19 then
            xbd (F_X11_stepOf v4 σ) fun r25 =>
            xbd (F_X11_stepOf v3 σ) fun r26 =>
            if r26 ≤ r25 then
              if r6 = (-1) then
                some (.inl (v3, (v4 + 1)))
              else
                some (.inl (v3, (v4 + 1)))
            else
              if r6 = (-1) then
                some (.inl (v3, (v4 + 1)))
              else
                some (.inl (v4, (v4 + 1)))
          else
            if r6 = (-1) then
              some (.inl (v3, (v4 + 1)))
            else
              some (.inl (v3, (v4 + 1)))
def L_X11_catchOf_30 (p1 : Int32) (v3 : Int32) (v4 : Int32) (σ : xM) : Option ((Int32)) := xloop (fun s : Int32 × Int32 => B_X11_catchOf_30 p1 s.1 s.2 σ) 6000 (v3, v4)
set_option maxHeartbeats 1000000 in
set_option maxRecDepth 20000 in
theorem TB_X11_catchOf_30 {d : Nat} {o : Option Value × xM} (p1 : Int32) (v3 : Int32) (v4 : Int32) (σ : xM) {q : (Int32 × Int32) ⊕ ((Int32))} (hd : 2 ≤ d) (h : B_X11_catchOf_30 p1 v3 v4 σ = some q) (hB : ∀ s', q = .inl s' → ∀ (z2 z5 z6 z7 : Value), xX xT xLn d 129 30 [.ref 141, .int p1, z2, .int s'.1, .int s'.2, z5, z6, z7] [] σ o) (hE : ∀ e', q = .inr e' → ∀ (z0 z1 z2 z4 z5 z6 z7 : Value), xX xT xLn d 129 83 [z0, z1, z2, .int e', z4, z5, z6, z7] [] σ o) (z2 : Value) (z5 : Value) (z6 : Value) (z7 : Value) : xX xT xLn d 129 30 [.ref 141, .int p1, z2, .int v3, .int v4, z5, z6, z7] [] σ o := by
  unfold B_X11_catchOf_30 at h
  refine xX_blk (w := xw_129) eT_129 5 30 (ls' := [.ref 141, .int p1, .null, .int v3, .int v4, .null, .null, .null]) (st' := [.int 1, .ref 142, .int v4]) (σ' := σ) rfl ?_
  refine xX_one (w := xw_129) (i := 35) (ls' := [.ref 141, .int p1, .null, .int v3, .int v4, .null, .null, .null]) (st' := [.int (σ 142 1), .int v4]) (σ' := σ) eT_129 rfl (e_ialK xs_142 (by decide) (by decide)) ?_
  refine xX_ite (c := (σ 142 1) ≤ v4) (w := xw_129) (i := 36) (a := 83) (b := 37) (st' := []) eT_129 rfl rfl (fun hc5 => ?_) (fun hc5 => ?_)
  · rw [if_pos hc5] at h
    obtain rfl := Option.some.inj h
    exact hE v3 rfl _ _ _ _ _ _ _
  · rw [if_neg hc5] at h
    refine xX_blk (w := xw_129) eT_129 3 37 (ls' := [.ref 141, .int p1, .null, .int v3, .int v4, .null, .null, .null]) (st' := [.int v4, .int p1, .ref 141]) (σ' := σ) rfl ?_
    obtain ⟨r6, hr6, h⟩ := xbd_inv h
    refine xX_c1 (w := xw_129) (i := 40) (ls := [.ref 141, .int p1, .null, .int v3, .int v4, .null, .null, .null]) (rest := []) eT_129 rfl (by omega) rfl rfl rfl (T_X11_seemsThen p1 v4 σ (by omega) hr6) ?_
    refine xX_blk (w := xw_129) eT_129 3 41 (ls' := [.ref 141, .int p1, .null, .int v3, .int v4, .int r6, .null, .null]) (st' := [.int (-1), .int v3]) (σ' := σ) rfl ?_
    refine xX_ite (c := v3 = (-1)) (w := xw_129) (i := 44) (a := 45) (b := 47) (st' := []) eT_129 rfl rfl (fun hc7 => ?_) (fun hc7 => ?_)
    · rw [if_pos hc7] at h
      refine xX_blk (w := xw_129) eT_129 1 45 (ls' := [.ref 141, .int p1, .null, .int v3, .int v4, .int r6, .null, .null]) (st' := [.int 0]) (σ' := σ) rfl ?_
      refine xX_jmp (w := xw_129) (i := 46) (a := 51) (st' := [.int 0]) eT_129 rfl rfl ?_
      refine xX_blk (w := xw_129) eT_129 3 51 (ls' := [.ref 141, .int p1, .null, .int v3, .int v4, .int r6, .int 0, .null]) (st' := [.int (-1), .int v3]) (σ' := σ) rfl ?_
      refine xX_ite (c := v3 = (-1)) (w := xw_129) (i := 54) (a := 68) (b := 55) (st' := []) eT_129 rfl rfl (fun hc8 => ?_) (fun hc8 => ?_)
      · rw [if_pos hc8] at h
        refine xX_blk (w := xw_129) eT_129 1 68 (ls' := [.ref 141, .int p1, .null, .int v3, .int v4, .int r6, .int 0, .null]) (st' := [.int 1]) (σ' := σ) rfl ?_
        refine xX_jmp (w := xw_129) (i := 69) (a := 71) (st' := [.int 1]) eT_129 rfl rfl ?_
        refine xX_blk (w := xw_129) eT_129 3 71 (ls' := [.ref 141, .int p1, .null, .int v3, .int v4, .int r6, .int 0, .int 1]) (st' := [.int (-1), .int r6]) (σ' := σ) rfl ?_
        refine xX_ite (c := r6 = (-1)) (w := xw_129) (i := 74) (a := 79) (b := 75) (st' := []) eT_129 rfl rfl (fun hc9 => ?_) (fun hc9 => ?_)
        · rw [if_pos hc9] at h
          refine xX_blk (w := xw_129) eT_129 3 79 (ls' := [.ref 141, .int p1, .null, .int v3, .int (v4 + 1), .int r6, .int 0, .int 1]) (st' := []) (σ' := σ) rfl ?_
          refine xX_jmp (w := xw_129) (i := 82) (a := 30) (st' := []) eT_129 rfl rfl ?_
          obtain rfl := Option.some.inj h
          exact hB (v3, (v4 + 1)) rfl _ _ _ _
        · rw [if_neg hc9] at h
          refine xX_blk (w := xw_129) eT_129 1 75 (ls' := [.ref 141, .int p1, .null, .int v3, .int v4, .int r6, .int 0, .int 1]) (st' := [.int 1]) (σ' := σ) rfl ?_
          refine xX_ite (c := (1 : Int32) = 0) (w := xw_129) (i := 76) (a := 79) (b := 77) (st' := []) eT_129 rfl rfl (fun hc => absurd hc (by decide)) (fun _ => ?_)
          refine xX_blk (w := xw_129) eT_129 1 77 (ls' := [.ref 141, .int p1, .null, .int v3, .int v4, .int r6, .int 0, .int 1]) (st' := [.int v4]) (σ' := σ) rfl ?_
          refine xX_jmp (w := xw_129) (i := 78) (a := 80) (st' := [.int v4]) eT_129 rfl rfl ?_
          refine xX_blk (w := xw_129) eT_129 2 80 (ls' := [.ref 141, .int p1, .null, .int v4, .int (v4 + 1), .int r6, .int 0, .int 1]) (st' := []) (σ' := σ) rfl ?_
          refine xX_jmp (w := xw_129) (i := 82) (a := 30) (st' := []) eT_129 rfl rfl ?_
          obtain rfl := Option.some.inj h
          exact hB (v4, (v4 + 1)) rfl _ _ _ _
      · rw [if_neg hc8] at h
        refine xX_blk (w := xw_129) eT_129 2 55 (ls' := [.ref 141, .int p1, .null, .int v3, .int v4, .int r6, .int 0, .null]) (st' := [.int 0, .int r6]) (σ' := σ) rfl ?_
        refine xX_ite (c := r6 < 0) (w := xw_129) (i := 57) (a := 68) (b := 58) (st' := []) eT_129 rfl rfl (fun hc10 => ?_) (fun hc10 => ?_)
        · rw [if_pos hc10] at h
          refine xX_blk (w := xw_129) eT_129 1 68 (ls' := [.ref 141, .int p1, .null, .int v3, .int v4, .int r6, .int 0, .null]) (st' := [.int 1]) (σ' := σ) rfl ?_
          refine xX_jmp (w := xw_129) (i := 69) (a := 71) (st' := [.int 1]) eT_129 rfl rfl ?_
          refine xX_blk (w := xw_129) eT_129 3 71 (ls' := [.ref 141, .int p1, .null, .int v3, .int v4, .int r6, .int 0, .int 1]) (st' := [.int (-1), .int r6]) (σ' := σ) rfl ?_
          refine xX_ite (c := r6 = (-1)) (w := xw_129) (i := 74) (a := 79) (b := 75) (st' := []) eT_129 rfl rfl (fun hc11 => ?_) (fun hc11 => ?_)
          · rw [if_pos hc11] at h
            refine xX_blk (w := xw_129) eT_129 3 79 (ls' := [.ref 141, .int p1, .null, .int v3, .int (v4 + 1), .int r6, .int 0, .int 1]) (st' := []) (σ' := σ) rfl ?_
            refine xX_jmp (w := xw_129) (i := 82) (a := 30) (st' := []) eT_129 rfl rfl ?_
            obtain rfl := Option.some.inj h
            exact hB (v3, (v4 + 1)) rfl _ _ _ _
          · rw [if_neg hc11] at h
            refine xX_blk (w := xw_129) eT_129 1 75 (ls' := [.ref 141, .int p1, .null, .int v3, .int v4, .int r6, .int 0, .int 1]) (st' := [.int 1]) (σ' := σ) rfl ?_
            refine xX_ite (c := (1 : Int32) = 0) (w := xw_129) (i := 76) (a := 79) (b := 77) (st' := []) eT_129 rfl rfl (fun hc => absurd hc (by decide)) (fun _ => ?_)
            refine xX_blk (w := xw_129) eT_129 1 77 (ls' := [.ref 141, .int p1, .null, .int v3, .int v4, .int r6, .int 0, .int 1]) (st' := [.int v4]) (σ' := σ) rfl ?_
            refine xX_jmp (w := xw_129) (i := 78) (a := 80) (st' := [.int v4]) eT_129 rfl rfl ?_
            refine xX_blk (w := xw_129) eT_129 2 80 (ls' := [.ref 141, .int p1, .null, .int v4, .int (v4 + 1), .int r6, .int 0, .int 1]) (st' := []) (σ' := σ) rfl ?_
            refine xX_jmp (w := xw_129) (i := 82) (a := 30) (st' := []) eT_129 rfl rfl ?_
            obtain rfl := Option.some.inj h
            exact hB (v4, (v4 + 1)) rfl _ _ _ _
        · rw [if_neg hc10] at h
          refine xX_blk (w := xw_129) eT_129 2 58 (ls' := [.ref 141, .int p1, .null, .int v3, .int v4, .int r6, .int 0, .null]) (st' := [.int 0, .int r6]) (σ' := σ) rfl ?_
          refine xX_ite (c := r6 = 0) (w := xw_129) (i := 60) (a := 61) (b := 70) (st' := []) eT_129 rfl rfl (fun hc12 => ?_) (fun hc12 => ?_)
          · rw [if_pos hc12] at h
            refine xX_blk (w := xw_129) eT_129 2 61 (ls' := [.ref 141, .int p1, .null, .int v3, .int v4, .int r6, .int 0, .null]) (st' := [.int v4, .ref 141]) (σ' := σ) rfl ?_
            obtain ⟨r13, hr13, h⟩ := xbd_inv h
            refine xX_c1 (w := xw_129) (i := 63) (ls := [.ref 141, .int p1, .null, .int v3, .int v4, .int r6, .int 0, .null]) (rest := []) eT_129 rfl (by omega) rfl rfl rfl (T_X11_stepOf v4 σ (by omega) hr13) ?_
            refine xX_blk (w := xw_129) eT_129 2 64 (ls' := [.ref 141, .int p1, .null, .int v3, .int v4, .int r6, .int 0, .null]) (st' := [.int v3, .ref 141, .int r13]) (σ' := σ) rfl ?_
            obtain ⟨r14, hr14, h⟩ := xbd_inv h
            refine xX_c1 (w := xw_129) (i := 66) (ls := [.ref 141, .int p1, .null, .int v3, .int v4, .int r6, .int 0, .null]) (rest := [.int r13]) eT_129 rfl (by omega) rfl rfl rfl (T_X11_stepOf v3 σ (by omega) hr14) ?_
            refine xX_ite (c := r14 ≤ r13) (w := xw_129) (i := 67) (a := 70) (b := 68) (st' := []) eT_129 rfl rfl (fun hc15 => ?_) (fun hc15 => ?_)
            · rw [if_pos hc15] at h
              refine xX_blk (w := xw_129) eT_129 4 70 (ls' := [.ref 141, .int p1, .null, .int v3, .int v4, .int r6, .int 0, .int 0]) (st' := [.int (-1), .int r6]) (σ' := σ) rfl ?_
              refine xX_ite (c := r6 = (-1)) (w := xw_129) (i := 74) (a := 79) (b := 75) (st' := []) eT_129 rfl rfl (fun hc16 => ?_) (fun hc16 => ?_)
              · rw [if_pos hc16] at h
                refine xX_blk (w := xw_129) eT_129 3 79 (ls' := [.ref 141, .int p1, .null, .int v3, .int (v4 + 1), .int r6, .int 0, .int 0]) (st' := []) (σ' := σ) rfl ?_
                refine xX_jmp (w := xw_129) (i := 82) (a := 30) (st' := []) eT_129 rfl rfl ?_
                obtain rfl := Option.some.inj h
                exact hB (v3, (v4 + 1)) rfl _ _ _ _
              · rw [if_neg hc16] at h
                refine xX_blk (w := xw_129) eT_129 1 75 (ls' := [.ref 141, .int p1, .null, .int v3, .int v4, .int r6, .int 0, .int 0]) (st' := [.int 0]) (σ' := σ) rfl ?_
                refine xX_ite (c := (0 : Int32) = 0) (w := xw_129) (i := 76) (a := 79) (b := 77) (st' := []) eT_129 rfl rfl (fun _ => ?_) (fun hc => absurd (by decide) hc)
                refine xX_blk (w := xw_129) eT_129 3 79 (ls' := [.ref 141, .int p1, .null, .int v3, .int (v4 + 1), .int r6, .int 0, .int 0]) (st' := []) (σ' := σ) rfl ?_
                refine xX_jmp (w := xw_129) (i := 82) (a := 30) (st' := []) eT_129 rfl rfl ?_
                obtain rfl := Option.some.inj h
                exact hB (v3, (v4 + 1)) rfl _ _ _ _
            · rw [if_neg hc15] at h
              refine xX_blk (w := xw_129) eT_129 1 68 (ls' := [.ref 141, .int p1, .null, .int v3, .int v4, .int r6, .int 0, .null]) (st' := [.int 1]) (σ' := σ) rfl ?_
              refine xX_jmp (w := xw_129) (i := 69) (a := 71) (st' := [.int 1]) eT_129 rfl rfl ?_
              refine xX_blk (w := xw_129) eT_129 3 71 (ls' := [.ref 141, .int p1, .null, .int v3, .int v4, .int r6, .int 0, .int 1]) (st' := [.int (-1), .int r6]) (σ' := σ) rfl ?_
              refine xX_ite (c := r6 = (-1)) (w := xw_129) (i := 74) (a := 79) (b := 75) (st' := []) eT_129 rfl rfl (fun hc17 => ?_) (fun hc17 => ?_)
              · rw [if_pos hc17] at h
                refine xX_blk (w := xw_129) eT_129 3 79 (ls' := [.ref 141, .int p1, .null, .int v3, .int (v4 + 1), .int r6, .int 0, .int 1]) (st' := []) (σ' := σ) rfl ?_
                refine xX_jmp (w := xw_129) (i := 82) (a := 30) (st' := []) eT_129 rfl rfl ?_
                obtain rfl := Option.some.inj h
                exact hB (v3, (v4 + 1)) rfl _ _ _ _
              · rw [if_neg hc17] at h
                refine xX_blk (w := xw_129) eT_129 1 75 (ls' := [.ref 141, .int p1, .null, .int v3, .int v4, .int r6, .int 0, .int 1]) (st' := [.int 1]) (σ' := σ) rfl ?_
                refine xX_ite (c := (1 : Int32) = 0) (w := xw_129) (i := 76) (a := 79) (b := 77) (st' := []) eT_129 rfl rfl (fun hc => absurd hc (by decide)) (fun _ => ?_)
                refine xX_blk (w := xw_129) eT_129 1 77 (ls' := [.ref 141, .int p1, .null, .int v3, .int v4, .int r6, .int 0, .int 1]) (st' := [.int v4]) (σ' := σ) rfl ?_
                refine xX_jmp (w := xw_129) (i := 78) (a := 80) (st' := [.int v4]) eT_129 rfl rfl ?_
                refine xX_blk (w := xw_129) eT_129 2 80 (ls' := [.ref 141, .int p1, .null, .int v4, .int (v4 + 1), .int r6, .int 0, .int 1]) (st' := []) (σ' := σ) rfl ?_
                refine xX_jmp (w := xw_129) (i := 82) (a := 30) (st' := []) eT_129 rfl rfl ?_
                obtain rfl := Option.some.inj h
                exact hB (v4, (v4 + 1)) rfl _ _ _ _
          · rw [if_neg hc12] at h
            refine xX_blk (w := xw_129) eT_129 4 70 (ls' := [.ref 141, .int p1, .null, .int v3, .int v4, .int r6, .int 0, .int 0]) (st' := [.int (-1), .int r6]) (σ' := σ) rfl ?_
            refine xX_ite (c := r6 = (-1)) (w := xw_129) (i := 74) (a := 79) (b := 75) (st' := []) eT_129 rfl rfl (fun hc18 => ?_) (fun hc18 => ?_)
            · rw [if_pos hc18] at h
              refine xX_blk (w := xw_129) eT_129 3 79 (ls' := [.ref 141, .int p1, .null, .int v3, .int (v4 + 1), .int r6, .int 0, .int 0]) (st' := []) (σ' := σ) rfl ?_
              refine xX_jmp (w := xw_129) (i := 82) (a := 30) (st' := []) eT_129 rfl rfl ?_
              obtain rfl := Option.some.inj h
              exact hB (v3, (v4 + 1)) rfl _ _ _ _
            · rw [if_neg hc18] at h
              refine xX_blk (w := xw_129) eT_129 1 75 (ls' := [.ref 141, .int p1, .null, .int v3, .int v4, .int r6, .int 0, .int 0]) (st' := [.int 0]) (σ' := σ) rfl ?_
              refine xX_ite (c := (0 : Int32) = 0) (w := xw_129) (i := 76) (a := 79) (b := 77) (st' := []) eT_129 rfl rfl (fun _ => ?_) (fun hc => absurd (by decide) hc)
              refine xX_blk (w := xw_129) eT_129 3 79 (ls' := [.ref 141, .int p1, .null, .int v3, .int (v4 + 1), .int r6, .int 0, .int 0]) (st' := []) (σ' := σ) rfl ?_
              refine xX_jmp (w := xw_129) (i := 82) (a := 30) (st' := []) eT_129 rfl rfl ?_
              obtain rfl := Option.some.inj h
              exact hB (v3, (v4 + 1)) rfl _ _ _ _
    · rw [if_neg hc7] at h
      refine xX_blk (w := xw_129) eT_129 3 47 (ls' := [.ref 141, .int p1, .null, .int v3, .int v4, .int r6, .null, .null]) (st' := [.int v3, .int p1, .ref 141]) (σ' := σ) rfl ?_
      obtain ⟨r19, hr19, h⟩ := xbd_inv h
      refine xX_c1 (w := xw_129) (i := 50) (ls := [.ref 141, .int p1, .null, .int v3, .int v4, .int r6, .null, .null]) (rest := []) eT_129 rfl (by omega) rfl rfl rfl (T_X11_seemsThen p1 v3 σ (by omega) hr19) ?_
      refine xX_blk (w := xw_129) eT_129 3 51 (ls' := [.ref 141, .int p1, .null, .int v3, .int v4, .int r6, .int r19, .null]) (st' := [.int (-1), .int v3]) (σ' := σ) rfl ?_
      refine xX_ite (c := v3 = (-1)) (w := xw_129) (i := 54) (a := 68) (b := 55) (st' := []) eT_129 rfl rfl (fun hc20 => ?_) (fun hc20 => ?_)
      · rw [if_pos hc20] at h
        refine xX_blk (w := xw_129) eT_129 1 68 (ls' := [.ref 141, .int p1, .null, .int v3, .int v4, .int r6, .int r19, .null]) (st' := [.int 1]) (σ' := σ) rfl ?_
        refine xX_jmp (w := xw_129) (i := 69) (a := 71) (st' := [.int 1]) eT_129 rfl rfl ?_
        refine xX_blk (w := xw_129) eT_129 3 71 (ls' := [.ref 141, .int p1, .null, .int v3, .int v4, .int r6, .int r19, .int 1]) (st' := [.int (-1), .int r6]) (σ' := σ) rfl ?_
        refine xX_ite (c := r6 = (-1)) (w := xw_129) (i := 74) (a := 79) (b := 75) (st' := []) eT_129 rfl rfl (fun hc21 => ?_) (fun hc21 => ?_)
        · rw [if_pos hc21] at h
          refine xX_blk (w := xw_129) eT_129 3 79 (ls' := [.ref 141, .int p1, .null, .int v3, .int (v4 + 1), .int r6, .int r19, .int 1]) (st' := []) (σ' := σ) rfl ?_
          refine xX_jmp (w := xw_129) (i := 82) (a := 30) (st' := []) eT_129 rfl rfl ?_
          obtain rfl := Option.some.inj h
          exact hB (v3, (v4 + 1)) rfl _ _ _ _
        · rw [if_neg hc21] at h
          refine xX_blk (w := xw_129) eT_129 1 75 (ls' := [.ref 141, .int p1, .null, .int v3, .int v4, .int r6, .int r19, .int 1]) (st' := [.int 1]) (σ' := σ) rfl ?_
          refine xX_ite (c := (1 : Int32) = 0) (w := xw_129) (i := 76) (a := 79) (b := 77) (st' := []) eT_129 rfl rfl (fun hc => absurd hc (by decide)) (fun _ => ?_)
          refine xX_blk (w := xw_129) eT_129 1 77 (ls' := [.ref 141, .int p1, .null, .int v3, .int v4, .int r6, .int r19, .int 1]) (st' := [.int v4]) (σ' := σ) rfl ?_
          refine xX_jmp (w := xw_129) (i := 78) (a := 80) (st' := [.int v4]) eT_129 rfl rfl ?_
          refine xX_blk (w := xw_129) eT_129 2 80 (ls' := [.ref 141, .int p1, .null, .int v4, .int (v4 + 1), .int r6, .int r19, .int 1]) (st' := []) (σ' := σ) rfl ?_
          refine xX_jmp (w := xw_129) (i := 82) (a := 30) (st' := []) eT_129 rfl rfl ?_
          obtain rfl := Option.some.inj h
          exact hB (v4, (v4 + 1)) rfl _ _ _ _
      · rw [if_neg hc20] at h
        refine xX_blk (w := xw_129) eT_129 2 55 (ls' := [.ref 141, .int p1, .null, .int v3, .int v4, .int r6, .int r19, .null]) (st' := [.int r19, .int r6]) (σ' := σ) rfl ?_
        refine xX_ite (c := r6 < r19) (w := xw_129) (i := 57) (a := 68) (b := 58) (st' := []) eT_129 rfl rfl (fun hc22 => ?_) (fun hc22 => ?_)
        · rw [if_pos hc22] at h
          refine xX_blk (w := xw_129) eT_129 1 68 (ls' := [.ref 141, .int p1, .null, .int v3, .int v4, .int r6, .int r19, .null]) (st' := [.int 1]) (σ' := σ) rfl ?_
          refine xX_jmp (w := xw_129) (i := 69) (a := 71) (st' := [.int 1]) eT_129 rfl rfl ?_
          refine xX_blk (w := xw_129) eT_129 3 71 (ls' := [.ref 141, .int p1, .null, .int v3, .int v4, .int r6, .int r19, .int 1]) (st' := [.int (-1), .int r6]) (σ' := σ) rfl ?_
          refine xX_ite (c := r6 = (-1)) (w := xw_129) (i := 74) (a := 79) (b := 75) (st' := []) eT_129 rfl rfl (fun hc23 => ?_) (fun hc23 => ?_)
          · rw [if_pos hc23] at h
            refine xX_blk (w := xw_129) eT_129 3 79 (ls' := [.ref 141, .int p1, .null, .int v3, .int (v4 + 1), .int r6, .int r19, .int 1]) (st' := []) (σ' := σ) rfl ?_
            refine xX_jmp (w := xw_129) (i := 82) (a := 30) (st' := []) eT_129 rfl rfl ?_
            obtain rfl := Option.some.inj h
            exact hB (v3, (v4 + 1)) rfl _ _ _ _
          · rw [if_neg hc23] at h
            refine xX_blk (w := xw_129) eT_129 1 75 (ls' := [.ref 141, .int p1, .null, .int v3, .int v4, .int r6, .int r19, .int 1]) (st' := [.int 1]) (σ' := σ) rfl ?_
            refine xX_ite (c := (1 : Int32) = 0) (w := xw_129) (i := 76) (a := 79) (b := 77) (st' := []) eT_129 rfl rfl (fun hc => absurd hc (by decide)) (fun _ => ?_)
            refine xX_blk (w := xw_129) eT_129 1 77 (ls' := [.ref 141, .int p1, .null, .int v3, .int v4, .int r6, .int r19, .int 1]) (st' := [.int v4]) (σ' := σ) rfl ?_
            refine xX_jmp (w := xw_129) (i := 78) (a := 80) (st' := [.int v4]) eT_129 rfl rfl ?_
            refine xX_blk (w := xw_129) eT_129 2 80 (ls' := [.ref 141, .int p1, .null, .int v4, .int (v4 + 1), .int r6, .int r19, .int 1]) (st' := []) (σ' := σ) rfl ?_
            refine xX_jmp (w := xw_129) (i := 82) (a := 30) (st' := []) eT_129 rfl rfl ?_
            obtain rfl := Option.some.inj h
            exact hB (v4, (v4 + 1)) rfl _ _ _ _
        · rw [if_neg hc22] at h
          refine xX_blk (w := xw_129) eT_129 2 58 (ls' := [.ref 141, .int p1, .null, .int v3, .int v4, .int r6, .int r19, .null]) (st' := [.int r19, .int r6]) (σ' := σ) rfl ?_
          refine xX_ite (c := r6 = r19) (w := xw_129) (i := 60) (a := 61) (b := 70) (st' := []) eT_129 rfl rfl (fun hc24 => ?_) (fun hc24 => ?_)
          · rw [if_pos hc24] at h
            refine xX_blk (w := xw_129) eT_129 2 61 (ls' := [.ref 141, .int p1, .null, .int v3, .int v4, .int r6, .int r19, .null]) (st' := [.int v4, .ref 141]) (σ' := σ) rfl ?_
            obtain ⟨r25, hr25, h⟩ := xbd_inv h
            refine xX_c1 (w := xw_129) (i := 63) (ls := [.ref 141, .int p1, .null, .int v3, .int v4, .int r6, .int r19, .null]) (rest := []) eT_129 rfl (by omega) rfl rfl rfl (T_X11_stepOf v4 σ (by omega) hr25) ?_
            refine xX_blk (w := xw_129) eT_129 2 64 (ls' := [.ref 141, .int p1, .null, .int v3, .int v4, .int r6, .int r19, .null]) (st' := [.int v3, .ref 141, .int r25]) (σ' := σ) rfl ?_
            obtain ⟨r26, hr26, h⟩ := xbd_inv h
            refine xX_c1 (w := xw_129) (i := 66) (ls := [.ref 141, .int p1, .null, .int v3, .int v4, .int r6, .int r19, .null]) (rest := [.int r25]) eT_129 rfl (by omega) rfl rfl rfl (T_X11_stepOf v3 σ (by omega) hr26) ?_
            refine xX_ite (c := r26 ≤ r25) (w := xw_129) (i := 67) (a := 70) (b := 68) (st' := []) eT_129 rfl rfl (fun hc27 => ?_) (fun hc27 => ?_)
            · rw [if_pos hc27] at h
              refine xX_blk (w := xw_129) eT_129 4 70 (ls' := [.ref 141, .int p1, .null, .int v3, .int v4, .int r6, .int r19, .int 0]) (st' := [.int (-1), .int r6]) (σ' := σ) rfl ?_
              refine xX_ite (c := r6 = (-1)) (w := xw_129) (i := 74) (a := 79) (b := 75) (st' := []) eT_129 rfl rfl (fun hc28 => ?_) (fun hc28 => ?_)
              · rw [if_pos hc28] at h
                refine xX_blk (w := xw_129) eT_129 3 79 (ls' := [.ref 141, .int p1, .null, .int v3, .int (v4 + 1), .int r6, .int r19, .int 0]) (st' := []) (σ' := σ) rfl ?_
                refine xX_jmp (w := xw_129) (i := 82) (a := 30) (st' := []) eT_129 rfl rfl ?_
                obtain rfl := Option.some.inj h
                exact hB (v3, (v4 + 1)) rfl _ _ _ _
              · rw [if_neg hc28] at h
                refine xX_blk (w := xw_129) eT_129 1 75 (ls' := [.ref 141, .int p1, .null, .int v3, .int v4, .int r6, .int r19, .int 0]) (st' := [.int 0]) (σ' := σ) rfl ?_
                refine xX_ite (c := (0 : Int32) = 0) (w := xw_129) (i := 76) (a := 79) (b := 77) (st' := []) eT_129 rfl rfl (fun _ => ?_) (fun hc => absurd (by decide) hc)
                refine xX_blk (w := xw_129) eT_129 3 79 (ls' := [.ref 141, .int p1, .null, .int v3, .int (v4 + 1), .int r6, .int r19, .int 0]) (st' := []) (σ' := σ) rfl ?_
                refine xX_jmp (w := xw_129) (i := 82) (a := 30) (st' := []) eT_129 rfl rfl ?_
                obtain rfl := Option.some.inj h
                exact hB (v3, (v4 + 1)) rfl _ _ _ _
            · rw [if_neg hc27] at h
              refine xX_blk (w := xw_129) eT_129 1 68 (ls' := [.ref 141, .int p1, .null, .int v3, .int v4, .int r6, .int r19, .null]) (st' := [.int 1]) (σ' := σ) rfl ?_
              refine xX_jmp (w := xw_129) (i := 69) (a := 71) (st' := [.int 1]) eT_129 rfl rfl ?_
              refine xX_blk (w := xw_129) eT_129 3 71 (ls' := [.ref 141, .int p1, .null, .int v3, .int v4, .int r6, .int r19, .int 1]) (st' := [.int (-1), .int r6]) (σ' := σ) rfl ?_
              refine xX_ite (c := r6 = (-1)) (w := xw_129) (i := 74) (a := 79) (b := 75) (st' := []) eT_129 rfl rfl (fun hc29 => ?_) (fun hc29 => ?_)
              · rw [if_pos hc29] at h
                refine xX_blk (w := xw_129) eT_129 3 79 (ls' := [.ref 141, .int p1, .null, .int v3, .int (v4 + 1), .int r6, .int r19, .int 1]) (st' := []) (σ' := σ) rfl ?_
                refine xX_jmp (w := xw_129) (i := 82) (a := 30) (st' := []) eT_129 rfl rfl ?_
                obtain rfl := Option.some.inj h
                exact hB (v3, (v4 + 1)) rfl _ _ _ _
              · rw [if_neg hc29] at h
                refine xX_blk (w := xw_129) eT_129 1 75 (ls' := [.ref 141, .int p1, .null, .int v3, .int v4, .int r6, .int r19, .int 1]) (st' := [.int 1]) (σ' := σ) rfl ?_
                refine xX_ite (c := (1 : Int32) = 0) (w := xw_129) (i := 76) (a := 79) (b := 77) (st' := []) eT_129 rfl rfl (fun hc => absurd hc (by decide)) (fun _ => ?_)
                refine xX_blk (w := xw_129) eT_129 1 77 (ls' := [.ref 141, .int p1, .null, .int v3, .int v4, .int r6, .int r19, .int 1]) (st' := [.int v4]) (σ' := σ) rfl ?_
                refine xX_jmp (w := xw_129) (i := 78) (a := 80) (st' := [.int v4]) eT_129 rfl rfl ?_
                refine xX_blk (w := xw_129) eT_129 2 80 (ls' := [.ref 141, .int p1, .null, .int v4, .int (v4 + 1), .int r6, .int r19, .int 1]) (st' := []) (σ' := σ) rfl ?_
                refine xX_jmp (w := xw_129) (i := 82) (a := 30) (st' := []) eT_129 rfl rfl ?_
                obtain rfl := Option.some.inj h
                exact hB (v4, (v4 + 1)) rfl _ _ _ _
          · rw [if_neg hc24] at h
            refine xX_blk (w := xw_129) eT_129 4 70 (ls' := [.ref 141, .int p1, .null, .int v3, .int v4, .int r6, .int r19, .int 0]) (st' := [.int (-1), .int r6]) (σ' := σ) rfl ?_
            refine xX_ite (c := r6 = (-1)) (w := xw_129) (i := 74) (a := 79) (b := 75) (st' := []) eT_129 rfl rfl (fun hc30 => ?_) (fun hc30 => ?_)
            · rw [if_pos hc30] at h
              refine xX_blk (w := xw_129) eT_129 3 79 (ls' := [.ref 141, .int p1, .null, .int v3, .int (v4 + 1), .int r6, .int r19, .int 0]) (st' := []) (σ' := σ) rfl ?_
              refine xX_jmp (w := xw_129) (i := 82) (a := 30) (st' := []) eT_129 rfl rfl ?_
              obtain rfl := Option.some.inj h
              exact hB (v3, (v4 + 1)) rfl _ _ _ _
            · rw [if_neg hc30] at h
              refine xX_blk (w := xw_129) eT_129 1 75 (ls' := [.ref 141, .int p1, .null, .int v3, .int v4, .int r6, .int r19, .int 0]) (st' := [.int 0]) (σ' := σ) rfl ?_
              refine xX_ite (c := (0 : Int32) = 0) (w := xw_129) (i := 76) (a := 79) (b := 77) (st' := []) eT_129 rfl rfl (fun _ => ?_) (fun hc => absurd (by decide) hc)
              refine xX_blk (w := xw_129) eT_129 3 79 (ls' := [.ref 141, .int p1, .null, .int v3, .int (v4 + 1), .int r6, .int r19, .int 0]) (st' := []) (σ' := σ) rfl ?_
              refine xX_jmp (w := xw_129) (i := 82) (a := 30) (st' := []) eT_129 rfl rfl ?_
              obtain rfl := Option.some.inj h
              exact hB (v3, (v4 + 1)) rfl _ _ _ _
set_option maxHeartbeats 1000000 in
set_option maxRecDepth 20000 in
theorem TL_X11_catchOf_30 {d : Nat} {o : Option Value × xM} (p1 : Int32) (v3 : Int32) (v4 : Int32) (σ : xM) {e : (Int32)} (hd : 2 ≤ d) (h : L_X11_catchOf_30 p1 v3 v4 σ = some e) (hE : ∀ (z0 z1 z2 z4 z5 z6 z7 : Value), xX xT xLn d 129 83 [z0, z1, z2, .int e, z4, z5, z6, z7] [] σ o) (z2 : Value) (z5 : Value) (z6 : Value) (z7 : Value) : xX xT xLn d 129 30 [.ref 141, .int p1, z2, .int v3, .int v4, z5, z6, z7] [] σ o :=
  xloop_snd (X := fun s => ∀ (z2 z5 z6 z7 : Value), xX xT xLn d 129 30 [.ref 141, .int p1, z2, .int s.1, .int s.2, z5, z6, z7] [] σ o) (Y := fun e' => ∀ (z0 z1 z2 z4 z5 z6 z7 : Value), xX xT xLn d 129 83 [z0, z1, z2, .int e', z4, z5, z6, z7] [] σ o) (fun s q hs hB hE z2 z5 z6 z7 => TB_X11_catchOf_30 p1 s.1 s.2 σ hd hs hB hE z2 z5 z6 z7) _ _ _ h hE z2 z5 z6 z7
def F_X11_catchOf (a : Int32) (σ : xM) : Option (Int32) :=
  xgd (xin ((29 : Int32) + a) 169) (
  xgd (xin ((21 : Int32) + a) 169) (
  if (σ 142 ((21 : Int32) + a).toNatClampNeg) = 2 then
    if (σ 142 ((29 : Int32) + a).toNatClampNeg) = (-1) then
      xbd (L_X11_catchOf_30 a (-1) 0 σ) fun e31 =>
      some e31
    else
      xbd (F_X11_seemsThen a (σ 142 ((29 : Int32) + a).toNatClampNeg) σ) fun r32 =>
      if r32 = (-1) then
        xbd (L_X11_catchOf_30 a (-1) 0 σ) fun e34 =>
        some e34
      else
        some (σ 142 ((29 : Int32) + a).toNatClampNeg)
  else
    xbd (L_X11_catchOf_30 a (-1) 0 σ) fun e35 =>
    some e35))
set_option maxHeartbeats 1000000 in
set_option maxRecDepth 20000 in
theorem T_X11_catchOf (a : Int32) (σ : xM) {d : Nat} {q : Int32} (hd : 2 ≤ d) (h : F_X11_catchOf a σ = some q) : xR xT xLn d 129 [.ref 141, .int a] σ (some (.int q), σ) := by
  unfold F_X11_catchOf at h
  show xX xT xLn d 129 0 [.ref 141, .int a, .null, .null, .null, .null, .null, .null] [] σ _
  refine xX_blk (w := xw_129) eT_129 5 0 (ls' := [.ref 141, .int a, .null, .null, .null, .null, .null, .null]) (st' := [.int ((29 : Int32) + a), .ref 142]) (σ' := σ) rfl ?_
  obtain ⟨hi1, h⟩ := xgd_inv h
  refine xX_one (w := xw_129) (i := 5) (ls' := [.ref 141, .int a, .null, .null, .null, .null, .null, .null]) (st' := [.int (σ 142 ((29 : Int32) + a).toNatClampNeg)]) (σ' := σ) eT_129 rfl (e_iald xs_142 hi1) ?_
  refine xX_blk (w := xw_129) eT_129 6 6 (ls' := [.ref 141, .int a, .int (σ 142 ((29 : Int32) + a).toNatClampNeg), .null, .null, .null, .null, .null]) (st' := [.int ((21 : Int32) + a), .ref 142]) (σ' := σ) rfl ?_
  obtain ⟨hi2, h⟩ := xgd_inv h
  refine xX_one (w := xw_129) (i := 12) (ls' := [.ref 141, .int a, .int (σ 142 ((29 : Int32) + a).toNatClampNeg), .null, .null, .null, .null, .null]) (st' := [.int (σ 142 ((21 : Int32) + a).toNatClampNeg)]) (σ' := σ) eT_129 rfl (e_iald xs_142 hi2) ?_
  refine xX_blk (w := xw_129) eT_129 1 13 (ls' := [.ref 141, .int a, .int (σ 142 ((29 : Int32) + a).toNatClampNeg), .null, .null, .null, .null, .null]) (st' := [.int 2, .int (σ 142 ((21 : Int32) + a).toNatClampNeg)]) (σ' := σ) rfl ?_
  refine xX_ite (c := (σ 142 ((21 : Int32) + a).toNatClampNeg) = 2) (w := xw_129) (i := 14) (a := 15) (b := 26) (st' := []) eT_129 rfl rfl (fun hc3 => ?_) (fun hc3 => ?_)
  · rw [if_pos hc3] at h
    refine xX_blk (w := xw_129) eT_129 2 15 (ls' := [.ref 141, .int a, .int (σ 142 ((29 : Int32) + a).toNatClampNeg), .null, .null, .null, .null, .null]) (st' := [.int (-1), .int (σ 142 ((29 : Int32) + a).toNatClampNeg)]) (σ' := σ) rfl ?_
    refine xX_ite (c := (σ 142 ((29 : Int32) + a).toNatClampNeg) = (-1)) (w := xw_129) (i := 17) (a := 26) (b := 18) (st' := []) eT_129 rfl rfl (fun hc4 => ?_) (fun hc4 => ?_)
    · rw [if_pos hc4] at h
      refine xX_blk (w := xw_129) eT_129 4 26 (ls' := [.ref 141, .int a, .int (σ 142 ((29 : Int32) + a).toNatClampNeg), .int (-1), .int 0, .null, .null, .null]) (st' := []) (σ' := σ) rfl ?_
      obtain ⟨e31, he31, h⟩ := xbd_inv h
      refine TL_X11_catchOf_30 a (-1) 0 σ (by omega) he31 (fun z0 z1 z2 z4 z5 z6 z7 => ?_) _ _ _ _
      refine xX_blk (w := xw_129) eT_129 2 83 (ls' := [.null, .null, .null, .int e31, .null, .null, .null, .null]) (st' := [.int e31]) (σ' := σ) rfl ?_
      obtain rfl := Option.some.inj h
      exact xX_ret (w := xw_129) (i := 85) eT_129 rfl rfl
    · rw [if_neg hc4] at h
      refine xX_blk (w := xw_129) eT_129 3 18 (ls' := [.ref 141, .int a, .int (σ 142 ((29 : Int32) + a).toNatClampNeg), .null, .null, .null, .null, .null]) (st' := [.int (σ 142 ((29 : Int32) + a).toNatClampNeg), .int a, .ref 141]) (σ' := σ) rfl ?_
      obtain ⟨r32, hr32, h⟩ := xbd_inv h
      refine xX_c1 (w := xw_129) (i := 21) (ls := [.ref 141, .int a, .int (σ 142 ((29 : Int32) + a).toNatClampNeg), .null, .null, .null, .null, .null]) (rest := []) eT_129 rfl (by omega) rfl rfl rfl (T_X11_seemsThen a (σ 142 ((29 : Int32) + a).toNatClampNeg) σ (by omega) hr32) ?_
      refine xX_blk (w := xw_129) eT_129 1 22 (ls' := [.ref 141, .int a, .int (σ 142 ((29 : Int32) + a).toNatClampNeg), .null, .null, .null, .null, .null]) (st' := [.int (-1), .int r32]) (σ' := σ) rfl ?_
      refine xX_ite (c := r32 = (-1)) (w := xw_129) (i := 23) (a := 26) (b := 24) (st' := []) eT_129 rfl rfl (fun hc33 => ?_) (fun hc33 => ?_)
      · rw [if_pos hc33] at h
        refine xX_blk (w := xw_129) eT_129 4 26 (ls' := [.ref 141, .int a, .int (σ 142 ((29 : Int32) + a).toNatClampNeg), .int (-1), .int 0, .null, .null, .null]) (st' := []) (σ' := σ) rfl ?_
        obtain ⟨e34, he34, h⟩ := xbd_inv h
        refine TL_X11_catchOf_30 a (-1) 0 σ (by omega) he34 (fun z0 z1 z2 z4 z5 z6 z7 => ?_) _ _ _ _
        refine xX_blk (w := xw_129) eT_129 2 83 (ls' := [.null, .null, .null, .int e34, .null, .null, .null, .null]) (st' := [.int e34]) (σ' := σ) rfl ?_
        obtain rfl := Option.some.inj h
        exact xX_ret (w := xw_129) (i := 85) eT_129 rfl rfl
      · rw [if_neg hc33] at h
        refine xX_blk (w := xw_129) eT_129 1 24 (ls' := [.ref 141, .int a, .int (σ 142 ((29 : Int32) + a).toNatClampNeg), .null, .null, .null, .null, .null]) (st' := [.int (σ 142 ((29 : Int32) + a).toNatClampNeg)]) (σ' := σ) rfl ?_
        obtain rfl := Option.some.inj h
        exact xX_ret (w := xw_129) (i := 25) eT_129 rfl rfl
  · rw [if_neg hc3] at h
    refine xX_blk (w := xw_129) eT_129 4 26 (ls' := [.ref 141, .int a, .int (σ 142 ((29 : Int32) + a).toNatClampNeg), .int (-1), .int 0, .null, .null, .null]) (st' := []) (σ' := σ) rfl ?_
    obtain ⟨e35, he35, h⟩ := xbd_inv h
    refine TL_X11_catchOf_30 a (-1) 0 σ (by omega) he35 (fun z0 z1 z2 z4 z5 z6 z7 => ?_) _ _ _ _
    refine xX_blk (w := xw_129) eT_129 2 83 (ls' := [.null, .null, .null, .int e35, .null, .null, .null, .null]) (st' := [.int e35]) (σ' := σ) rfl ?_
    obtain rfl := Option.some.inj h
    exact xX_ret (w := xw_129) (i := 85) eT_129 rfl rfl
def F_X11_moodNow (a : Int32) (b : Int32) (σ : xM) : Option (Int32 × xM) :=
  xgd (xin ((21 : Int32) + a) 169) (
  if b = 2 then
    if (σ 142 ((21 : Int32) + a).toNatClampNeg) = 2 then
      xgd (xin ((21 : Int32) + a) 169) (
      xlet (xup σ 142 ((21 : Int32) + a).toNatClampNeg b) fun σ5 =>
      some ((σ 142 ((21 : Int32) + a).toNatClampNeg), σ5))
    else
      xbd (F_X11_laysWays σ) fun r6 =>
      xbd (F_X11_catchOf a r6) fun r7 =>
      xgd (xin ((29 : Int32) + a) 169) (
      xlet (xup r6 142 ((29 : Int32) + a).toNatClampNeg r7) fun σ9 =>
      xgd (xin ((21 : Int32) + a) 169) (
      xlet (xup σ9 142 ((21 : Int32) + a).toNatClampNeg b) fun σ11 =>
      some ((σ 142 ((21 : Int32) + a).toNatClampNeg), σ11)))
  else
    xgd (xin ((21 : Int32) + a) 169) (
    xlet (xup σ 142 ((21 : Int32) + a).toNatClampNeg b) fun σ13 =>
    some ((σ 142 ((21 : Int32) + a).toNatClampNeg), σ13)))
set_option maxHeartbeats 1000000 in
set_option maxRecDepth 20000 in
theorem T_X11_moodNow (a : Int32) (b : Int32) (σ : xM) {d : Nat} {q : Int32 × xM} (hd : 3 ≤ d) (h : F_X11_moodNow a b σ = some q) : xR xT xLn d 144 [.ref 141, .int a, .int b] σ (some (.int q.1), q.2) := by
  unfold F_X11_moodNow at h
  show xX xT xLn d 144 0 [.ref 141, .int a, .int b, .null] [] σ _
  refine xX_blk (w := xw_144) eT_144 5 0 (ls' := [.ref 141, .int a, .int b, .null]) (st' := [.int ((21 : Int32) + a), .ref 142]) (σ' := σ) rfl ?_
  obtain ⟨hi1, h⟩ := xgd_inv h
  refine xX_one (w := xw_144) (i := 5) (ls' := [.ref 141, .int a, .int b, .null]) (st' := [.int (σ 142 ((21 : Int32) + a).toNatClampNeg)]) (σ' := σ) eT_144 rfl (e_iald xs_142 hi1) ?_
  refine xX_blk (w := xw_144) eT_144 3 6 (ls' := [.ref 141, .int a, .int b, .int (σ 142 ((21 : Int32) + a).toNatClampNeg)]) (st' := [.int 2, .int b]) (σ' := σ) rfl ?_
  refine xX_ite (c := b = 2) (w := xw_144) (i := 9) (a := 10) (b := 24) (st' := []) eT_144 rfl rfl (fun hc2 => ?_) (fun hc2 => ?_)
  · rw [if_pos hc2] at h
    refine xX_blk (w := xw_144) eT_144 2 10 (ls' := [.ref 141, .int a, .int b, .int (σ 142 ((21 : Int32) + a).toNatClampNeg)]) (st' := [.int 2, .int (σ 142 ((21 : Int32) + a).toNatClampNeg)]) (σ' := σ) rfl ?_
    refine xX_ite (c := (σ 142 ((21 : Int32) + a).toNatClampNeg) = 2) (w := xw_144) (i := 12) (a := 24) (b := 13) (st' := []) eT_144 rfl rfl (fun hc3 => ?_) (fun hc3 => ?_)
    · rw [if_pos hc3] at h
      refine xX_blk (w := xw_144) eT_144 6 24 (ls' := [.ref 141, .int a, .int b, .int (σ 142 ((21 : Int32) + a).toNatClampNeg)]) (st' := [.int b, .int ((21 : Int32) + a), .ref 142]) (σ' := σ) rfl ?_
      obtain ⟨hi4, h⟩ := xgd_inv h
      refine xX_one (w := xw_144) (i := 30) (ls' := [.ref 141, .int a, .int b, .int (σ 142 ((21 : Int32) + a).toNatClampNeg)]) (st' := []) (σ' := xup σ 142 ((21 : Int32) + a).toNatClampNeg b) eT_144 rfl (e_iast xs_142 hi4) ?_
      obtain ⟨σ5, eσ5, h⟩ := xlet_inv h
      rw [← eσ5]
      refine xX_blk (w := xw_144) eT_144 1 31 (ls' := [.ref 141, .int a, .int b, .int (σ 142 ((21 : Int32) + a).toNatClampNeg)]) (st' := [.int (σ 142 ((21 : Int32) + a).toNatClampNeg)]) (σ' := σ5) rfl ?_
      obtain rfl := Option.some.inj h
      exact xX_ret (w := xw_144) (i := 32) eT_144 rfl rfl
    · rw [if_neg hc3] at h
      refine xX_blk (w := xw_144) eT_144 1 13 (ls' := [.ref 141, .int a, .int b, .int (σ 142 ((21 : Int32) + a).toNatClampNeg)]) (st' := [.ref 141]) (σ' := σ) rfl ?_
      obtain ⟨r6, hr6, h⟩ := xbd_inv h
      refine xX_c0 (w := xw_144) (i := 14) (ls := [.ref 141, .int a, .int b, .int (σ 142 ((21 : Int32) + a).toNatClampNeg)]) (rest := []) eT_144 rfl (by omega) rfl rfl rfl (T_X11_laysWays σ (by omega) hr6) ?_
      refine xX_blk (w := xw_144) eT_144 7 15 (ls' := [.ref 141, .int a, .int b, .int (σ 142 ((21 : Int32) + a).toNatClampNeg)]) (st' := [.int a, .ref 141, .int ((29 : Int32) + a), .ref 142]) (σ' := r6) rfl ?_
      obtain ⟨r7, hr7, h⟩ := xbd_inv h
      refine xX_c1 (w := xw_144) (i := 22) (ls := [.ref 141, .int a, .int b, .int (σ 142 ((21 : Int32) + a).toNatClampNeg)]) (rest := [.int ((29 : Int32) + a), .ref 142]) eT_144 rfl (by omega) rfl rfl rfl (T_X11_catchOf a r6 (by omega) hr7) ?_
      obtain ⟨hi8, h⟩ := xgd_inv h
      refine xX_one (w := xw_144) (i := 23) (ls' := [.ref 141, .int a, .int b, .int (σ 142 ((21 : Int32) + a).toNatClampNeg)]) (st' := []) (σ' := xup r6 142 ((29 : Int32) + a).toNatClampNeg r7) eT_144 rfl (e_iast xs_142 hi8) ?_
      obtain ⟨σ9, eσ9, h⟩ := xlet_inv h
      rw [← eσ9]
      refine xX_blk (w := xw_144) eT_144 6 24 (ls' := [.ref 141, .int a, .int b, .int (σ 142 ((21 : Int32) + a).toNatClampNeg)]) (st' := [.int b, .int ((21 : Int32) + a), .ref 142]) (σ' := σ9) rfl ?_
      obtain ⟨hi10, h⟩ := xgd_inv h
      refine xX_one (w := xw_144) (i := 30) (ls' := [.ref 141, .int a, .int b, .int (σ 142 ((21 : Int32) + a).toNatClampNeg)]) (st' := []) (σ' := xup σ9 142 ((21 : Int32) + a).toNatClampNeg b) eT_144 rfl (e_iast xs_142 hi10) ?_
      obtain ⟨σ11, eσ11, h⟩ := xlet_inv h
      rw [← eσ11]
      refine xX_blk (w := xw_144) eT_144 1 31 (ls' := [.ref 141, .int a, .int b, .int (σ 142 ((21 : Int32) + a).toNatClampNeg)]) (st' := [.int (σ 142 ((21 : Int32) + a).toNatClampNeg)]) (σ' := σ11) rfl ?_
      obtain rfl := Option.some.inj h
      exact xX_ret (w := xw_144) (i := 32) eT_144 rfl rfl
  · rw [if_neg hc2] at h
    refine xX_blk (w := xw_144) eT_144 6 24 (ls' := [.ref 141, .int a, .int b, .int (σ 142 ((21 : Int32) + a).toNatClampNeg)]) (st' := [.int b, .int ((21 : Int32) + a), .ref 142]) (σ' := σ) rfl ?_
    obtain ⟨hi12, h⟩ := xgd_inv h
    refine xX_one (w := xw_144) (i := 30) (ls' := [.ref 141, .int a, .int b, .int (σ 142 ((21 : Int32) + a).toNatClampNeg)]) (st' := []) (σ' := xup σ 142 ((21 : Int32) + a).toNatClampNeg b) eT_144 rfl (e_iast xs_142 hi12) ?_
    obtain ⟨σ13, eσ13, h⟩ := xlet_inv h
    rw [← eσ13]
    refine xX_blk (w := xw_144) eT_144 1 31 (ls' := [.ref 141, .int a, .int b, .int (σ 142 ((21 : Int32) + a).toNatClampNeg)]) (st' := [.int (σ 142 ((21 : Int32) + a).toNatClampNeg)]) (σ' := σ13) rfl ?_
    obtain rfl := Option.some.inj h
    exact xX_ret (w := xw_144) (i := 32) eT_144 rfl rfl
def F_X11_mood (a : Int32) (b : Int32) (σ : xM) : Option (Int32 × xM) :=
  xbd (F_X11_canMood a b σ) fun r1 =>
  if 0 ≤ r1 then
    xbd (F_X11_keep σ) fun r3 =>
    xbd (F_X11_moodNow a b r3) fun r4 =>
    some (r4.1, r4.2)
  else
    xbd (F_X11_refuses r1 σ) fun r5 =>
    some (r5.1, r5.2)
set_option maxHeartbeats 1000000 in
set_option maxRecDepth 20000 in
theorem T_X11_mood (a : Int32) (b : Int32) (σ : xM) {d : Nat} {q : Int32 × xM} (hd : 4 ≤ d) (h : F_X11_mood a b σ = some q) : xR xT xLn d 145 [.ref 141, .int a, .int b] σ (some (.int q.1), q.2) := by
  unfold F_X11_mood at h
  show xX xT xLn d 145 0 [.ref 141, .int a, .int b, .null] [] σ _
  refine xX_blk (w := xw_145) eT_145 3 0 (ls' := [.ref 141, .int a, .int b, .null]) (st' := [.int b, .int a, .ref 141]) (σ' := σ) rfl ?_
  obtain ⟨r1, hr1, h⟩ := xbd_inv h
  refine xX_c1 (w := xw_145) (i := 3) (ls := [.ref 141, .int a, .int b, .null]) (rest := []) eT_145 rfl (by omega) rfl rfl rfl (T_X11_canMood a b σ (by omega) hr1) ?_
  refine xX_blk (w := xw_145) eT_145 2 4 (ls' := [.ref 141, .int a, .int b, .int r1]) (st' := [.int r1]) (σ' := σ) rfl ?_
  refine xX_ite (c := 0 ≤ r1) (w := xw_145) (i := 6) (a := 11) (b := 7) (st' := []) eT_145 rfl rfl (fun hc2 => ?_) (fun hc2 => ?_)
  · rw [if_pos hc2] at h
    refine xX_blk (w := xw_145) eT_145 1 11 (ls' := [.ref 141, .int a, .int b, .int r1]) (st' := [.ref 141]) (σ' := σ) rfl ?_
    obtain ⟨r3, hr3, h⟩ := xbd_inv h
    refine xX_c0 (w := xw_145) (i := 12) (ls := [.ref 141, .int a, .int b, .int r1]) (rest := []) eT_145 rfl (by omega) rfl rfl rfl (T_X11_keep σ (by omega) hr3) ?_
    refine xX_blk (w := xw_145) eT_145 3 13 (ls' := [.ref 141, .int a, .int b, .int r1]) (st' := [.int b, .int a, .ref 141]) (σ' := r3) rfl ?_
    obtain ⟨r4, hr4, h⟩ := xbd_inv h
    refine xX_c1 (w := xw_145) (i := 16) (ls := [.ref 141, .int a, .int b, .int r1]) (rest := []) eT_145 rfl (by omega) rfl rfl rfl (T_X11_moodNow a b r3 (by omega) hr4) ?_
    obtain rfl := Option.some.inj h
    exact xX_ret (w := xw_145) (i := 17) eT_145 rfl rfl
  · rw [if_neg hc2] at h
    refine xX_blk (w := xw_145) eT_145 2 7 (ls' := [.ref 141, .int a, .int b, .int r1]) (st' := [.int r1, .ref 141]) (σ' := σ) rfl ?_
    obtain ⟨r5, hr5, h⟩ := xbd_inv h
    refine xX_c1 (w := xw_145) (i := 9) (ls := [.ref 141, .int a, .int b, .int r1]) (rest := []) eT_145 rfl (by omega) rfl rfl rfl (T_X11_refuses r1 σ (by omega) hr5) ?_
    obtain rfl := Option.some.inj h
    exact xX_ret (w := xw_145) (i := 10) eT_145 rfl rfl
def F_X11_canSite (a : Int32) (b : Int32) (σ : xM) : Option (Int32) :=
  xbd (F_X11_isArea a σ) fun r1 =>
  if r1 = 0 then
    some (-2)
  else
    xbd (F_X11_in ((b : Int32).toInt64) 0 999 σ) fun r3 =>
    if r3 = 0 then
      some (-2)
    else
      if (σ 142 1) = 5 then
        some (-4)
      else
        some 0
set_option maxHeartbeats 1000000 in
set_option maxRecDepth 20000 in
theorem T_X11_canSite (a : Int32) (b : Int32) (σ : xM) {d : Nat} {q : Int32} (hd : 2 ≤ d) (h : F_X11_canSite a b σ = some q) : xR xT xLn d 146 [.ref 141, .int a, .int b] σ (some (.int q), σ) := by
  unfold F_X11_canSite at h
  show xX xT xLn d 146 0 [.ref 141, .int a, .int b] [] σ _
  refine xX_blk (w := xw_146) eT_146 2 0 (ls' := [.ref 141, .int a, .int b]) (st' := [.int a, .ref 141]) (σ' := σ) rfl ?_
  obtain ⟨r1, hr1, h⟩ := xbd_inv h
  refine xX_c1 (w := xw_146) (i := 2) (ls := [.ref 141, .int a, .int b]) (rest := []) eT_146 rfl (by omega) rfl rfl rfl (T_X11_isArea a σ (by omega) hr1) ?_
  refine xX_ite (c := r1 = 0) (w := xw_146) (i := 3) (a := 10) (b := 4) (st' := []) eT_146 rfl rfl (fun hc2 => ?_) (fun hc2 => ?_)
  · rw [if_pos hc2] at h
    refine xX_blk (w := xw_146) eT_146 1 10 (ls' := [.ref 141, .int a, .int b]) (st' := [.int (-2)]) (σ' := σ) rfl ?_
    refine xX_jmp (w := xw_146) (i := 11) (a := 21) (st' := [.int (-2)]) eT_146 rfl rfl ?_
    obtain rfl := Option.some.inj h
    exact xX_ret (w := xw_146) (i := 21) eT_146 rfl rfl
  · rw [if_neg hc2] at h
    refine xX_blk (w := xw_146) eT_146 4 4 (ls' := [.ref 141, .int a, .int b]) (st' := [.long 999, .long 0, .long ((b : Int32).toInt64)]) (σ' := σ) rfl ?_
    obtain ⟨r3, hr3, h⟩ := xbd_inv h
    refine xX_c1 (w := xw_146) (i := 8) (ls := [.ref 141, .int a, .int b]) (rest := []) eT_146 rfl (by omega) rfl rfl rfl (T_X11_in ((b : Int32).toInt64) 0 999 σ (by omega) hr3) ?_
    refine xX_ite (c := r3 = 0) (w := xw_146) (i := 9) (a := 10) (b := 12) (st' := []) eT_146 rfl rfl (fun hc4 => ?_) (fun hc4 => ?_)
    · rw [if_pos hc4] at h
      refine xX_blk (w := xw_146) eT_146 1 10 (ls' := [.ref 141, .int a, .int b]) (st' := [.int (-2)]) (σ' := σ) rfl ?_
      refine xX_jmp (w := xw_146) (i := 11) (a := 21) (st' := [.int (-2)]) eT_146 rfl rfl ?_
      obtain rfl := Option.some.inj h
      exact xX_ret (w := xw_146) (i := 21) eT_146 rfl rfl
    · rw [if_neg hc4] at h
      refine xX_blk (w := xw_146) eT_146 3 12 (ls' := [.ref 141, .int a, .int b]) (st' := [.int 1, .ref 142]) (σ' := σ) rfl ?_
      refine xX_one (w := xw_146) (i := 15) (ls' := [.ref 141, .int a, .int b]) (st' := [.int (σ 142 1)]) (σ' := σ) eT_146 rfl (e_ialK xs_142 (by decide) (by decide)) ?_
      refine xX_blk (w := xw_146) eT_146 1 16 (ls' := [.ref 141, .int a, .int b]) (st' := [.int 5, .int (σ 142 1)]) (σ' := σ) rfl ?_
      refine xX_ite (c := (σ 142 1) = 5) (w := xw_146) (i := 17) (a := 18) (b := 20) (st' := []) eT_146 rfl rfl (fun hc5 => ?_) (fun hc5 => ?_)
      · rw [if_pos hc5] at h
        refine xX_blk (w := xw_146) eT_146 1 18 (ls' := [.ref 141, .int a, .int b]) (st' := [.int (-4)]) (σ' := σ) rfl ?_
        refine xX_jmp (w := xw_146) (i := 19) (a := 21) (st' := [.int (-4)]) eT_146 rfl rfl ?_
        obtain rfl := Option.some.inj h
        exact xX_ret (w := xw_146) (i := 21) eT_146 rfl rfl
      · rw [if_neg hc5] at h
        refine xX_blk (w := xw_146) eT_146 1 20 (ls' := [.ref 141, .int a, .int b]) (st' := [.int 0]) (σ' := σ) rfl ?_
        obtain rfl := Option.some.inj h
        exact xX_ret (w := xw_146) (i := 21) eT_146 rfl rfl
def F_X11_putsStep (a : Int32) (b : Int32) (σ : xM) : Option (xM) :=
  xgd (xin (((101 : Int32) + ((4 : Int32) * a)) + 2) 169) (
  xlet (xup σ 142 (((101 : Int32) + ((4 : Int32) * a)) + 2).toNatClampNeg b) fun σ2 =>
  some σ2)
set_option maxHeartbeats 1000000 in
set_option maxRecDepth 20000 in
theorem T_X11_putsStep (a : Int32) (b : Int32) (σ : xM) {d : Nat} {q : xM} (hd : 0 ≤ d) (h : F_X11_putsStep a b σ = some q) : xR xT xLn d 123 [.ref 141, .int a, .int b] σ (none, q) := by
  unfold F_X11_putsStep at h
  show xX xT xLn d 123 0 [.ref 141, .int a, .int b] [] σ _
  refine xX_blk (w := xw_123) eT_123 10 0 (ls' := [.ref 141, .int a, .int b]) (st' := [.int b, .int (((101 : Int32) + ((4 : Int32) * a)) + 2), .ref 142]) (σ' := σ) rfl ?_
  obtain ⟨hi1, h⟩ := xgd_inv h
  refine xX_one (w := xw_123) (i := 10) (ls' := [.ref 141, .int a, .int b]) (st' := []) (σ' := xup σ 142 (((101 : Int32) + ((4 : Int32) * a)) + 2).toNatClampNeg b) eT_123 rfl (e_iast xs_142 hi1) ?_
  obtain ⟨σ2, eσ2, h⟩ := xlet_inv h
  rw [← eσ2]
  obtain rfl := Option.some.inj h
  exact xX_ret (w := xw_123) (i := 11) eT_123 rfl rfl
def F_X11_putsState (a : Int32) (b : Int32) (σ : xM) : Option (xM) :=
  xgd (xin (((101 : Int32) + ((4 : Int32) * a)) + 3) 169) (
  xlet (xup σ 142 (((101 : Int32) + ((4 : Int32) * a)) + 3).toNatClampNeg b) fun σ2 =>
  some σ2)
set_option maxHeartbeats 1000000 in
set_option maxRecDepth 20000 in
theorem T_X11_putsState (a : Int32) (b : Int32) (σ : xM) {d : Nat} {q : xM} (hd : 0 ≤ d) (h : F_X11_putsState a b σ = some q) : xR xT xLn d 124 [.ref 141, .int a, .int b] σ (none, q) := by
  unfold F_X11_putsState at h
  show xX xT xLn d 124 0 [.ref 141, .int a, .int b] [] σ _
  refine xX_blk (w := xw_124) eT_124 10 0 (ls' := [.ref 141, .int a, .int b]) (st' := [.int b, .int (((101 : Int32) + ((4 : Int32) * a)) + 3), .ref 142]) (σ' := σ) rfl ?_
  obtain ⟨hi1, h⟩ := xgd_inv h
  refine xX_one (w := xw_124) (i := 10) (ls' := [.ref 141, .int a, .int b]) (st' := []) (σ' := xup σ 142 (((101 : Int32) + ((4 : Int32) * a)) + 3).toNatClampNeg b) eT_124 rfl (e_iast xs_142 hi1) ?_
  obtain ⟨σ2, eσ2, h⟩ := xlet_inv h
  rw [← eσ2]
  obtain rfl := Option.some.inj h
  exact xX_ret (w := xw_124) (i := 11) eT_124 rfl rfl
def F_X11_siteNow (a : Int32) (b : Int32) (σ : xM) : Option (Int32 × xM) :=
  xgd (xin ((101 : Int32) + ((4 : Int32) * (σ 142 1))) 169) (
  xlet (xup σ 142 ((101 : Int32) + ((4 : Int32) * (σ 142 1))).toNatClampNeg a) fun σ2 =>
  xgd (xin (((101 : Int32) + ((4 : Int32) * (σ 142 1))) + 1) 169) (
  xlet (xup σ2 142 (((101 : Int32) + ((4 : Int32) * (σ 142 1))) + 1).toNatClampNeg b) fun σ4 =>
  xbd (F_X11_putsStep (σ 142 1) 0 σ4) fun r5 =>
  xbd (F_X11_putsState (σ 142 1) 0 r5) fun r6 =>
  xlet (xup r6 142 1 ((r6 142 1) + 1)) fun σ7 =>
  some ((σ 142 1), σ7)))
set_option maxHeartbeats 1000000 in
set_option maxRecDepth 20000 in
theorem T_X11_siteNow (a : Int32) (b : Int32) (σ : xM) {d : Nat} {q : Int32 × xM} (hd : 1 ≤ d) (h : F_X11_siteNow a b σ = some q) : xR xT xLn d 147 [.ref 141, .int a, .int b] σ (some (.int q.1), q.2) := by
  unfold F_X11_siteNow at h
  show xX xT xLn d 147 0 [.ref 141, .int a, .int b, .null] [] σ _
  refine xX_blk (w := xw_147) eT_147 3 0 (ls' := [.ref 141, .int a, .int b, .null]) (st' := [.int 1, .ref 142]) (σ' := σ) rfl ?_
  refine xX_one (w := xw_147) (i := 3) (ls' := [.ref 141, .int a, .int b, .null]) (st' := [.int (σ 142 1)]) (σ' := σ) eT_147 rfl (e_ialK xs_142 (by decide) (by decide)) ?_
  refine xX_blk (w := xw_147) eT_147 9 4 (ls' := [.ref 141, .int a, .int b, .int (σ 142 1)]) (st' := [.int a, .int ((101 : Int32) + ((4 : Int32) * (σ 142 1))), .ref 142]) (σ' := σ) rfl ?_
  obtain ⟨hi1, h⟩ := xgd_inv h
  refine xX_one (w := xw_147) (i := 13) (ls' := [.ref 141, .int a, .int b, .int (σ 142 1)]) (st' := []) (σ' := xup σ 142 ((101 : Int32) + ((4 : Int32) * (σ 142 1))).toNatClampNeg a) eT_147 rfl (e_iast xs_142 hi1) ?_
  obtain ⟨σ2, eσ2, h⟩ := xlet_inv h
  rw [← eσ2]
  refine xX_blk (w := xw_147) eT_147 10 14 (ls' := [.ref 141, .int a, .int b, .int (σ 142 1)]) (st' := [.int b, .int (((101 : Int32) + ((4 : Int32) * (σ 142 1))) + 1), .ref 142]) (σ' := σ2) rfl ?_
  obtain ⟨hi3, h⟩ := xgd_inv h
  refine xX_one (w := xw_147) (i := 24) (ls' := [.ref 141, .int a, .int b, .int (σ 142 1)]) (st' := []) (σ' := xup σ2 142 (((101 : Int32) + ((4 : Int32) * (σ 142 1))) + 1).toNatClampNeg b) eT_147 rfl (e_iast xs_142 hi3) ?_
  obtain ⟨σ4, eσ4, h⟩ := xlet_inv h
  rw [← eσ4]
  refine xX_blk (w := xw_147) eT_147 3 25 (ls' := [.ref 141, .int a, .int b, .int (σ 142 1)]) (st' := [.int 0, .int (σ 142 1), .ref 141]) (σ' := σ4) rfl ?_
  obtain ⟨r5, hr5, h⟩ := xbd_inv h
  refine xX_c0 (w := xw_147) (i := 28) (ls := [.ref 141, .int a, .int b, .int (σ 142 1)]) (rest := []) eT_147 rfl (by omega) rfl rfl rfl (T_X11_putsStep (σ 142 1) 0 σ4 (by omega) hr5) ?_
  refine xX_blk (w := xw_147) eT_147 3 29 (ls' := [.ref 141, .int a, .int b, .int (σ 142 1)]) (st' := [.int 0, .int (σ 142 1), .ref 141]) (σ' := r5) rfl ?_
  obtain ⟨r6, hr6, h⟩ := xbd_inv h
  refine xX_c0 (w := xw_147) (i := 32) (ls := [.ref 141, .int a, .int b, .int (σ 142 1)]) (rest := []) eT_147 rfl (by omega) rfl rfl rfl (T_X11_putsState (σ 142 1) 0 r5 (by omega) hr6) ?_
  refine xX_blk (w := xw_147) eT_147 4 33 (ls' := [.ref 141, .int a, .int b, .int (σ 142 1)]) (st' := [.int 1, .ref 142, .int 1, .ref 142]) (σ' := r6) rfl ?_
  refine xX_one (w := xw_147) (i := 37) (ls' := [.ref 141, .int a, .int b, .int (σ 142 1)]) (st' := [.int (r6 142 1), .int 1, .ref 142]) (σ' := r6) eT_147 rfl (e_ialK xs_142 (by decide) (by decide)) ?_
  refine xX_blk (w := xw_147) eT_147 2 38 (ls' := [.ref 141, .int a, .int b, .int (σ 142 1)]) (st' := [.int ((r6 142 1) + 1), .int 1, .ref 142]) (σ' := r6) rfl ?_
  refine xX_one (w := xw_147) (i := 40) (ls' := [.ref 141, .int a, .int b, .int (σ 142 1)]) (st' := []) (σ' := xup r6 142 1 ((r6 142 1) + 1)) eT_147 rfl (e_iasK xs_142 (by decide) (by decide)) ?_
  obtain ⟨σ7, eσ7, h⟩ := xlet_inv h
  rw [← eσ7]
  refine xX_blk (w := xw_147) eT_147 1 41 (ls' := [.ref 141, .int a, .int b, .int (σ 142 1)]) (st' := [.int (σ 142 1)]) (σ' := σ7) rfl ?_
  obtain rfl := Option.some.inj h
  exact xX_ret (w := xw_147) (i := 42) eT_147 rfl rfl
