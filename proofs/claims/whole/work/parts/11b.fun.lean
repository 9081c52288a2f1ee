def F_X3_keepMarked (σ : xM) : Option (xM) :=
  if 6 ≤ ((σ 19 1) + 1) then
    xlet (xup σ 19 1 0) fun σ2 =>
    xlet (xup σ2 19 0 (if 5 < ((σ2 19 0) + 1) then 5 else ((σ2 19 0) + 1))) fun σ3 =>
    some σ3
  else
    xlet (xup σ 19 1 ((σ 19 1) + 1)) fun σ4 =>
    xlet (xup σ4 19 0 (if 5 < ((σ4 19 0) + 1) then 5 else ((σ4 19 0) + 1))) fun σ5 =>
    some σ5
set_option maxHeartbeats 1000000 in
set_option maxRecDepth 20000 in
theorem T_X3_keepMarked (σ : xM) {d : Nat} {q : xM} (hd : 0 ≤ d) (h : F_X3_keepMarked σ = some q) : xR xT xLn d 33 [.ref 19] σ (none, q) := by
  unfold F_X3_keepMarked at h
  show xX xT xLn d 33 0 [.ref 19] [] σ _
  refine xX_blk (w := xw_33) eT_33 6 0 (ls' := [.ref 19]) (st' := [.int 6, .int ((σ 19 1) + 1), .ref 19]) (σ' := σ) rfl ?_
  refine xX_ite (c := 6 ≤ ((σ 19 1) + 1)) (w := xw_33) (i := 6) (a := 12) (b := 7) (st' := [.ref 19]) eT_33 rfl rfl (fun hc1 => ?_) (fun hc1 => ?_)
  · rw [if_pos hc1] at h
    refine xX_blk (w := xw_33) eT_33 1 12 (ls' := [.ref 19]) (st' := [.int 0, .ref 19]) (σ' := σ) rfl ?_
    refine xX_blk (w := xw_33) eT_33 1 13 (ls' := [.ref 19]) (st' := []) (σ' := xup σ 19 1 0) rfl ?_
    obtain ⟨σ2, eσ2, h⟩ := xlet_inv h
    rw [← eσ2]
    refine xX_blk (w := xw_33) eT_33 7 14 (ls' := [.ref 19]) (st' := [.int (if 5 < ((σ2 19 0) + 1) then 5 else ((σ2 19 0) + 1)), .ref 19]) (σ' := σ2) rfl ?_
    refine xX_blk (w := xw_33) eT_33 1 21 (ls' := [.ref 19]) (st' := []) (σ' := xup σ2 19 0 (if 5 < ((σ2 19 0) + 1) then 5 else ((σ2 19 0) + 1))) rfl ?_
    obtain ⟨σ3, eσ3, h⟩ := xlet_inv h
    rw [← eσ3]
    obtain rfl := Option.some.inj h
    exact xX_ret (w := xw_33) (i := 22) eT_33 rfl rfl
  · rw [if_neg hc1] at h
    refine xX_blk (w := xw_33) eT_33 4 7 (ls' := [.ref 19]) (st' := [.int ((σ 19 1) + 1), .ref 19]) (σ' := σ) rfl ?_
    refine xX_jmp (w := xw_33) (i := 11) (a := 13) (st' := [.int ((σ 19 1) + 1), .ref 19]) eT_33 rfl rfl ?_
    refine xX_blk (w := xw_33) eT_33 1 13 (ls' := [.ref 19]) (st' := []) (σ' := xup σ 19 1 ((σ 19 1) + 1)) rfl ?_
    obtain ⟨σ4, eσ4, h⟩ := xlet_inv h
    rw [← eσ4]
    refine xX_blk (w := xw_33) eT_33 7 14 (ls' := [.ref 19]) (st' := [.int (if 5 < ((σ4 19 0) + 1) then 5 else ((σ4 19 0) + 1)), .ref 19]) (σ' := σ4) rfl ?_
    refine xX_blk (w := xw_33) eT_33 1 21 (ls' := [.ref 19]) (st' := []) (σ' := xup σ4 19 0 (if 5 < ((σ4 19 0) + 1) then 5 else ((σ4 19 0) + 1))) rfl ?_
    obtain ⟨σ5, eσ5, h⟩ := xlet_inv h
    rw [← eσ5]
    obtain rfl := Option.some.inj h
    exact xX_ret (w := xw_33) (i := 22) eT_33 rfl rfl
def F_X10_settled (a : Int32) (σ : xM) : Option (Int32 × xM) :=
  if a < 0 then
    xbd (F_X10_counted a σ) fun r2 =>
    some (r2.1, r2.2)
  else
    xbd (F_X3_keepMarked σ) fun r3 =>
    xbd (F_X10_counted a r3) fun r4 =>
    some (r4.1, r4.2)
set_option maxHeartbeats 1000000 in
set_option maxRecDepth 20000 in
theorem T_X10_settled (a : Int32) (σ : xM) {d : Nat} {q : Int32 × xM} (hd : 1 ≤ d) (h : F_X10_settled a σ = some q) : xR xT xLn d 112 [.ref 0, .int a] σ (some (.int q.1), q.2) := by
  unfold F_X10_settled at h
  show xX xT xLn d 112 0 [.ref 0, .int a] [] σ _
  refine xX_blk (w := xw_112) eT_112 1 0 (ls' := [.ref 0, .int a]) (st' := [.int a]) (σ' := σ) rfl ?_
  refine xX_ite (c := a < 0) (w := xw_112) (i := 1) (a := 5) (b := 2) (st' := []) eT_112 rfl rfl (fun hc1 => ?_) (fun hc1 => ?_)
  · rw [if_pos hc1] at h
    refine xX_blk (w := xw_112) eT_112 2 5 (ls' := [.ref 0, .int a]) (st' := [.int a, .ref 0]) (σ' := σ) rfl ?_
    obtain ⟨r2, hr2, h⟩ := xbd_inv h
    refine xX_c1 (w := xw_112) (i := 7) (ls := [.ref 0, .int a]) (rest := []) eT_112 rfl (by omega) rfl rfl rfl (T_X10_counted a σ (by omega) hr2) ?_
    obtain rfl := Option.some.inj h
    exact xX_ret (w := xw_112) (i := 8) eT_112 rfl rfl
  · rw [if_neg hc1] at h
    refine xX_blk (w := xw_112) eT_112 2 2 (ls' := [.ref 0, .int a]) (st' := [.ref 19]) (σ' := σ) rfl ?_
    obtain ⟨r3, hr3, h⟩ := xbd_inv h
    refine xX_c0 (w := xw_112) (i := 4) (ls := [.ref 0, .int a]) (rest := []) eT_112 rfl (by omega) rfl rfl rfl (T_X3_keepMarked σ (by omega) hr3) ?_
    refine xX_blk (w := xw_112) eT_112 2 5 (ls' := [.ref 0, .int a]) (st' := [.int a, .ref 0]) (σ' := r3) rfl ?_
    obtain ⟨r4, hr4, h⟩ := xbd_inv h
    refine xX_c1 (w := xw_112) (i := 7) (ls := [.ref 0, .int a]) (rest := []) eT_112 rfl (by omega) rfl rfl rfl (T_X10_counted a r3 (by omega) hr4) ?_
    obtain rfl := Option.some.inj h
    exact xX_ret (w := xw_112) (i := 8) eT_112 rfl rfl
def F_X10_area (a : Int32) (σ : xM) : Option (Int32 × xM) :=
  xbd (F_X10_mark σ) fun r1 =>
  xbd (F_X0_addArea a r1) fun r2 =>
  xbd (F_X10_settled r2.1 r2.2) fun r3 =>
  some (r3.1, r3.2)
set_option maxHeartbeats 1000000 in
set_option maxRecDepth 20000 in
theorem T_X10_area (a : Int32) (σ : xM) {d : Nat} {q : Int32 × xM} (hd : 5 ≤ d) (h : F_X10_area a σ = some q) : xR xT xLn d 78 [.ref 0, .int a] σ (some (.int q.1), q.2) := by
  unfold F_X10_area at h
  show xX xT xLn d 78 0 [.ref 0, .int a] [] σ _
  refine xX_blk (w := xw_78) eT_78 1 0 (ls' := [.ref 0, .int a]) (st' := [.ref 0]) (σ' := σ) rfl ?_
  obtain ⟨r1, hr1, h⟩ := xbd_inv h
  refine xX_c0 (w := xw_78) (i := 1) (ls := [.ref 0, .int a]) (rest := []) eT_78 rfl (by omega) rfl rfl rfl (T_X10_mark σ (by omega) hr1) ?_
  refine xX_blk (w := xw_78) eT_78 4 2 (ls' := [.ref 0, .int a]) (st' := [.int a, .ref 136, .ref 0]) (σ' := r1) rfl ?_
  obtain ⟨r2, hr2, h⟩ := xbd_inv h
  refine xX_c1 (w := xw_78) (i := 6) (ls := [.ref 0, .int a]) (rest := [.ref 0]) eT_78 rfl (by omega) rfl rfl rfl (T_X0_addArea a r1 (by omega) hr2) ?_
  obtain ⟨r3, hr3, h⟩ := xbd_inv h
  refine xX_c1 (w := xw_78) (i := 7) (ls := [.ref 0, .int a]) (rest := []) eT_78 rfl (by omega) rfl rfl rfl (T_X10_settled r2.1 r2.2 (by omega) hr3) ?_
  obtain rfl := Option.some.inj h
  exact xX_ret (w := xw_78) (i := 8) eT_78 rfl rfl
def F_X1_has (a : Int32) (σ : xM) : Option (Int32) :=
  xbd (F_X10_within a 0 ((σ 2 0) - 1) σ) fun r1 =>
  xgd (xzok true r1) (some r1)
set_option maxHeartbeats 1000000 in
set_option maxRecDepth 20000 in
theorem T_X1_has (a : Int32) (σ : xM) {d : Nat} {q : Int32} (hd : 1 ≤ d) (h : F_X1_has a σ = some q) : xR xT xLn d 18 [.ref 2, .int a] σ (some (.int q), σ) := by
  unfold F_X1_has at h
  show xX xT xLn d 18 0 [.ref 2, .int a] [] σ _
  refine xX_blk (w := xw_18) eT_18 6 0 (ls' := [.ref 2, .int a]) (st' := [.int ((σ 2 0) - 1), .int 0, .int a]) (σ' := σ) rfl ?_
  obtain ⟨r1, hr1, h⟩ := xbd_inv h
  refine xX_c1 (w := xw_18) (i := 6) (ls := [.ref 2, .int a]) (rest := []) eT_18 rfl (by omega) rfl rfl rfl (T_X10_within a 0 ((σ 2 0) - 1) σ (by omega) hr1) ?_
  obtain ⟨hi2, h⟩ := xgd_inv h
  obtain rfl := Option.some.inj h
  exact xX_ret (w := xw_18) (i := 7) eT_18 rfl (e_ret2 hi2)
def F_X0_setDemand (a : Int32) (b : Int32) (σ : xM) : Option (Int32 × xM) :=
  xbd (F_X1_has a σ) fun r1 =>
  if r1 = 0 then
    some ((-2), σ)
  else
    xbd (F_X10_within b 0 99 σ) fun r3 =>
    if r3 = 0 then
      some ((-2), σ)
    else
      xgd (xin a 8) (
      xgd (xin a 8) (
      xlet (xup σ 3 a.toNatClampNeg b) fun σ7 =>
      some ((σ 3 a.toNatClampNeg), σ7)))
set_option maxHeartbeats 1000000 in
set_option maxRecDepth 20000 in
theorem T_X0_setDemand (a : Int32) (b : Int32) (σ : xM) {d : Nat} {q : Int32 × xM} (hd : 2 ≤ d) (h : F_X0_setDemand a b σ = some q) : xR xT xLn d 2 [.ref 136, .int a, .int b] σ (some (.int q.1), q.2) := by
  unfold F_X0_setDemand at h
  show xX xT xLn d 2 0 [.ref 136, .int a, .int b, .null] [] σ _
  refine xX_blk (w := xw_2) eT_2 4 0 (ls' := [.ref 136, .int a, .int b, .null]) (st' := [.int a, .ref 2]) (σ' := σ) rfl ?_
  obtain ⟨r1, hr1, h⟩ := xbd_inv h
  refine xX_c1 (w := xw_2) (i := 4) (ls := [.ref 136, .int a, .int b, .null]) (rest := []) eT_2 rfl (by omega) rfl rfl rfl (T_X1_has a σ (by omega) hr1) ?_
  refine xX_ite (c := r1 = 0) (w := xw_2) (i := 5) (a := 11) (b := 6) (st' := []) eT_2 rfl rfl (fun hc2 => ?_) (fun hc2 => ?_)
  · rw [if_pos hc2] at h
    refine xX_blk (w := xw_2) eT_2 1 11 (ls' := [.ref 136, .int a, .int b, .null]) (st' := [.int (-2)]) (σ' := σ) rfl ?_
    obtain rfl := Option.some.inj h
    exact xX_ret (w := xw_2) (i := 12) eT_2 rfl rfl
  · rw [if_neg hc2] at h
    refine xX_blk (w := xw_2) eT_2 3 6 (ls' := [.ref 136, .int a, .int b, .null]) (st' := [.int 99, .int 0, .int b]) (σ' := σ) rfl ?_
    obtain ⟨r3, hr3, h⟩ := xbd_inv h
    refine xX_c1 (w := xw_2) (i := 9) (ls := [.ref 136, .int a, .int b, .null]) (rest := []) eT_2 rfl (by omega) rfl rfl rfl (T_X10_within b 0 99 σ (by omega) hr3) ?_
    refine xX_ite (c := r3 = 0) (w := xw_2) (i := 10) (a := 11) (b := 13) (st' := []) eT_2 rfl rfl (fun hc4 => ?_) (fun hc4 => ?_)
    · rw [if_pos hc4] at h
      refine xX_blk (w := xw_2) eT_2 1 11 (ls' := [.ref 136, .int a, .int b, .null]) (st' := [.int (-2)]) (σ' := σ) rfl ?_
      obtain rfl := Option.some.inj h
      exact xX_ret (w := xw_2) (i := 12) eT_2 rfl rfl
    · rw [if_neg hc4] at h
      refine xX_blk (w := xw_2) eT_2 5 13 (ls' := [.ref 136, .int a, .int b, .null]) (st' := [.int a, .ref 3]) (σ' := σ) rfl ?_
      obtain ⟨hi5, h⟩ := xgd_inv h
      refine xX_one (w := xw_2) (i := 18) (ls' := [.ref 136, .int a, .int b, .null]) (st' := [.int (σ 3 a.toNatClampNeg)]) (σ' := σ) eT_2 rfl (e_iald xs_3 hi5) ?_
      refine xX_blk (w := xw_2) eT_2 7 19 (ls' := [.ref 136, .int a, .int b, .int (σ 3 a.toNatClampNeg)]) (st' := [.int b, .int a, .ref 3]) (σ' := σ) rfl ?_
      obtain ⟨hi6, h⟩ := xgd_inv h
      refine xX_one (w := xw_2) (i := 26) (ls' := [.ref 136, .int a, .int b, .int (σ 3 a.toNatClampNeg)]) (st' := []) (σ' := xup σ 3 a.toNatClampNeg b) eT_2 rfl (e_iast xs_3 hi6) ?_
      obtain ⟨σ7, eσ7, h⟩ := xlet_inv h
      rw [← eσ7]
      refine xX_blk (w := xw_2) eT_2 1 27 (ls' := [.ref 136, .int a, .int b, .int (σ 3 a.toNatClampNeg)]) (st' := [.int (σ 3 a.toNatClampNeg)]) (σ' := σ7) rfl ?_
      obtain rfl := Option.some.inj h
      exact xX_ret (w := xw_2) (i := 28) eT_2 rfl rfl
def F_X10_wants (a : Int32) (b : Int32) (σ : xM) : Option (Int32 × xM) :=
  xbd (F_X10_mark σ) fun r1 =>
  xbd (F_X0_setDemand a b r1) fun r2 =>
  xbd (F_X10_settled r2.1 r2.2) fun r3 =>
  some (r3.1, r3.2)
set_option maxHeartbeats 1000000 in
set_option maxRecDepth 20000 in
theorem T_X10_wants (a : Int32) (b : Int32) (σ : xM) {d : Nat} {q : Int32 × xM} (hd : 4 ≤ d) (h : F_X10_wants a b σ = some q) : xR xT xLn d 79 [.ref 0, .int a, .int b] σ (some (.int q.1), q.2) := by
  unfold F_X10_wants at h
  show xX xT xLn d 79 0 [.ref 0, .int a, .int b] [] σ _
  refine xX_blk (w := xw_79) eT_79 1 0 (ls' := [.ref 0, .int a, .int b]) (st' := [.ref 0]) (σ' := σ) rfl ?_
  obtain ⟨r1, hr1, h⟩ := xbd_inv h
  refine xX_c0 (w := xw_79) (i := 1) (ls := [.ref 0, .int a, .int b]) (rest := []) eT_79 rfl (by omega) rfl rfl rfl (T_X10_mark σ (by omega) hr1) ?_
  refine xX_blk (w := xw_79) eT_79 5 2 (ls' := [.ref 0, .int a, .int b]) (st' := [.int b, .int a, .ref 136, .ref 0]) (σ' := r1) rfl ?_
  obtain ⟨r2, hr2, h⟩ := xbd_inv h
  refine xX_c1 (w := xw_79) (i := 7) (ls := [.ref 0, .int a, .int b]) (rest := [.ref 0]) eT_79 rfl (by omega) rfl rfl rfl (T_X0_setDemand a b r1 (by omega) hr2) ?_
  obtain ⟨r3, hr3, h⟩ := xbd_inv h
  refine xX_c1 (w := xw_79) (i := 8) (ls := [.ref 0, .int a, .int b]) (rest := []) eT_79 rfl (by omega) rfl rfl rfl (T_X10_settled r2.1 r2.2 (by omega) hr3) ?_
  obtain rfl := Option.some.inj h
  exact xX_ret (w := xw_79) (i := 9) eT_79 rfl rfl
def F_X1_putLine (a : Int32) (b : Int32) (c : Int32) (σ : xM) : Option (xM) :=
  xgd (xin ((a * 8) + b) 64) (
  xlet (xup σ 6 ((a * 8) + b).toNatClampNeg c) fun σ2 =>
  xgd (xin ((b * 8) + a) 64) (
  xlet (xup σ2 6 ((b * 8) + a).toNatClampNeg c) fun σ4 =>
  xbd (F_X1_measure σ4) fun r5 =>
  some r5))
set_option maxHeartbeats 1000000 in
set_option maxRecDepth 20000 in
theorem T_X1_putLine (a : Int32) (b : Int32) (c : Int32) (σ : xM) {d : Nat} {q : xM} (hd : 3 ≤ d) (h : F_X1_putLine a b c σ = some q) : xR xT xLn d 22 [.ref 2, .int a, .int b, .int c] σ (none, q) := by
  unfold F_X1_putLine at h
  show xX xT xLn d 22 0 [.ref 2, .int a, .int b, .int c] [] σ _
  refine xX_blk (w := xw_22) eT_22 8 0 (ls' := [.ref 2, .int a, .int b, .int c]) (st' := [.int c, .int ((a * 8) + b), .ref 6]) (σ' := σ) rfl ?_
  obtain ⟨hi1, h⟩ := xgd_inv h
  refine xX_one (w := xw_22) (i := 8) (ls' := [.ref 2, .int a, .int b, .int c]) (st' := []) (σ' := xup σ 6 ((a * 8) + b).toNatClampNeg c) eT_22 rfl (e_iast xs_6 hi1) ?_
  obtain ⟨σ2, eσ2, h⟩ := xlet_inv h
  rw [← eσ2]
  refine xX_blk (w := xw_22) eT_22 8 9 (ls' := [.ref 2, .int a, .int b, .int c]) (st' := [.int c, .int ((b * 8) + a), .ref 6]) (σ' := σ2) rfl ?_
  obtain ⟨hi3, h⟩ := xgd_inv h
  refine xX_one (w := xw_22) (i := 17) (ls' := [.ref 2, .int a, .int b, .int c]) (st' := []) (σ' := xup σ2 6 ((b * 8) + a).toNatClampNeg c) eT_22 rfl (e_iast xs_6 hi3) ?_
  obtain ⟨σ4, eσ4, h⟩ := xlet_inv h
  rw [← eσ4]
  refine xX_blk (w := xw_22) eT_22 1 18 (ls' := [.ref 2, .int a, .int b, .int c]) (st' := [.ref 2]) (σ' := σ4) rfl ?_
  obtain ⟨r5, hr5, h⟩ := xbd_inv h
  refine xX_c0 (w := xw_22) (i := 19) (ls := [.ref 2, .int a, .int b, .int c]) (rest := []) eT_22 rfl (by omega) rfl rfl rfl (T_X1_measure σ4 (by omega) hr5) ?_
  obtain rfl := Option.some.inj h
  exact xX_ret (w := xw_22) (i := 20) eT_22 rfl rfl
def F_X0_setLine (a : Int32) (b : Int32) (c : Int32) (σ : xM) : Option (Int32 × xM) :=
  xbd (F_X1_has a σ) fun r1 =>
  if r1 = 0 then
    some ((-2), σ)
  else
    xbd (F_X1_has b σ) fun r3 =>
    if r3 = 0 then
      some ((-2), σ)
    else
      if a = b then
        some ((-2), σ)
      else
        xbd (F_X10_within c 0 9 σ) fun r6 =>
        if r6 = 0 then
          some ((-2), σ)
        else
          xbd (F_X1_lineLength a b σ) fun r8 =>
          xbd (F_X1_putLine a b c σ) fun r9 =>
          some (r8, r9)
set_option maxHeartbeats 1000000 in
set_option maxRecDepth 20000 in
theorem T_X0_setLine (a : Int32) (b : Int32) (c : Int32) (σ : xM) {d : Nat} {q : Int32 × xM} (hd : 4 ≤ d) (h : F_X0_setLine a b c σ = some q) : xR xT xLn d 3 [.ref 136, .int a, .int b, .int c] σ (some (.int q.1), q.2) := by
  unfold F_X0_setLine at h
  show xX xT xLn d 3 0 [.ref 136, .int a, .int b, .int c, .null] [] σ _
  refine xX_blk (w := xw_3) eT_3 4 0 (ls' := [.ref 136, .int a, .int b, .int c, .null]) (st' := [.int a, .ref 2]) (σ' := σ) rfl ?_
  obtain ⟨r1, hr1, h⟩ := xbd_inv h
  refine xX_c1 (w := xw_3) (i := 4) (ls := [.ref 136, .int a, .int b, .int c, .null]) (rest := []) eT_3 rfl (by omega) rfl rfl rfl (T_X1_has a σ (by omega) hr1) ?_
  refine xX_ite (c := r1 = 0) (w := xw_3) (i := 5) (a := 20) (b := 6) (st' := []) eT_3 rfl rfl (fun hc2 => ?_) (fun hc2 => ?_)
  · rw [if_pos hc2] at h
    refine xX_blk (w := xw_3) eT_3 1 20 (ls' := [.ref 136, .int a, .int b, .int c, .null]) (st' := [.int (-2)]) (σ' := σ) rfl ?_
    obtain rfl := Option.some.inj h
    exact xX_ret (w := xw_3) (i := 21) eT_3 rfl rfl
  · rw [if_neg hc2] at h
    refine xX_blk (w := xw_3) eT_3 4 6 (ls' := [.ref 136, .int a, .int b, .int c, .null]) (st' := [.int b, .ref 2]) (σ' := σ) rfl ?_
    obtain ⟨r3, hr3, h⟩ := xbd_inv h
    refine xX_c1 (w := xw_3) (i := 10) (ls := [.ref 136, .int a, .int b, .int c, .null]) (rest := []) eT_3 rfl (by omega) rfl rfl rfl (T_X1_has b σ (by omega) hr3) ?_
    refine xX_ite (c := r3 = 0) (w := xw_3) (i := 11) (a := 20) (b := 12) (st' := []) eT_3 rfl rfl (fun hc4 => ?_) (fun hc4 => ?_)
    · rw [if_pos hc4] at h
      refine xX_blk (w := xw_3) eT_3 1 20 (ls' := [.ref 136, .int a, .int b, .int c, .null]) (st' := [.int (-2)]) (σ' := σ) rfl ?_
      obtain rfl := Option.some.inj h
      exact xX_ret (w := xw_3) (i := 21) eT_3 rfl rfl
    · rw [if_neg hc4] at h
      refine xX_blk (w := xw_3) eT_3 2 12 (ls' := [.ref 136, .int a, .int b, .int c, .null]) (st' := [.int b, .int a]) (σ' := σ) rfl ?_
      refine xX_ite (c := a = b) (w := xw_3) (i := 14) (a := 20) (b := 15) (st' := []) eT_3 rfl rfl (fun hc5 => ?_) (fun hc5 => ?_)
      · rw [if_pos hc5] at h
        refine xX_blk (w := xw_3) eT_3 1 20 (ls' := [.ref 136, .int a, .int b, .int c, .null]) (st' := [.int (-2)]) (σ' := σ) rfl ?_
        obtain rfl := Option.some.inj h
        exact xX_ret (w := xw_3) (i := 21) eT_3 rfl rfl
      · rw [if_neg hc5] at h
        refine xX_blk (w := xw_3) eT_3 3 15 (ls' := [.ref 136, .int a, .int b, .int c, .null]) (st' := [.int 9, .int 0, .int c]) (σ' := σ) rfl ?_
        obtain ⟨r6, hr6, h⟩ := xbd_inv h
        refine xX_c1 (w := xw_3) (i := 18) (ls := [.ref 136, .int a, .int b, .int c, .null]) (rest := []) eT_3 rfl (by omega) rfl rfl rfl (T_X10_within c 0 9 σ (by omega) hr6) ?_
        refine xX_ite (c := r6 = 0) (w := xw_3) (i := 19) (a := 20) (b := 22) (st' := []) eT_3 rfl rfl (fun hc7 => ?_) (fun hc7 => ?_)
        · rw [if_pos hc7] at h
          refine xX_blk (w := xw_3) eT_3 1 20 (ls' := [.ref 136, .int a, .int b, .int c, .null]) (st' := [.int (-2)]) (σ' := σ) rfl ?_
          obtain rfl := Option.some.inj h
          exact xX_ret (w := xw_3) (i := 21) eT_3 rfl rfl
        · rw [if_neg hc7] at h
          refine xX_blk (w := xw_3) eT_3 5 22 (ls' := [.ref 136, .int a, .int b, .int c, .null]) (st' := [.int b, .int a, .ref 2]) (σ' := σ) rfl ?_
          obtain ⟨r8, hr8, h⟩ := xbd_inv h
          refine xX_c1 (w := xw_3) (i := 27) (ls := [.ref 136, .int a, .int b, .int c, .null]) (rest := []) eT_3 rfl (by omega) rfl rfl rfl (T_X1_lineLength a b σ (by omega) hr8) ?_
          refine xX_blk (w := xw_3) eT_3 7 28 (ls' := [.ref 136, .int a, .int b, .int c, .int r8]) (st' := [.int c, .int b, .int a, .ref 2]) (σ' := σ) rfl ?_
          obtain ⟨r9, hr9, h⟩ := xbd_inv h
          refine xX_c0 (w := xw_3) (i := 35) (ls := [.ref 136, .int a, .int b, .int c, .int r8]) (rest := []) eT_3 rfl (by omega) rfl rfl rfl (T_X1_putLine a b c σ (by omega) hr9) ?_
          refine xX_blk (w := xw_3) eT_3 1 36 (ls' := [.ref 136, .int a, .int b, .int c, .int r8]) (st' := [.int r8]) (σ' := r9) rfl ?_
          obtain rfl := Option.some.inj h
          exact xX_ret (w := xw_3) (i := 37) eT_3 rfl rfl
def F_X10_line (a : Int32) (b : Int32) (c : Int32) (σ : xM) : Option (Int32 × xM) :=
  xbd (F_X10_mark σ) fun r1 =>
  xbd (F_X0_setLine a b c r1) fun r2 =>
  xbd (F_X10_settled r2.1 r2.2) fun r3 =>
  some (r3.1, r3.2)
set_option maxHeartbeats 1000000 in
set_option maxRecDepth 20000 in
theorem T_X10_line (a : Int32) (b : Int32) (c : Int32) (σ : xM) {d : Nat} {q : Int32 × xM} (hd : 5 ≤ d) (h : F_X10_line a b c σ = some q) : xR xT xLn d 80 [.ref 0, .int a, .int b, .int c] σ (some (.int q.1), q.2) := by
  unfold F_X10_line at h
  show xX xT xLn d 80 0 [.ref 0, .int a, .int b, .int c] [] σ _
  refine xX_blk (w := xw_80) eT_80 1 0 (ls' := [.ref 0, .int a, .int b, .int c]) (st' := [.ref 0]) (σ' := σ) rfl ?_
  obtain ⟨r1, hr1, h⟩ := xbd_inv h
  refine xX_c0 (w := xw_80) (i := 1) (ls := [.ref 0, .int a, .int b, .int c]) (rest := []) eT_80 rfl (by omega) rfl rfl rfl (T_X10_mark σ (by omega) hr1) ?_
  refine xX_blk (w := xw_80) eT_80 6 2 (ls' := [.ref 0, .int a, .int b, .int c]) (st' := [.int c, .int b, .int a, .ref 136, .ref 0]) (σ' := r1) rfl ?_
  obtain ⟨r2, hr2, h⟩ := xbd_inv h
  refine xX_c1 (w := xw_80) (i := 8) (ls := [.ref 0, .int a, .int b, .int c]) (rest := [.ref 0]) eT_80 rfl (by omega) rfl rfl rfl (T_X0_setLine a b c r1 (by omega) hr2) ?_
  obtain ⟨r3, hr3, h⟩ := xbd_inv h
  refine xX_c1 (w := xw_80) (i := 9) (ls := [.ref 0, .int a, .int b, .int c]) (rest := []) eT_80 rfl (by omega) rfl rfl rfl (T_X10_settled r2.1 r2.2 (by omega) hr3) ?_
  obtain rfl := Option.some.inj h
  exact xX_ret (w := xw_80) (i := 10) eT_80 rfl rfl
def B_X8_notOff_4 (v1 : Int32) (v2 : Int32) (σ : xM) : Option ((Int32 × Int32) ⊕ ((Int32))) :=
  if (σ 8 0) ≤ v2 then
    some (.inr v1)
  else
    xgd (xin v2 5) (
    if (σ 12 v2.toNatClampNeg) = 2 then
      some (.inl (v1, (v2 + 1)))
    else
      some (.inl ((v1 ||| ((1 : Int32) <<< (v2 &&& 31))), (v2 + 1))))
def L_X8_notOff_4 (v1 : Int32) (v2 : Int32) (σ : xM) : Option ((Int32)) := xloop (fun s : Int32 × Int32 => B_X8_notOff_4 s.1 s.2 σ) 6000 (v1, v2)
set_option maxHeartbeats 1000000 in
set_option maxRecDepth 20000 in
theorem TB_X8_notOff_4 {d : Nat} {o : Option Value × xM} (v1 : Int32) (v2 : Int32) (σ : xM) {q : (Int32 × Int32) ⊕ ((Int32))} (hd : 0 ≤ d) (h : B_X8_notOff_4 v1 v2 σ = some q) (hB : ∀ s', q = .inl s' → xX xT xLn d 70 4 [.ref 8, .int s'.1, .int s'.2] [] σ o) (hE : ∀ e', q = .inr e' → ∀ (z0 z2 : Value), xX xT xLn d 70 23 [z0, .int e', z2] [] σ o) : xX xT xLn d 70 4 [.ref 8, .int v1, .int v2] [] σ o := by
  unfold B_X8_notOff_4 at h
  refine xX_blk (w := xw_70) eT_70 4 4 (ls' := [.ref 8, .int v1, .int v2]) (st' := [.int (σ 8 0), .int v2]) (σ' := σ) rfl ?_
  refine xX_ite (c := (σ 8 0) ≤ v2) (w := xw_70) (i := 8) (a := 23) (b := 9) (st' := []) eT_70 rfl rfl (fun hc1 => ?_) (fun hc1 => ?_)
  · rw [if_pos hc1] at h
    obtain rfl := Option.some.inj h
    exact hE v1 rfl _ _
  · rw [if_neg hc1] at h
    refine xX_blk (w := xw_70) eT_70 3 9 (ls' := [.ref 8, .int v1, .int v2]) (st' := [.int v2, .ref 12]) (σ' := σ) rfl ?_
    obtain ⟨hi2, h⟩ := xgd_inv h
    refine xX_one (w := xw_70) (i := 12) (ls' := [.ref 8, .int v1, .int v2]) (st' := [.int (σ 12 v2.toNatClampNeg)]) (σ' := σ) eT_70 rfl (e_iald xs_12 hi2) ?_
    refine xX_blk (w := xw_70) eT_70 1 13 (ls' := [.ref 8, .int v1, .int v2]) (st' := [.int 2, .int (σ 12 v2.toNatClampNeg)]) (σ' := σ) rfl ?_
    refine xX_ite (c := (σ 12 v2.toNatClampNeg) = 2) (w := xw_70) (i := 14) (a := 21) (b := 15) (st' := []) eT_70 rfl rfl (fun hc3 => ?_) (fun hc3 => ?_)
    · rw [if_pos hc3] at h
      refine xX_blk (w := xw_70) eT_70 1 21 (ls' := [.ref 8, .int v1, .int (v2 + 1)]) (st' := []) (σ' := σ) rfl ?_
      refine xX_jmp (w := xw_70) (i := 22) (a := 4) (st' := []) eT_70 rfl rfl ?_
      obtain rfl := Option.some.inj h
      exact hB (v1, (v2 + 1)) rfl
    · rw [if_neg hc3] at h
      refine xX_blk (w := xw_70) eT_70 7 15 (ls' := [.ref 8, .int (v1 ||| ((1 : Int32) <<< (v2 &&& 31))), .int (v2 + 1)]) (st' := []) (σ' := σ) rfl ?_
      refine xX_jmp (w := xw_70) (i := 22) (a := 4) (st' := []) eT_70 rfl rfl ?_
      obtain rfl := Option.some.inj h
      exact hB ((v1 ||| ((1 : Int32) <<< (v2 &&& 31))), (v2 + 1)) rfl
set_option maxHeartbeats 1000000 in
set_option maxRecDepth 20000 in
theorem TL_X8_notOff_4 {d : Nat} {o : Option Value × xM} (v1 : Int32) (v2 : Int32) (σ : xM) {e : (Int32)} (hd : 0 ≤ d) (h : L_X8_notOff_4 v1 v2 σ = some e) (hE : ∀ (z0 z2 : Value), xX xT xLn d 70 23 [z0, .int e, z2] [] σ o) : xX xT xLn d 70 4 [.ref 8, .int v1, .int v2] [] σ o :=
  xloop_snd (X := fun s => xX xT xLn d 70 4 [.ref 8, .int s.1, .int s.2] [] σ o) (Y := fun e' => ∀ (z0 z2 : Value), xX xT xLn d 70 23 [z0, .int e', z2] [] σ o) (fun s q hs hB hE => TB_X8_notOff_4 s.1 s.2 σ hd hs hB hE) _ _ _ h hE
def F_X8_notOff (σ : xM) : Option (Int32) :=
  xbd (L_X8_notOff_4 0 0 σ) fun e4 =>
  some e4
set_option maxHeartbeats 1000000 in
set_option maxRecDepth 20000 in
theorem T_X8_notOff (σ : xM) {d : Nat} {q : Int32} (hd : 0 ≤ d) (h : F_X8_notOff σ = some q) : xR xT xLn d 70 [.ref 8] σ (some (.int q), σ) := by
  unfold F_X8_notOff at h
  show xX xT xLn d 70 0 [.ref 8, .null, .null] [] σ _
  refine xX_blk (w := xw_70) eT_70 4 0 (ls' := [.ref 8, .int 0, .int 0]) (st' := []) (σ' := σ) rfl ?_
  obtain ⟨e4, he4, h⟩ := xbd_inv h
  refine TL_X8_notOff_4 0 0 σ (by omega) he4 (fun z0 z2 => ?_)
  refine xX_blk (w := xw_70) eT_70 2 23 (ls' := [.null, .int e4, .null]) (st' := [.int e4]) (σ' := σ) rfl ?_
  obtain rfl := Option.some.inj h
  exact xX_ret (w := xw_70) (i := 25) eT_70 rfl rfl
def F_X4_stepLengthFrom (a : Int32) (σ : xM) : Option (Int32) :=
  xgd (xin a 8) (
  if (σ 4 a.toNatClampNeg) = 1 then
    some 0
  else
    some 3)
set_option maxHeartbeats 1000000 in
set_option maxRecDepth 20000 in
theorem T_X4_stepLengthFrom (a : Int32) (σ : xM) {d : Nat} {q : Int32} (hd : 0 ≤ d) (h : F_X4_stepLengthFrom a σ = some q) : xR xT xLn d 41 [.ref 129, .int a] σ (some (.int q), σ) := by
  unfold F_X4_stepLengthFrom at h
  show xX xT xLn d 41 0 [.ref 129, .int a] [] σ _
  refine xX_blk (w := xw_41) eT_41 5 0 (ls' := [.ref 129, .int a]) (st' := [.int a, .ref 4]) (σ' := σ) rfl ?_
  obtain ⟨hi1, h⟩ := xgd_inv h
  refine xX_one (w := xw_41) (i := 5) (ls' := [.ref 129, .int a]) (st' := [.int (σ 4 a.toNatClampNeg)]) (σ' := σ) eT_41 rfl (e_iald xs_4 hi1) ?_
  refine xX_blk (w := xw_41) eT_41 1 6 (ls' := [.ref 129, .int a]) (st' := [.int 1, .int (σ 4 a.toNatClampNeg)]) (σ' := σ) rfl ?_
  refine xX_ite (c := (σ 4 a.toNatClampNeg) = 1) (w := xw_41) (i := 7) (a := 8) (b := 10) (st' := []) eT_41 rfl rfl (fun hc2 => ?_) (fun hc2 => ?_)
  · rw [if_pos hc2] at h
    refine xX_blk (w := xw_41) eT_41 1 8 (ls' := [.ref 129, .int a]) (st' := [.int 0]) (σ' := σ) rfl ?_
    refine xX_jmp (w := xw_41) (i := 9) (a := 11) (st' := [.int 0]) eT_41 rfl rfl ?_
    obtain rfl := Option.some.inj h
    exact xX_ret (w := xw_41) (i := 11) eT_41 rfl rfl
  · rw [if_neg hc2] at h
    refine xX_blk (w := xw_41) eT_41 1 10 (ls' := [.ref 129, .int a]) (st' := [.int 3]) (σ' := σ) rfl ?_
    obtain rfl := Option.some.inj h
    exact xX_ret (w := xw_41) (i := 11) eT_41 rfl rfl
def F_X4_contains (a : Int32) (b : Int32) (σ : xM) : Option (Int32) :=
  if ((a >>> (b &&& 31)) &&& 1) = 0 then
    some 0
  else
    some 1
set_option maxHeartbeats 1000000 in
set_option maxRecDepth 20000 in
theorem T_X4_contains (a : Int32) (b : Int32) (σ : xM) {d : Nat} {q : Int32} (hd : 0 ≤ d) (h : F_X4_contains a b σ = some q) : xR xT xLn d 45 [.int a, .int b] σ (some (.int q), σ) := by
  unfold F_X4_contains at h
  show xX xT xLn d 45 0 [.int a, .int b] [] σ _
  refine xX_blk (w := xw_45) eT_45 5 0 (ls' := [.int a, .int b]) (st' := [.int ((a >>> (b &&& 31)) &&& 1)]) (σ' := σ) rfl ?_
  refine xX_ite (c := ((a >>> (b &&& 31)) &&& 1) = 0) (w := xw_45) (i := 5) (a := 8) (b := 6) (st' := []) eT_45 rfl rfl (fun hc1 => ?_) (fun hc1 => ?_)
  · rw [if_pos hc1] at h
    refine xX_blk (w := xw_45) eT_45 1 8 (ls' := [.int a, .int b]) (st' := [.int 0]) (σ' := σ) rfl ?_
    obtain rfl := Option.some.inj h
    exact xX_ret (w := xw_45) (i := 9) eT_45 rfl (e_ret2 (by decide))
  · rw [if_neg hc1] at h
    refine xX_blk (w := xw_45) eT_45 1 6 (ls' := [.int a, .int b]) (st' := [.int 1]) (σ' := σ) rfl ?_
    refine xX_jmp (w := xw_45) (i := 7) (a := 9) (st' := [.int 1]) eT_45 rfl rfl ?_
    obtain rfl := Option.some.inj h
    exact xX_ret (w := xw_45) (i := 9) eT_45 rfl (e_ret2 (by decide))
def B_X4_catchOf_11_57 (p2 : Int32) (p6 : Int32) (p8 : Int32) (v9 : Int32) (v10 : Int32) (v11 : Int32) (σ : xM) : Option ((Int32 × Int32 × Int32) ⊕ ((Int32))) :=
  if (σ 8 0) ≤ v11 then
    some (.inr v9)
  else
    xgd (xin v11 5) (
    xgd (xin (p6 + (σ 9 v11.toNatClampNeg)) 64) (
    if (σ 7 (p6 + (σ 9 v11.toNatClampNeg)).toNatClampNeg) = (-1) then
      some (.inl (v9, v10, (v11 + 1)))
    else
      xbd (F_X4_contains p2 v11 σ) fun r10 =>
      if r10 = 0 then
        some (.inl (v9, v10, (v11 + 1)))
      else
        xgd (xin v11 5) (
        if v9 = (-1) then
          some (.inl (v11, ((σ 7 (p6 + (σ 9 v11.toNatClampNeg)).toNatClampNeg) + (p8 * (σ 11 v11.toNatClampNeg))), (v11 + 1)))
        else
          if ((σ 7 (p6 + (σ 9 v11.toNatClampNeg)).toNatClampNeg) + (p8 * (σ 11 v11.toNatClampNeg))) < v10 then
            some (.inl (v11, ((σ 7 (p6 + (σ 9 v11.toNatClampNeg)).toNatClampNeg) + (p8 * (σ 11 v11.toNatClampNeg))), (v11 + 1)))
          else
            if ((σ 7 (p6 + (σ 9 v11.toNatClampNeg)).toNatClampNeg) + (p8 * (σ 11 v11.toNatClampNeg))) = v10 then
              xgd (xin v11 5) (
              xgd (xin v9 5) (
              if (σ 11 v9.toNatClampNeg) ≤ (σ 11 v11.toNatClampNeg) then
                some (.inl (v9, v10, (v11 + 1)))
              else
                some (.inl (v11, ((σ 7 (p6 + (σ 9 v11.toNatClampNeg)).toNatClampNeg) + (p8 * (σ 11 v11.toNatClampNeg))), (v11 + 1)))))
            else
              some (.inl (v9, v10, (v11 + 1))))))
def L_X4_catchOf_11_57 (p2 : Int32) (p6 : Int32) (p8 : Int32) (v9 : Int32) (v10 : Int32) (v11 : Int32) (σ : xM) : Option ((Int32)) := xloop (fun s : Int32 × Int32 × Int32 => B_X4_catchOf_11_57 p2 p6 p8 s.1 s.2.1 s.2.2 σ) 6000 (v9, v10, v11)
set_option maxHeartbeats 1000000 in
set_option maxRecDepth 20000 in
theorem TB_X4_catchOf_11_57 {d : Nat} {o : Option Value × xM} (p2 : Int32) (p6 : Int32) (p8 : Int32) (v9 : Int32) (v10 : Int32) (v11 : Int32) (σ : xM) {q : (Int32 × Int32 × Int32) ⊕ ((Int32))} (hd : 1 ≤ d) (h : B_X4_catchOf_11_57 p2 p6 p8 v9 v10 v11 σ = some q) (hB : ∀ s', q = .inl s' → ∀ (z0 z1 z7 z12 : Value), xX xT xLn d 40 57 [z0, z1, .int p2, .ref 11, .ref 8, .ref 7, .int p6, z7, .int p8, .int s'.1, .int s'.2.1, .int s'.2.2, z12] [] σ o) (hE : ∀ e', q = .inr e' → ∀ (z0 z1 z2 z3 z4 z5 z6 z7 z8 z10 z11 z12 : Value), xX xT xLn d 40 109 [z0, z1, z2, z3, z4, z5, z6, z7, z8, .int e', z10, z11, z12] [] σ o) (z0 : Value) (z1 : Value) (z7 : Value) (z12 : Value) : xX xT xLn d 40 57 [z0, z1, .int p2, .ref 11, .ref 8, .ref 7, .int p6, z7, .int p8, .int v9, .int v10, .int v11, z12] [] σ o := by
  unfold B_X4_catchOf_11_57 at h
  refine xX_blk (w := xw_40) eT_40 4 57 (ls' := [.null, .null, .int p2, .ref 11, .ref 8, .ref 7, .int p6, .null, .int p8, .int v9, .int v10, .int v11, .null]) (st' := [.int (σ 8 0), .int v11]) (σ' := σ) rfl ?_
  refine xX_ite (c := (σ 8 0) ≤ v11) (w := xw_40) (i := 61) (a := 109) (b := 62) (st' := []) eT_40 rfl rfl (fun hc6 => ?_) (fun hc6 => ?_)
  · rw [if_pos hc6] at h
    obtain rfl := Option.some.inj h
    exact hE v9 rfl _ _ _ _ _ _ _ _ _ _ _ _
  · rw [if_neg hc6] at h
    refine xX_blk (w := xw_40) eT_40 5 62 (ls' := [.null, .null, .int p2, .ref 11, .ref 8, .ref 7, .int p6, .null, .int p8, .int v9, .int v10, .int v11, .null]) (st' := [.int v11, .ref 9, .int p6, .ref 7]) (σ' := σ) rfl ?_
    obtain ⟨hi7, h⟩ := xgd_inv h
    refine xX_one (w := xw_40) (i := 67) (ls' := [.null, .null, .int p2, .ref 11, .ref 8, .ref 7, .int p6, .null, .int p8, .int v9, .int v10, .int v11, .null]) (st' := [.int (σ 9 v11.toNatClampNeg), .int p6, .ref 7]) (σ' := σ) eT_40 rfl (e_iald xs_9 hi7) ?_
    refine xX_blk (w := xw_40) eT_40 1 68 (ls' := [.null, .null, .int p2, .ref 11, .ref 8, .ref 7, .int p6, .null, .int p8, .int v9, .int v10, .int v11, .null]) (st' := [.int (p6 + (σ 9 v11.toNatClampNeg)), .ref 7]) (σ' := σ) rfl ?_
    obtain ⟨hi8, h⟩ := xgd_inv h
    refine xX_one (w := xw_40) (i := 69) (ls' := [.null, .null, .int p2, .ref 11, .ref 8, .ref 7, .int p6, .null, .int p8, .int v9, .int v10, .int v11, .null]) (st' := [.int (σ 7 (p6 + (σ 9 v11.toNatClampNeg)).toNatClampNeg)]) (σ' := σ) eT_40 rfl (e_iald xs_7 hi8) ?_
    refine xX_blk (w := xw_40) eT_40 3 70 (ls' := [.null, .null, .int p2, .ref 11, .ref 8, .ref 7, .int p6, .null, .int p8, .int v9, .int v10, .int v11, .int (σ 7 (p6 + (σ 9 v11.toNatClampNeg)).toNatClampNeg)]) (st' := [.int (-1), .int (σ 7 (p6 + (σ 9 v11.toNatClampNeg)).toNatClampNeg)]) (σ' := σ) rfl ?_
    refine xX_ite (c := (σ 7 (p6 + (σ 9 v11.toNatClampNeg)).toNatClampNeg) = (-1)) (w := xw_40) (i := 73) (a := 107) (b := 74) (st' := []) eT_40 rfl rfl (fun hc9 => ?_) (fun hc9 => ?_)
    · rw [if_pos hc9] at h
      refine xX_blk (w := xw_40) eT_40 1 107 (ls' := [.null, .null, .int p2, .ref 11, .ref 8, .ref 7, .int p6, .null, .int p8, .int v9, .int v10, .int (v11 + 1), .int (σ 7 (p6 + (σ 9 v11.toNatClampNeg)).toNatClampNeg)]) (st' := []) (σ' := σ) rfl ?_
      refine xX_jmp (w := xw_40) (i := 108) (a := 57) (st' := []) eT_40 rfl rfl ?_
      obtain rfl := Option.some.inj h
      exact hB (v9, v10, (v11 + 1)) rfl _ _ _ _
    · rw [if_neg hc9] at h
      refine xX_blk (w := xw_40) eT_40 2 74 (ls' := [.null, .null, .int p2, .ref 11, .ref 8, .ref 7, .int p6, .null, .int p8, .int v9, .int v10, .int v11, .int (σ 7 (p6 + (σ 9 v11.toNatClampNeg)).toNatClampNeg)]) (st' := [.int v11, .int p2]) (σ' := σ) rfl ?_
      obtain ⟨r10, hr10, h⟩ := xbd_inv h
      refine xX_c1 (w := xw_40) (i := 76) (ls := [.null, .null, .int p2, .ref 11, .ref 8, .ref 7, .int p6, .null, .int p8, .int v9, .int v10, .int v11, .int (σ 7 (p6 + (σ 9 v11.toNatClampNeg)).toNatClampNeg)]) (rest := []) eT_40 rfl (by omega) rfl rfl rfl (T_X4_contains p2 v11 σ (by omega) hr10) ?_
      refine xX_ite (c := r10 = 0) (w := xw_40) (i := 77) (a := 78) (b := 79) (st' := []) eT_40 rfl rfl (fun hc11 => ?_) (fun hc11 => ?_)
      · rw [if_pos hc11] at h
        refine xX_jmp (w := xw_40) (i := 78) (a := 107) (st' := []) eT_40 rfl rfl ?_
        refine xX_blk (w := xw_40) eT_40 1 107 (ls' := [.null, .null, .int p2, .ref 11, .ref 8, .ref 7, .int p6, .null, .int p8, .int v9, .int v10, .int (v11 + 1), .int (σ 7 (p6 + (σ 9 v11.toNatClampNeg)).toNatClampNeg)]) (st' := []) (σ' := σ) rfl ?_
        refine xX_jmp (w := xw_40) (i := 108) (a := 57) (st' := []) eT_40 rfl rfl ?_
        obtain rfl := Option.some.inj h
        exact hB (v9, v10, (v11 + 1)) rfl _ _ _ _
      · rw [if_neg hc11] at h
        refine xX_blk (w := xw_40) eT_40 4 79 (ls' := [.null, .null, .int p2, .ref 11, .ref 8, .ref 7, .int p6, .null, .int p8, .int v9, .int v10, .int v11, .int (σ 7 (p6 + (σ 9 v11.toNatClampNeg)).toNatClampNeg)]) (st' := [.int v11, .ref 11, .int p8, .int (σ 7 (p6 + (σ 9 v11.toNatClampNeg)).toNatClampNeg)]) (σ' := σ) rfl ?_
        obtain ⟨hi12, h⟩ := xgd_inv h
        refine xX_one (w := xw_40) (i := 83) (ls' := [.null, .null, .int p2, .ref 11, .ref 8, .ref 7, .int p6, .null, .int p8, .int v9, .int v10, .int v11, .int (σ 7 (p6 + (σ 9 v11.toNatClampNeg)).toNatClampNeg)]) (st' := [.int (σ 11 v11.toNatClampNeg), .int p8, .int (σ 7 (p6 + (σ 9 v11.toNatClampNeg)).toNatClampNeg)]) (σ' := σ) eT_40 rfl (e_iald xs_11 hi12) ?_
        refine xX_blk (w := xw_40) eT_40 5 84 (ls' := [.null, .null, .int p2, .ref 11, .ref 8, .ref 7, .int p6, .null, .int p8, .int v9, .int v10, .int v11, .int ((σ 7 (p6 + (σ 9 v11.toNatClampNeg)).toNatClampNeg) + (p8 * (σ 11 v11.toNatClampNeg)))]) (st' := [.int (-1), .int v9]) (σ' := σ) rfl ?_
        refine xX_ite (c := v9 = (-1)) (w := xw_40) (i := 89) (a := 103) (b := 90) (st' := []) eT_40 rfl rfl (fun hc13 => ?_) (fun hc13 => ?_)
        · rw [if_pos hc13] at h
          refine xX_blk (w := xw_40) eT_40 5 103 (ls' := [.null, .null, .int p2, .ref 11, .ref 8, .ref 7, .int p6, .null, .int p8, .int v11, .int ((σ 7 (p6 + (σ 9 v11.toNatClampNeg)).toNatClampNeg) + (p8 * (σ 11 v11.toNatClampNeg))), .int (v11 + 1), .int ((σ 7 (p6 + (σ 9 v11.toNatClampNeg)).toNatClampNeg) + (p8 * (σ 11 v11.toNatClampNeg)))]) (st' := []) (σ' := σ) rfl ?_
          refine xX_jmp (w := xw_40) (i := 108) (a := 57) (st' := []) eT_40 rfl rfl ?_
          obtain rfl := Option.some.inj h
          exact hB (v11, ((σ 7 (p6 + (σ 9 v11.toNatClampNeg)).toNatClampNeg) + (p8 * (σ 11 v11.toNatClampNeg))), (v11 + 1)) rfl _ _ _ _
        · rw [if_neg hc13] at h
          refine xX_blk (w := xw_40) eT_40 2 90 (ls' := [.null, .null, .int p2, .ref 11, .ref 8, .ref 7, .int p6, .null, .int p8, .int v9, .int v10, .int v11, .int ((σ 7 (p6 + (σ 9 v11.toNatClampNeg)).toNatClampNeg) + (p8 * (σ 11 v11.toNatClampNeg)))]) (st' := [.int v10, .int ((σ 7 (p6 + (σ 9 v11.toNatClampNeg)).toNatClampNeg) + (p8 * (σ 11 v11.toNatClampNeg)))]) (σ' := σ) rfl ?_
          refine xX_ite (c := ((σ 7 (p6 + (σ 9 v11.toNatClampNeg)).toNatClampNeg) + (p8 * (σ 11 v11.toNatClampNeg))) < v10) (w := xw_40) (i := 92) (a := 103) (b := 93) (st' := []) eT_40 rfl rfl (fun hc14 => ?_) (fun hc14 => ?_)
          · rw [if_pos hc14] at h
            refine xX_blk (w := xw_40) eT_40 5 103 (ls' := [.null, .null, .int p2, .ref 11, .ref 8, .ref 7, .int p6, .null, .int p8, .int v11, .int ((σ 7 (p6 + (σ 9 v11.toNatClampNeg)).toNatClampNeg) + (p8 * (σ 11 v11.toNatClampNeg))), .int (v11 + 1), .int ((σ 7 (p6 + (σ 9 v11.toNatClampNeg)).toNatClampNeg) + (p8 * (σ 11 v11.toNatClampNeg)))]) (st' := []) (σ' := σ) rfl ?_
            refine xX_jmp (w := xw_40) (i := 108) (a := 57) (st' := []) eT_40 rfl rfl ?_
            obtain rfl := Option.some.inj h
            exact hB (v11, ((σ 7 (p6 + (σ 9 v11.toNatClampNeg)).toNatClampNeg) + (p8 * (σ 11 v11.toNatClampNeg))), (v11 + 1)) rfl _ _ _ _
          · rw [if_neg hc14] at h
            refine xX_blk (w := xw_40) eT_40 2 93 (ls' := [.null, .null, .int p2, .ref 11, .ref 8, .ref 7, .int p6, .null, .int p8, .int v9, .int v10, .int v11, .int ((σ 7 (p6 + (σ 9 v11.toNatClampNeg)).toNatClampNeg) + (p8 * (σ 11 v11.toNatClampNeg)))]) (st' := [.int v10, .int ((σ 7 (p6 + (σ 9 v11.toNatClampNeg)).toNatClampNeg) + (p8 * (σ 11 v11.toNatClampNeg)))]) (σ' := σ) rfl ?_
            refine xX_ite (c := ((σ 7 (p6 + (σ 9 v11.toNatClampNeg)).toNatClampNeg) + (p8 * (σ 11 v11.toNatClampNeg))) = v10) (w := xw_40) (i := 95) (a := 96) (b := 107) (st' := []) eT_40 rfl rfl (fun hc15 => ?_) (fun hc15 => ?_)
            · rw [if_pos hc15] at h
              refine xX_blk (w := xw_40) eT_40 2 96 (ls' := [.null, .null, .int p2, .ref 11, .ref 8, .ref 7, .int p6, .null, .int p8, .int v9, .int v10, .int v11, .int ((σ 7 (p6 + (σ 9 v11.toNatClampNeg)).toNatClampNeg) + (p8 * (σ 11 v11.toNatClampNeg)))]) (st' := [.int v11, .ref 11]) (σ' := σ) rfl ?_
              obtain ⟨hi16, h⟩ := xgd_inv h
              refine xX_one (w := xw_40) (i := 98) (ls' := [.null, .null, .int p2, .ref 11, .ref 8, .ref 7, .int p6, .null, .int p8, .int v9, .int v10, .int v11, .int ((σ 7 (p6 + (σ 9 v11.toNatClampNeg)).toNatClampNeg) + (p8 * (σ 11 v11.toNatClampNeg)))]) (st' := [.int (σ 11 v11.toNatClampNeg)]) (σ' := σ) eT_40 rfl (e_iald xs_11 hi16) ?_
              refine xX_blk (w := xw_40) eT_40 2 99 (ls' := [.null, .null, .int p2, .ref 11, .ref 8, .ref 7, .int p6, .null, .int p8, .int v9, .int v10, .int v11, .int ((σ 7 (p6 + (σ 9 v11.toNatClampNeg)).toNatClampNeg) + (p8 * (σ 11 v11.toNatClampNeg)))]) (st' := [.int v9, .ref 11, .int (σ 11 v11.toNatClampNeg)]) (σ' := σ) rfl ?_
              obtain ⟨hi17, h⟩ := xgd_inv h
              refine xX_one (w := xw_40) (i := 101) (ls' := [.null, .null, .int p2, .ref 11, .ref 8, .ref 7, .int p6, .null, .int p8, .int v9, .int v10, .int v11, .int ((σ 7 (p6 + (σ 9 v11.toNatClampNeg)).toNatClampNeg) + (p8 * (σ 11 v11.toNatClampNeg)))]) (st' := [.int (σ 11 v9.toNatClampNeg), .int (σ 11 v11.toNatClampNeg)]) (σ' := σ) eT_40 rfl (e_iald xs_11 hi17) ?_
              refine xX_ite (c := (σ 11 v9.toNatClampNeg) ≤ (σ 11 v11.toNatClampNeg)) (w := xw_40) (i := 102) (a := 107) (b := 103) (st' := []) eT_40 rfl rfl (fun hc18 => ?_) (fun hc18 => ?_)
              · rw [if_pos hc18] at h
                refine xX_blk (w := xw_40) eT_40 1 107 (ls' := [.null, .null, .int p2, .ref 11, .ref 8, .ref 7, .int p6, .null, .int p8, .int v9, .int v10, .int (v11 + 1), .int ((σ 7 (p6 + (σ 9 v11.toNatClampNeg)).toNatClampNeg) + (p8 * (σ 11 v11.toNatClampNeg)))]) (st' := []) (σ' := σ) rfl ?_
                refine xX_jmp (w := xw_40) (i := 108) (a := 57) (st' := []) eT_40 rfl rfl ?_
                obtain rfl := Option.some.inj h
                exact hB (v9, v10, (v11 + 1)) rfl _ _ _ _
              · rw [if_neg hc18] at h
                refine xX_blk (w := xw_40) eT_40 5 103 (ls' := [.null, .null, .int p2, .ref 11, .ref 8, .ref 7, .int p6, .null, .int p8, .int v11, .int ((σ 7 (p6 + (σ 9 v11.toNatClampNeg)).toNatClampNeg) + (p8 * (σ 11 v11.toNatClampNeg))), .int (v11 + 1), .int ((σ 7 (p6 + (σ 9 v11.toNatClampNeg)).toNatClampNeg) + (p8 * (σ 11 v11.toNatClampNeg)))]) (st' := []) (σ' := σ) rfl ?_
                refine xX_jmp (w := xw_40) (i := 108) (a := 57) (st' := []) eT_40 rfl rfl ?_
                obtain rfl := Option.some.inj h
                exact hB (v11, ((σ 7 (p6 + (σ 9 v11.toNatClampNeg)).toNatClampNeg) + (p8 * (σ 11 v11.toNatClampNeg))), (v11 + 1)) rfl _ _ _ _
            · rw [if_neg hc15] at h
              refine xX_blk (w := xw_40) eT_40 1 107 (ls' := [.null, .null, .int p2, .ref 11, .ref 8, .ref 7, .int p6, .null, .int p8, .int v9, .int v10, .int (v11 + 1), .int ((σ 7 (p6 + (σ 9 v11.toNatClampNeg)).toNatClampNeg) + (p8 * (σ 11 v11.toNatClampNeg)))]) (st' := []) (σ' := σ) rfl ?_
              refine xX_jmp (w := xw_40) (i := 108) (a := 57) (st' := []) eT_40 rfl rfl ?_
              obtain rfl := Option.some.inj h
              exact hB (v9, v10, (v11 + 1)) rfl _ _ _ _
set_option maxHeartbeats 1000000 in
set_option maxRecDepth 20000 in
theorem TL_X4_catchOf_11_57 {d : Nat} {o : Option Value × xM} (p2 : Int32) (p6 : Int32) (p8 : Int32) (v9 : Int32) (v10 : Int32) (v11 : Int32) (σ : xM) {e : (Int32)} (hd : 1 ≤ d) (h : L_X4_catchOf_11_57 p2 p6 p8 v9 v10 v11 σ = some e) (hE : ∀ (z0 z1 z2 z3 z4 z5 z6 z7 z8 z10 z11 z12 : Value), xX xT xLn d 40 109 [z0, z1, z2, z3, z4, z5, z6, z7, z8, .int e, z10, z11, z12] [] σ o) (z0 : Value) (z1 : Value) (z7 : Value) (z12 : Value) : xX xT xLn d 40 57 [z0, z1, .int p2, .ref 11, .ref 8, .ref 7, .int p6, z7, .int p8, .int v9, .int v10, .int v11, z12] [] σ o :=
  xloop_snd (X := fun s => ∀ (z0 z1 z7 z12 : Value), xX xT xLn d 40 57 [z0, z1, .int p2, .ref 11, .ref 8, .ref 7, .int p6, z7, .int p8, .int s.1, .int s.2.1, .int s.2.2, z12] [] σ o) (Y := fun e' => ∀ (z0 z1 z2 z3 z4 z5 z6 z7 z8 z10 z11 z12 : Value), xX xT xLn d 40 109 [z0, z1, z2, z3, z4, z5, z6, z7, z8, .int e', z10, z11, z12] [] σ o) (fun s q hs hB hE z0 z1 z7 z12 => TB_X4_catchOf_11_57 p2 p6 p8 s.1 s.2.1 s.2.2 σ hd hs hB hE z0 z1 z7 z12) _ _ _ h hE z0 z1 z7 z12
def F_X4_catchOf_11 (a : Int32) (b : Int32) (σ : xM) : Option (Int32) :=
  xgd (xin a 8) (
  xgd (xin a 8) (
  if (σ 4 a.toNatClampNeg) = 2 then
    if (σ 5 a.toNatClampNeg) = (-1) then
      xbd (F_X4_stepLengthFrom a σ) fun r5 =>
      xbd (L_X4_catchOf_11_57 b (a * 8) r5 (-1) 0 0 σ) fun e19 =>
      some e19
    else
      xbd (F_X4_contains b (σ 5 a.toNatClampNeg) σ) fun r20 =>
      if r20 = 0 then
        xbd (F_X4_stepLengthFrom a σ) fun r22 =>
        xbd (L_X4_catchOf_11_57 b (a * 8) r22 (-1) 0 0 σ) fun e23 =>
        some e23
      else
        xgd (xin (σ 5 a.toNatClampNeg) 5) (
        xgd (xin ((a * 8) + (σ 9 (σ 5 a.toNatClampNeg).toNatClampNeg)) 64) (
        if (σ 7 ((a * 8) + (σ 9 (σ 5 a.toNatClampNeg).toNatClampNeg)).toNatClampNeg) = (-1) then
          xbd (F_X4_stepLengthFrom a σ) fun r27 =>
          xbd (L_X4_catchOf_11_57 b (a * 8) r27 (-1) 0 0 σ) fun e28 =>
          some e28
        else
          some (σ 5 a.toNatClampNeg)))
  else
    xbd (F_X4_stepLengthFrom a σ) fun r29 =>
    xbd (L_X4_catchOf_11_57 b (a * 8) r29 (-1) 0 0 σ) fun e30 =>
    some e30))
set_option maxHeartbeats 1000000 in
set_option maxRecDepth 20000 in
theorem T_X4_catchOf_11 (a : Int32) (b : Int32) (σ : xM) {d : Nat} {q : Int32} (hd : 1 ≤ d) (h : F_X4_catchOf_11 a b σ = some q) : xR xT xLn d 40 [.ref 129, .int a, .int b, .ref 11] σ (some (.int q), σ) := by
  unfold F_X4_catchOf_11 at h
  show xX xT xLn d 40 0 [.ref 129, .int a, .int b, .ref 11, .null, .null, .null, .null, .null, .null, .null, .null, .null] [] σ _
  refine xX_blk (w := xw_40) eT_40 18 0 (ls' := [.ref 129, .int a, .int b, .ref 11, .ref 8, .ref 7, .int (a * 8), .null, .null, .null, .null, .null, .null]) (st' := [.int a, .ref 5]) (σ' := σ) rfl ?_
  obtain ⟨hi1, h⟩ := xgd_inv h
  refine xX_one (w := xw_40) (i := 18) (ls' := [.ref 129, .int a, .int b, .ref 11, .ref 8, .ref 7, .int (a * 8), .null, .null, .null, .null, .null, .null]) (st' := [.int (σ 5 a.toNatClampNeg)]) (σ' := σ) eT_40 rfl (e_iald xs_5 hi1) ?_
  refine xX_blk (w := xw_40) eT_40 6 19 (ls' := [.ref 129, .int a, .int b, .ref 11, .ref 8, .ref 7, .int (a * 8), .int (σ 5 a.toNatClampNeg), .null, .null, .null, .null, .null]) (st' := [.int a, .ref 4]) (σ' := σ) rfl ?_
  obtain ⟨hi2, h⟩ := xgd_inv h
  refine xX_one (w := xw_40) (i := 25) (ls' := [.ref 129, .int a, .int b, .ref 11, .ref 8, .ref 7, .int (a * 8), .int (σ 5 a.toNatClampNeg), .null, .null, .null, .null, .null]) (st' := [.int (σ 4 a.toNatClampNeg)]) (σ' := σ) eT_40 rfl (e_iald xs_4 hi2) ?_
  refine xX_blk (w := xw_40) eT_40 1 26 (ls' := [.ref 129, .int a, .int b, .ref 11, .ref 8, .ref 7, .int (a * 8), .int (σ 5 a.toNatClampNeg), .null, .null, .null, .null, .null]) (st' := [.int 2, .int (σ 4 a.toNatClampNeg)]) (σ' := σ) rfl ?_
  refine xX_ite (c := (σ 4 a.toNatClampNeg) = 2) (w := xw_40) (i := 27) (a := 28) (b := 47) (st' := []) eT_40 rfl rfl (fun hc3 => ?_) (fun hc3 => ?_)
  · rw [if_pos hc3] at h
    refine xX_blk (w := xw_40) eT_40 2 28 (ls' := [.ref 129, .int a, .int b, .ref 11, .ref 8, .ref 7, .int (a * 8), .int (σ 5 a.toNatClampNeg), .null, .null, .null, .null, .null]) (st' := [.int (-1), .int (σ 5 a.toNatClampNeg)]) (σ' := σ) rfl ?_
    refine xX_ite (c := (σ 5 a.toNatClampNeg) = (-1)) (w := xw_40) (i := 30) (a := 47) (b := 31) (st' := []) eT_40 rfl rfl (fun hc4 => ?_) (fun hc4 => ?_)
    · rw [if_pos hc4] at h
      refine xX_blk (w := xw_40) eT_40 2 47 (ls' := [.ref 129, .int a, .int b, .ref 11, .ref 8, .ref 7, .int (a * 8), .int (σ 5 a.toNatClampNeg), .null, .null, .null, .null, .null]) (st' := [.int a, .ref 129]) (σ' := σ) rfl ?_
      obtain ⟨r5, hr5, h⟩ := xbd_inv h
      refine xX_c1 (w := xw_40) (i := 49) (ls := [.ref 129, .int a, .int b, .ref 11, .ref 8, .ref 7, .int (a * 8), .int (σ 5 a.toNatClampNeg), .null, .null, .null, .null, .null]) (rest := []) eT_40 rfl (by omega) rfl rfl rfl (T_X4_stepLengthFrom a σ (by omega) hr5) ?_
      refine xX_blk (w := xw_40) eT_40 7 50 (ls' := [.ref 129, .int a, .int b, .ref 11, .ref 8, .ref 7, .int (a * 8), .int (σ 5 a.toNatClampNeg), .int r5, .int (-1), .int 0, .int 0, .null]) (st' := []) (σ' := σ) rfl ?_
      obtain ⟨e19, he19, h⟩ := xbd_inv h
      refine TL_X4_catchOf_11_57 b (a * 8) r5 (-1) 0 0 σ (by omega) he19 (fun z0 z1 z2 z3 z4 z5 z6 z7 z8 z10 z11 z12 => ?_) _ _ _ _
      refine xX_blk (w := xw_40) eT_40 2 109 (ls' := [.null, .null, .null, .null, .null, .null, .null, .null, .null, .int e19, .null, .null, .null]) (st' := [.int e19]) (σ' := σ) rfl ?_
      obtain rfl := Option.some.inj h
      exact xX_ret (w := xw_40) (i := 111) eT_40 rfl rfl
    · rw [if_neg hc4] at h
      refine xX_blk (w := xw_40) eT_40 2 31 (ls' := [.ref 129, .int a, .int b, .ref 11, .ref 8, .ref 7, .int (a * 8), .int (σ 5 a.toNatClampNeg), .null, .null, .null, .null, .null]) (st' := [.int (σ 5 a.toNatClampNeg), .int b]) (σ' := σ) rfl ?_
      obtain ⟨r20, hr20, h⟩ := xbd_inv h
      refine xX_c1 (w := xw_40) (i := 33) (ls := [.ref 129, .int a, .int b, .ref 11, .ref 8, .ref 7, .int (a * 8), .int (σ 5 a.toNatClampNeg), .null, .null, .null, .null, .null]) (rest := []) eT_40 rfl (by omega) rfl rfl rfl (T_X4_contains b (σ 5 a.toNatClampNeg) σ (by omega) hr20) ?_
      refine xX_ite (c := r20 = 0) (w := xw_40) (i := 34) (a := 47) (b := 35) (st' := []) eT_40 rfl rfl (fun hc21 => ?_) (fun hc21 => ?_)
      · rw [if_pos hc21] at h
        refine xX_blk (w := xw_40) eT_40 2 47 (ls' := [.ref 129, .int a, .int b, .ref 11, .ref 8, .ref 7, .int (a * 8), .int (σ 5 a.toNatClampNeg), .null, .null, .null, .null, .null]) (st' := [.int a, .ref 129]) (σ' := σ) rfl ?_
        obtain ⟨r22, hr22, h⟩ := xbd_inv h
        refine xX_c1 (w := xw_40) (i := 49) (ls := [.ref 129, .int a, .int b, .ref 11, .ref 8, .ref 7, .int (a * 8), .int (σ 5 a.toNatClampNeg), .null, .null, .null, .null, .null]) (rest := []) eT_40 rfl (by omega) rfl rfl rfl (T_X4_stepLengthFrom a σ (by omega) hr22) ?_
        refine xX_blk (w := xw_40) eT_40 7 50 (ls' := [.ref 129, .int a, .int b, .ref 11, .ref 8, .ref 7, .int (a * 8), .int (σ 5 a.toNatClampNeg), .int r22, .int (-1), .int 0, .int 0, .null]) (st' := []) (σ' := σ) rfl ?_
        obtain ⟨e23, he23, h⟩ := xbd_inv h
        refine TL_X4_catchOf_11_57 b (a * 8) r22 (-1) 0 0 σ (by omega) he23 (fun z0 z1 z2 z3 z4 z5 z6 z7 z8 z10 z11 z12 => ?_) _ _ _ _
        refine xX_blk (w := xw_40) eT_40 2 109 (ls' := [.null, .null, .null, .null, .null, .null, .null, .null, .null, .int e23, .null, .null, .null]) (st' := [.int e23]) (σ' := σ) rfl ?_
        obtain rfl := Option.some.inj h
        exact xX_ret (w := xw_40) (i := 111) eT_40 rfl rfl
      · rw [if_neg hc21] at h
        refine xX_blk (w := xw_40) eT_40 5 35 (ls' := [.ref 129, .int a, .int b, .ref 11, .ref 8, .ref 7, .int (a * 8), .int (σ 5 a.toNatClampNeg), .null, .null, .null, .null, .null]) (st' := [.int (σ 5 a.toNatClampNeg), .ref 9, .int (a * 8), .ref 7]) (σ' := σ) rfl ?_
        obtain ⟨hi24, h⟩ := xgd_inv h
        refine xX_one (w := xw_40) (i := 40) (ls' := [.ref 129, .int a, .int b, .ref 11, .ref 8, .ref 7, .int (a * 8), .int (σ 5 a.toNatClampNeg), .null, .null, .null, .null, .null]) (st' := [.int (σ 9 (σ 5 a.toNatClampNeg).toNatClampNeg), .int (a * 8), .ref 7]) (σ' := σ) eT_40 rfl (e_iald xs_9 hi24) ?_
        refine xX_blk (w := xw_40) eT_40 1 41 (ls' := [.ref 129, .int a, .int b, .ref 11, .ref 8, .ref 7, .int (a * 8), .int (σ 5 a.toNatClampNeg), .null, .null, .null, .null, .null]) (st' := [.int ((a * 8) + (σ 9 (σ 5 a.toNatClampNeg).toNatClampNeg)), .ref 7]) (σ' := σ) rfl ?_
        obtain ⟨hi25, h⟩ := xgd_inv h
        refine xX_one (w := xw_40) (i := 42) (ls' := [.ref 129, .int a, .int b, .ref 11, .ref 8, .ref 7, .int (a * 8), .int (σ 5 a.toNatClampNeg), .null, .null, .null, .null, .null]) (st' := [.int (σ 7 ((a * 8) + (σ 9 (σ 5 a.toNatClampNeg).toNatClampNeg)).toNatClampNeg)]) (σ' := σ) eT_40 rfl (e_iald xs_7 hi25) ?_
        refine xX_blk (w := xw_40) eT_40 1 43 (ls' := [.ref 129, .int a, .int b, .ref 11, .ref 8, .ref 7, .int (a * 8), .int (σ 5 a.toNatClampNeg), .null, .null, .null, .null, .null]) (st' := [.int (-1), .int (σ 7 ((a * 8) + (σ 9 (σ 5 a.toNatClampNeg).toNatClampNeg)).toNatClampNeg)]) (σ' := σ) rfl ?_
        refine xX_ite (c := (σ 7 ((a * 8) + (σ 9 (σ 5 a.toNatClampNeg).toNatClampNeg)).toNatClampNeg) = (-1)) (w := xw_40) (i := 44) (a := 47) (b := 45) (st' := []) eT_40 rfl rfl (fun hc26 => ?_) (fun hc26 => ?_)
        · rw [if_pos hc26] at h
          refine xX_blk (w := xw_40) eT_40 2 47 (ls' := [.ref 129, .int a, .int b, .ref 11, .ref 8, .ref 7, .int (a * 8), .int (σ 5 a.toNatClampNeg), .null, .null, .null, .null, .null]) (st' := [.int a, .ref 129]) (σ' := σ) rfl ?_
          obtain ⟨r27, hr27, h⟩ := xbd_inv h
          refine xX_c1 (w := xw_40) (i := 49) (ls := [.ref 129, .int a, .int b, .ref 11, .ref 8, .ref 7, .int (a * 8), .int (σ 5 a.toNatClampNeg), .null, .null, .null, .null, .null]) (rest := []) eT_40 rfl (by omega) rfl rfl rfl (T_X4_stepLengthFrom a σ (by omega) hr27) ?_
          refine xX_blk (w := xw_40) eT_40 7 50 (ls' := [.ref 129, .int a, .int b, .ref 11, .ref 8, .ref 7, .int (a * 8), .int (σ 5 a.toNatClampNeg), .int r27, .int (-1), .int 0, .int 0, .null]) (st' := []) (σ' := σ) rfl ?_
          obtain ⟨e28, he28, h⟩ := xbd_inv h
          refine TL_X4_catchOf_11_57 b (a * 8) r27 (-1) 0 0 σ (by omega) he28 (fun z0 z1 z2 z3 z4 z5 z6 z7 z8 z10 z11 z12 => ?_) _ _ _ _
          refine xX_blk (w := xw_40) eT_40 2 109 (ls' := [.null, .null, .null, .null, .null, .null, .null, .null, .null, .int e28, .null, .null, .null]) (st' := [.int e28]) (σ' := σ) rfl ?_
          obtain rfl := Option.some.inj h
          exact xX_ret (w := xw_40) (i := 111) eT_40 rfl rfl
        · rw [if_neg hc26] at h
          refine xX_blk (w := xw_40) eT_40 1 45 (ls' := [.ref 129, .int a, .int b, .ref 11, .ref 8, .ref 7, .int (a * 8), .int (σ 5 a.toNatClampNeg), .null, .null, .null, .null, .null]) (st' := [.int (σ 5 a.toNatClampNeg)]) (σ' := σ) rfl ?_
          obtain rfl := Option.some.inj h
          exact xX_ret (w := xw_40) (i := 46) eT_40 rfl rfl
  · rw [if_neg hc3] at h
    refine xX_blk (w := xw_40) eT_40 2 47 (ls' := [.ref 129, .int a, .int b, .ref 11, .ref 8, .ref 7, .int (a * 8), .int (σ 5 a.toNatClampNeg), .null, .null, .null, .null, .null]) (st' := [.int a, .ref 129]) (σ' := σ) rfl ?_
    obtain ⟨r29, hr29, h⟩ := xbd_inv h
    refine xX_c1 (w := xw_40) (i := 49) (ls := [.ref 129, .int a, .int b, .ref 11, .ref 8, .ref 7, .int (a * 8), .int (σ 5 a.toNatClampNeg), .null, .null, .null, .null, .null]) (rest := []) eT_40 rfl (by omega) rfl rfl rfl (T_X4_stepLengthFrom a σ (by omega) hr29) ?_
    refine xX_blk (w := xw_40) eT_40 7 50 (ls' := [.ref 129, .int a, .int b, .ref 11, .ref 8, .ref 7, .int (a * 8), .int (σ 5 a.toNatClampNeg), .int r29, .int (-1), .int 0, .int 0, .null]) (st' := []) (σ' := σ) rfl ?_
    obtain ⟨e30, he30, h⟩ := xbd_inv h
    refine TL_X4_catchOf_11_57 b (a * 8) r29 (-1) 0 0 σ (by omega) he30 (fun z0 z1 z2 z3 z4 z5 z6 z7 z8 z10 z11 z12 => ?_) _ _ _ _
    refine xX_blk (w := xw_40) eT_40 2 109 (ls' := [.null, .null, .null, .null, .null, .null, .null, .null, .null, .int e30, .null, .null, .null]) (st' := [.int e30]) (σ' := σ) rfl ?_
    obtain rfl := Option.some.inj h
    exact xX_ret (w := xw_40) (i := 111) eT_40 rfl rfl
def F_X4_presentCatch (a : Int32) (σ : xM) : Option (Int32) :=
  xbd (F_X8_notOff σ) fun r1 =>
  xbd (F_X4_catchOf_11 a r1 σ) fun r2 =>
  some r2
set_option maxHeartbeats 1000000 in
set_option maxRecDepth 20000 in
theorem T_X4_presentCatch (a : Int32) (σ : xM) {d : Nat} {q : Int32} (hd : 2 ≤ d) (h : F_X4_presentCatch a σ = some q) : xR xT xLn d 39 [.ref 129, .int a] σ (some (.int q), σ) := by
  unfold F_X4_presentCatch at h
  show xX xT xLn d 39 0 [.ref 129, .int a] [] σ _
  refine xX_blk (w := xw_39) eT_39 5 0 (ls' := [.ref 129, .int a]) (st' := [.ref 8, .int a, .ref 129]) (σ' := σ) rfl ?_
  obtain ⟨r1, hr1, h⟩ := xbd_inv h
  refine xX_c1 (w := xw_39) (i := 5) (ls := [.ref 129, .int a]) (rest := [.int a, .ref 129]) eT_39 rfl (by omega) rfl rfl rfl (T_X8_notOff σ (by omega) hr1) ?_
  refine xX_blk (w := xw_39) eT_39 4 6 (ls' := [.ref 129, .int a]) (st' := [.ref 11, .int r1, .int a, .ref 129]) (σ' := σ) rfl ?_
  obtain ⟨r2, hr2, h⟩ := xbd_inv h
  refine xX_c1 (w := xw_39) (i := 10) (ls := [.ref 129, .int a]) (rest := []) eT_39 rfl (by omega) rfl rfl rfl (T_X4_catchOf_11 a r1 σ (by omega) hr2) ?_
  obtain rfl := Option.some.inj h
  exact xX_ret (w := xw_39) (i := 11) eT_39 rfl rfl
def F_X0_setMood (a : Int32) (b : Int32) (σ : xM) : Option (Int32 × xM) :=
  xbd (F_X1_has a σ) fun r1 =>
  if r1 = 0 then
    some ((-2), σ)
  else
    xbd (F_X10_within b 0 2 σ) fun r3 =>
    if r3 = 0 then
      some ((-2), σ)
    else
      xgd (xin a 8) (
      if b = 2 then
        if (σ 4 a.toNatClampNeg) = 2 then
          xgd (xin a 8) (
          xlet (xup σ 4 a.toNatClampNeg b) fun σ9 =>
          some ((σ 4 a.toNatClampNeg), σ9))
        else
          xbd (F_X4_presentCatch a σ) fun r10 =>
          xgd (xin a 8) (
          xlet (xup σ 5 a.toNatClampNeg r10) fun σ12 =>
          xgd (xin a 8) (
          xlet (xup σ12 4 a.toNatClampNeg b) fun σ14 =>
          some ((σ 4 a.toNatClampNeg), σ14)))
      else
        xgd (xin a 8) (
        xlet (xup σ 4 a.toNatClampNeg b) fun σ16 =>
        some ((σ 4 a.toNatClampNeg), σ16)))
set_option maxHeartbeats 1000000 in
set_option maxRecDepth 20000 in
theorem T_X0_setMood (a : Int32) (b : Int32) (σ : xM) {d : Nat} {q : Int32 × xM} (hd : 3 ≤ d) (h : F_X0_setMood a b σ = some q) : xR xT xLn d 4 [.ref 136, .int a, .int b] σ (some (.int q.1), q.2) := by
  unfold F_X0_setMood at h
  show xX xT xLn d 4 0 [.ref 136, .int a, .int b, .null] [] σ _
  refine xX_blk (w := xw_4) eT_4 4 0 (ls' := [.ref 136, .int a, .int b, .null]) (st' := [.int a, .ref 2]) (σ' := σ) rfl ?_
  obtain ⟨r1, hr1, h⟩ := xbd_inv h
  refine xX_c1 (w := xw_4) (i := 4) (ls := [.ref 136, .int a, .int b, .null]) (rest := []) eT_4 rfl (by omega) rfl rfl rfl (T_X1_has a σ (by omega) hr1) ?_
  refine xX_ite (c := r1 = 0) (w := xw_4) (i := 5) (a := 11) (b := 6) (st' := []) eT_4 rfl rfl (fun hc2 => ?_) (fun hc2 => ?_)
  · rw [if_pos hc2] at h
    refine xX_blk (w := xw_4) eT_4 1 11 (ls' := [.ref 136, .int a, .int b, .null]) (st' := [.int (-2)]) (σ' := σ) rfl ?_
    obtain rfl := Option.some.inj h
    exact xX_ret (w := xw_4) (i := 12) eT_4 rfl rfl
  · rw [if_neg hc2] at h
    refine xX_blk (w := xw_4) eT_4 3 6 (ls' := [.ref 136, .int a, .int b, .null]) (st' := [.int 2, .int 0, .int b]) (σ' := σ) rfl ?_
    obtain ⟨r3, hr3, h⟩ := xbd_inv h
    refine xX_c1 (w := xw_4) (i := 9) (ls := [.ref 136, .int a, .int b, .null]) (rest := []) eT_4 rfl (by omega) rfl rfl rfl (T_X10_within b 0 2 σ (by omega) hr3) ?_
    refine xX_ite (c := r3 = 0) (w := xw_4) (i := 10) (a := 11) (b := 13) (st' := []) eT_4 rfl rfl (fun hc4 => ?_) (fun hc4 => ?_)
    · rw [if_pos hc4] at h
      refine xX_blk (w := xw_4) eT_4 1 11 (ls' := [.ref 136, .int a, .int b, .null]) (st' := [.int (-2)]) (σ' := σ) rfl ?_
      obtain rfl := Option.some.inj h
      exact xX_ret (w := xw_4) (i := 12) eT_4 rfl rfl
    · rw [if_neg hc4] at h
      refine xX_blk (w := xw_4) eT_4 5 13 (ls' := [.ref 136, .int a, .int b, .null]) (st' := [.int a, .ref 4]) (σ' := σ) rfl ?_
      obtain ⟨hi5, h⟩ := xgd_inv h
      refine xX_one (w := xw_4) (i := 18) (ls' := [.ref 136, .int a, .int b, .null]) (st' := [.int (σ 4 a.toNatClampNeg)]) (σ' := σ) eT_4 rfl (e_iald xs_4 hi5) ?_
      refine xX_blk (w := xw_4) eT_4 3 19 (ls' := [.ref 136, .int a, .int b, .int (σ 4 a.toNatClampNeg)]) (st' := [.int 2, .int b]) (σ' := σ) rfl ?_
      refine xX_ite (c := b = 2) (w := xw_4) (i := 22) (a := 23) (b := 36) (st' := []) eT_4 rfl rfl (fun hc6 => ?_) (fun hc6 => ?_)
      · rw [if_pos hc6] at h
        refine xX_blk (w := xw_4) eT_4 2 23 (ls' := [.ref 136, .int a, .int b, .int (σ 4 a.toNatClampNeg)]) (st' := [.int 2, .int (σ 4 a.toNatClampNeg)]) (σ' := σ) rfl ?_
        refine xX_ite (c := (σ 4 a.toNatClampNeg) = 2) (w := xw_4) (i := 25) (a := 36) (b := 26) (st' := []) eT_4 rfl rfl (fun hc7 => ?_) (fun hc7 => ?_)
        · rw [if_pos hc7] at h
          refine xX_blk (w := xw_4) eT_4 6 36 (ls' := [.ref 136, .int a, .int b, .int (σ 4 a.toNatClampNeg)]) (st' := [.int b, .int a, .ref 4]) (σ' := σ) rfl ?_
          obtain ⟨hi8, h⟩ := xgd_inv h
          refine xX_one (w := xw_4) (i := 42) (ls' := [.ref 136, .int a, .int b, .int (σ 4 a.toNatClampNeg)]) (st' := []) (σ' := xup σ 4 a.toNatClampNeg b) eT_4 rfl (e_iast xs_4 hi8) ?_
          obtain ⟨σ9, eσ9, h⟩ := xlet_inv h
          rw [← eσ9]
          refine xX_blk (w := xw_4) eT_4 1 43 (ls' := [.ref 136, .int a, .int b, .int (σ 4 a.toNatClampNeg)]) (st' := [.int (σ 4 a.toNatClampNeg)]) (σ' := σ9) rfl ?_
          obtain rfl := Option.some.inj h
          exact xX_ret (w := xw_4) (i := 44) eT_4 rfl rfl
        · rw [if_neg hc7] at h
          refine xX_blk (w := xw_4) eT_4 8 26 (ls' := [.ref 136, .int a, .int b, .int (σ 4 a.toNatClampNeg)]) (st' := [.int a, .ref 129, .int a, .ref 5]) (σ' := σ) rfl ?_
          obtain ⟨r10, hr10, h⟩ := xbd_inv h
          refine xX_c1 (w := xw_4) (i := 34) (ls := [.ref 136, .int a, .int b, .int (σ 4 a.toNatClampNeg)]) (rest := [.int a, .ref 5]) eT_4 rfl (by omega) rfl rfl rfl (T_X4_presentCatch a σ (by omega) hr10) ?_
          obtain ⟨hi11, h⟩ := xgd_inv h
          refine xX_one (w := xw_4) (i := 35) (ls' := [.ref 136, .int a, .int b, .int (σ 4 a.toNatClampNeg)]) (st' := []) (σ' := xup σ 5 a.toNatClampNeg r10) eT_4 rfl (e_iast xs_5 hi11) ?_
          obtain ⟨σ12, eσ12, h⟩ := xlet_inv h
          rw [← eσ12]
          refine xX_blk (w := xw_4) eT_4 6 36 (ls' := [.ref 136, .int a, .int b, .int (σ 4 a.toNatClampNeg)]) (st' := [.int b, .int a, .ref 4]) (σ' := σ12) rfl ?_
          obtain ⟨hi13, h⟩ := xgd_inv h
          refine xX_one (w := xw_4) (i := 42) (ls' := [.ref 136, .int a, .int b, .int (σ 4 a.toNatClampNeg)]) (st' := []) (σ' := xup σ12 4 a.toNatClampNeg b) eT_4 rfl (e_iast xs_4 hi13) ?_
          obtain ⟨σ14, eσ14, h⟩ := xlet_inv h
          rw [← eσ14]
          refine xX_blk (w := xw_4) eT_4 1 43 (ls' := [.ref 136, .int a, .int b, .int (σ 4 a.toNatClampNeg)]) (st' := [.int (σ 4 a.toNatClampNeg)]) (σ' := σ14) rfl ?_
          obtain rfl := Option.some.inj h
          exact xX_ret (w := xw_4) (i := 44) eT_4 rfl rfl
      · rw [if_neg hc6] at h
        refine xX_blk (w := xw_4) eT_4 6 36 (ls' := [.ref 136, .int a, .int b, .int (σ 4 a.toNatClampNeg)]) (st' := [.int b, .int a, .ref 4]) (σ' := σ) rfl ?_
        obtain ⟨hi15, h⟩ := xgd_inv h
        refine xX_one (w := xw_4) (i := 42) (ls' := [.ref 136, .int a, .int b, .int (σ 4 a.toNatClampNeg)]) (st' := []) (σ' := xup σ 4 a.toNatClampNeg b) eT_4 rfl (e_iast xs_4 hi15) ?_
        obtain ⟨σ16, eσ16, h⟩ := xlet_inv h
        rw [← eσ16]
        refine xX_blk (w := xw_4) eT_4 1 43 (ls' := [.ref 136, .int a, .int b, .int (σ 4 a.toNatClampNeg)]) (st' := [.int (σ 4 a.toNatClampNeg)]) (σ' := σ16) rfl ?_
        obtain rfl := Option.some.inj h
        exact xX_ret (w := xw_4) (i := 44) eT_4 rfl rfl
def F_X10_mood (a : Int32) (b : Int32) (σ : xM) : Option (Int32 × xM) :=
  xbd (F_X10_mark σ) fun r1 =>
  xbd (F_X0_setMood a b r1) fun r2 =>
  xbd (F_X10_settled r2.1 r2.2) fun r3 =>
  some (r3.1, r3.2)
set_option maxHeartbeats 1000000 in
set_option maxRecDepth 20000 in
theorem T_X10_mood (a : Int32) (b : Int32) (σ : xM) {d : Nat} {q : Int32 × xM} (hd : 4 ≤ d) (h : F_X10_mood a b σ = some q) : xR xT xLn d 81 [.ref 0, .int a, .int b] σ (some (.int q.1), q.2) := by
  unfold F_X10_mood at h
  show xX xT xLn d 81 0 [.ref 0, .int a, .int b] [] σ _
  refine xX_blk (w := xw_81) eT_81 1 0 (ls' := [.ref 0, .int a, .int b]) (st' := [.ref 0]) (σ' := σ) rfl ?_
  obtain ⟨r1, hr1, h⟩ := xbd_inv h
  refine xX_c0 (w := xw_81) (i := 1) (ls := [.ref 0, .int a, .int b]) (rest := []) eT_81 rfl (by omega) rfl rfl rfl (T_X10_mark σ (by omega) hr1) ?_
  refine xX_blk (w := xw_81) eT_81 5 2 (ls' := [.ref 0, .int a, .int b]) (st' := [.int b, .int a, .ref 136, .ref 0]) (σ' := r1) rfl ?_
  obtain ⟨r2, hr2, h⟩ := xbd_inv h
  refine xX_c1 (w := xw_81) (i := 7) (ls := [.ref 0, .int a, .int b]) (rest := [.ref 0]) eT_81 rfl (by omega) rfl rfl rfl (T_X0_setMood a b r1 (by omega) hr2) ?_
  obtain ⟨r3, hr3, h⟩ := xbd_inv h
  refine xX_c1 (w := xw_81) (i := 8) (ls := [.ref 0, .int a, .int b]) (rest := []) eT_81 rfl (by omega) rfl rfl rfl (T_X10_settled r2.1 r2.2 (by omega) hr3) ?_
  obtain rfl := Option.some.inj h
  exact xX_ret (w := xw_81) (i := 9) eT_81 rfl rfl
def F_X8_add (a : Int32) (b : Int32) (σ : xM) : Option (Int32 × xM) :=
  xgd (xin (σ 8 0) 5) (
  xlet (xup σ 9 (σ 8 0).toNatClampNeg a) fun σ2 =>
  xgd (xin (σ 8 0) 5) (
  xlet (xup σ2 10 (σ 8 0).toNatClampNeg b) fun σ4 =>
  xgd (xin (σ 8 0) 5) (
  xlet (xup σ4 11 (σ 8 0).toNatClampNeg 0) fun σ6 =>
  xgd (xin (σ 8 0) 5) (
  xlet (xup σ6 12 (σ 8 0).toNatClampNeg 0) fun σ8 =>
  xlet (xup σ8 8 0 ((σ8 8 0) + 1)) fun σ9 =>
  some ((σ 8 0), σ9)))))
set_option maxHeartbeats 1000000 in
set_option maxRecDepth 20000 in
theorem T_X8_add (a : Int32) (b : Int32) (σ : xM) {d : Nat} {q : Int32 × xM} (hd : 0 ≤ d) (h : F_X8_add a b σ = some q) : xR xT xLn d 69 [.ref 8, .int a, .int b] σ (some (.int q.1), q.2) := by
  unfold F_X8_add at h
  show xX xT xLn d 69 0 [.ref 8, .int a, .int b, .null] [] σ _
  refine xX_blk (w := xw_69) eT_69 7 0 (ls' := [.ref 8, .int a, .int b, .int (σ 8 0)]) (st' := [.int a, .int (σ 8 0), .ref 9]) (σ' := σ) rfl ?_
  obtain ⟨hi1, h⟩ := xgd_inv h
  refine xX_one (w := xw_69) (i := 7) (ls' := [.ref 8, .int a, .int b, .int (σ 8 0)]) (st' := []) (σ' := xup σ 9 (σ 8 0).toNatClampNeg a) eT_69 rfl (e_iast xs_9 hi1) ?_
  obtain ⟨σ2, eσ2, h⟩ := xlet_inv h
  rw [← eσ2]
  refine xX_blk (w := xw_69) eT_69 4 8 (ls' := [.ref 8, .int a, .int b, .int (σ 8 0)]) (st' := [.int b, .int (σ 8 0), .ref 10]) (σ' := σ2) rfl ?_
  obtain ⟨hi3, h⟩ := xgd_inv h
  refine xX_one (w := xw_69) (i := 12) (ls' := [.ref 8, .int a, .int b, .int (σ 8 0)]) (st' := []) (σ' := xup σ2 10 (σ 8 0).toNatClampNeg b) eT_69 rfl (e_iast xs_10 hi3) ?_
  obtain ⟨σ4, eσ4, h⟩ := xlet_inv h
  rw [← eσ4]
  refine xX_blk (w := xw_69) eT_69 4 13 (ls' := [.ref 8, .int a, .int b, .int (σ 8 0)]) (st' := [.int 0, .int (σ 8 0), .ref 11]) (σ' := σ4) rfl ?_
  obtain ⟨hi5, h⟩ := xgd_inv h
  refine xX_one (w := xw_69) (i := 17) (ls' := [.ref 8, .int a, .int b, .int (σ 8 0)]) (st' := []) (σ' := xup σ4 11 (σ 8 0).toNatClampNeg 0) eT_69 rfl (e_iast xs_11 hi5) ?_
  obtain ⟨σ6, eσ6, h⟩ := xlet_inv h
  rw [← eσ6]
  refine xX_blk (w := xw_69) eT_69 4 18 (ls' := [.ref 8, .int a, .int b, .int (σ 8 0)]) (st' := [.int 0, .int (σ 8 0), .ref 12]) (σ' := σ6) rfl ?_
  obtain ⟨hi7, h⟩ := xgd_inv h
  refine xX_one (w := xw_69) (i := 22) (ls' := [.ref 8, .int a, .int b, .int (σ 8 0)]) (st' := []) (σ' := xup σ6 12 (σ 8 0).toNatClampNeg 0) eT_69 rfl (e_iast xs_12 hi7) ?_
  obtain ⟨σ8, eσ8, h⟩ := xlet_inv h
  rw [← eσ8]
  refine xX_blk (w := xw_69) eT_69 5 23 (ls' := [.ref 8, .int a, .int b, .int (σ 8 0)]) (st' := [.int ((σ8 8 0) + 1), .ref 8]) (σ' := σ8) rfl ?_
  refine xX_blk (w := xw_69) eT_69 1 28 (ls' := [.ref 8, .int a, .int b, .int (σ 8 0)]) (st' := []) (σ' := xup σ8 8 0 ((σ8 8 0) + 1)) rfl ?_
  obtain ⟨σ9, eσ9, h⟩ := xlet_inv h
  rw [← eσ9]
  refine xX_blk (w := xw_69) eT_69 1 29 (ls' := [.ref 8, .int a, .int b, .int (σ 8 0)]) (st' := [.int (σ 8 0)]) (σ' := σ9) rfl ?_
  obtain rfl := Option.some.inj h
  exact xX_ret (w := xw_69) (i := 30) eT_69 rfl rfl
def F_X0_addSite (a : Int32) (b : Int32) (σ : xM) : Option (Int32 × xM) :=
  xbd (F_X1_has a σ) fun r1 =>
  if r1 = 0 then
    some ((-2), σ)
  else
    xbd (F_X10_within b 0 999 σ) fun r3 =>
    if r3 = 0 then
      some ((-2), σ)
    else
      if (σ 8 0) < 5 then
        xbd (F_X8_add a b σ) fun r6 =>
        some (r6.1, r6.2)
      else
        some ((-4), σ)
set_option maxHeartbeats 1000000 in
set_option maxRecDepth 20000 in
theorem T_X0_addSite (a : Int32) (b : Int32) (σ : xM) {d : Nat} {q : Int32 × xM} (hd : 2 ≤ d) (h : F_X0_addSite a b σ = some q) : xR xT xLn d 5 [.ref 136, .int a, .int b] σ (some (.int q.1), q.2) := by
  unfold F_X0_addSite at h
  show xX xT xLn d 5 0 [.ref 136, .int a, .int b] [] σ _
  refine xX_blk (w := xw_5) eT_5 4 0 (ls' := [.ref 136, .int a, .int b]) (st' := [.int a, .ref 2]) (σ' := σ) rfl ?_
  obtain ⟨r1, hr1, h⟩ := xbd_inv h
  refine xX_c1 (w := xw_5) (i := 4) (ls := [.ref 136, .int a, .int b]) (rest := []) eT_5 rfl (by omega) rfl rfl rfl (T_X1_has a σ (by omega) hr1) ?_
  refine xX_ite (c := r1 = 0) (w := xw_5) (i := 5) (a := 11) (b := 6) (st' := []) eT_5 rfl rfl (fun hc2 => ?_) (fun hc2 => ?_)
  · rw [if_pos hc2] at h
    refine xX_blk (w := xw_5) eT_5 1 11 (ls' := [.ref 136, .int a, .int b]) (st' := [.int (-2)]) (σ' := σ) rfl ?_
    obtain rfl := Option.some.inj h
    exact xX_ret (w := xw_5) (i := 12) eT_5 rfl rfl
  · rw [if_neg hc2] at h
    refine xX_blk (w := xw_5) eT_5 3 6 (ls' := [.ref 136, .int a, .int b]) (st' := [.int 999, .int 0, .int b]) (σ' := σ) rfl ?_
    obtain ⟨r3, hr3, h⟩ := xbd_inv h
    refine xX_c1 (w := xw_5) (i := 9) (ls := [.ref 136, .int a, .int b]) (rest := []) eT_5 rfl (by omega) rfl rfl rfl (T_X10_within b 0 999 σ (by omega) hr3) ?_
    refine xX_ite (c := r3 = 0) (w := xw_5) (i := 10) (a := 11) (b := 13) (st' := []) eT_5 rfl rfl (fun hc4 => ?_) (fun hc4 => ?_)
    · rw [if_pos hc4] at h
      refine xX_blk (w := xw_5) eT_5 1 11 (ls' := [.ref 136, .int a, .int b]) (st' := [.int (-2)]) (σ' := σ) rfl ?_
      obtain rfl := Option.some.inj h
      exact xX_ret (w := xw_5) (i := 12) eT_5 rfl rfl
    · rw [if_neg hc4] at h
      refine xX_blk (w := xw_5) eT_5 5 13 (ls' := [.ref 136, .int a, .int b]) (st' := [.int 5, .int (σ 8 0)]) (σ' := σ) rfl ?_
      refine xX_ite (c := (σ 8 0) < 5) (w := xw_5) (i := 18) (a := 21) (b := 19) (st' := []) eT_5 rfl rfl (fun hc5 => ?_) (fun hc5 => ?_)
      · rw [if_pos hc5] at h
        refine xX_blk (w := xw_5) eT_5 5 21 (ls' := [.ref 136, .int a, .int b]) (st' := [.int b, .int a, .ref 8]) (σ' := σ) rfl ?_
        obtain ⟨r6, hr6, h⟩ := xbd_inv h
        refine xX_c1 (w := xw_5) (i := 26) (ls := [.ref 136, .int a, .int b]) (rest := []) eT_5 rfl (by omega) rfl rfl rfl (T_X8_add a b σ (by omega) hr6) ?_
        obtain rfl := Option.some.inj h
        exact xX_ret (w := xw_5) (i := 27) eT_5 rfl rfl
      · rw [if_neg hc5] at h
        refine xX_blk (w := xw_5) eT_5 1 19 (ls' := [.ref 136, .int a, .int b]) (st' := [.int (-4)]) (σ' := σ) rfl ?_
        refine xX_jmp (w := xw_5) (i := 20) (a := 27) (st' := [.int (-4)]) eT_5 rfl rfl ?_
        obtain rfl := Option.some.inj h
        exact xX_ret (w := xw_5) (i := 27) eT_5 rfl rfl
def F_X10_site (a : Int32) (b : Int32) (σ : xM) : Option (Int32 × xM) :=
  xbd (F_X10_mark σ) fun r1 =>
  xbd (F_X0_addSite a b r1) fun r2 =>
  xbd (F_X10_settled r2.1 r2.2) fun r3 =>
  some (r3.1, r3.2)
set_option maxHeartbeats 1000000 in
set_option maxRecDepth 20000 in
theorem T_X10_site (a : Int32) (b : Int32) (σ : xM) {d : Nat} {q : Int32 × xM} (hd : 4 ≤ d) (h : F_X10_site a b σ = some q) : xR xT xLn d 82 [.ref 0, .int a, .int b] σ (some (.int q.1), q.2) := by
  unfold F_X10_site at h
  show xX xT xLn d 82 0 [.ref 0, .int a, .int b] [] σ _
  refine xX_blk (w := xw_82) eT_82 1 0 (ls' := [.ref 0, .int a, .int b]) (st' := [.ref 0]) (σ' := σ) rfl ?_
  obtain ⟨r1, hr1, h⟩ := xbd_inv h
  refine xX_c0 (w := xw_82) (i := 1) (ls := [.ref 0, .int a, .int b]) (rest := []) eT_82 rfl (by omega) rfl rfl rfl (T_X10_mark σ (by omega) hr1) ?_
  refine xX_blk (w := xw_82) eT_82 5 2 (ls' := [.ref 0, .int a, .int b]) (st' := [.int b, .int a, .ref 136, .ref 0]) (σ' := r1) rfl ?_
  obtain ⟨r2, hr2, h⟩ := xbd_inv h
  refine xX_c1 (w := xw_82) (i := 7) (ls := [.ref 0, .int a, .int b]) (rest := [.ref 0]) eT_82 rfl (by omega) rfl rfl rfl (T_X0_addSite a b r1 (by omega) hr2) ?_
  obtain ⟨r3, hr3, h⟩ := xbd_inv h
  refine xX_c1 (w := xw_82) (i := 8) (ls := [.ref 0, .int a, .int b]) (rest := []) eT_82 rfl (by omega) rfl rfl rfl (T_X10_settled r2.1 r2.2 (by omega) hr3) ?_
  obtain rfl := Option.some.inj h
  exact xX_ret (w := xw_82) (i := 9) eT_82 rfl rfl
def F_X8_has (a : Int32) (σ : xM) : Option (Int32) :=
  xbd (F_X10_within a 0 ((σ 8 0) - 1) σ) fun r1 =>
  xgd (xzok true r1) (some r1)
set_option maxHeartbeats 1000000 in
set_option maxRecDepth 20000 in
theorem T_X8_has (a : Int32) (σ : xM) {d : Nat} {q : Int32} (hd : 1 ≤ d) (h : F_X8_has a σ = some q) : xR xT xLn d 68 [.ref 8, .int a] σ (some (.int q), σ) := by
  unfold F_X8_has at h
  show xX xT xLn d 68 0 [.ref 8, .int a] [] σ _
  refine xX_blk (w := xw_68) eT_68 6 0 (ls' := [.ref 8, .int a]) (st' := [.int ((σ 8 0) - 1), .int 0, .int a]) (σ' := σ) rfl ?_
  obtain ⟨r1, hr1, h⟩ := xbd_inv h
  refine xX_c1 (w := xw_68) (i := 6) (ls := [.ref 8, .int a]) (rest := []) eT_68 rfl (by omega) rfl rfl rfl (T_X10_within a 0 ((σ 8 0) - 1) σ (by omega) hr1) ?_
  obtain ⟨hi2, h⟩ := xgd_inv h
  obtain rfl := Option.some.inj h
  exact xX_ret (w := xw_68) (i := 7) eT_68 rfl (e_ret2 hi2)
def F_X0_setRoom (a : Int32) (b : Int32) (σ : xM) : Option (Int32 × xM) :=
  xbd (F_X8_has a σ) fun r1 =>
  if r1 = 0 then
    some ((-2), σ)
  else
    xbd (F_X10_within b 0 999 σ) fun r3 =>
    if r3 = 0 then
      some ((-2), σ)
    else
      xgd (xin a 5) (
      xgd (xin a 5) (
      xlet (xup σ 10 a.toNatClampNeg b) fun σ7 =>
      some ((σ 10 a.toNatClampNeg), σ7)))
set_option maxHeartbeats 1000000 in
set_option maxRecDepth 20000 in
theorem T_X0_setRoom (a : Int32) (b : Int32) (σ : xM) {d : Nat} {q : Int32 × xM} (hd : 2 ≤ d) (h : F_X0_setRoom a b σ = some q) : xR xT xLn d 6 [.ref 136, .int a, .int b] σ (some (.int q.1), q.2) := by
  unfold F_X0_setRoom at h
  show xX xT xLn d 6 0 [.ref 136, .int a, .int b, .null] [] σ _
  refine xX_blk (w := xw_6) eT_6 4 0 (ls' := [.ref 136, .int a, .int b, .null]) (st' := [.int a, .ref 8]) (σ' := σ) rfl ?_
  obtain ⟨r1, hr1, h⟩ := xbd_inv h
  refine xX_c1 (w := xw_6) (i := 4) (ls := [.ref 136, .int a, .int b, .null]) (rest := []) eT_6 rfl (by omega) rfl rfl rfl (T_X8_has a σ (by omega) hr1) ?_
  refine xX_ite (c := r1 = 0) (w := xw_6) (i := 5) (a := 11) (b := 6) (st' := []) eT_6 rfl rfl (fun hc2 => ?_) (fun hc2 => ?_)
  · rw [if_pos hc2] at h
    refine xX_blk (w := xw_6) eT_6 1 11 (ls' := [.ref 136, .int a, .int b, .null]) (st' := [.int (-2)]) (σ' := σ) rfl ?_
    obtain rfl := Option.some.inj h
    exact xX_ret (w := xw_6) (i := 12) eT_6 rfl rfl
  · rw [if_neg hc2] at h
    refine xX_blk (w := xw_6) eT_6 3 6 (ls' := [.ref 136, .int a, .int b, .null]) (st' := [.int 999, .int 0, .int b]) (σ' := σ) rfl ?_
    obtain ⟨r3, hr3, h⟩ := xbd_inv h
    refine xX_c1 (w := xw_6) (i := 9) (ls := [.ref 136, .int a, .int b, .null]) (rest := []) eT_6 rfl (by omega) rfl rfl rfl (T_X10_within b 0 999 σ (by omega) hr3) ?_
    refine xX_ite (c := r3 = 0) (w := xw_6) (i := 10) (a := 11) (b := 13) (st' := []) eT_6 rfl rfl (fun hc4 => ?_) (fun hc4 => ?_)
    · rw [if_pos hc4] at h
      refine xX_blk (w := xw_6) eT_6 1 11 (ls' := [.ref 136, .int a, .int b, .null]) (st' := [.int (-2)]) (σ' := σ) rfl ?_
      obtain rfl := Option.some.inj h
      exact xX_ret (w := xw_6) (i := 12) eT_6 rfl rfl
    · rw [if_neg hc4] at h
      refine xX_blk (w := xw_6) eT_6 5 13 (ls' := [.ref 136, .int a, .int b, .null]) (st' := [.int a, .ref 10]) (σ' := σ) rfl ?_
      obtain ⟨hi5, h⟩ := xgd_inv h
      refine xX_one (w := xw_6) (i := 18) (ls' := [.ref 136, .int a, .int b, .null]) (st' := [.int (σ 10 a.toNatClampNeg)]) (σ' := σ) eT_6 rfl (e_iald xs_10 hi5) ?_
      refine xX_blk (w := xw_6) eT_6 7 19 (ls' := [.ref 136, .int a, .int b, .int (σ 10 a.toNatClampNeg)]) (st' := [.int b, .int a, .ref 10]) (σ' := σ) rfl ?_
      obtain ⟨hi6, h⟩ := xgd_inv h
      refine xX_one (w := xw_6) (i := 26) (ls' := [.ref 136, .int a, .int b, .int (σ 10 a.toNatClampNeg)]) (st' := []) (σ' := xup σ 10 a.toNatClampNeg b) eT_6 rfl (e_iast xs_10 hi6) ?_
      obtain ⟨σ7, eσ7, h⟩ := xlet_inv h
      rw [← eσ7]
      refine xX_blk (w := xw_6) eT_6 1 27 (ls' := [.ref 136, .int a, .int b, .int (σ 10 a.toNatClampNeg)]) (st' := [.int (σ 10 a.toNatClampNeg)]) (σ' := σ7) rfl ?_
      obtain rfl := Option.some.inj h
      exact xX_ret (w := xw_6) (i := 28) eT_6 rfl rfl
def F_X10_rooms (a : Int32) (b : Int32) (σ : xM) : Option (Int32 × xM) :=
  xbd (F_X10_mark σ) fun r1 =>
  xbd (F_X0_setRoom a b r1) fun r2 =>
  xbd (F_X10_settled r2.1 r2.2) fun r3 =>
  some (r3.1, r3.2)
set_option maxHeartbeats 1000000 in
set_option maxRecDepth 20000 in
theorem T_X10_rooms (a : Int32) (b : Int32) (σ : xM) {d : Nat} {q : Int32 × xM} (hd : 4 ≤ d) (h : F_X10_rooms a b σ = some q) : xR xT xLn d 83 [.ref 0, .int a, .int b] σ (some (.int q.1), q.2) := by
  unfold F_X10_rooms at h
  show xX xT xLn d 83 0 [.ref 0, .int a, .int b] [] σ _
  refine xX_blk (w := xw_83) eT_83 1 0 (ls' := [.ref 0, .int a, .int b]) (st' := [.ref 0]) (σ' := σ) rfl ?_
  obtain ⟨r1, hr1, h⟩ := xbd_inv h
  refine xX_c0 (w := xw_83) (i := 1) (ls := [.ref 0, .int a, .int b]) (rest := []) eT_83 rfl (by omega) rfl rfl rfl (T_X10_mark σ (by omega) hr1) ?_
  refine xX_blk (w := xw_83) eT_83 5 2 (ls' := [.ref 0, .int a, .int b]) (st' := [.int b, .int a, .ref 136, .ref 0]) (σ' := r1) rfl ?_
  obtain ⟨r2, hr2, h⟩ := xbd_inv h
  refine xX_c1 (w := xw_83) (i := 7) (ls := [.ref 0, .int a, .int b]) (rest := [.ref 0]) eT_83 rfl (by omega) rfl rfl rfl (T_X0_setRoom a b r1 (by omega) hr2) ?_
  obtain ⟨r3, hr3, h⟩ := xbd_inv h
  refine xX_c1 (w := xw_83) (i := 8) (ls := [.ref 0, .int a, .int b]) (rest := []) eT_83 rfl (by omega) rfl rfl rfl (T_X10_settled r2.1 r2.2 (by omega) hr3) ?_
  obtain rfl := Option.some.inj h
  exact xX_ret (w := xw_83) (i := 9) eT_83 rfl rfl
def F_X0_setStep (a : Int32) (b : Int32) (σ : xM) : Option (Int32 × xM) :=
  xbd (F_X8_has a σ) fun r1 =>
  if r1 = 0 then
    some ((-2), σ)
  else
    xbd (F_X10_within b 0 4 σ) fun r3 =>
    if r3 = 0 then
      some ((-2), σ)
    else
      xgd (xin a 5) (
      if (σ 12 a.toNatClampNeg) = 0 then
        xgd (xin a 5) (
        xgd (xin a 5) (
        xlet (xup σ 11 a.toNatClampNeg b) fun σ9 =>
        some ((σ 11 a.toNatClampNeg), σ9)))
      else
        some ((-3), σ))
set_option maxHeartbeats 1000000 in
set_option maxRecDepth 20000 in
theorem T_X0_setStep (a : Int32) (b : Int32) (σ : xM) {d : Nat} {q : Int32 × xM} (hd : 2 ≤ d) (h : F_X0_setStep a b σ = some q) : xR xT xLn d 7 [.ref 136, .int a, .int b] σ (some (.int q.1), q.2) := by
  unfold F_X0_setStep at h
  show xX xT xLn d 7 0 [.ref 136, .int a, .int b, .null] [] σ _
  refine xX_blk (w := xw_7) eT_7 4 0 (ls' := [.ref 136, .int a, .int b, .null]) (st' := [.int a, .ref 8]) (σ' := σ) rfl ?_
  obtain ⟨r1, hr1, h⟩ := xbd_inv h
  refine xX_c1 (w := xw_7) (i := 4) (ls := [.ref 136, .int a, .int b, .null]) (rest := []) eT_7 rfl (by omega) rfl rfl rfl (T_X8_has a σ (by omega) hr1) ?_
  refine xX_ite (c := r1 = 0) (w := xw_7) (i := 5) (a := 11) (b := 6) (st' := []) eT_7 rfl rfl (fun hc2 => ?_) (fun hc2 => ?_)
  · rw [if_pos hc2] at h
    refine xX_blk (w := xw_7) eT_7 1 11 (ls' := [.ref 136, .int a, .int b, .null]) (st' := [.int (-2)]) (σ' := σ) rfl ?_
    obtain rfl := Option.some.inj h
    exact xX_ret (w := xw_7) (i := 12) eT_7 rfl rfl
  · rw [if_neg hc2] at h
    refine xX_blk (w := xw_7) eT_7 3 6 (ls' := [.ref 136, .int a, .int b, .null]) (st' := [.int 4, .int 0, .int b]) (σ' := σ) rfl ?_
    obtain ⟨r3, hr3, h⟩ := xbd_inv h
    refine xX_c1 (w := xw_7) (i := 9) (ls := [.ref 136, .int a, .int b, .null]) (rest := []) eT_7 rfl (by omega) rfl rfl rfl (T_X10_within b 0 4 σ (by omega) hr3) ?_
    refine xX_ite (c := r3 = 0) (w := xw_7) (i := 10) (a := 11) (b := 13) (st' := []) eT_7 rfl rfl (fun hc4 => ?_) (fun hc4 => ?_)
    · rw [if_pos hc4] at h
      refine xX_blk (w := xw_7) eT_7 1 11 (ls' := [.ref 136, .int a, .int b, .null]) (st' := [.int (-2)]) (σ' := σ) rfl ?_
      obtain rfl := Option.some.inj h
      exact xX_ret (w := xw_7) (i := 12) eT_7 rfl rfl
    · rw [if_neg hc4] at h
      refine xX_blk (w := xw_7) eT_7 5 13 (ls' := [.ref 136, .int a, .int b, .null]) (st' := [.int a, .ref 12]) (σ' := σ) rfl ?_
      obtain ⟨hi5, h⟩ := xgd_inv h
      refine xX_one (w := xw_7) (i := 18) (ls' := [.ref 136, .int a, .int b, .null]) (st' := [.int (σ 12 a.toNatClampNeg)]) (σ' := σ) eT_7 rfl (e_iald xs_12 hi5) ?_
      refine xX_ite (c := (σ 12 a.toNatClampNeg) = 0) (w := xw_7) (i := 19) (a := 22) (b := 20) (st' := []) eT_7 rfl rfl (fun hc6 => ?_) (fun hc6 => ?_)
      · rw [if_pos hc6] at h
        refine xX_blk (w := xw_7) eT_7 5 22 (ls' := [.ref 136, .int a, .int b, .null]) (st' := [.int a, .ref 11]) (σ' := σ) rfl ?_
        obtain ⟨hi7, h⟩ := xgd_inv h
        refine xX_one (w := xw_7) (i := 27) (ls' := [.ref 136, .int a, .int b, .null]) (st' := [.int (σ 11 a.toNatClampNeg)]) (σ' := σ) eT_7 rfl (e_iald xs_11 hi7) ?_
        refine xX_blk (w := xw_7) eT_7 7 28 (ls' := [.ref 136, .int a, .int b, .int (σ 11 a.toNatClampNeg)]) (st' := [.int b, .int a, .ref 11]) (σ' := σ) rfl ?_
        obtain ⟨hi8, h⟩ := xgd_inv h
        refine xX_one (w := xw_7) (i := 35) (ls' := [.ref 136, .int a, .int b, .int (σ 11 a.toNatClampNeg)]) (st' := []) (σ' := xup σ 11 a.toNatClampNeg b) eT_7 rfl (e_iast xs_11 hi8) ?_
        obtain ⟨σ9, eσ9, h⟩ := xlet_inv h
        rw [← eσ9]
        refine xX_blk (w := xw_7) eT_7 1 36 (ls' := [.ref 136, .int a, .int b, .int (σ 11 a.toNatClampNeg)]) (st' := [.int (σ 11 a.toNatClampNeg)]) (σ' := σ9) rfl ?_
        obtain rfl := Option.some.inj h
        exact xX_ret (w := xw_7) (i := 37) eT_7 rfl rfl
      · rw [if_neg hc6] at h
        refine xX_blk (w := xw_7) eT_7 1 20 (ls' := [.ref 136, .int a, .int b, .null]) (st' := [.int (-3)]) (σ' := σ) rfl ?_
        obtain rfl := Option.some.inj h
        exact xX_ret (w := xw_7) (i := 21) eT_7 rfl rfl
def F_X10_steps (a : Int32) (b : Int32) (σ : xM) : Option (Int32 × xM) :=
  xbd (F_X10_mark σ) fun r1 =>
  xbd (F_X0_setStep a b r1) fun r2 =>
  xbd (F_X10_settled r2.1 r2.2) fun r3 =>
  some (r3.1, r3.2)
set_option maxHeartbeats 1000000 in
set_option maxRecDepth 20000 in
theorem T_X10_steps (a : Int32) (b : Int32) (σ : xM) {d : Nat} {q : Int32 × xM} (hd : 4 ≤ d) (h : F_X10_steps a b σ = some q) : xR xT xLn d 84 [.ref 0, .int a, .int b] σ (some (.int q.1), q.2) := by
  unfold F_X10_steps at h
  show xX xT xLn d 84 0 [.ref 0, .int a, .int b] [] σ _
  refine xX_blk (w := xw_84) eT_84 1 0 (ls' := [.ref 0, .int a, .int b]) (st' := [.ref 0]) (σ' := σ) rfl ?_
  obtain ⟨r1, hr1, h⟩ := xbd_inv h
  refine xX_c0 (w := xw_84) (i := 1) (ls := [.ref 0, .int a, .int b]) (rest := []) eT_84 rfl (by omega) rfl rfl rfl (T_X10_mark σ (by omega) hr1) ?_
  refine xX_blk (w := xw_84) eT_84 5 2 (ls' := [.ref 0, .int a, .int b]) (st' := [.int b, .int a, .ref 136, .ref 0]) (σ' := r1) rfl ?_
  obtain ⟨r2, hr2, h⟩ := xbd_inv h
  refine xX_c1 (w := xw_84) (i := 7) (ls := [.ref 0, .int a, .int b]) (rest := [.ref 0]) eT_84 rfl (by omega) rfl rfl rfl (T_X0_setStep a b r1 (by omega) hr2) ?_
  obtain ⟨r3, hr3, h⟩ := xbd_inv h
  refine xX_c1 (w := xw_84) (i := 8) (ls := [.ref 0, .int a, .int b]) (rest := []) eT_84 rfl (by omega) rfl rfl rfl (T_X10_settled r2.1 r2.2 (by omega) hr3) ?_
  obtain rfl := Option.some.inj h
  exact xX_ret (w := xw_84) (i := 9) eT_84 rfl rfl
def F_X8_startDraining (a : Int32) (σ : xM) : Option (xM) :=
  if 5 ≤ (σ 8 1) then
    some σ
  else
    xgd (xin a 5) (
    xlet (xup σ 12 a.toNatClampNeg 1) fun σ3 =>
    xgd (xin (σ3 8 1) 5) (
    xlet (xup σ3 13 (σ3 8 1).toNatClampNeg a) fun σ5 =>
    xlet (xup σ5 8 1 ((σ5 8 1) + 1)) fun σ6 =>
    some σ6))
set_option maxHeartbeats 1000000 in
set_option maxRecDepth 20000 in
theorem T_X8_startDraining (a : Int32) (σ : xM) {d : Nat} {q : xM} (hd : 0 ≤ d) (h : F_X8_startDraining a σ = some q) : xR xT xLn d 72 [.ref 8, .int a] σ (none, q) := by
  unfold F_X8_startDraining at h
  show xX xT xLn d 72 0 [.ref 8, .int a] [] σ _
  refine xX_blk (w := xw_72) eT_72 3 0 (ls' := [.ref 8, .int a]) (st' := [.int 5, .int (σ 8 1)]) (σ' := σ) rfl ?_
  refine xX_ite (c := 5 ≤ (σ 8 1)) (w := xw_72) (i := 3) (a := 21) (b := 4) (st' := []) eT_72 rfl rfl (fun hc1 => ?_) (fun hc1 => ?_)
  · rw [if_pos hc1] at h
    obtain rfl := Option.some.inj h
    exact xX_ret (w := xw_72) (i := 21) eT_72 rfl rfl
  · rw [if_neg hc1] at h
    refine xX_blk (w := xw_72) eT_72 4 4 (ls' := [.ref 8, .int a]) (st' := [.int 1, .int a, .ref 12]) (σ' := σ) rfl ?_
    obtain ⟨hi2, h⟩ := xgd_inv h
    refine xX_one (w := xw_72) (i := 8) (ls' := [.ref 8, .int a]) (st' := []) (σ' := xup σ 12 a.toNatClampNeg 1) eT_72 rfl (e_iast xs_12 hi2) ?_
    obtain ⟨σ3, eσ3, h⟩ := xlet_inv h
    rw [← eσ3]
    refine xX_blk (w := xw_72) eT_72 5 9 (ls' := [.ref 8, .int a]) (st' := [.int a, .int (σ3 8 1), .ref 13]) (σ' := σ3) rfl ?_
    obtain ⟨hi4, h⟩ := xgd_inv h
    refine xX_one (w := xw_72) (i := 14) (ls' := [.ref 8, .int a]) (st' := []) (σ' := xup σ3 13 (σ3 8 1).toNatClampNeg a) eT_72 rfl (e_iast xs_13 hi4) ?_
    obtain ⟨σ5, eσ5, h⟩ := xlet_inv h
    rw [← eσ5]
    refine xX_blk (w := xw_72) eT_72 5 15 (ls' := [.ref 8, .int a]) (st' := [.int ((σ5 8 1) + 1), .ref 8]) (σ' := σ5) rfl ?_
    refine xX_blk (w := xw_72) eT_72 1 20 (ls' := [.ref 8, .int a]) (st' := []) (σ' := xup σ5 8 1 ((σ5 8 1) + 1)) rfl ?_
    obtain ⟨σ6, eσ6, h⟩ := xlet_inv h
    rw [← eσ6]
    obtain rfl := Option.some.inj h
    exact xX_ret (w := xw_72) (i := 21) eT_72 rfl rfl
def F_X0_startDrain (a : Int32) (σ : xM) : Option (Int32 × xM) :=
  xbd (F_X8_has a σ) fun r1 =>
  if r1 = 0 then
    some ((-2), σ)
  else
    xgd (xin a 5) (
    if (σ 12 a.toNatClampNeg) = 0 then
      xbd (F_X8_startDraining a σ) fun r5 =>
      some ((r5 8 1), r5)
    else
      some ((-3), σ))
set_option maxHeartbeats 1000000 in
set_option maxRecDepth 20000 in
theorem T_X0_startDrain (a : Int32) (σ : xM) {d : Nat} {q : Int32 × xM} (hd : 2 ≤ d) (h : F_X0_startDrain a σ = some q) : xR xT xLn d 8 [.ref 136, .int a] σ (some (.int q.1), q.2) := by
  unfold F_X0_startDrain at h
  show xX xT xLn d 8 0 [.ref 136, .int a] [] σ _
  refine xX_blk (w := xw_8) eT_8 4 0 (ls' := [.ref 136, .int a]) (st' := [.int a, .ref 8]) (σ' := σ) rfl ?_
  obtain ⟨r1, hr1, h⟩ := xbd_inv h
  refine xX_c1 (w := xw_8) (i := 4) (ls := [.ref 136, .int a]) (rest := []) eT_8 rfl (by omega) rfl rfl rfl (T_X8_has a σ (by omega) hr1) ?_
  refine xX_ite (c := r1 = 0) (w := xw_8) (i := 5) (a := 6) (b := 8) (st' := []) eT_8 rfl rfl (fun hc2 => ?_) (fun hc2 => ?_)
  · rw [if_pos hc2] at h
    refine xX_blk (w := xw_8) eT_8 1 6 (ls' := [.ref 136, .int a]) (st' := [.int (-2)]) (σ' := σ) rfl ?_
    obtain rfl := Option.some.inj h
    exact xX_ret (w := xw_8) (i := 7) eT_8 rfl rfl
  · rw [if_neg hc2] at h
    refine xX_blk (w := xw_8) eT_8 5 8 (ls' := [.ref 136, .int a]) (st' := [.int a, .ref 12]) (σ' := σ) rfl ?_
    obtain ⟨hi3, h⟩ := xgd_inv h
    refine xX_one (w := xw_8) (i := 13) (ls' := [.ref 136, .int a]) (st' := [.int (σ 12 a.toNatClampNeg)]) (σ' := σ) eT_8 rfl (e_iald xs_12 hi3) ?_
    refine xX_ite (c := (σ 12 a.toNatClampNeg) = 0) (w := xw_8) (i := 14) (a := 17) (b := 15) (st' := []) eT_8 rfl rfl (fun hc4 => ?_) (fun hc4 => ?_)
    · rw [if_pos hc4] at h
      refine xX_blk (w := xw_8) eT_8 4 17 (ls' := [.ref 136, .int a]) (st' := [.int a, .ref 8]) (σ' := σ) rfl ?_
      obtain ⟨r5, hr5, h⟩ := xbd_inv h
      refine xX_c0 (w := xw_8) (i := 21) (ls := [.ref 136, .int a]) (rest := []) eT_8 rfl (by omega) rfl rfl rfl (T_X8_startDraining a σ (by omega) hr5) ?_
      refine xX_blk (w := xw_8) eT_8 4 22 (ls' := [.ref 136, .int a]) (st' := [.int (r5 8 1)]) (σ' := r5) rfl ?_
      obtain rfl := Option.some.inj h
      exact xX_ret (w := xw_8) (i := 26) eT_8 rfl rfl
    · rw [if_neg hc4] at h
      refine xX_blk (w := xw_8) eT_8 1 15 (ls' := [.ref 136, .int a]) (st' := [.int (-3)]) (σ' := σ) rfl ?_
      obtain rfl := Option.some.inj h
      exact xX_ret (w := xw_8) (i := 16) eT_8 rfl rfl
def F_X10_drains (a : Int32) (σ : xM) : Option (Int32 × xM) :=
  xbd (F_X10_mark σ) fun r1 =>
  xbd (F_X0_startDrain a r1) fun r2 =>
  xbd (F_X10_settled r2.1 r2.2) fun r3 =>
  some (r3.1, r3.2)
set_option maxHeartbeats 1000000 in
set_option maxRecDepth 20000 in
theorem T_X10_drains (a : Int32) (σ : xM) {d : Nat} {q : Int32 × xM} (hd : 4 ≤ d) (h : F_X10_drains a σ = some q) : xR xT xLn d 85 [.ref 0, .int a] σ (some (.int q.1), q.2) := by
  unfold F_X10_drains at h
  show xX xT xLn d 85 0 [.ref 0, .int a] [] σ _
  refine xX_blk (w := xw_85) eT_85 1 0 (ls' := [.ref 0, .int a]) (st' := [.ref 0]) (σ' := σ) rfl ?_
  obtain ⟨r1, hr1, h⟩ := xbd_inv h
  refine xX_c0 (w := xw_85) (i := 1) (ls := [.ref 0, .int a]) (rest := []) eT_85 rfl (by omega) rfl rfl rfl (T_X10_mark σ (by omega) hr1) ?_
  refine xX_blk (w := xw_85) eT_85 4 2 (ls' := [.ref 0, .int a]) (st' := [.int a, .ref 136, .ref 0]) (σ' := r1) rfl ?_
  obtain ⟨r2, hr2, h⟩ := xbd_inv h
  refine xX_c1 (w := xw_85) (i := 6) (ls := [.ref 0, .int a]) (rest := [.ref 0]) eT_85 rfl (by omega) rfl rfl rfl (T_X0_startDrain a r1 (by omega) hr2) ?_
  obtain ⟨r3, hr3, h⟩ := xbd_inv h
  refine xX_c1 (w := xw_85) (i := 7) (ls := [.ref 0, .int a]) (rest := []) eT_85 rfl (by omega) rfl rfl rfl (T_X10_settled r2.1 r2.2 (by omega) hr3) ?_
  obtain rfl := Option.some.inj h
  exact xX_ret (w := xw_85) (i := 8) eT_85 rfl rfl
def F_X8_turnOn (a : Int32) (σ : xM) : Option (xM) :=
  xgd (xin a 5) (
  xlet (xup σ 12 a.toNatClampNeg 0) fun σ2 =>
  xgd (xin a 5) (
  xlet (xup σ2 11 a.toNatClampNeg 0) fun σ4 =>
  some σ4))
set_option maxHeartbeats 1000000 in
set_option maxRecDepth 20000 in
theorem T_X8_turnOn (a : Int32) (σ : xM) {d : Nat} {q : xM} (hd : 0 ≤ d) (h : F_X8_turnOn a σ = some q) : xR xT xLn d 73 [.ref 8, .int a] σ (none, q) := by
  unfold F_X8_turnOn at h
  show xX xT xLn d 73 0 [.ref 8, .int a] [] σ _
  refine xX_blk (w := xw_73) eT_73 4 0 (ls' := [.ref 8, .int a]) (st' := [.int 0, .int a, .ref 12]) (σ' := σ) rfl ?_
  obtain ⟨hi1, h⟩ := xgd_inv h
  refine xX_one (w := xw_73) (i := 4) (ls' := [.ref 8, .int a]) (st' := []) (σ' := xup σ 12 a.toNatClampNeg 0) eT_73 rfl (e_iast xs_12 hi1) ?_
  obtain ⟨σ2, eσ2, h⟩ := xlet_inv h
  rw [← eσ2]
  refine xX_blk (w := xw_73) eT_73 4 5 (ls' := [.ref 8, .int a]) (st' := [.int 0, .int a, .ref 11]) (σ' := σ2) rfl ?_
  obtain ⟨hi3, h⟩ := xgd_inv h
  refine xX_one (w := xw_73) (i := 9) (ls' := [.ref 8, .int a]) (st' := []) (σ' := xup σ2 11 a.toNatClampNeg 0) eT_73 rfl (e_iast xs_11 hi3) ?_
  obtain ⟨σ4, eσ4, h⟩ := xlet_inv h
  rw [← eσ4]
  obtain rfl := Option.some.inj h
  exact xX_ret (w := xw_73) (i := 10) eT_73 rfl rfl
def B_X8_leaveQueue_4 (p1 : Int32) (v2 : Int32) (v3 : Int32) (σ : xM) : Option ((Int32 × Int32 × xM) ⊕ ((Int32 × xM))) :=
  if (σ 8 1) ≤ v3 then
    some (.inr (v2, σ))
  else
    xgd (xin v3 5) (
    if (σ 13 v3.toNatClampNeg) = p1 then
      some (.inl (v2, (v3 + 1), σ))
    else
      xgd (xin v3 5) (
      xgd (xin v2 5) (
      xlet (xup σ 13 v2.toNatClampNeg (σ 13 v3.toNatClampNeg)) fun σ6 =>
      some (.inl ((v2 + 1), (v3 + 1), σ6)))))
def L_X8_leaveQueue_4 (p1 : Int32) (v2 : Int32) (v3 : Int32) (σ : xM) : Option ((Int32 × xM)) := xloop (fun s : Int32 × Int32 × xM => B_X8_leaveQueue_4 p1 s.1 s.2.1 s.2.2) 6000 (v2, v3, σ)
set_option maxHeartbeats 1000000 in
set_option maxRecDepth 20000 in
theorem TB_X8_leaveQueue_4 {d : Nat} {o : Option Value × xM} (p1 : Int32) (v2 : Int32) (v3 : Int32) (σ : xM) {q : (Int32 × Int32 × xM) ⊕ ((Int32 × xM))} (hd : 0 ≤ d) (h : B_X8_leaveQueue_4 p1 v2 v3 σ = some q) (hB : ∀ s', q = .inl s' → xX xT xLn d 75 4 [.ref 8, .int p1, .int s'.1, .int s'.2.1] [] s'.2.2 o) (hE : ∀ e', q = .inr e' → ∀ (z1 z3 : Value), xX xT xLn d 75 26 [.ref 8, z1, .int e'.1, z3] [] e'.2 o) : xX xT xLn d 75 4 [.ref 8, .int p1, .int v2, .int v3] [] σ o := by
  unfold B_X8_leaveQueue_4 at h
  refine xX_blk (w := xw_75) eT_75 4 4 (ls' := [.ref 8, .int p1, .int v2, .int v3]) (st' := [.int (σ 8 1), .int v3]) (σ' := σ) rfl ?_
  refine xX_ite (c := (σ 8 1) ≤ v3) (w := xw_75) (i := 8) (a := 26) (b := 9) (st' := []) eT_75 rfl rfl (fun hc1 => ?_) (fun hc1 => ?_)
  · rw [if_pos hc1] at h
    obtain rfl := Option.some.inj h
    exact hE (v2, σ) rfl _ _
  · rw [if_neg hc1] at h
    refine xX_blk (w := xw_75) eT_75 3 9 (ls' := [.ref 8, .int p1, .int v2, .int v3]) (st' := [.int v3, .ref 13]) (σ' := σ) rfl ?_
    obtain ⟨hi2, h⟩ := xgd_inv h
    refine xX_one (w := xw_75) (i := 12) (ls' := [.ref 8, .int p1, .int v2, .int v3]) (st' := [.int (σ 13 v3.toNatClampNeg)]) (σ' := σ) eT_75 rfl (e_iald xs_13 hi2) ?_
    refine xX_blk (w := xw_75) eT_75 1 13 (ls' := [.ref 8, .int p1, .int v2, .int v3]) (st' := [.int p1, .int (σ 13 v3.toNatClampNeg)]) (σ' := σ) rfl ?_
    refine xX_ite (c := (σ 13 v3.toNatClampNeg) = p1) (w := xw_75) (i := 14) (a := 24) (b := 15) (st' := []) eT_75 rfl rfl (fun hc3 => ?_) (fun hc3 => ?_)
    · rw [if_pos hc3] at h
      refine xX_blk (w := xw_75) eT_75 1 24 (ls' := [.ref 8, .int p1, .int v2, .int (v3 + 1)]) (st' := []) (σ' := σ) rfl ?_
      refine xX_jmp (w := xw_75) (i := 25) (a := 4) (st' := []) eT_75 rfl rfl ?_
      obtain rfl := Option.some.inj h
      exact hB (v2, (v3 + 1), σ) rfl
    · rw [if_neg hc3] at h
      refine xX_blk (w := xw_75) eT_75 6 15 (ls' := [.ref 8, .int p1, .int v2, .int v3]) (st' := [.int v3, .ref 13, .int v2, .ref 13]) (σ' := σ) rfl ?_
      obtain ⟨hi4, h⟩ := xgd_inv h
      refine xX_one (w := xw_75) (i := 21) (ls' := [.ref 8, .int p1, .int v2, .int v3]) (st' := [.int (σ 13 v3.toNatClampNeg), .int v2, .ref 13]) (σ' := σ) eT_75 rfl (e_iald xs_13 hi4) ?_
      obtain ⟨hi5, h⟩ := xgd_inv h
      refine xX_one (w := xw_75) (i := 22) (ls' := [.ref 8, .int p1, .int v2, .int v3]) (st' := []) (σ' := xup σ 13 v2.toNatClampNeg (σ 13 v3.toNatClampNeg)) eT_75 rfl (e_iast xs_13 hi5) ?_
      obtain ⟨σ6, eσ6, h⟩ := xlet_inv h
      rw [← eσ6]
      refine xX_blk (w := xw_75) eT_75 2 23 (ls' := [.ref 8, .int p1, .int (v2 + 1), .int (v3 + 1)]) (st' := []) (σ' := σ6) rfl ?_
      refine xX_jmp (w := xw_75) (i := 25) (a := 4) (st' := []) eT_75 rfl rfl ?_
      obtain rfl := Option.some.inj h
      exact hB ((v2 + 1), (v3 + 1), σ6) rfl
set_option maxHeartbeats 1000000 in
set_option maxRecDepth 20000 in
theorem TL_X8_leaveQueue_4 {d : Nat} {o : Option Value × xM} (p1 : Int32) (v2 : Int32) (v3 : Int32) (σ : xM) {e : (Int32 × xM)} (hd : 0 ≤ d) (h : L_X8_leaveQueue_4 p1 v2 v3 σ = some e) (hE : ∀ (z1 z3 : Value), xX xT xLn d 75 26 [.ref 8, z1, .int e.1, z3] [] e.2 o) : xX xT xLn d 75 4 [.ref 8, .int p1, .int v2, .int v3] [] σ o :=
  xloop_snd (X := fun s => xX xT xLn d 75 4 [.ref 8, .int p1, .int s.1, .int s.2.1] [] s.2.2 o) (Y := fun e' => ∀ (z1 z3 : Value), xX xT xLn d 75 26 [.ref 8, z1, .int e'.1, z3] [] e'.2 o) (fun s q hs hB hE => TB_X8_leaveQueue_4 p1 s.1 s.2.1 s.2.2 hd hs hB hE) _ _ _ h hE
def F_X8_leaveQueue (a : Int32) (σ : xM) : Option (xM) :=
  xbd (L_X8_leaveQueue_4 a 0 0 σ) fun e7 =>
  xlet (xup e7.2 8 1 e7.1) fun σ8 =>
  some σ8
set_option maxHeartbeats 1000000 in
set_option maxRecDepth 20000 in
theorem T_X8_leaveQueue (a : Int32) (σ : xM) {d : Nat} {q : xM} (hd : 0 ≤ d) (h : F_X8_leaveQueue a σ = some q) : xR xT xLn d 75 [.ref 8, .int a] σ (none, q) := by
  unfold F_X8_leaveQueue at h
  show xX xT xLn d 75 0 [.ref 8, .int a, .null, .null] [] σ _
  refine xX_blk (w := xw_75) eT_75 4 0 (ls' := [.ref 8, .int a, .int 0, .int 0]) (st' := []) (σ' := σ) rfl ?_
  obtain ⟨e7, he7, h⟩ := xbd_inv h
  refine TL_X8_leaveQueue_4 a 0 0 σ (by omega) he7 (fun z1 z3 => ?_)
  refine xX_blk (w := xw_75) eT_75 3 26 (ls' := [.ref 8, .null, .int e7.1, .null]) (st' := [.int e7.1, .ref 8]) (σ' := e7.2) rfl ?_
  refine xX_blk (w := xw_75) eT_75 1 29 (ls' := [.ref 8, .null, .int e7.1, .null]) (st' := []) (σ' := xup e7.2 8 1 e7.1) rfl ?_
  obtain ⟨σ8, eσ8, h⟩ := xlet_inv h
  rw [← eσ8]
  obtain rfl := Option.some.inj h
  exact xX_ret (w := xw_75) (i := 30) eT_75 rfl rfl
def F_X8_turnOff (a : Int32) (σ : xM) : Option (xM) :=
  xgd (xin a 5) (
  xlet (xup σ 12 a.toNatClampNeg 2) fun σ2 =>
  xgd (xin a 5) (
  xlet (xup σ2 11 a.toNatClampNeg 0) fun σ4 =>
  xbd (F_X8_leaveQueue a σ4) fun r5 =>
  some r5))
set_option maxHeartbeats 1000000 in
set_option maxRecDepth 20000 in
theorem T_X8_turnOff (a : Int32) (σ : xM) {d : Nat} {q : xM} (hd : 1 ≤ d) (h : F_X8_turnOff a σ = some q) : xR xT xLn d 74 [.ref 8, .int a] σ (none, q) := by
  unfold F_X8_turnOff at h
  show xX xT xLn d 74 0 [.ref 8, .int a] [] σ _
  refine xX_blk (w := xw_74) eT_74 4 0 (ls' := [.ref 8, .int a]) (st' := [.int 2, .int a, .ref 12]) (σ' := σ) rfl ?_
  obtain ⟨hi1, h⟩ := xgd_inv h
  refine xX_one (w := xw_74) (i := 4) (ls' := [.ref 8, .int a]) (st' := []) (σ' := xup σ 12 a.toNatClampNeg 2) eT_74 rfl (e_iast xs_12 hi1) ?_
  obtain ⟨σ2, eσ2, h⟩ := xlet_inv h
  rw [← eσ2]
  refine xX_blk (w := xw_74) eT_74 4 5 (ls' := [.ref 8, .int a]) (st' := [.int 0, .int a, .ref 11]) (σ' := σ2) rfl ?_
  obtain ⟨hi3, h⟩ := xgd_inv h
  refine xX_one (w := xw_74) (i := 9) (ls' := [.ref 8, .int a]) (st' := []) (σ' := xup σ2 11 a.toNatClampNeg 0) eT_74 rfl (e_iast xs_11 hi3) ?_
  obtain ⟨σ4, eσ4, h⟩ := xlet_inv h
  rw [← eσ4]
  refine xX_blk (w := xw_74) eT_74 2 10 (ls' := [.ref 8, .int a]) (st' := [.int a, .ref 8]) (σ' := σ4) rfl ?_
  obtain ⟨r5, hr5, h⟩ := xbd_inv h
  refine xX_c0 (w := xw_74) (i := 12) (ls := [.ref 8, .int a]) (rest := []) eT_74 rfl (by omega) rfl rfl rfl (T_X8_leaveQueue a σ4 (by omega) hr5) ?_
  obtain rfl := Option.some.inj h
  exact xX_ret (w := xw_74) (i := 13) eT_74 rfl rfl
def F_X0_switchSite (a : Int32) (σ : xM) : Option (Int32 × xM) :=
  xbd (F_X8_has a σ) fun r1 =>
  if r1 = 0 then
    some ((-2), σ)
  else
    xgd (xin a 5) (
    if (σ 12 a.toNatClampNeg) = 2 then
      xbd (F_X8_turnOn a σ) fun r5 =>
      xgd (xin a 5) (
      some ((r5 12 a.toNatClampNeg), r5))
    else
      xbd (F_X8_turnOff a σ) fun r7 =>
      xgd (xin a 5) (
      some ((r7 12 a.toNatClampNeg), r7)))
set_option maxHeartbeats 1000000 in
set_option maxRecDepth 20000 in
theorem T_X0_switchSite (a : Int32) (σ : xM) {d : Nat} {q : Int32 × xM} (hd : 2 ≤ d) (h : F_X0_switchSite a σ = some q) : xR xT xLn d 9 [.ref 136, .int a] σ (some (.int q.1), q.2) := by
  unfold F_X0_switchSite at h
  show xX xT xLn d 9 0 [.ref 136, .int a] [] σ _
  refine xX_blk (w := xw_9) eT_9 4 0 (ls' := [.ref 136, .int a]) (st' := [.int a, .ref 8]) (σ' := σ) rfl ?_
  obtain ⟨r1, hr1, h⟩ := xbd_inv h
  refine xX_c1 (w := xw_9) (i := 4) (ls := [.ref 136, .int a]) (rest := []) eT_9 rfl (by omega) rfl rfl rfl (T_X8_has a σ (by omega) hr1) ?_
  refine xX_ite (c := r1 = 0) (w := xw_9) (i := 5) (a := 6) (b := 8) (st' := []) eT_9 rfl rfl (fun hc2 => ?_) (fun hc2 => ?_)
  · rw [if_pos hc2] at h
    refine xX_blk (w := xw_9) eT_9 1 6 (ls' := [.ref 136, .int a]) (st' := [.int (-2)]) (σ' := σ) rfl ?_
    obtain rfl := Option.some.inj h
    exact xX_ret (w := xw_9) (i := 7) eT_9 rfl rfl
  · rw [if_neg hc2] at h
    refine xX_blk (w := xw_9) eT_9 5 8 (ls' := [.ref 136, .int a]) (st' := [.int a, .ref 12]) (σ' := σ) rfl ?_
    obtain ⟨hi3, h⟩ := xgd_inv h
    refine xX_one (w := xw_9) (i := 13) (ls' := [.ref 136, .int a]) (st' := [.int (σ 12 a.toNatClampNeg)]) (σ' := σ) eT_9 rfl (e_iald xs_12 hi3) ?_
    refine xX_blk (w := xw_9) eT_9 1 14 (ls' := [.ref 136, .int a]) (st' := [.int 2, .int (σ 12 a.toNatClampNeg)]) (σ' := σ) rfl ?_
    refine xX_ite (c := (σ 12 a.toNatClampNeg) = 2) (w := xw_9) (i := 15) (a := 16) (b := 22) (st' := []) eT_9 rfl rfl (fun hc4 => ?_) (fun hc4 => ?_)
    · rw [if_pos hc4] at h
      refine xX_blk (w := xw_9) eT_9 4 16 (ls' := [.ref 136, .int a]) (st' := [.int a, .ref 8]) (σ' := σ) rfl ?_
      obtain ⟨r5, hr5, h⟩ := xbd_inv h
      refine xX_c0 (w := xw_9) (i := 20) (ls := [.ref 136, .int a]) (rest := []) eT_9 rfl (by omega) rfl rfl rfl (T_X8_turnOn a σ (by omega) hr5) ?_
      refine xX_jmp (w := xw_9) (i := 21) (a := 27) (st' := []) eT_9 rfl rfl ?_
      refine xX_blk (w := xw_9) eT_9 5 27 (ls' := [.ref 136, .int a]) (st' := [.int a, .ref 12]) (σ' := r5) rfl ?_
      obtain ⟨hi6, h⟩ := xgd_inv h
      refine xX_one (w := xw_9) (i := 32) (ls' := [.ref 136, .int a]) (st' := [.int (r5 12 a.toNatClampNeg)]) (σ' := r5) eT_9 rfl (e_iald xs_12 hi6) ?_
      obtain rfl := Option.some.inj h
      exact xX_ret (w := xw_9) (i := 33) eT_9 rfl rfl
    · rw [if_neg hc4] at h
      refine xX_blk (w := xw_9) eT_9 4 22 (ls' := [.ref 136, .int a]) (st' := [.int a, .ref 8]) (σ' := σ) rfl ?_
      obtain ⟨r7, hr7, h⟩ := xbd_inv h
      refine xX_c0 (w := xw_9) (i := 26) (ls := [.ref 136, .int a]) (rest := []) eT_9 rfl (by omega) rfl rfl rfl (T_X8_turnOff a σ (by omega) hr7) ?_
      refine xX_blk (w := xw_9) eT_9 5 27 (ls' := [.ref 136, .int a]) (st' := [.int a, .ref 12]) (σ' := r7) rfl ?_
      obtain ⟨hi8, h⟩ := xgd_inv h
      refine xX_one (w := xw_9) (i := 32) (ls' := [.ref 136, .int a]) (st' := [.int (r7 12 a.toNatClampNeg)]) (σ' := r7) eT_9 rfl (e_iald xs_12 hi8) ?_
      obtain rfl := Option.some.inj h
      exact xX_ret (w := xw_9) (i := 33) eT_9 rfl rfl
def F_X10_cuts (a : Int32) (σ : xM) : Option (Int32 × xM) :=
  xbd (F_X10_mark σ) fun r1 =>
  xbd (F_X0_switchSite a r1) fun r2 =>
  xbd (F_X10_settled r2.1 r2.2) fun r3 =>
  some (r3.1, r3.2)
set_option maxHeartbeats 1000000 in
set_option maxRecDepth 20000 in
theorem T_X10_cuts (a : Int32) (σ : xM) {d : Nat} {q : Int32 × xM} (hd : 4 ≤ d) (h : F_X10_cuts a σ = some q) : xR xT xLn d 86 [.ref 0, .int a] σ (some (.int q.1), q.2) := by
  unfold F_X10_cuts at h
  show xX xT xLn d 86 0 [.ref 0, .int a] [] σ _
  refine xX_blk (w := xw_86) eT_86 1 0 (ls' := [.ref 0, .int a]) (st' := [.ref 0]) (σ' := σ) rfl ?_
  obtain ⟨r1, hr1, h⟩ := xbd_inv h
  refine xX_c0 (w := xw_86) (i := 1) (ls := [.ref 0, .int a]) (rest := []) eT_86 rfl (by omega) rfl rfl rfl (T_X10_mark σ (by omega) hr1) ?_
  refine xX_blk (w := xw_86) eT_86 4 2 (ls' := [.ref 0, .int a]) (st' := [.int a, .ref 136, .ref 0]) (σ' := r1) rfl ?_
  obtain ⟨r2, hr2, h⟩ := xbd_inv h
  refine xX_c1 (w := xw_86) (i := 6) (ls := [.ref 0, .int a]) (rest := [.ref 0]) eT_86 rfl (by omega) rfl rfl rfl (T_X0_switchSite a r1 (by omega) hr2) ?_
  obtain ⟨r3, hr3, h⟩ := xbd_inv h
  refine xX_c1 (w := xw_86) (i := 7) (ls := [.ref 0, .int a]) (rest := []) eT_86 rfl (by omega) rfl rfl rfl (T_X10_settled r2.1 r2.2 (by omega) hr3) ?_
  obtain rfl := Option.some.inj h
  exact xX_ret (w := xw_86) (i := 8) eT_86 rfl rfl
def F_X10_far (a : Int32) (b : Int32) (σ : xM) : Option (Int32 × xM) :=
  xbd (F_X1_has a σ) fun r1 =>
  if r1 = 0 then
    xbd (F_X10_counted (-2) σ) fun r3 =>
    some (r3.1, r3.2)
  else
    xbd (F_X1_has b σ) fun r4 =>
    if r4 = 0 then
      xbd (F_X10_counted (-2) σ) fun r6 =>
      some (r6.1, r6.2)
    else
      xbd (F_X1_distance a b σ) fun r7 =>
      some (r7, σ)
set_option maxHeartbeats 1000000 in
set_option maxRecDepth 20000 in
theorem T_X10_far (a : Int32) (b : Int32) (σ : xM) {d : Nat} {q : Int32 × xM} (hd : 2 ≤ d) (h : F_X10_far a b σ = some q) : xR xT xLn d 87 [.ref 0, .int a, .int b] σ (some (.int q.1), q.2) := by
  unfold F_X10_far at h
  show xX xT xLn d 87 0 [.ref 0, .int a, .int b] [] σ _
  refine xX_blk (w := xw_87) eT_87 4 0 (ls' := [.ref 0, .int a, .int b]) (st' := [.int a, .ref 2]) (σ' := σ) rfl ?_
  obtain ⟨r1, hr1, h⟩ := xbd_inv h
  refine xX_c1 (w := xw_87) (i := 4) (ls := [.ref 0, .int a, .int b]) (rest := []) eT_87 rfl (by omega) rfl rfl rfl (T_X1_has a σ (by omega) hr1) ?_
  refine xX_ite (c := r1 = 0) (w := xw_87) (i := 5) (a := 12) (b := 6) (st' := []) eT_87 rfl rfl (fun hc2 => ?_) (fun hc2 => ?_)
  · rw [if_pos hc2] at h
    refine xX_blk (w := xw_87) eT_87 2 12 (ls' := [.ref 0, .int a, .int b]) (st' := [.int (-2), .ref 0]) (σ' := σ) rfl ?_
    obtain ⟨r3, hr3, h⟩ := xbd_inv h
    refine xX_c1 (w := xw_87) (i := 14) (ls := [.ref 0, .int a, .int b]) (rest := []) eT_87 rfl (by omega) rfl rfl rfl (T_X10_counted (-2) σ (by omega) hr3) ?_
    obtain rfl := Option.some.inj h
    exact xX_ret (w := xw_87) (i := 15) eT_87 rfl rfl
  · rw [if_neg hc2] at h
    refine xX_blk (w := xw_87) eT_87 4 6 (ls' := [.ref 0, .int a, .int b]) (st' := [.int b, .ref 2]) (σ' := σ) rfl ?_
    obtain ⟨r4, hr4, h⟩ := xbd_inv h
    refine xX_c1 (w := xw_87) (i := 10) (ls := [.ref 0, .int a, .int b]) (rest := []) eT_87 rfl (by omega) rfl rfl rfl (T_X1_has b σ (by omega) hr4) ?_
    refine xX_ite (c := r4 = 0) (w := xw_87) (i := 11) (a := 12) (b := 16) (st' := []) eT_87 rfl rfl (fun hc5 => ?_) (fun hc5 => ?_)
    · rw [if_pos hc5] at h
      refine xX_blk (w := xw_87) eT_87 2 12 (ls' := [.ref 0, .int a, .int b]) (st' := [.int (-2), .ref 0]) (σ' := σ) rfl ?_
      obtain ⟨r6, hr6, h⟩ := xbd_inv h
      refine xX_c1 (w := xw_87) (i := 14) (ls := [.ref 0, .int a, .int b]) (rest := []) eT_87 rfl (by omega) rfl rfl rfl (T_X10_counted (-2) σ (by omega) hr6) ?_
      obtain rfl := Option.some.inj h
      exact xX_ret (w := xw_87) (i := 15) eT_87 rfl rfl
    · rw [if_neg hc5] at h
      refine xX_blk (w := xw_87) eT_87 5 16 (ls' := [.ref 0, .int a, .int b]) (st' := [.int b, .int a, .ref 2]) (σ' := σ) rfl ?_
      obtain ⟨r7, hr7, h⟩ := xbd_inv h
      refine xX_c1 (w := xw_87) (i := 21) (ls := [.ref 0, .int a, .int b]) (rest := []) eT_87 rfl (by omega) rfl rfl rfl (T_X1_distance a b σ (by omega) hr7) ?_
      obtain rfl := Option.some.inj h
      exact xX_ret (w := xw_87) (i := 22) eT_87 rfl rfl
def F_X4_presentApparent (a : Int32) (b : Int32) (σ : xM) : Option (Int32) :=
  xgd (xin b 5) (
  xbd (F_X1_distance a (σ 9 b.toNatClampNeg) σ) fun r2 =>
  if r2 = (-1) then
    some (-1)
  else
    xgd (xin b 5) (
    if (σ 12 b.toNatClampNeg) = 2 then
      some (-1)
    else
      xbd (F_X4_stepLengthFrom a σ) fun r6 =>
      xgd (xin b 5) (
      some (r2 + (r6 * (σ 11 b.toNatClampNeg))))))
set_option maxHeartbeats 1000000 in
set_option maxRecDepth 20000 in
theorem T_X4_presentApparent (a : Int32) (b : Int32) (σ : xM) {d : Nat} {q : Int32} (hd : 1 ≤ d) (h : F_X4_presentApparent a b σ = some q) : xR xT xLn d 42 [.ref 129, .int a, .int b] σ (some (.int q), σ) := by
  unfold F_X4_presentApparent at h
  show xX xT xLn d 42 0 [.ref 129, .int a, .int b, .null] [] σ _
  refine xX_blk (w := xw_42) eT_42 9 0 (ls' := [.ref 129, .int a, .int b, .null]) (st' := [.int b, .ref 9, .int a, .ref 2]) (σ' := σ) rfl ?_
  obtain ⟨hi1, h⟩ := xgd_inv h
  refine xX_one (w := xw_42) (i := 9) (ls' := [.ref 129, .int a, .int b, .null]) (st' := [.int (σ 9 b.toNatClampNeg), .int a, .ref 2]) (σ' := σ) eT_42 rfl (e_iald xs_9 hi1) ?_
  obtain ⟨r2, hr2, h⟩ := xbd_inv h
  refine xX_c1 (w := xw_42) (i := 10) (ls := [.ref 129, .int a, .int b, .null]) (rest := []) eT_42 rfl (by omega) rfl rfl rfl (T_X1_distance a (σ 9 b.toNatClampNeg) σ (by omega) hr2) ?_
  refine xX_blk (w := xw_42) eT_42 3 11 (ls' := [.ref 129, .int a, .int b, .int r2]) (st' := [.int (-1), .int r2]) (σ' := σ) rfl ?_
  refine xX_ite (c := r2 = (-1)) (w := xw_42) (i := 14) (a := 23) (b := 15) (st' := []) eT_42 rfl rfl (fun hc3 => ?_) (fun hc3 => ?_)
  · rw [if_pos hc3] at h
    refine xX_blk (w := xw_42) eT_42 1 23 (ls' := [.ref 129, .int a, .int b, .int r2]) (st' := [.int (-1)]) (σ' := σ) rfl ?_
    obtain rfl := Option.some.inj h
    exact xX_ret (w := xw_42) (i := 24) eT_42 rfl rfl
  · rw [if_neg hc3] at h
    refine xX_blk (w := xw_42) eT_42 5 15 (ls' := [.ref 129, .int a, .int b, .int r2]) (st' := [.int b, .ref 12]) (σ' := σ) rfl ?_
    obtain ⟨hi4, h⟩ := xgd_inv h
    refine xX_one (w := xw_42) (i := 20) (ls' := [.ref 129, .int a, .int b, .int r2]) (st' := [.int (σ 12 b.toNatClampNeg)]) (σ' := σ) eT_42 rfl (e_iald xs_12 hi4) ?_
    refine xX_blk (w := xw_42) eT_42 1 21 (ls' := [.ref 129, .int a, .int b, .int r2]) (st' := [.int 2, .int (σ 12 b.toNatClampNeg)]) (σ' := σ) rfl ?_
    refine xX_ite (c := (σ 12 b.toNatClampNeg) = 2) (w := xw_42) (i := 22) (a := 23) (b := 25) (st' := []) eT_42 rfl rfl (fun hc5 => ?_) (fun hc5 => ?_)
    · rw [if_pos hc5] at h
      refine xX_blk (w := xw_42) eT_42 1 23 (ls' := [.ref 129, .int a, .int b, .int r2]) (st' := [.int (-1)]) (σ' := σ) rfl ?_
      obtain rfl := Option.some.inj h
      exact xX_ret (w := xw_42) (i := 24) eT_42 rfl rfl
    · rw [if_neg hc5] at h
      refine xX_blk (w := xw_42) eT_42 3 25 (ls' := [.ref 129, .int a, .int b, .int r2]) (st' := [.int a, .ref 129, .int r2]) (σ' := σ) rfl ?_
      obtain ⟨r6, hr6, h⟩ := xbd_inv h
      refine xX_c1 (w := xw_42) (i := 28) (ls := [.ref 129, .int a, .int b, .int r2]) (rest := [.int r2]) eT_42 rfl (by omega) rfl rfl rfl (T_X4_stepLengthFrom a σ (by omega) hr6) ?_
      refine xX_blk (w := xw_42) eT_42 5 29 (ls' := [.ref 129, .int a, .int b, .int r2]) (st' := [.int b, .ref 11, .int r6, .int r2]) (σ' := σ) rfl ?_
      obtain ⟨hi7, h⟩ := xgd_inv h
      refine xX_one (w := xw_42) (i := 34) (ls' := [.ref 129, .int a, .int b, .int r2]) (st' := [.int (σ 11 b.toNatClampNeg), .int r6, .int r2]) (σ' := σ) eT_42 rfl (e_iald xs_11 hi7) ?_
      refine xX_blk (w := xw_42) eT_42 2 35 (ls' := [.ref 129, .int a, .int b, .int r2]) (st' := [.int (r2 + (r6 * (σ 11 b.toNatClampNeg)))]) (σ' := σ) rfl ?_
      obtain rfl := Option.some.inj h
      exact xX_ret (w := xw_42) (i := 37) eT_42 rfl rfl
def B_X4_sitesInReach_4 (p1 : Int32) (v2 : Int32) (v3 : Int32) (σ : xM) : Option ((Int32 × Int32) ⊕ ((Int32))) :=
  if (σ 8 0) ≤ v3 then
    some (.inr v2)
  else
    xbd (F_X4_presentApparent p1 v3 σ) fun r2 =>
    if r2 = (-1) then
      some (.inl (v2, (v3 + 1)))
    else
      some (.inl ((v2 + 1), (v3 + 1)))
def L_X4_sitesInReach_4 (p1 : Int32) (v2 : Int32) (v3 : Int32) (σ : xM) : Option ((Int32)) := xloop (fun s : Int32 × Int32 => B_X4_sitesInReach_4 p1 s.1 s.2 σ) 6000 (v2, v3)
set_option maxHeartbeats 1000000 in
set_option maxRecDepth 20000 in
theorem TB_X4_sitesInReach_4 {d : Nat} {o : Option Value × xM} (p1 : Int32) (v2 : Int32) (v3 : Int32) (σ : xM) {q : (Int32 × Int32) ⊕ ((Int32))} (hd : 2 ≤ d) (h : B_X4_sitesInReach_4 p1 v2 v3 σ = some q) (hB : ∀ s', q = .inl s' → xX xT xLn d 43 4 [.ref 129, .int p1, .int s'.1, .int s'.2] [] σ o) (hE : ∀ e', q = .inr e' → ∀ (z0 z1 z3 : Value), xX xT xLn d 43 20 [z0, z1, .int e', z3] [] σ o) : xX xT xLn d 43 4 [.ref 129, .int p1, .int v2, .int v3] [] σ o := by
  unfold B_X4_sitesInReach_4 at h
  refine xX_blk (w := xw_43) eT_43 6 4 (ls' := [.ref 129, .int p1, .int v2, .int v3]) (st' := [.int (σ 8 0), .int v3]) (σ' := σ) rfl ?_
  refine xX_ite (c := (σ 8 0) ≤ v3) (w := xw_43) (i := 10) (a := 20) (b := 11) (st' := []) eT_43 rfl rfl (fun hc1 => ?_) (fun hc1 => ?_)
  · rw [if_pos hc1] at h
    obtain rfl := Option.some.inj h
    exact hE v2 rfl _ _ _
  · rw [if_neg hc1] at h
    refine xX_blk (w := xw_43) eT_43 3 11 (ls' := [.ref 129, .int p1, .int v2, .int v3]) (st' := [.int v3, .int p1, .ref 129]) (σ' := σ) rfl ?_
    obtain ⟨r2, hr2, h⟩ := xbd_inv h
    refine xX_c1 (w := xw_43) (i := 14) (ls := [.ref 129, .int p1, .int v2, .int v3]) (rest := []) eT_43 rfl (by omega) rfl rfl rfl (T_X4_presentApparent p1 v3 σ (by omega) hr2) ?_
    refine xX_blk (w := xw_43) eT_43 1 15 (ls' := [.ref 129, .int p1, .int v2, .int v3]) (st' := [.int (-1), .int r2]) (σ' := σ) rfl ?_
    refine xX_ite (c := r2 = (-1)) (w := xw_43) (i := 16) (a := 18) (b := 17) (st' := []) eT_43 rfl rfl (fun hc3 => ?_) (fun hc3 => ?_)
    · rw [if_pos hc3] at h
      refine xX_blk (w := xw_43) eT_43 1 18 (ls' := [.ref 129, .int p1, .int v2, .int (v3 + 1)]) (st' := []) (σ' := σ) rfl ?_
      refine xX_jmp (w := xw_43) (i := 19) (a := 4) (st' := []) eT_43 rfl rfl ?_
      obtain rfl := Option.some.inj h
      exact hB (v2, (v3 + 1)) rfl
    · rw [if_neg hc3] at h
      refine xX_blk (w := xw_43) eT_43 2 17 (ls' := [.ref 129, .int p1, .int (v2 + 1), .int (v3 + 1)]) (st' := []) (σ' := σ) rfl ?_
      refine xX_jmp (w := xw_43) (i := 19) (a := 4) (st' := []) eT_43 rfl rfl ?_
      obtain rfl := Option.some.inj h
      exact hB ((v2 + 1), (v3 + 1)) rfl
set_option maxHeartbeats 1000000 in
set_option maxRecDepth 20000 in
theorem TL_X4_sitesInReach_4 {d : Nat} {o : Option Value × xM} (p1 : Int32) (v2 : Int32) (v3 : Int32) (σ : xM) {e : (Int32)} (hd : 2 ≤ d) (h : L_X4_sitesInReach_4 p1 v2 v3 σ = some e) (hE : ∀ (z0 z1 z3 : Value), xX xT xLn d 43 20 [z0, z1, .int e, z3] [] σ o) : xX xT xLn d 43 4 [.ref 129, .int p1, .int v2, .int v3] [] σ o :=
  xloop_snd (X := fun s => xX xT xLn d 43 4 [.ref 129, .int p1, .int s.1, .int s.2] [] σ o) (Y := fun e' => ∀ (z0 z1 z3 : Value), xX xT xLn d 43 20 [z0, z1, .int e', z3] [] σ o) (fun s q hs hB hE => TB_X4_sitesInReach_4 p1 s.1 s.2 σ hd hs hB hE) _ _ _ h hE
def F_X4_sitesInReach (a : Int32) (σ : xM) : Option (Int32) :=
  xbd (L_X4_sitesInReach_4 a 0 0 σ) fun e4 =>
  some e4
set_option maxHeartbeats 1000000 in
set_option maxRecDepth 20000 in
theorem T_X4_sitesInReach (a : Int32) (σ : xM) {d : Nat} {q : Int32} (hd : 2 ≤ d) (h : F_X4_sitesInReach a σ = some q) : xR xT xLn d 43 [.ref 129, .int a] σ (some (.int q), σ) := by
  unfold F_X4_sitesInReach at h
  show xX xT xLn d 43 0 [.ref 129, .int a, .null, .null] [] σ _
  refine xX_blk (w := xw_43) eT_43 4 0 (ls' := [.ref 129, .int a, .int 0, .int 0]) (st' := []) (σ' := σ) rfl ?_
  obtain ⟨e4, he4, h⟩ := xbd_inv h
  refine TL_X4_sitesInReach_4 a 0 0 σ (by omega) he4 (fun z0 z1 z3 => ?_)
  refine xX_blk (w := xw_43) eT_43 2 20 (ls' := [.null, .null, .int e4, .null]) (st' := [.int e4]) (σ' := σ) rfl ?_
  obtain rfl := Option.some.inj h
  exact xX_ret (w := xw_43) (i := 22) eT_43 rfl rfl
