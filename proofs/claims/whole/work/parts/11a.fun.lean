def F_X1_copyFrom_22_2 (σ : xM) : Option (xM) :=
  xlet (xup σ 22 0 (σ 2 0)) fun σ1 =>
  xlet (xset σ1 23 (va_cpy (σ1 3) (σ1 23) 0 0 8)) fun σ2 =>
  xlet (xset σ2 24 (va_cpy (σ2 4) (σ2 24) 0 0 8)) fun σ3 =>
  xlet (xset σ3 25 (va_cpy (σ3 5) (σ3 25) 0 0 8)) fun σ4 =>
  xlet (xset σ4 26 (va_cpy (σ4 6) (σ4 26) 0 0 64)) fun σ5 =>
  xlet (xset σ5 27 (va_cpy (σ5 7) (σ5 27) 0 0 64)) fun σ6 =>
  some σ6
set_option maxHeartbeats 1000000 in
set_option maxRecDepth 20000 in
theorem T_X1_copyFrom_22_2 (σ : xM) {d : Nat} {q : xM} (hd : 0 ≤ d) (h : F_X1_copyFrom_22_2 σ = some q) : xR xT xLn d 25 [.ref 22, .ref 2] σ (none, q) := by
  unfold F_X1_copyFrom_22_2 at h
  show xX xT xLn d 25 0 [.ref 22, .ref 2] [] σ _
  refine xX_blk (w := xw_25) eT_25 3 0 (ls' := [.ref 22, .ref 2]) (st' := [.int (σ 2 0), .ref 22]) (σ' := σ) rfl ?_
  refine xX_blk (w := xw_25) eT_25 1 3 (ls' := [.ref 22, .ref 2]) (st' := []) (σ' := xup σ 22 0 (σ 2 0)) rfl ?_
  obtain ⟨σ1, eσ1, h⟩ := xlet_inv h
  rw [← eσ1]
  refine xX_blk (w := xw_25) eT_25 7 4 (ls' := [.ref 22, .ref 2]) (st' := [.int 8, .int 0, .ref 23, .int 0, .ref 3]) (σ' := σ1) rfl ?_
  refine xX_one (w := xw_25) (i := 11) (ls' := [.ref 22, .ref 2]) (st' := []) (σ' := xset σ1 23 (va_cpy (σ1 3) (σ1 23) 0 0 8)) eT_25 rfl (e_copy xs_3 xs_23 (by decide) (by decide) (Nat.le_of_ble_eq_true rfl)) ?_
  obtain ⟨σ2, eσ2, h⟩ := xlet_inv h
  rw [← eσ2]
  refine xX_blk (w := xw_25) eT_25 7 12 (ls' := [.ref 22, .ref 2]) (st' := [.int 8, .int 0, .ref 24, .int 0, .ref 4]) (σ' := σ2) rfl ?_
  refine xX_one (w := xw_25) (i := 19) (ls' := [.ref 22, .ref 2]) (st' := []) (σ' := xset σ2 24 (va_cpy (σ2 4) (σ2 24) 0 0 8)) eT_25 rfl (e_copy xs_4 xs_24 (by decide) (by decide) (Nat.le_of_ble_eq_true rfl)) ?_
  obtain ⟨σ3, eσ3, h⟩ := xlet_inv h
  rw [← eσ3]
  refine xX_blk (w := xw_25) eT_25 7 20 (ls' := [.ref 22, .ref 2]) (st' := [.int 8, .int 0, .ref 25, .int 0, .ref 5]) (σ' := σ3) rfl ?_
  refine xX_one (w := xw_25) (i := 27) (ls' := [.ref 22, .ref 2]) (st' := []) (σ' := xset σ3 25 (va_cpy (σ3 5) (σ3 25) 0 0 8)) eT_25 rfl (e_copy xs_5 xs_25 (by decide) (by decide) (Nat.le_of_ble_eq_true rfl)) ?_
  obtain ⟨σ4, eσ4, h⟩ := xlet_inv h
  rw [← eσ4]
  refine xX_blk (w := xw_25) eT_25 7 28 (ls' := [.ref 22, .ref 2]) (st' := [.int 64, .int 0, .ref 26, .int 0, .ref 6]) (σ' := σ4) rfl ?_
  refine xX_one (w := xw_25) (i := 35) (ls' := [.ref 22, .ref 2]) (st' := []) (σ' := xset σ4 26 (va_cpy (σ4 6) (σ4 26) 0 0 64)) eT_25 rfl (e_copy xs_6 xs_26 (by decide) (by decide) (Nat.le_of_ble_eq_true rfl)) ?_
  obtain ⟨σ5, eσ5, h⟩ := xlet_inv h
  rw [← eσ5]
  refine xX_blk (w := xw_25) eT_25 7 36 (ls' := [.ref 22, .ref 2]) (st' := [.int 64, .int 0, .ref 27, .int 0, .ref 7]) (σ' := σ5) rfl ?_
  refine xX_one (w := xw_25) (i := 43) (ls' := [.ref 22, .ref 2]) (st' := []) (σ' := xset σ5 27 (va_cpy (σ5 7) (σ5 27) 0 0 64)) eT_25 rfl (e_copy xs_7 xs_27 (by decide) (by decide) (Nat.le_of_ble_eq_true rfl)) ?_
  obtain ⟨σ6, eσ6, h⟩ := xlet_inv h
  rw [← eσ6]
  obtain rfl := Option.some.inj h
  exact xX_ret (w := xw_25) (i := 44) eT_25 rfl rfl
def F_X8_copyFrom_28_8 (σ : xM) : Option (xM) :=
  xlet (xup σ 28 0 (σ 8 0)) fun σ1 =>
  xlet (xup σ1 28 1 (σ1 8 1)) fun σ2 =>
  xlet (xset σ2 29 (va_cpy (σ2 9) (σ2 29) 0 0 5)) fun σ3 =>
  xlet (xset σ3 30 (va_cpy (σ3 10) (σ3 30) 0 0 5)) fun σ4 =>
  xlet (xset σ4 31 (va_cpy (σ4 11) (σ4 31) 0 0 5)) fun σ5 =>
  xlet (xset σ5 32 (va_cpy (σ5 12) (σ5 32) 0 0 5)) fun σ6 =>
  xlet (xset σ6 33 (va_cpy (σ6 13) (σ6 33) 0 0 5)) fun σ7 =>
  some σ7
set_option maxHeartbeats 1000000 in
set_option maxRecDepth 20000 in
theorem T_X8_copyFrom_28_8 (σ : xM) {d : Nat} {q : xM} (hd : 0 ≤ d) (h : F_X8_copyFrom_28_8 σ = some q) : xR xT xLn d 76 [.ref 28, .ref 8] σ (none, q) := by
  unfold F_X8_copyFrom_28_8 at h
  show xX xT xLn d 76 0 [.ref 28, .ref 8] [] σ _
  refine xX_blk (w := xw_76) eT_76 3 0 (ls' := [.ref 28, .ref 8]) (st' := [.int (σ 8 0), .ref 28]) (σ' := σ) rfl ?_
  refine xX_blk (w := xw_76) eT_76 1 3 (ls' := [.ref 28, .ref 8]) (st' := []) (σ' := xup σ 28 0 (σ 8 0)) rfl ?_
  obtain ⟨σ1, eσ1, h⟩ := xlet_inv h
  rw [← eσ1]
  refine xX_blk (w := xw_76) eT_76 3 4 (ls' := [.ref 28, .ref 8]) (st' := [.int (σ1 8 1), .ref 28]) (σ' := σ1) rfl ?_
  refine xX_blk (w := xw_76) eT_76 1 7 (ls' := [.ref 28, .ref 8]) (st' := []) (σ' := xup σ1 28 1 (σ1 8 1)) rfl ?_
  obtain ⟨σ2, eσ2, h⟩ := xlet_inv h
  rw [← eσ2]
  refine xX_blk (w := xw_76) eT_76 7 8 (ls' := [.ref 28, .ref 8]) (st' := [.int 5, .int 0, .ref 29, .int 0, .ref 9]) (σ' := σ2) rfl ?_
  refine xX_one (w := xw_76) (i := 15) (ls' := [.ref 28, .ref 8]) (st' := []) (σ' := xset σ2 29 (va_cpy (σ2 9) (σ2 29) 0 0 5)) eT_76 rfl (e_copy xs_9 xs_29 (by decide) (by decide) (Nat.le_of_ble_eq_true rfl)) ?_
  obtain ⟨σ3, eσ3, h⟩ := xlet_inv h
  rw [← eσ3]
  refine xX_blk (w := xw_76) eT_76 7 16 (ls' := [.ref 28, .ref 8]) (st' := [.int 5, .int 0, .ref 30, .int 0, .ref 10]) (σ' := σ3) rfl ?_
  refine xX_one (w := xw_76) (i := 23) (ls' := [.ref 28, .ref 8]) (st' := []) (σ' := xset σ3 30 (va_cpy (σ3 10) (σ3 30) 0 0 5)) eT_76 rfl (e_copy xs_10 xs_30 (by decide) (by decide) (Nat.le_of_ble_eq_true rfl)) ?_
  obtain ⟨σ4, eσ4, h⟩ := xlet_inv h
  rw [← eσ4]
  refine xX_blk (w := xw_76) eT_76 7 24 (ls' := [.ref 28, .ref 8]) (st' := [.int 5, .int 0, .ref 31, .int 0, .ref 11]) (σ' := σ4) rfl ?_
  refine xX_one (w := xw_76) (i := 31) (ls' := [.ref 28, .ref 8]) (st' := []) (σ' := xset σ4 31 (va_cpy (σ4 11) (σ4 31) 0 0 5)) eT_76 rfl (e_copy xs_11 xs_31 (by decide) (by decide) (Nat.le_of_ble_eq_true rfl)) ?_
  obtain ⟨σ5, eσ5, h⟩ := xlet_inv h
  rw [← eσ5]
  refine xX_blk (w := xw_76) eT_76 7 32 (ls' := [.ref 28, .ref 8]) (st' := [.int 5, .int 0, .ref 32, .int 0, .ref 12]) (σ' := σ5) rfl ?_
  refine xX_one (w := xw_76) (i := 39) (ls' := [.ref 28, .ref 8]) (st' := []) (σ' := xset σ5 32 (va_cpy (σ5 12) (σ5 32) 0 0 5)) eT_76 rfl (e_copy xs_12 xs_32 (by decide) (by decide) (Nat.le_of_ble_eq_true rfl)) ?_
  obtain ⟨σ6, eσ6, h⟩ := xlet_inv h
  rw [← eσ6]
  refine xX_blk (w := xw_76) eT_76 7 40 (ls' := [.ref 28, .ref 8]) (st' := [.int 5, .int 0, .ref 33, .int 0, .ref 13]) (σ' := σ6) rfl ?_
  refine xX_one (w := xw_76) (i := 47) (ls' := [.ref 28, .ref 8]) (st' := []) (σ' := xset σ6 33 (va_cpy (σ6 13) (σ6 33) 0 0 5)) eT_76 rfl (e_copy xs_13 xs_33 (by decide) (by decide) (Nat.le_of_ble_eq_true rfl)) ?_
  obtain ⟨σ7, eσ7, h⟩ := xlet_inv h
  rw [← eσ7]
  obtain rfl := Option.some.inj h
  exact xX_ret (w := xw_76) (i := 48) eT_76 rfl rfl
def F_X7_copyFrom_34_14 (σ : xM) : Option (xM) :=
  xlet (xup σ 34 0 (σ 14 0)) fun σ1 =>
  xlet (xset σ1 35 (va_cpy (σ1 15) (σ1 35) 0 0 12)) fun σ2 =>
  xlet (xset σ2 36 (va_cpy (σ2 16) (σ2 36) 0 0 12)) fun σ3 =>
  xlet (xset σ3 37 (va_cpy (σ3 17) (σ3 37) 0 0 12)) fun σ4 =>
  xlet (xset σ4 38 (va_cpy (σ4 18) (σ4 38) 0 0 12)) fun σ5 =>
  some σ5
set_option maxHeartbeats 1000000 in
set_option maxRecDepth 20000 in
theorem T_X7_copyFrom_34_14 (σ : xM) {d : Nat} {q : xM} (hd : 0 ≤ d) (h : F_X7_copyFrom_34_14 σ = some q) : xR xT xLn d 67 [.ref 34, .ref 14] σ (none, q) := by
  unfold F_X7_copyFrom_34_14 at h
  show xX xT xLn d 67 0 [.ref 34, .ref 14] [] σ _
  refine xX_blk (w := xw_67) eT_67 3 0 (ls' := [.ref 34, .ref 14]) (st' := [.int (σ 14 0), .ref 34]) (σ' := σ) rfl ?_
  refine xX_blk (w := xw_67) eT_67 1 3 (ls' := [.ref 34, .ref 14]) (st' := []) (σ' := xup σ 34 0 (σ 14 0)) rfl ?_
  obtain ⟨σ1, eσ1, h⟩ := xlet_inv h
  rw [← eσ1]
  refine xX_blk (w := xw_67) eT_67 7 4 (ls' := [.ref 34, .ref 14]) (st' := [.int 12, .int 0, .ref 35, .int 0, .ref 15]) (σ' := σ1) rfl ?_
  refine xX_one (w := xw_67) (i := 11) (ls' := [.ref 34, .ref 14]) (st' := []) (σ' := xset σ1 35 (va_cpy (σ1 15) (σ1 35) 0 0 12)) eT_67 rfl (e_copy xs_15 xs_35 (by decide) (by decide) (Nat.le_of_ble_eq_true rfl)) ?_
  obtain ⟨σ2, eσ2, h⟩ := xlet_inv h
  rw [← eσ2]
  refine xX_blk (w := xw_67) eT_67 7 12 (ls' := [.ref 34, .ref 14]) (st' := [.int 12, .int 0, .ref 36, .int 0, .ref 16]) (σ' := σ2) rfl ?_
  refine xX_one (w := xw_67) (i := 19) (ls' := [.ref 34, .ref 14]) (st' := []) (σ' := xset σ2 36 (va_cpy (σ2 16) (σ2 36) 0 0 12)) eT_67 rfl (e_copy xs_16 xs_36 (by decide) (by decide) (Nat.le_of_ble_eq_true rfl)) ?_
  obtain ⟨σ3, eσ3, h⟩ := xlet_inv h
  rw [← eσ3]
  refine xX_blk (w := xw_67) eT_67 7 20 (ls' := [.ref 34, .ref 14]) (st' := [.int 12, .int 0, .ref 37, .int 0, .ref 17]) (σ' := σ3) rfl ?_
  refine xX_one (w := xw_67) (i := 27) (ls' := [.ref 34, .ref 14]) (st' := []) (σ' := xset σ3 37 (va_cpy (σ3 17) (σ3 37) 0 0 12)) eT_67 rfl (e_copy xs_17 xs_37 (by decide) (by decide) (Nat.le_of_ble_eq_true rfl)) ?_
  obtain ⟨σ4, eσ4, h⟩ := xlet_inv h
  rw [← eσ4]
  refine xX_blk (w := xw_67) eT_67 7 28 (ls' := [.ref 34, .ref 14]) (st' := [.int 12, .int 0, .ref 38, .int 0, .ref 18]) (σ' := σ4) rfl ?_
  refine xX_one (w := xw_67) (i := 35) (ls' := [.ref 34, .ref 14]) (st' := []) (σ' := xset σ4 38 (va_cpy (σ4 18) (σ4 38) 0 0 12)) eT_67 rfl (e_copy xs_18 xs_38 (by decide) (by decide) (Nat.le_of_ble_eq_true rfl)) ?_
  obtain ⟨σ5, eσ5, h⟩ := xlet_inv h
  rw [← eσ5]
  obtain rfl := Option.some.inj h
  exact xX_ret (w := xw_67) (i := 36) eT_67 rfl rfl
def F_X9_copyFrom_21_1 (σ : xM) : Option (xM) :=
  xbd (F_X1_copyFrom_22_2 σ) fun r1 =>
  xbd (F_X8_copyFrom_28_8 r1) fun r2 =>
  xbd (F_X7_copyFrom_34_14 r2) fun r3 =>
  xlet (xup r3 21 3 (r3 1 3)) fun σ4 =>
  xlet (xup σ4 21 4 (σ4 1 4)) fun σ5 =>
  xlet (xup σ5 21 5 (σ5 1 5)) fun σ6 =>
  xlet (xup σ6 21 6 (σ6 1 6)) fun σ7 =>
  some σ7
set_option maxHeartbeats 1000000 in
set_option maxRecDepth 20000 in
theorem T_X9_copyFrom_21_1 (σ : xM) {d : Nat} {q : xM} (hd : 1 ≤ d) (h : F_X9_copyFrom_21_1 σ = some q) : xR xT xLn d 77 [.ref 21, .ref 1] σ (none, q) := by
  unfold F_X9_copyFrom_21_1 at h
  show xX xT xLn d 77 0 [.ref 21, .ref 1] [] σ _
  refine xX_blk (w := xw_77) eT_77 4 0 (ls' := [.ref 21, .ref 1]) (st' := [.ref 2, .ref 22]) (σ' := σ) rfl ?_
  obtain ⟨r1, hr1, h⟩ := xbd_inv h
  refine xX_c0 (w := xw_77) (i := 4) (ls := [.ref 21, .ref 1]) (rest := []) eT_77 rfl (by omega) rfl rfl rfl (T_X1_copyFrom_22_2 σ (by omega) hr1) ?_
  refine xX_blk (w := xw_77) eT_77 4 5 (ls' := [.ref 21, .ref 1]) (st' := [.ref 8, .ref 28]) (σ' := r1) rfl ?_
  obtain ⟨r2, hr2, h⟩ := xbd_inv h
  refine xX_c0 (w := xw_77) (i := 9) (ls := [.ref 21, .ref 1]) (rest := []) eT_77 rfl (by omega) rfl rfl rfl (T_X8_copyFrom_28_8 r1 (by omega) hr2) ?_
  refine xX_blk (w := xw_77) eT_77 4 10 (ls' := [.ref 21, .ref 1]) (st' := [.ref 14, .ref 34]) (σ' := r2) rfl ?_
  obtain ⟨r3, hr3, h⟩ := xbd_inv h
  refine xX_c0 (w := xw_77) (i := 14) (ls := [.ref 21, .ref 1]) (rest := []) eT_77 rfl (by omega) rfl rfl rfl (T_X7_copyFrom_34_14 r2 (by omega) hr3) ?_
  refine xX_blk (w := xw_77) eT_77 3 15 (ls' := [.ref 21, .ref 1]) (st' := [.int (r3 1 3), .ref 21]) (σ' := r3) rfl ?_
  refine xX_blk (w := xw_77) eT_77 1 18 (ls' := [.ref 21, .ref 1]) (st' := []) (σ' := xup r3 21 3 (r3 1 3)) rfl ?_
  obtain ⟨σ4, eσ4, h⟩ := xlet_inv h
  rw [← eσ4]
  refine xX_blk (w := xw_77) eT_77 3 19 (ls' := [.ref 21, .ref 1]) (st' := [.int (σ4 1 4), .ref 21]) (σ' := σ4) rfl ?_
  refine xX_blk (w := xw_77) eT_77 1 22 (ls' := [.ref 21, .ref 1]) (st' := []) (σ' := xup σ4 21 4 (σ4 1 4)) rfl ?_
  obtain ⟨σ5, eσ5, h⟩ := xlet_inv h
  rw [← eσ5]
  refine xX_blk (w := xw_77) eT_77 3 23 (ls' := [.ref 21, .ref 1]) (st' := [.int (σ5 1 5), .ref 21]) (σ' := σ5) rfl ?_
  refine xX_blk (w := xw_77) eT_77 1 26 (ls' := [.ref 21, .ref 1]) (st' := []) (σ' := xup σ5 21 5 (σ5 1 5)) rfl ?_
  obtain ⟨σ6, eσ6, h⟩ := xlet_inv h
  rw [← eσ6]
  refine xX_blk (w := xw_77) eT_77 3 27 (ls' := [.ref 21, .ref 1]) (st' := [.int (σ6 1 6), .ref 21]) (σ' := σ6) rfl ?_
  refine xX_blk (w := xw_77) eT_77 1 30 (ls' := [.ref 21, .ref 1]) (st' := []) (σ' := xup σ6 21 6 (σ6 1 6)) rfl ?_
  obtain ⟨σ7, eσ7, h⟩ := xlet_inv h
  rw [← eσ7]
  obtain rfl := Option.some.inj h
  exact xX_ret (w := xw_77) (i := 31) eT_77 rfl rfl
def F_X1_copyFrom_40_2 (σ : xM) : Option (xM) :=
  xlet (xup σ 40 0 (σ 2 0)) fun σ1 =>
  xlet (xset σ1 41 (va_cpy (σ1 3) (σ1 41) 0 0 8)) fun σ2 =>
  xlet (xset σ2 42 (va_cpy (σ2 4) (σ2 42) 0 0 8)) fun σ3 =>
  xlet (xset σ3 43 (va_cpy (σ3 5) (σ3 43) 0 0 8)) fun σ4 =>
  xlet (xset σ4 44 (va_cpy (σ4 6) (σ4 44) 0 0 64)) fun σ5 =>
  xlet (xset σ5 45 (va_cpy (σ5 7) (σ5 45) 0 0 64)) fun σ6 =>
  some σ6
set_option maxHeartbeats 1000000 in
set_option maxRecDepth 20000 in
theorem T_X1_copyFrom_40_2 (σ : xM) {d : Nat} {q : xM} (hd : 0 ≤ d) (h : F_X1_copyFrom_40_2 σ = some q) : xR xT xLn d 25 [.ref 40, .ref 2] σ (none, q) := by
  unfold F_X1_copyFrom_40_2 at h
  show xX xT xLn d 25 0 [.ref 40, .ref 2] [] σ _
  refine xX_blk (w := xw_25) eT_25 3 0 (ls' := [.ref 40, .ref 2]) (st' := [.int (σ 2 0), .ref 40]) (σ' := σ) rfl ?_
  refine xX_blk (w := xw_25) eT_25 1 3 (ls' := [.ref 40, .ref 2]) (st' := []) (σ' := xup σ 40 0 (σ 2 0)) rfl ?_
  obtain ⟨σ1, eσ1, h⟩ := xlet_inv h
  rw [← eσ1]
  refine xX_blk (w := xw_25) eT_25 7 4 (ls' := [.ref 40, .ref 2]) (st' := [.int 8, .int 0, .ref 41, .int 0, .ref 3]) (σ' := σ1) rfl ?_
  refine xX_one (w := xw_25) (i := 11) (ls' := [.ref 40, .ref 2]) (st' := []) (σ' := xset σ1 41 (va_cpy (σ1 3) (σ1 41) 0 0 8)) eT_25 rfl (e_copy xs_3 xs_41 (by decide) (by decide) (Nat.le_of_ble_eq_true rfl)) ?_
  obtain ⟨σ2, eσ2, h⟩ := xlet_inv h
  rw [← eσ2]
  refine xX_blk (w := xw_25) eT_25 7 12 (ls' := [.ref 40, .ref 2]) (st' := [.int 8, .int 0, .ref 42, .int 0, .ref 4]) (σ' := σ2) rfl ?_
  refine xX_one (w := xw_25) (i := 19) (ls' := [.ref 40, .ref 2]) (st' := []) (σ' := xset σ2 42 (va_cpy (σ2 4) (σ2 42) 0 0 8)) eT_25 rfl (e_copy xs_4 xs_42 (by decide) (by decide) (Nat.le_of_ble_eq_true rfl)) ?_
  obtain ⟨σ3, eσ3, h⟩ := xlet_inv h
  rw [← eσ3]
  refine xX_blk (w := xw_25) eT_25 7 20 (ls' := [.ref 40, .ref 2]) (st' := [.int 8, .int 0, .ref 43, .int 0, .ref 5]) (σ' := σ3) rfl ?_
  refine xX_one (w := xw_25) (i := 27) (ls' := [.ref 40, .ref 2]) (st' := []) (σ' := xset σ3 43 (va_cpy (σ3 5) (σ3 43) 0 0 8)) eT_25 rfl (e_copy xs_5 xs_43 (by decide) (by decide) (Nat.le_of_ble_eq_true rfl)) ?_
  obtain ⟨σ4, eσ4, h⟩ := xlet_inv h
  rw [← eσ4]
  refine xX_blk (w := xw_25) eT_25 7 28 (ls' := [.ref 40, .ref 2]) (st' := [.int 64, .int 0, .ref 44, .int 0, .ref 6]) (σ' := σ4) rfl ?_
  refine xX_one (w := xw_25) (i := 35) (ls' := [.ref 40, .ref 2]) (st' := []) (σ' := xset σ4 44 (va_cpy (σ4 6) (σ4 44) 0 0 64)) eT_25 rfl (e_copy xs_6 xs_44 (by decide) (by decide) (Nat.le_of_ble_eq_true rfl)) ?_
  obtain ⟨σ5, eσ5, h⟩ := xlet_inv h
  rw [← eσ5]
  refine xX_blk (w := xw_25) eT_25 7 36 (ls' := [.ref 40, .ref 2]) (st' := [.int 64, .int 0, .ref 45, .int 0, .ref 7]) (σ' := σ5) rfl ?_
  refine xX_one (w := xw_25) (i := 43) (ls' := [.ref 40, .ref 2]) (st' := []) (σ' := xset σ5 45 (va_cpy (σ5 7) (σ5 45) 0 0 64)) eT_25 rfl (e_copy xs_7 xs_45 (by decide) (by decide) (Nat.le_of_ble_eq_true rfl)) ?_
  obtain ⟨σ6, eσ6, h⟩ := xlet_inv h
  rw [← eσ6]
  obtain rfl := Option.some.inj h
  exact xX_ret (w := xw_25) (i := 44) eT_25 rfl rfl
def F_X8_copyFrom_46_8 (σ : xM) : Option (xM) :=
  xlet (xup σ 46 0 (σ 8 0)) fun σ1 =>
  xlet (xup σ1 46 1 (σ1 8 1)) fun σ2 =>
  xlet (xset σ2 47 (va_cpy (σ2 9) (σ2 47) 0 0 5)) fun σ3 =>
  xlet (xset σ3 48 (va_cpy (σ3 10) (σ3 48) 0 0 5)) fun σ4 =>
  xlet (xset σ4 49 (va_cpy (σ4 11) (σ4 49) 0 0 5)) fun σ5 =>
  xlet (xset σ5 50 (va_cpy (σ5 12) (σ5 50) 0 0 5)) fun σ6 =>
  xlet (xset σ6 51 (va_cpy (σ6 13) (σ6 51) 0 0 5)) fun σ7 =>
  some σ7
set_option maxHeartbeats 1000000 in
set_option maxRecDepth 20000 in
theorem T_X8_copyFrom_46_8 (σ : xM) {d : Nat} {q : xM} (hd : 0 ≤ d) (h : F_X8_copyFrom_46_8 σ = some q) : xR xT xLn d 76 [.ref 46, .ref 8] σ (none, q) := by
  unfold F_X8_copyFrom_46_8 at h
  show xX xT xLn d 76 0 [.ref 46, .ref 8] [] σ _
  refine xX_blk (w := xw_76) eT_76 3 0 (ls' := [.ref 46, .ref 8]) (st' := [.int (σ 8 0), .ref 46]) (σ' := σ) rfl ?_
  refine xX_blk (w := xw_76) eT_76 1 3 (ls' := [.ref 46, .ref 8]) (st' := []) (σ' := xup σ 46 0 (σ 8 0)) rfl ?_
  obtain ⟨σ1, eσ1, h⟩ := xlet_inv h
  rw [← eσ1]
  refine xX_blk (w := xw_76) eT_76 3 4 (ls' := [.ref 46, .ref 8]) (st' := [.int (σ1 8 1), .ref 46]) (σ' := σ1) rfl ?_
  refine xX_blk (w := xw_76) eT_76 1 7 (ls' := [.ref 46, .ref 8]) (st' := []) (σ' := xup σ1 46 1 (σ1 8 1)) rfl ?_
  obtain ⟨σ2, eσ2, h⟩ := xlet_inv h
  rw [← eσ2]
  refine xX_blk (w := xw_76) eT_76 7 8 (ls' := [.ref 46, .ref 8]) (st' := [.int 5, .int 0, .ref 47, .int 0, .ref 9]) (σ' := σ2) rfl ?_
  refine xX_one (w := xw_76) (i := 15) (ls' := [.ref 46, .ref 8]) (st' := []) (σ' := xset σ2 47 (va_cpy (σ2 9) (σ2 47) 0 0 5)) eT_76 rfl (e_copy xs_9 xs_47 (by decide) (by decide) (Nat.le_of_ble_eq_true rfl)) ?_
  obtain ⟨σ3, eσ3, h⟩ := xlet_inv h
  rw [← eσ3]
  refine xX_blk (w := xw_76) eT_76 7 16 (ls' := [.ref 46, .ref 8]) (st' := [.int 5, .int 0, .ref 48, .int 0, .ref 10]) (σ' := σ3) rfl ?_
  refine xX_one (w := xw_76) (i := 23) (ls' := [.ref 46, .ref 8]) (st' := []) (σ' := xset σ3 48 (va_cpy (σ3 10) (σ3 48) 0 0 5)) eT_76 rfl (e_copy xs_10 xs_48 (by decide) (by decide) (Nat.le_of_ble_eq_true rfl)) ?_
  obtain ⟨σ4, eσ4, h⟩ := xlet_inv h
  rw [← eσ4]
  refine xX_blk (w := xw_76) eT_76 7 24 (ls' := [.ref 46, .ref 8]) (st' := [.int 5, .int 0, .ref 49, .int 0, .ref 11]) (σ' := σ4) rfl ?_
  refine xX_one (w := xw_76) (i := 31) (ls' := [.ref 46, .ref 8]) (st' := []) (σ' := xset σ4 49 (va_cpy (σ4 11) (σ4 49) 0 0 5)) eT_76 rfl (e_copy xs_11 xs_49 (by decide) (by decide) (Nat.le_of_ble_eq_true rfl)) ?_
  obtain ⟨σ5, eσ5, h⟩ := xlet_inv h
  rw [← eσ5]
  refine xX_blk (w := xw_76) eT_76 7 32 (ls' := [.ref 46, .ref 8]) (st' := [.int 5, .int 0, .ref 50, .int 0, .ref 12]) (σ' := σ5) rfl ?_
  refine xX_one (w := xw_76) (i := 39) (ls' := [.ref 46, .ref 8]) (st' := []) (σ' := xset σ5 50 (va_cpy (σ5 12) (σ5 50) 0 0 5)) eT_76 rfl (e_copy xs_12 xs_50 (by decide) (by decide) (Nat.le_of_ble_eq_true rfl)) ?_
  obtain ⟨σ6, eσ6, h⟩ := xlet_inv h
  rw [← eσ6]
  refine xX_blk (w := xw_76) eT_76 7 40 (ls' := [.ref 46, .ref 8]) (st' := [.int 5, .int 0, .ref 51, .int 0, .ref 13]) (σ' := σ6) rfl ?_
  refine xX_one (w := xw_76) (i := 47) (ls' := [.ref 46, .ref 8]) (st' := []) (σ' := xset σ6 51 (va_cpy (σ6 13) (σ6 51) 0 0 5)) eT_76 rfl (e_copy xs_13 xs_51 (by decide) (by decide) (Nat.le_of_ble_eq_true rfl)) ?_
  obtain ⟨σ7, eσ7, h⟩ := xlet_inv h
  rw [← eσ7]
  obtain rfl := Option.some.inj h
  exact xX_ret (w := xw_76) (i := 48) eT_76 rfl rfl
def F_X7_copyFrom_52_14 (σ : xM) : Option (xM) :=
  xlet (xup σ 52 0 (σ 14 0)) fun σ1 =>
  xlet (xset σ1 53 (va_cpy (σ1 15) (σ1 53) 0 0 12)) fun σ2 =>
  xlet (xset σ2 54 (va_cpy (σ2 16) (σ2 54) 0 0 12)) fun σ3 =>
  xlet (xset σ3 55 (va_cpy (σ3 17) (σ3 55) 0 0 12)) fun σ4 =>
  xlet (xset σ4 56 (va_cpy (σ4 18) (σ4 56) 0 0 12)) fun σ5 =>
  some σ5
set_option maxHeartbeats 1000000 in
set_option maxRecDepth 20000 in
theorem T_X7_copyFrom_52_14 (σ : xM) {d : Nat} {q : xM} (hd : 0 ≤ d) (h : F_X7_copyFrom_52_14 σ = some q) : xR xT xLn d 67 [.ref 52, .ref 14] σ (none, q) := by
  unfold F_X7_copyFrom_52_14 at h
  show xX xT xLn d 67 0 [.ref 52, .ref 14] [] σ _
  refine xX_blk (w := xw_67) eT_67 3 0 (ls' := [.ref 52, .ref 14]) (st' := [.int (σ 14 0), .ref 52]) (σ' := σ) rfl ?_
  refine xX_blk (w := xw_67) eT_67 1 3 (ls' := [.ref 52, .ref 14]) (st' := []) (σ' := xup σ 52 0 (σ 14 0)) rfl ?_
  obtain ⟨σ1, eσ1, h⟩ := xlet_inv h
  rw [← eσ1]
  refine xX_blk (w := xw_67) eT_67 7 4 (ls' := [.ref 52, .ref 14]) (st' := [.int 12, .int 0, .ref 53, .int 0, .ref 15]) (σ' := σ1) rfl ?_
  refine xX_one (w := xw_67) (i := 11) (ls' := [.ref 52, .ref 14]) (st' := []) (σ' := xset σ1 53 (va_cpy (σ1 15) (σ1 53) 0 0 12)) eT_67 rfl (e_copy xs_15 xs_53 (by decide) (by decide) (Nat.le_of_ble_eq_true rfl)) ?_
  obtain ⟨σ2, eσ2, h⟩ := xlet_inv h
  rw [← eσ2]
  refine xX_blk (w := xw_67) eT_67 7 12 (ls' := [.ref 52, .ref 14]) (st' := [.int 12, .int 0, .ref 54, .int 0, .ref 16]) (σ' := σ2) rfl ?_
  refine xX_one (w := xw_67) (i := 19) (ls' := [.ref 52, .ref 14]) (st' := []) (σ' := xset σ2 54 (va_cpy (σ2 16) (σ2 54) 0 0 12)) eT_67 rfl (e_copy xs_16 xs_54 (by decide) (by decide) (Nat.le_of_ble_eq_true rfl)) ?_
  obtain ⟨σ3, eσ3, h⟩ := xlet_inv h
  rw [← eσ3]
  refine xX_blk (w := xw_67) eT_67 7 20 (ls' := [.ref 52, .ref 14]) (st' := [.int 12, .int 0, .ref 55, .int 0, .ref 17]) (σ' := σ3) rfl ?_
  refine xX_one (w := xw_67) (i := 27) (ls' := [.ref 52, .ref 14]) (st' := []) (σ' := xset σ3 55 (va_cpy (σ3 17) (σ3 55) 0 0 12)) eT_67 rfl (e_copy xs_17 xs_55 (by decide) (by decide) (Nat.le_of_ble_eq_true rfl)) ?_
  obtain ⟨σ4, eσ4, h⟩ := xlet_inv h
  rw [← eσ4]
  refine xX_blk (w := xw_67) eT_67 7 28 (ls' := [.ref 52, .ref 14]) (st' := [.int 12, .int 0, .ref 56, .int 0, .ref 18]) (σ' := σ4) rfl ?_
  refine xX_one (w := xw_67) (i := 35) (ls' := [.ref 52, .ref 14]) (st' := []) (σ' := xset σ4 56 (va_cpy (σ4 18) (σ4 56) 0 0 12)) eT_67 rfl (e_copy xs_18 xs_56 (by decide) (by decide) (Nat.le_of_ble_eq_true rfl)) ?_
  obtain ⟨σ5, eσ5, h⟩ := xlet_inv h
  rw [← eσ5]
  obtain rfl := Option.some.inj h
  exact xX_ret (w := xw_67) (i := 36) eT_67 rfl rfl
def F_X9_copyFrom_39_1 (σ : xM) : Option (xM) :=
  xbd (F_X1_copyFrom_40_2 σ) fun r1 =>
  xbd (F_X8_copyFrom_46_8 r1) fun r2 =>
  xbd (F_X7_copyFrom_52_14 r2) fun r3 =>
  xlet (xup r3 39 3 (r3 1 3)) fun σ4 =>
  xlet (xup σ4 39 4 (σ4 1 4)) fun σ5 =>
  xlet (xup σ5 39 5 (σ5 1 5)) fun σ6 =>
  xlet (xup σ6 39 6 (σ6 1 6)) fun σ7 =>
  some σ7
set_option maxHeartbeats 1000000 in
set_option maxRecDepth 20000 in
theorem T_X9_copyFrom_39_1 (σ : xM) {d : Nat} {q : xM} (hd : 1 ≤ d) (h : F_X9_copyFrom_39_1 σ = some q) : xR xT xLn d 77 [.ref 39, .ref 1] σ (none, q) := by
  unfold F_X9_copyFrom_39_1 at h
  show xX xT xLn d 77 0 [.ref 39, .ref 1] [] σ _
  refine xX_blk (w := xw_77) eT_77 4 0 (ls' := [.ref 39, .ref 1]) (st' := [.ref 2, .ref 40]) (σ' := σ) rfl ?_
  obtain ⟨r1, hr1, h⟩ := xbd_inv h
  refine xX_c0 (w := xw_77) (i := 4) (ls := [.ref 39, .ref 1]) (rest := []) eT_77 rfl (by omega) rfl rfl rfl (T_X1_copyFrom_40_2 σ (by omega) hr1) ?_
  refine xX_blk (w := xw_77) eT_77 4 5 (ls' := [.ref 39, .ref 1]) (st' := [.ref 8, .ref 46]) (σ' := r1) rfl ?_
  obtain ⟨r2, hr2, h⟩ := xbd_inv h
  refine xX_c0 (w := xw_77) (i := 9) (ls := [.ref 39, .ref 1]) (rest := []) eT_77 rfl (by omega) rfl rfl rfl (T_X8_copyFrom_46_8 r1 (by omega) hr2) ?_
  refine xX_blk (w := xw_77) eT_77 4 10 (ls' := [.ref 39, .ref 1]) (st' := [.ref 14, .ref 52]) (σ' := r2) rfl ?_
  obtain ⟨r3, hr3, h⟩ := xbd_inv h
  refine xX_c0 (w := xw_77) (i := 14) (ls := [.ref 39, .ref 1]) (rest := []) eT_77 rfl (by omega) rfl rfl rfl (T_X7_copyFrom_52_14 r2 (by omega) hr3) ?_
  refine xX_blk (w := xw_77) eT_77 3 15 (ls' := [.ref 39, .ref 1]) (st' := [.int (r3 1 3), .ref 39]) (σ' := r3) rfl ?_
  refine xX_blk (w := xw_77) eT_77 1 18 (ls' := [.ref 39, .ref 1]) (st' := []) (σ' := xup r3 39 3 (r3 1 3)) rfl ?_
  obtain ⟨σ4, eσ4, h⟩ := xlet_inv h
  rw [← eσ4]
  refine xX_blk (w := xw_77) eT_77 3 19 (ls' := [.ref 39, .ref 1]) (st' := [.int (σ4 1 4), .ref 39]) (σ' := σ4) rfl ?_
  refine xX_blk (w := xw_77) eT_77 1 22 (ls' := [.ref 39, .ref 1]) (st' := []) (σ' := xup σ4 39 4 (σ4 1 4)) rfl ?_
  obtain ⟨σ5, eσ5, h⟩ := xlet_inv h
  rw [← eσ5]
  refine xX_blk (w := xw_77) eT_77 3 23 (ls' := [.ref 39, .ref 1]) (st' := [.int (σ5 1 5), .ref 39]) (σ' := σ5) rfl ?_
  refine xX_blk (w := xw_77) eT_77 1 26 (ls' := [.ref 39, .ref 1]) (st' := []) (σ' := xup σ5 39 5 (σ5 1 5)) rfl ?_
  obtain ⟨σ6, eσ6, h⟩ := xlet_inv h
  rw [← eσ6]
  refine xX_blk (w := xw_77) eT_77 3 27 (ls' := [.ref 39, .ref 1]) (st' := [.int (σ6 1 6), .ref 39]) (σ' := σ6) rfl ?_
  refine xX_blk (w := xw_77) eT_77 1 30 (ls' := [.ref 39, .ref 1]) (st' := []) (σ' := xup σ6 39 6 (σ6 1 6)) rfl ?_
  obtain ⟨σ7, eσ7, h⟩ := xlet_inv h
  rw [← eσ7]
  obtain rfl := Option.some.inj h
  exact xX_ret (w := xw_77) (i := 31) eT_77 rfl rfl
def F_X1_copyFrom_58_2 (σ : xM) : Option (xM) :=
  xlet (xup σ 58 0 (σ 2 0)) fun σ1 =>
  xlet (xset σ1 59 (va_cpy (σ1 3) (σ1 59) 0 0 8)) fun σ2 =>
  xlet (xset σ2 60 (va_cpy (σ2 4) (σ2 60) 0 0 8)) fun σ3 =>
  xlet (xset σ3 61 (va_cpy (σ3 5) (σ3 61) 0 0 8)) fun σ4 =>
  xlet (xset σ4 62 (va_cpy (σ4 6) (σ4 62) 0 0 64)) fun σ5 =>
  xlet (xset σ5 63 (va_cpy (σ5 7) (σ5 63) 0 0 64)) fun σ6 =>
  some σ6
set_option maxHeartbeats 1000000 in
set_option maxRecDepth 20000 in
theorem T_X1_copyFrom_58_2 (σ : xM) {d : Nat} {q : xM} (hd : 0 ≤ d) (h : F_X1_copyFrom_58_2 σ = some q) : xR xT xLn d 25 [.ref 58, .ref 2] σ (none, q) := by
  unfold F_X1_copyFrom_58_2 at h
  show xX xT xLn d 25 0 [.ref 58, .ref 2] [] σ _
  refine xX_blk (w := xw_25) eT_25 3 0 (ls' := [.ref 58, .ref 2]) (st' := [.int (σ 2 0), .ref 58]) (σ' := σ) rfl ?_
  refine xX_blk (w := xw_25) eT_25 1 3 (ls' := [.ref 58, .ref 2]) (st' := []) (σ' := xup σ 58 0 (σ 2 0)) rfl ?_
  obtain ⟨σ1, eσ1, h⟩ := xlet_inv h
  rw [← eσ1]
  refine xX_blk (w := xw_25) eT_25 7 4 (ls' := [.ref 58, .ref 2]) (st' := [.int 8, .int 0, .ref 59, .int 0, .ref 3]) (σ' := σ1) rfl ?_
  refine xX_one (w := xw_25) (i := 11) (ls' := [.ref 58, .ref 2]) (st' := []) (σ' := xset σ1 59 (va_cpy (σ1 3) (σ1 59) 0 0 8)) eT_25 rfl (e_copy xs_3 xs_59 (by decide) (by decide) (Nat.le_of_ble_eq_true rfl)) ?_
  obtain ⟨σ2, eσ2, h⟩ := xlet_inv h
  rw [← eσ2]
  refine xX_blk (w := xw_25) eT_25 7 12 (ls' := [.ref 58, .ref 2]) (st' := [.int 8, .int 0, .ref 60, .int 0, .ref 4]) (σ' := σ2) rfl ?_
  refine xX_one (w := xw_25) (i := 19) (ls' := [.ref 58, .ref 2]) (st' := []) (σ' := xset σ2 60 (va_cpy (σ2 4) (σ2 60) 0 0 8)) eT_25 rfl (e_copy xs_4 xs_60 (by decide) (by decide) (Nat.le_of_ble_eq_true rfl)) ?_
  obtain ⟨σ3, eσ3, h⟩ := xlet_inv h
  rw [← eσ3]
  refine xX_blk (w := xw_25) eT_25 7 20 (ls' := [.ref 58, .ref 2]) (st' := [.int 8, .int 0, .ref 61, .int 0, .ref 5]) (σ' := σ3) rfl ?_
  refine xX_one (w := xw_25) (i := 27) (ls' := [.ref 58, .ref 2]) (st' := []) (σ' := xset σ3 61 (va_cpy (σ3 5) (σ3 61) 0 0 8)) eT_25 rfl (e_copy xs_5 xs_61 (by decide) (by decide) (Nat.le_of_ble_eq_true rfl)) ?_
  obtain ⟨σ4, eσ4, h⟩ := xlet_inv h
  rw [← eσ4]
  refine xX_blk (w := xw_25) eT_25 7 28 (ls' := [.ref 58, .ref 2]) (st' := [.int 64, .int 0, .ref 62, .int 0, .ref 6]) (σ' := σ4) rfl ?_
  refine xX_one (w := xw_25) (i := 35) (ls' := [.ref 58, .ref 2]) (st' := []) (σ' := xset σ4 62 (va_cpy (σ4 6) (σ4 62) 0 0 64)) eT_25 rfl (e_copy xs_6 xs_62 (by decide) (by decide) (Nat.le_of_ble_eq_true rfl)) ?_
  obtain ⟨σ5, eσ5, h⟩ := xlet_inv h
  rw [← eσ5]
  refine xX_blk (w := xw_25) eT_25 7 36 (ls' := [.ref 58, .ref 2]) (st' := [.int 64, .int 0, .ref 63, .int 0, .ref 7]) (σ' := σ5) rfl ?_
  refine xX_one (w := xw_25) (i := 43) (ls' := [.ref 58, .ref 2]) (st' := []) (σ' := xset σ5 63 (va_cpy (σ5 7) (σ5 63) 0 0 64)) eT_25 rfl (e_copy xs_7 xs_63 (by decide) (by decide) (Nat.le_of_ble_eq_true rfl)) ?_
  obtain ⟨σ6, eσ6, h⟩ := xlet_inv h
  rw [← eσ6]
  obtain rfl := Option.some.inj h
  exact xX_ret (w := xw_25) (i := 44) eT_25 rfl rfl
def F_X8_copyFrom_64_8 (σ : xM) : Option (xM) :=
  xlet (xup σ 64 0 (σ 8 0)) fun σ1 =>
  xlet (xup σ1 64 1 (σ1 8 1)) fun σ2 =>
  xlet (xset σ2 65 (va_cpy (σ2 9) (σ2 65) 0 0 5)) fun σ3 =>
  xlet (xset σ3 66 (va_cpy (σ3 10) (σ3 66) 0 0 5)) fun σ4 =>
  xlet (xset σ4 67 (va_cpy (σ4 11) (σ4 67) 0 0 5)) fun σ5 =>
  xlet (xset σ5 68 (va_cpy (σ5 12) (σ5 68) 0 0 5)) fun σ6 =>
  xlet (xset σ6 69 (va_cpy (σ6 13) (σ6 69) 0 0 5)) fun σ7 =>
  some σ7
set_option maxHeartbeats 1000000 in
set_option maxRecDepth 20000 in
theorem T_X8_copyFrom_64_8 (σ : xM) {d : Nat} {q : xM} (hd : 0 ≤ d) (h : F_X8_copyFrom_64_8 σ = some q) : xR xT xLn d 76 [.ref 64, .ref 8] σ (none, q) := by
  unfold F_X8_copyFrom_64_8 at h
  show xX xT xLn d 76 0 [.ref 64, .ref 8] [] σ _
  refine xX_blk (w := xw_76) eT_76 3 0 (ls' := [.ref 64, .ref 8]) (st' := [.int (σ 8 0), .ref 64]) (σ' := σ) rfl ?_
  refine xX_blk (w := xw_76) eT_76 1 3 (ls' := [.ref 64, .ref 8]) (st' := []) (σ' := xup σ 64 0 (σ 8 0)) rfl ?_
  obtain ⟨σ1, eσ1, h⟩ := xlet_inv h
  rw [← eσ1]
  refine xX_blk (w := xw_76) eT_76 3 4 (ls' := [.ref 64, .ref 8]) (st' := [.int (σ1 8 1), .ref 64]) (σ' := σ1) rfl ?_
  refine xX_blk (w := xw_76) eT_76 1 7 (ls' := [.ref 64, .ref 8]) (st' := []) (σ' := xup σ1 64 1 (σ1 8 1)) rfl ?_
  obtain ⟨σ2, eσ2, h⟩ := xlet_inv h
  rw [← eσ2]
  refine xX_blk (w := xw_76) eT_76 7 8 (ls' := [.ref 64, .ref 8]) (st' := [.int 5, .int 0, .ref 65, .int 0, .ref 9]) (σ' := σ2) rfl ?_
  refine xX_one (w := xw_76) (i := 15) (ls' := [.ref 64, .ref 8]) (st' := []) (σ' := xset σ2 65 (va_cpy (σ2 9) (σ2 65) 0 0 5)) eT_76 rfl (e_copy xs_9 xs_65 (by decide) (by decide) (Nat.le_of_ble_eq_true rfl)) ?_
  obtain ⟨σ3, eσ3, h⟩ := xlet_inv h
  rw [← eσ3]
  refine xX_blk (w := xw_76) eT_76 7 16 (ls' := [.ref 64, .ref 8]) (st' := [.int 5, .int 0, .ref 66, .int 0, .ref 10]) (σ' := σ3) rfl ?_
  refine xX_one (w := xw_76) (i := 23) (ls' := [.ref 64, .ref 8]) (st' := []) (σ' := xset σ3 66 (va_cpy (σ3 10) (σ3 66) 0 0 5)) eT_76 rfl (e_copy xs_10 xs_66 (by decide) (by decide) (Nat.le_of_ble_eq_true rfl)) ?_
  obtain ⟨σ4, eσ4, h⟩ := xlet_inv h
  rw [← eσ4]
  refine xX_blk (w := xw_76) eT_76 7 24 (ls' := [.ref 64, .ref 8]) (st' := [.int 5, .int 0, .ref 67, .int 0, .ref 11]) (σ' := σ4) rfl ?_
  refine xX_one (w := xw_76) (i := 31) (ls' := [.ref 64, .ref 8]) (st' := []) (σ' := xset σ4 67 (va_cpy (σ4 11) (σ4 67) 0 0 5)) eT_76 rfl (e_copy xs_11 xs_67 (by decide) (by decide) (Nat.le_of_ble_eq_true rfl)) ?_
  obtain ⟨σ5, eσ5, h⟩ := xlet_inv h
  rw [← eσ5]
  refine xX_blk (w := xw_76) eT_76 7 32 (ls' := [.ref 64, .ref 8]) (st' := [.int 5, .int 0, .ref 68, .int 0, .ref 12]) (σ' := σ5) rfl ?_
  refine xX_one (w := xw_76) (i := 39) (ls' := [.ref 64, .ref 8]) (st' := []) (σ' := xset σ5 68 (va_cpy (σ5 12) (σ5 68) 0 0 5)) eT_76 rfl (e_copy xs_12 xs_68 (by decide) (by decide) (Nat.le_of_ble_eq_true rfl)) ?_
  obtain ⟨σ6, eσ6, h⟩ := xlet_inv h
  rw [← eσ6]
  refine xX_blk (w := xw_76) eT_76 7 40 (ls' := [.ref 64, .ref 8]) (st' := [.int 5, .int 0, .ref 69, .int 0, .ref 13]) (σ' := σ6) rfl ?_
  refine xX_one (w := xw_76) (i := 47) (ls' := [.ref 64, .ref 8]) (st' := []) (σ' := xset σ6 69 (va_cpy (σ6 13) (σ6 69) 0 0 5)) eT_76 rfl (e_copy xs_13 xs_69 (by decide) (by decide) (Nat.le_of_ble_eq_true rfl)) ?_
  obtain ⟨σ7, eσ7, h⟩ := xlet_inv h
  rw [← eσ7]
  obtain rfl := Option.some.inj h
  exact xX_ret (w := xw_76) (i := 48) eT_76 rfl rfl
def F_X7_copyFrom_70_14 (σ : xM) : Option (xM) :=
  xlet (xup σ 70 0 (σ 14 0)) fun σ1 =>
  xlet (xset σ1 71 (va_cpy (σ1 15) (σ1 71) 0 0 12)) fun σ2 =>
  xlet (xset σ2 72 (va_cpy (σ2 16) (σ2 72) 0 0 12)) fun σ3 =>
  xlet (xset σ3 73 (va_cpy (σ3 17) (σ3 73) 0 0 12)) fun σ4 =>
  xlet (xset σ4 74 (va_cpy (σ4 18) (σ4 74) 0 0 12)) fun σ5 =>
  some σ5
set_option maxHeartbeats 1000000 in
set_option maxRecDepth 20000 in
theorem T_X7_copyFrom_70_14 (σ : xM) {d : Nat} {q : xM} (hd : 0 ≤ d) (h : F_X7_copyFrom_70_14 σ = some q) : xR xT xLn d 67 [.ref 70, .ref 14] σ (none, q) := by
  unfold F_X7_copyFrom_70_14 at h
  show xX xT xLn d 67 0 [.ref 70, .ref 14] [] σ _
  refine xX_blk (w := xw_67) eT_67 3 0 (ls' := [.ref 70, .ref 14]) (st' := [.int (σ 14 0), .ref 70]) (σ' := σ) rfl ?_
  refine xX_blk (w := xw_67) eT_67 1 3 (ls' := [.ref 70, .ref 14]) (st' := []) (σ' := xup σ 70 0 (σ 14 0)) rfl ?_
  obtain ⟨σ1, eσ1, h⟩ := xlet_inv h
  rw [← eσ1]
  refine xX_blk (w := xw_67) eT_67 7 4 (ls' := [.ref 70, .ref 14]) (st' := [.int 12, .int 0, .ref 71, .int 0, .ref 15]) (σ' := σ1) rfl ?_
  refine xX_one (w := xw_67) (i := 11) (ls' := [.ref 70, .ref 14]) (st' := []) (σ' := xset σ1 71 (va_cpy (σ1 15) (σ1 71) 0 0 12)) eT_67 rfl (e_copy xs_15 xs_71 (by decide) (by decide) (Nat.le_of_ble_eq_true rfl)) ?_
  obtain ⟨σ2, eσ2, h⟩ := xlet_inv h
  rw [← eσ2]
  refine xX_blk (w := xw_67) eT_67 7 12 (ls' := [.ref 70, .ref 14]) (st' := [.int 12, .int 0, .ref 72, .int 0, .ref 16]) (σ' := σ2) rfl ?_
  refine xX_one (w := xw_67) (i := 19) (ls' := [.ref 70, .ref 14]) (st' := []) (σ' := xset σ2 72 (va_cpy (σ2 16) (σ2 72) 0 0 12)) eT_67 rfl (e_copy xs_16 xs_72 (by decide) (by decide) (Nat.le_of_ble_eq_true rfl)) ?_
  obtain ⟨σ3, eσ3, h⟩ := xlet_inv h
  rw [← eσ3]
  refine xX_blk (w := xw_67) eT_67 7 20 (ls' := [.ref 70, .ref 14]) (st' := [.int 12, .int 0, .ref 73, .int 0, .ref 17]) (σ' := σ3) rfl ?_
  refine xX_one (w := xw_67) (i := 27) (ls' := [.ref 70, .ref 14]) (st' := []) (σ' := xset σ3 73 (va_cpy (σ3 17) (σ3 73) 0 0 12)) eT_67 rfl (e_copy xs_17 xs_73 (by decide) (by decide) (Nat.le_of_ble_eq_true rfl)) ?_
  obtain ⟨σ4, eσ4, h⟩ := xlet_inv h
  rw [← eσ4]
  refine xX_blk (w := xw_67) eT_67 7 28 (ls' := [.ref 70, .ref 14]) (st' := [.int 12, .int 0, .ref 74, .int 0, .ref 18]) (σ' := σ4) rfl ?_
  refine xX_one (w := xw_67) (i := 35) (ls' := [.ref 70, .ref 14]) (st' := []) (σ' := xset σ4 74 (va_cpy (σ4 18) (σ4 74) 0 0 12)) eT_67 rfl (e_copy xs_18 xs_74 (by decide) (by decide) (Nat.le_of_ble_eq_true rfl)) ?_
  obtain ⟨σ5, eσ5, h⟩ := xlet_inv h
  rw [← eσ5]
  obtain rfl := Option.some.inj h
  exact xX_ret (w := xw_67) (i := 36) eT_67 rfl rfl
def F_X9_copyFrom_57_1 (σ : xM) : Option (xM) :=
  xbd (F_X1_copyFrom_58_2 σ) fun r1 =>
  xbd (F_X8_copyFrom_64_8 r1) fun r2 =>
  xbd (F_X7_copyFrom_70_14 r2) fun r3 =>
  xlet (xup r3 57 3 (r3 1 3)) fun σ4 =>
  xlet (xup σ4 57 4 (σ4 1 4)) fun σ5 =>
  xlet (xup σ5 57 5 (σ5 1 5)) fun σ6 =>
  xlet (xup σ6 57 6 (σ6 1 6)) fun σ7 =>
  some σ7
set_option maxHeartbeats 1000000 in
set_option maxRecDepth 20000 in
theorem T_X9_copyFrom_57_1 (σ : xM) {d : Nat} {q : xM} (hd : 1 ≤ d) (h : F_X9_copyFrom_57_1 σ = some q) : xR xT xLn d 77 [.ref 57, .ref 1] σ (none, q) := by
  unfold F_X9_copyFrom_57_1 at h
  show xX xT xLn d 77 0 [.ref 57, .ref 1] [] σ _
  refine xX_blk (w := xw_77) eT_77 4 0 (ls' := [.ref 57, .ref 1]) (st' := [.ref 2, .ref 58]) (σ' := σ) rfl ?_
  obtain ⟨r1, hr1, h⟩ := xbd_inv h
  refine xX_c0 (w := xw_77) (i := 4) (ls := [.ref 57, .ref 1]) (rest := []) eT_77 rfl (by omega) rfl rfl rfl (T_X1_copyFrom_58_2 σ (by omega) hr1) ?_
  refine xX_blk (w := xw_77) eT_77 4 5 (ls' := [.ref 57, .ref 1]) (st' := [.ref 8, .ref 64]) (σ' := r1) rfl ?_
  obtain ⟨r2, hr2, h⟩ := xbd_inv h
  refine xX_c0 (w := xw_77) (i := 9) (ls := [.ref 57, .ref 1]) (rest := []) eT_77 rfl (by omega) rfl rfl rfl (T_X8_copyFrom_64_8 r1 (by omega) hr2) ?_
  refine xX_blk (w := xw_77) eT_77 4 10 (ls' := [.ref 57, .ref 1]) (st' := [.ref 14, .ref 70]) (σ' := r2) rfl ?_
  obtain ⟨r3, hr3, h⟩ := xbd_inv h
  refine xX_c0 (w := xw_77) (i := 14) (ls := [.ref 57, .ref 1]) (rest := []) eT_77 rfl (by omega) rfl rfl rfl (T_X7_copyFrom_70_14 r2 (by omega) hr3) ?_
  refine xX_blk (w := xw_77) eT_77 3 15 (ls' := [.ref 57, .ref 1]) (st' := [.int (r3 1 3), .ref 57]) (σ' := r3) rfl ?_
  refine xX_blk (w := xw_77) eT_77 1 18 (ls' := [.ref 57, .ref 1]) (st' := []) (σ' := xup r3 57 3 (r3 1 3)) rfl ?_
  obtain ⟨σ4, eσ4, h⟩ := xlet_inv h
  rw [← eσ4]
  refine xX_blk (w := xw_77) eT_77 3 19 (ls' := [.ref 57, .ref 1]) (st' := [.int (σ4 1 4), .ref 57]) (σ' := σ4) rfl ?_
  refine xX_blk (w := xw_77) eT_77 1 22 (ls' := [.ref 57, .ref 1]) (st' := []) (σ' := xup σ4 57 4 (σ4 1 4)) rfl ?_
  obtain ⟨σ5, eσ5, h⟩ := xlet_inv h
  rw [← eσ5]
  refine xX_blk (w := xw_77) eT_77 3 23 (ls' := [.ref 57, .ref 1]) (st' := [.int (σ5 1 5), .ref 57]) (σ' := σ5) rfl ?_
  refine xX_blk (w := xw_77) eT_77 1 26 (ls' := [.ref 57, .ref 1]) (st' := []) (σ' := xup σ5 57 5 (σ5 1 5)) rfl ?_
  obtain ⟨σ6, eσ6, h⟩ := xlet_inv h
  rw [← eσ6]
  refine xX_blk (w := xw_77) eT_77 3 27 (ls' := [.ref 57, .ref 1]) (st' := [.int (σ6 1 6), .ref 57]) (σ' := σ6) rfl ?_
  refine xX_blk (w := xw_77) eT_77 1 30 (ls' := [.ref 57, .ref 1]) (st' := []) (σ' := xup σ6 57 6 (σ6 1 6)) rfl ?_
  obtain ⟨σ7, eσ7, h⟩ := xlet_inv h
  rw [← eσ7]
  obtain rfl := Option.some.inj h
  exact xX_ret (w := xw_77) (i := 31) eT_77 rfl rfl
def F_X1_copyFrom_76_2 (σ : xM) : Option (xM) :=
  xlet (xup σ 76 0 (σ 2 0)) fun σ1 =>
  xlet (xset σ1 77 (va_cpy (σ1 3) (σ1 77) 0 0 8)) fun σ2 =>
  xlet (xset σ2 78 (va_cpy (σ2 4) (σ2 78) 0 0 8)) fun σ3 =>
  xlet (xset σ3 79 (va_cpy (σ3 5) (σ3 79) 0 0 8)) fun σ4 =>
  xlet (xset σ4 80 (va_cpy (σ4 6) (σ4 80) 0 0 64)) fun σ5 =>
  xlet (xset σ5 81 (va_cpy (σ5 7) (σ5 81) 0 0 64)) fun σ6 =>
  some σ6
set_option maxHeartbeats 1000000 in
set_option maxRecDepth 20000 in
theorem T_X1_copyFrom_76_2 (σ : xM) {d : Nat} {q : xM} (hd : 0 ≤ d) (h : F_X1_copyFrom_76_2 σ = some q) : xR xT xLn d 25 [.ref 76, .ref 2] σ (none, q) := by
  unfold F_X1_copyFrom_76_2 at h
  show xX xT xLn d 25 0 [.ref 76, .ref 2] [] σ _
  refine xX_blk (w := xw_25) eT_25 3 0 (ls' := [.ref 76, .ref 2]) (st' := [.int (σ 2 0), .ref 76]) (σ' := σ) rfl ?_
  refine xX_blk (w := xw_25) eT_25 1 3 (ls' := [.ref 76, .ref 2]) (st' := []) (σ' := xup σ 76 0 (σ 2 0)) rfl ?_
  obtain ⟨σ1, eσ1, h⟩ := xlet_inv h
  rw [← eσ1]
  refine xX_blk (w := xw_25) eT_25 7 4 (ls' := [.ref 76, .ref 2]) (st' := [.int 8, .int 0, .ref 77, .int 0, .ref 3]) (σ' := σ1) rfl ?_
  refine xX_one (w := xw_25) (i := 11) (ls' := [.ref 76, .ref 2]) (st' := []) (σ' := xset σ1 77 (va_cpy (σ1 3) (σ1 77) 0 0 8)) eT_25 rfl (e_copy xs_3 xs_77 (by decide) (by decide) (Nat.le_of_ble_eq_true rfl)) ?_
  obtain ⟨σ2, eσ2, h⟩ := xlet_inv h
  rw [← eσ2]
  refine xX_blk (w := xw_25) eT_25 7 12 (ls' := [.ref 76, .ref 2]) (st' := [.int 8, .int 0, .ref 78, .int 0, .ref 4]) (σ' := σ2) rfl ?_
  refine xX_one (w := xw_25) (i := 19) (ls' := [.ref 76, .ref 2]) (st' := []) (σ' := xset σ2 78 (va_cpy (σ2 4) (σ2 78) 0 0 8)) eT_25 rfl (e_copy xs_4 xs_78 (by decide) (by decide) (Nat.le_of_ble_eq_true rfl)) ?_
  obtain ⟨σ3, eσ3, h⟩ := xlet_inv h
  rw [← eσ3]
  refine xX_blk (w := xw_25) eT_25 7 20 (ls' := [.ref 76, .ref 2]) (st' := [.int 8, .int 0, .ref 79, .int 0, .ref 5]) (σ' := σ3) rfl ?_
  refine xX_one (w := xw_25) (i := 27) (ls' := [.ref 76, .ref 2]) (st' := []) (σ' := xset σ3 79 (va_cpy (σ3 5) (σ3 79) 0 0 8)) eT_25 rfl (e_copy xs_5 xs_79 (by decide) (by decide) (Nat.le_of_ble_eq_true rfl)) ?_
  obtain ⟨σ4, eσ4, h⟩ := xlet_inv h
  rw [← eσ4]
  refine xX_blk (w := xw_25) eT_25 7 28 (ls' := [.ref 76, .ref 2]) (st' := [.int 64, .int 0, .ref 80, .int 0, .ref 6]) (σ' := σ4) rfl ?_
  refine xX_one (w := xw_25) (i := 35) (ls' := [.ref 76, .ref 2]) (st' := []) (σ' := xset σ4 80 (va_cpy (σ4 6) (σ4 80) 0 0 64)) eT_25 rfl (e_copy xs_6 xs_80 (by decide) (by decide) (Nat.le_of_ble_eq_true rfl)) ?_
  obtain ⟨σ5, eσ5, h⟩ := xlet_inv h
  rw [← eσ5]
  refine xX_blk (w := xw_25) eT_25 7 36 (ls' := [.ref 76, .ref 2]) (st' := [.int 64, .int 0, .ref 81, .int 0, .ref 7]) (σ' := σ5) rfl ?_
  refine xX_one (w := xw_25) (i := 43) (ls' := [.ref 76, .ref 2]) (st' := []) (σ' := xset σ5 81 (va_cpy (σ5 7) (σ5 81) 0 0 64)) eT_25 rfl (e_copy xs_7 xs_81 (by decide) (by decide) (Nat.le_of_ble_eq_true rfl)) ?_
  obtain ⟨σ6, eσ6, h⟩ := xlet_inv h
  rw [← eσ6]
  obtain rfl := Option.some.inj h
  exact xX_ret (w := xw_25) (i := 44) eT_25 rfl rfl
def F_X8_copyFrom_82_8 (σ : xM) : Option (xM) :=
  xlet (xup σ 82 0 (σ 8 0)) fun σ1 =>
  xlet (xup σ1 82 1 (σ1 8 1)) fun σ2 =>
  xlet (xset σ2 83 (va_cpy (σ2 9) (σ2 83) 0 0 5)) fun σ3 =>
  xlet (xset σ3 84 (va_cpy (σ3 10) (σ3 84) 0 0 5)) fun σ4 =>
  xlet (xset σ4 85 (va_cpy (σ4 11) (σ4 85) 0 0 5)) fun σ5 =>
  xlet (xset σ5 86 (va_cpy (σ5 12) (σ5 86) 0 0 5)) fun σ6 =>
  xlet (xset σ6 87 (va_cpy (σ6 13) (σ6 87) 0 0 5)) fun σ7 =>
  some σ7
set_option maxHeartbeats 1000000 in
set_option maxRecDepth 20000 in
theorem T_X8_copyFrom_82_8 (σ : xM) {d : Nat} {q : xM} (hd : 0 ≤ d) (h : F_X8_copyFrom_82_8 σ = some q) : xR xT xLn d 76 [.ref 82, .ref 8] σ (none, q) := by
  unfold F_X8_copyFrom_82_8 at h
  show xX xT xLn d 76 0 [.ref 82, .ref 8] [] σ _
  refine xX_blk (w := xw_76) eT_76 3 0 (ls' := [.ref 82, .ref 8]) (st' := [.int (σ 8 0), .ref 82]) (σ' := σ) rfl ?_
  refine xX_blk (w := xw_76) eT_76 1 3 (ls' := [.ref 82, .ref 8]) (st' := []) (σ' := xup σ 82 0 (σ 8 0)) rfl ?_
  obtain ⟨σ1, eσ1, h⟩ := xlet_inv h
  rw [← eσ1]
  refine xX_blk (w := xw_76) eT_76 3 4 (ls' := [.ref 82, .ref 8]) (st' := [.int (σ1 8 1), .ref 82]) (σ' := σ1) rfl ?_
  refine xX_blk (w := xw_76) eT_76 1 7 (ls' := [.ref 82, .ref 8]) (st' := []) (σ' := xup σ1 82 1 (σ1 8 1)) rfl ?_
  obtain ⟨σ2, eσ2, h⟩ := xlet_inv h
  rw [← eσ2]
  refine xX_blk (w := xw_76) eT_76 7 8 (ls' := [.ref 82, .ref 8]) (st' := [.int 5, .int 0, .ref 83, .int 0, .ref 9]) (σ' := σ2) rfl ?_
  refine xX_one (w := xw_76) (i := 15) (ls' := [.ref 82, .ref 8]) (st' := []) (σ' := xset σ2 83 (va_cpy (σ2 9) (σ2 83) 0 0 5)) eT_76 rfl (e_copy xs_9 xs_83 (by decide) (by decide) (Nat.le_of_ble_eq_true rfl)) ?_
  obtain ⟨σ3, eσ3, h⟩ := xlet_inv h
  rw [← eσ3]
  refine xX_blk (w := xw_76) eT_76 7 16 (ls' := [.ref 82, .ref 8]) (st' := [.int 5, .int 0, .ref 84, .int 0, .ref 10]) (σ' := σ3) rfl ?_
  refine xX_one (w := xw_76) (i := 23) (ls' := [.ref 82, .ref 8]) (st' := []) (σ' := xset σ3 84 (va_cpy (σ3 10) (σ3 84) 0 0 5)) eT_76 rfl (e_copy xs_10 xs_84 (by decide) (by decide) (Nat.le_of_ble_eq_true rfl)) ?_
  obtain ⟨σ4, eσ4, h⟩ := xlet_inv h
  rw [← eσ4]
  refine xX_blk (w := xw_76) eT_76 7 24 (ls' := [.ref 82, .ref 8]) (st' := [.int 5, .int 0, .ref 85, .int 0, .ref 11]) (σ' := σ4) rfl ?_
  refine xX_one (w := xw_76) (i := 31) (ls' := [.ref 82, .ref 8]) (st' := []) (σ' := xset σ4 85 (va_cpy (σ4 11) (σ4 85) 0 0 5)) eT_76 rfl (e_copy xs_11 xs_85 (by decide) (by decide) (Nat.le_of_ble_eq_true rfl)) ?_
  obtain ⟨σ5, eσ5, h⟩ := xlet_inv h
  rw [← eσ5]
  refine xX_blk (w := xw_76) eT_76 7 32 (ls' := [.ref 82, .ref 8]) (st' := [.int 5, .int 0, .ref 86, .int 0, .ref 12]) (σ' := σ5) rfl ?_
  refine xX_one (w := xw_76) (i := 39) (ls' := [.ref 82, .ref 8]) (st' := []) (σ' := xset σ5 86 (va_cpy (σ5 12) (σ5 86) 0 0 5)) eT_76 rfl (e_copy xs_12 xs_86 (by decide) (by decide) (Nat.le_of_ble_eq_true rfl)) ?_
  obtain ⟨σ6, eσ6, h⟩ := xlet_inv h
  rw [← eσ6]
  refine xX_blk (w := xw_76) eT_76 7 40 (ls' := [.ref 82, .ref 8]) (st' := [.int 5, .int 0, .ref 87, .int 0, .ref 13]) (σ' := σ6) rfl ?_
  refine xX_one (w := xw_76) (i := 47) (ls' := [.ref 82, .ref 8]) (st' := []) (σ' := xset σ6 87 (va_cpy (σ6 13) (σ6 87) 0 0 5)) eT_76 rfl (e_copy xs_13 xs_87 (by decide) (by decide) (Nat.le_of_ble_eq_true rfl)) ?_
  obtain ⟨σ7, eσ7, h⟩ := xlet_inv h
  rw [← eσ7]
  obtain rfl := Option.some.inj h
  exact xX_ret (w := xw_76) (i := 48) eT_76 rfl rfl
def F_X7_copyFrom_88_14 (σ : xM) : Option (xM) :=
  xlet (xup σ 88 0 (σ 14 0)) fun σ1 =>
  xlet (xset σ1 89 (va_cpy (σ1 15) (σ1 89) 0 0 12)) fun σ2 =>
  xlet (xset σ2 90 (va_cpy (σ2 16) (σ2 90) 0 0 12)) fun σ3 =>
  xlet (xset σ3 91 (va_cpy (σ3 17) (σ3 91) 0 0 12)) fun σ4 =>
  xlet (xset σ4 92 (va_cpy (σ4 18) (σ4 92) 0 0 12)) fun σ5 =>
  some σ5
set_option maxHeartbeats 1000000 in
set_option maxRecDepth 20000 in
theorem T_X7_copyFrom_88_14 (σ : xM) {d : Nat} {q : xM} (hd : 0 ≤ d) (h : F_X7_copyFrom_88_14 σ = some q) : xR xT xLn d 67 [.ref 88, .ref 14] σ (none, q) := by
  unfold F_X7_copyFrom_88_14 at h
  show xX xT xLn d 67 0 [.ref 88, .ref 14] [] σ _
  refine xX_blk (w := xw_67) eT_67 3 0 (ls' := [.ref 88, .ref 14]) (st' := [.int (σ 14 0), .ref 88]) (σ' := σ) rfl ?_
  refine xX_blk (w := xw_67) eT_67 1 3 (ls' := [.ref 88, .ref 14]) (st' := []) (σ' := xup σ 88 0 (σ 14 0)) rfl ?_
  obtain ⟨σ1, eσ1, h⟩ := xlet_inv h
  rw [← eσ1]
  refine xX_blk (w := xw_67) eT_67 7 4 (ls' := [.ref 88, .ref 14]) (st' := [.int 12, .int 0, .ref 89, .int 0, .ref 15]) (σ' := σ1) rfl ?_
  refine xX_one (w := xw_67) (i := 11) (ls' := [.ref 88, .ref 14]) (st' := []) (σ' := xset σ1 89 (va_cpy (σ1 15) (σ1 89) 0 0 12)) eT_67 rfl (e_copy xs_15 xs_89 (by decide) (by decide) (Nat.le_of_ble_eq_true rfl)) ?_
  obtain ⟨σ2, eσ2, h⟩ := xlet_inv h
  rw [← eσ2]
  refine xX_blk (w := xw_67) eT_67 7 12 (ls' := [.ref 88, .ref 14]) (st' := [.int 12, .int 0, .ref 90, .int 0, .ref 16]) (σ' := σ2) rfl ?_
  refine xX_one (w := xw_67) (i := 19) (ls' := [.ref 88, .ref 14]) (st' := []) (σ' := xset σ2 90 (va_cpy (σ2 16) (σ2 90) 0 0 12)) eT_67 rfl (e_copy xs_16 xs_90 (by decide) (by decide) (Nat.le_of_ble_eq_true rfl)) ?_
  obtain ⟨σ3, eσ3, h⟩ := xlet_inv h
  rw [← eσ3]
  refine xX_blk (w := xw_67) eT_67 7 20 (ls' := [.ref 88, .ref 14]) (st' := [.int 12, .int 0, .ref 91, .int 0, .ref 17]) (σ' := σ3) rfl ?_
  refine xX_one (w := xw_67) (i := 27) (ls' := [.ref 88, .ref 14]) (st' := []) (σ' := xset σ3 91 (va_cpy (σ3 17) (σ3 91) 0 0 12)) eT_67 rfl (e_copy xs_17 xs_91 (by decide) (by decide) (Nat.le_of_ble_eq_true rfl)) ?_
  obtain ⟨σ4, eσ4, h⟩ := xlet_inv h
  rw [← eσ4]
  refine xX_blk (w := xw_67) eT_67 7 28 (ls' := [.ref 88, .ref 14]) (st' := [.int 12, .int 0, .ref 92, .int 0, .ref 18]) (σ' := σ4) rfl ?_
  refine xX_one (w := xw_67) (i := 35) (ls' := [.ref 88, .ref 14]) (st' := []) (σ' := xset σ4 92 (va_cpy (σ4 18) (σ4 92) 0 0 12)) eT_67 rfl (e_copy xs_18 xs_92 (by decide) (by decide) (Nat.le_of_ble_eq_true rfl)) ?_
  obtain ⟨σ5, eσ5, h⟩ := xlet_inv h
  rw [← eσ5]
  obtain rfl := Option.some.inj h
  exact xX_ret (w := xw_67) (i := 36) eT_67 rfl rfl
def F_X9_copyFrom_75_1 (σ : xM) : Option (xM) :=
  xbd (F_X1_copyFrom_76_2 σ) fun r1 =>
  xbd (F_X8_copyFrom_82_8 r1) fun r2 =>
  xbd (F_X7_copyFrom_88_14 r2) fun r3 =>
  xlet (xup r3 75 3 (r3 1 3)) fun σ4 =>
  xlet (xup σ4 75 4 (σ4 1 4)) fun σ5 =>
  xlet (xup σ5 75 5 (σ5 1 5)) fun σ6 =>
  xlet (xup σ6 75 6 (σ6 1 6)) fun σ7 =>
  some σ7
set_option maxHeartbeats 1000000 in
set_option maxRecDepth 20000 in
theorem T_X9_copyFrom_75_1 (σ : xM) {d : Nat} {q : xM} (hd : 1 ≤ d) (h : F_X9_copyFrom_75_1 σ = some q) : xR xT xLn d 77 [.ref 75, .ref 1] σ (none, q) := by
  unfold F_X9_copyFrom_75_1 at h
  show xX xT xLn d 77 0 [.ref 75, .ref 1] [] σ _
  refine xX_blk (w := xw_77) eT_77 4 0 (ls' := [.ref 75, .ref 1]) (st' := [.ref 2, .ref 76]) (σ' := σ) rfl ?_
  obtain ⟨r1, hr1, h⟩ := xbd_inv h
  refine xX_c0 (w := xw_77) (i := 4) (ls := [.ref 75, .ref 1]) (rest := []) eT_77 rfl (by omega) rfl rfl rfl (T_X1_copyFrom_76_2 σ (by omega) hr1) ?_
  refine xX_blk (w := xw_77) eT_77 4 5 (ls' := [.ref 75, .ref 1]) (st' := [.ref 8, .ref 82]) (σ' := r1) rfl ?_
  obtain ⟨r2, hr2, h⟩ := xbd_inv h
  refine xX_c0 (w := xw_77) (i := 9) (ls := [.ref 75, .ref 1]) (rest := []) eT_77 rfl (by omega) rfl rfl rfl (T_X8_copyFrom_82_8 r1 (by omega) hr2) ?_
  refine xX_blk (w := xw_77) eT_77 4 10 (ls' := [.ref 75, .ref 1]) (st' := [.ref 14, .ref 88]) (σ' := r2) rfl ?_
  obtain ⟨r3, hr3, h⟩ := xbd_inv h
  refine xX_c0 (w := xw_77) (i := 14) (ls := [.ref 75, .ref 1]) (rest := []) eT_77 rfl (by omega) rfl rfl rfl (T_X7_copyFrom_88_14 r2 (by omega) hr3) ?_
  refine xX_blk (w := xw_77) eT_77 3 15 (ls' := [.ref 75, .ref 1]) (st' := [.int (r3 1 3), .ref 75]) (σ' := r3) rfl ?_
  refine xX_blk (w := xw_77) eT_77 1 18 (ls' := [.ref 75, .ref 1]) (st' := []) (σ' := xup r3 75 3 (r3 1 3)) rfl ?_
  obtain ⟨σ4, eσ4, h⟩ := xlet_inv h
  rw [← eσ4]
  refine xX_blk (w := xw_77) eT_77 3 19 (ls' := [.ref 75, .ref 1]) (st' := [.int (σ4 1 4), .ref 75]) (σ' := σ4) rfl ?_
  refine xX_blk (w := xw_77) eT_77 1 22 (ls' := [.ref 75, .ref 1]) (st' := []) (σ' := xup σ4 75 4 (σ4 1 4)) rfl ?_
  obtain ⟨σ5, eσ5, h⟩ := xlet_inv h
  rw [← eσ5]
  refine xX_blk (w := xw_77) eT_77 3 23 (ls' := [.ref 75, .ref 1]) (st' := [.int (σ5 1 5), .ref 75]) (σ' := σ5) rfl ?_
  refine xX_blk (w := xw_77) eT_77 1 26 (ls' := [.ref 75, .ref 1]) (st' := []) (σ' := xup σ5 75 5 (σ5 1 5)) rfl ?_
  obtain ⟨σ6, eσ6, h⟩ := xlet_inv h
  rw [← eσ6]
  refine xX_blk (w := xw_77) eT_77 3 27 (ls' := [.ref 75, .ref 1]) (st' := [.int (σ6 1 6), .ref 75]) (σ' := σ6) rfl ?_
  refine xX_blk (w := xw_77) eT_77 1 30 (ls' := [.ref 75, .ref 1]) (st' := []) (σ' := xup σ6 75 6 (σ6 1 6)) rfl ?_
  obtain ⟨σ7, eσ7, h⟩ := xlet_inv h
  rw [← eσ7]
  obtain rfl := Option.some.inj h
  exact xX_ret (w := xw_77) (i := 31) eT_77 rfl rfl
def F_X1_copyFrom_94_2 (σ : xM) : Option (xM) :=
  xlet (xup σ 94 0 (σ 2 0)) fun σ1 =>
  xlet (xset σ1 95 (va_cpy (σ1 3) (σ1 95) 0 0 8)) fun σ2 =>
  xlet (xset σ2 96 (va_cpy (σ2 4) (σ2 96) 0 0 8)) fun σ3 =>
  xlet (xset σ3 97 (va_cpy (σ3 5) (σ3 97) 0 0 8)) fun σ4 =>
  xlet (xset σ4 98 (va_cpy (σ4 6) (σ4 98) 0 0 64)) fun σ5 =>
  xlet (xset σ5 99 (va_cpy (σ5 7) (σ5 99) 0 0 64)) fun σ6 =>
  some σ6
set_option maxHeartbeats 1000000 in
set_option maxRecDepth 20000 in
theorem T_X1_copyFrom_94_2 (σ : xM) {d : Nat} {q : xM} (hd : 0 ≤ d) (h : F_X1_copyFrom_94_2 σ = some q) : xR xT xLn d 25 [.ref 94, .ref 2] σ (none, q) := by
  unfold F_X1_copyFrom_94_2 at h
  show xX xT xLn d 25 0 [.ref 94, .ref 2] [] σ _
  refine xX_blk (w := xw_25) eT_25 3 0 (ls' := [.ref 94, .ref 2]) (st' := [.int (σ 2 0), .ref 94]) (σ' := σ) rfl ?_
  refine xX_blk (w := xw_25) eT_25 1 3 (ls' := [.ref 94, .ref 2]) (st' := []) (σ' := xup σ 94 0 (σ 2 0)) rfl ?_
  obtain ⟨σ1, eσ1, h⟩ := xlet_inv h
  rw [← eσ1]
  refine xX_blk (w := xw_25) eT_25 7 4 (ls' := [.ref 94, .ref 2]) (st' := [.int 8, .int 0, .ref 95, .int 0, .ref 3]) (σ' := σ1) rfl ?_
  refine xX_one (w := xw_25) (i := 11) (ls' := [.ref 94, .ref 2]) (st' := []) (σ' := xset σ1 95 (va_cpy (σ1 3) (σ1 95) 0 0 8)) eT_25 rfl (e_copy xs_3 xs_95 (by decide) (by decide) (Nat.le_of_ble_eq_true rfl)) ?_
  obtain ⟨σ2, eσ2, h⟩ := xlet_inv h
  rw [← eσ2]
  refine xX_blk (w := xw_25) eT_25 7 12 (ls' := [.ref 94, .ref 2]) (st' := [.int 8, .int 0, .ref 96, .int 0, .ref 4]) (σ' := σ2) rfl ?_
  refine xX_one (w := xw_25) (i := 19) (ls' := [.ref 94, .ref 2]) (st' := []) (σ' := xset σ2 96 (va_cpy (σ2 4) (σ2 96) 0 0 8)) eT_25 rfl (e_copy xs_4 xs_96 (by decide) (by decide) (Nat.le_of_ble_eq_true rfl)) ?_
  obtain ⟨σ3, eσ3, h⟩ := xlet_inv h
  rw [← eσ3]
  refine xX_blk (w := xw_25) eT_25 7 20 (ls' := [.ref 94, .ref 2]) (st' := [.int 8, .int 0, .ref 97, .int 0, .ref 5]) (σ' := σ3) rfl ?_
  refine xX_one (w := xw_25) (i := 27) (ls' := [.ref 94, .ref 2]) (st' := []) (σ' := xset σ3 97 (va_cpy (σ3 5) (σ3 97) 0 0 8)) eT_25 rfl (e_copy xs_5 xs_97 (by decide) (by decide) (Nat.le_of_ble_eq_true rfl)) ?_
  obtain ⟨σ4, eσ4, h⟩ := xlet_inv h
  rw [← eσ4]
  refine xX_blk (w := xw_25) eT_25 7 28 (ls' := [.ref 94, .ref 2]) (st' := [.int 64, .int 0, .ref 98, .int 0, .ref 6]) (σ' := σ4) rfl ?_
  refine xX_one (w := xw_25) (i := 35) (ls' := [.ref 94, .ref 2]) (st' := []) (σ' := xset σ4 98 (va_cpy (σ4 6) (σ4 98) 0 0 64)) eT_25 rfl (e_copy xs_6 xs_98 (by decide) (by decide) (Nat.le_of_ble_eq_true rfl)) ?_
  obtain ⟨σ5, eσ5, h⟩ := xlet_inv h
  rw [← eσ5]
  refine xX_blk (w := xw_25) eT_25 7 36 (ls' := [.ref 94, .ref 2]) (st' := [.int 64, .int 0, .ref 99, .int 0, .ref 7]) (σ' := σ5) rfl ?_
  refine xX_one (w := xw_25) (i := 43) (ls' := [.ref 94, .ref 2]) (st' := []) (σ' := xset σ5 99 (va_cpy (σ5 7) (σ5 99) 0 0 64)) eT_25 rfl (e_copy xs_7 xs_99 (by decide) (by decide) (Nat.le_of_ble_eq_true rfl)) ?_
  obtain ⟨σ6, eσ6, h⟩ := xlet_inv h
  rw [← eσ6]
  obtain rfl := Option.some.inj h
  exact xX_ret (w := xw_25) (i := 44) eT_25 rfl rfl
def F_X8_copyFrom_100_8 (σ : xM) : Option (xM) :=
  xlet (xup σ 100 0 (σ 8 0)) fun σ1 =>
  xlet (xup σ1 100 1 (σ1 8 1)) fun σ2 =>
  xlet (xset σ2 101 (va_cpy (σ2 9) (σ2 101) 0 0 5)) fun σ3 =>
  xlet (xset σ3 102 (va_cpy (σ3 10) (σ3 102) 0 0 5)) fun σ4 =>
  xlet (xset σ4 103 (va_cpy (σ4 11) (σ4 103) 0 0 5)) fun σ5 =>
  xlet (xset σ5 104 (va_cpy (σ5 12) (σ5 104) 0 0 5)) fun σ6 =>
  xlet (xset σ6 105 (va_cpy (σ6 13) (σ6 105) 0 0 5)) fun σ7 =>
  some σ7
set_option maxHeartbeats 1000000 in
set_option maxRecDepth 20000 in
theorem T_X8_copyFrom_100_8 (σ : xM) {d : Nat} {q : xM} (hd : 0 ≤ d) (h : F_X8_copyFrom_100_8 σ = some q) : xR xT xLn d 76 [.ref 100, .ref 8] σ (none, q) := by
  unfold F_X8_copyFrom_100_8 at h
  show xX xT xLn d 76 0 [.ref 100, .ref 8] [] σ _
  refine xX_blk (w := xw_76) eT_76 3 0 (ls' := [.ref 100, .ref 8]) (st' := [.int (σ 8 0), .ref 100]) (σ' := σ) rfl ?_
  refine xX_blk (w := xw_76) eT_76 1 3 (ls' := [.ref 100, .ref 8]) (st' := []) (σ' := xup σ 100 0 (σ 8 0)) rfl ?_
  obtain ⟨σ1, eσ1, h⟩ := xlet_inv h
  rw [← eσ1]
  refine xX_blk (w := xw_76) eT_76 3 4 (ls' := [.ref 100, .ref 8]) (st' := [.int (σ1 8 1), .ref 100]) (σ' := σ1) rfl ?_
  refine xX_blk (w := xw_76) eT_76 1 7 (ls' := [.ref 100, .ref 8]) (st' := []) (σ' := xup σ1 100 1 (σ1 8 1)) rfl ?_
  obtain ⟨σ2, eσ2, h⟩ := xlet_inv h
  rw [← eσ2]
  refine xX_blk (w := xw_76) eT_76 7 8 (ls' := [.ref 100, .ref 8]) (st' := [.int 5, .int 0, .ref 101, .int 0, .ref 9]) (σ' := σ2) rfl ?_
  refine xX_one (w := xw_76) (i := 15) (ls' := [.ref 100, .ref 8]) (st' := []) (σ' := xset σ2 101 (va_cpy (σ2 9) (σ2 101) 0 0 5)) eT_76 rfl (e_copy xs_9 xs_101 (by decide) (by decide) (Nat.le_of_ble_eq_true rfl)) ?_
  obtain ⟨σ3, eσ3, h⟩ := xlet_inv h
  rw [← eσ3]
  refine xX_blk (w := xw_76) eT_76 7 16 (ls' := [.ref 100, .ref 8]) (st' := [.int 5, .int 0, .ref 102, .int 0, .ref 10]) (σ' := σ3) rfl ?_
  refine xX_one (w := xw_76) (i := 23) (ls' := [.ref 100, .ref 8]) (st' := []) (σ' := xset σ3 102 (va_cpy (σ3 10) (σ3 102) 0 0 5)) eT_76 rfl (e_copy xs_10 xs_102 (by decide) (by decide) (Nat.le_of_ble_eq_true rfl)) ?_
  obtain ⟨σ4, eσ4, h⟩ := xlet_inv h
  rw [← eσ4]
  refine xX_blk (w := xw_76) eT_76 7 24 (ls' := [.ref 100, .ref 8]) (st' := [.int 5, .int 0, .ref 103, .int 0, .ref 11]) (σ' := σ4) rfl ?_
  refine xX_one (w := xw_76) (i := 31) (ls' := [.ref 100, .ref 8]) (st' := []) (σ' := xset σ4 103 (va_cpy (σ4 11) (σ4 103) 0 0 5)) eT_76 rfl (e_copy xs_11 xs_103 (by decide) (by decide) (Nat.le_of_ble_eq_true rfl)) ?_
  obtain ⟨σ5, eσ5, h⟩ := xlet_inv h
  rw [← eσ5]
  refine xX_blk (w := xw_76) eT_76 7 32 (ls' := [.ref 100, .ref 8]) (st' := [.int 5, .int 0, .ref 104, .int 0, .ref 12]) (σ' := σ5) rfl ?_
  refine xX_one (w := xw_76) (i := 39) (ls' := [.ref 100, .ref 8]) (st' := []) (σ' := xset σ5 104 (va_cpy (σ5 12) (σ5 104) 0 0 5)) eT_76 rfl (e_copy xs_12 xs_104 (by decide) (by decide) (Nat.le_of_ble_eq_true rfl)) ?_
  obtain ⟨σ6, eσ6, h⟩ := xlet_inv h
  rw [← eσ6]
  refine xX_blk (w := xw_76) eT_76 7 40 (ls' := [.ref 100, .ref 8]) (st' := [.int 5, .int 0, .ref 105, .int 0, .ref 13]) (σ' := σ6) rfl ?_
  refine xX_one (w := xw_76) (i := 47) (ls' := [.ref 100, .ref 8]) (st' := []) (σ' := xset σ6 105 (va_cpy (σ6 13) (σ6 105) 0 0 5)) eT_76 rfl (e_copy xs_13 xs_105 (by decide) (by decide) (Nat.le_of_ble_eq_true rfl)) ?_
  obtain ⟨σ7, eσ7, h⟩ := xlet_inv h
  rw [← eσ7]
  obtain rfl := Option.some.inj h
  exact xX_ret (w := xw_76) (i := 48) eT_76 rfl rfl
def F_X7_copyFrom_106_14 (σ : xM) : Option (xM) :=
  xlet (xup σ 106 0 (σ 14 0)) fun σ1 =>
  xlet (xset σ1 107 (va_cpy (σ1 15) (σ1 107) 0 0 12)) fun σ2 =>
  xlet (xset σ2 108 (va_cpy (σ2 16) (σ2 108) 0 0 12)) fun σ3 =>
  xlet (xset σ3 109 (va_cpy (σ3 17) (σ3 109) 0 0 12)) fun σ4 =>
  xlet (xset σ4 110 (va_cpy (σ4 18) (σ4 110) 0 0 12)) fun σ5 =>
  some σ5
set_option maxHeartbeats 1000000 in
set_option maxRecDepth 20000 in
theorem T_X7_copyFrom_106_14 (σ : xM) {d : Nat} {q : xM} (hd : 0 ≤ d) (h : F_X7_copyFrom_106_14 σ = some q) : xR xT xLn d 67 [.ref 106, .ref 14] σ (none, q) := by
  unfold F_X7_copyFrom_106_14 at h
  show xX xT xLn d 67 0 [.ref 106, .ref 14] [] σ _
  refine xX_blk (w := xw_67) eT_67 3 0 (ls' := [.ref 106, .ref 14]) (st' := [.int (σ 14 0), .ref 106]) (σ' := σ) rfl ?_
  refine xX_blk (w := xw_67) eT_67 1 3 (ls' := [.ref 106, .ref 14]) (st' := []) (σ' := xup σ 106 0 (σ 14 0)) rfl ?_
  obtain ⟨σ1, eσ1, h⟩ := xlet_inv h
  rw [← eσ1]
  refine xX_blk (w := xw_67) eT_67 7 4 (ls' := [.ref 106, .ref 14]) (st' := [.int 12, .int 0, .ref 107, .int 0, .ref 15]) (σ' := σ1) rfl ?_
  refine xX_one (w := xw_67) (i := 11) (ls' := [.ref 106, .ref 14]) (st' := []) (σ' := xset σ1 107 (va_cpy (σ1 15) (σ1 107) 0 0 12)) eT_67 rfl (e_copy xs_15 xs_107 (by decide) (by decide) (Nat.le_of_ble_eq_true rfl)) ?_
  obtain ⟨σ2, eσ2, h⟩ := xlet_inv h
  rw [← eσ2]
  refine xX_blk (w := xw_67) eT_67 7 12 (ls' := [.ref 106, .ref 14]) (st' := [.int 12, .int 0, .ref 108, .int 0, .ref 16]) (σ' := σ2) rfl ?_
  refine xX_one (w := xw_67) (i := 19) (ls' := [.ref 106, .ref 14]) (st' := []) (σ' := xset σ2 108 (va_cpy (σ2 16) (σ2 108) 0 0 12)) eT_67 rfl (e_copy xs_16 xs_108 (by decide) (by decide) (Nat.le_of_ble_eq_true rfl)) ?_
  obtain ⟨σ3, eσ3, h⟩ := xlet_inv h
  rw [← eσ3]
  refine xX_blk (w := xw_67) eT_67 7 20 (ls' := [.ref 106, .ref 14]) (st' := [.int 12, .int 0, .ref 109, .int 0, .ref 17]) (σ' := σ3) rfl ?_
  refine xX_one (w := xw_67) (i := 27) (ls' := [.ref 106, .ref 14]) (st' := []) (σ' := xset σ3 109 (va_cpy (σ3 17) (σ3 109) 0 0 12)) eT_67 rfl (e_copy xs_17 xs_109 (by decide) (by decide) (Nat.le_of_ble_eq_true rfl)) ?_
  obtain ⟨σ4, eσ4, h⟩ := xlet_inv h
  rw [← eσ4]
  refine xX_blk (w := xw_67) eT_67 7 28 (ls' := [.ref 106, .ref 14]) (st' := [.int 12, .int 0, .ref 110, .int 0, .ref 18]) (σ' := σ4) rfl ?_
  refine xX_one (w := xw_67) (i := 35) (ls' := [.ref 106, .ref 14]) (st' := []) (σ' := xset σ4 110 (va_cpy (σ4 18) (σ4 110) 0 0 12)) eT_67 rfl (e_copy xs_18 xs_110 (by decide) (by decide) (Nat.le_of_ble_eq_true rfl)) ?_
  obtain ⟨σ5, eσ5, h⟩ := xlet_inv h
  rw [← eσ5]
  obtain rfl := Option.some.inj h
  exact xX_ret (w := xw_67) (i := 36) eT_67 rfl rfl
def F_X9_copyFrom_93_1 (σ : xM) : Option (xM) :=
  xbd (F_X1_copyFrom_94_2 σ) fun r1 =>
  xbd (F_X8_copyFrom_100_8 r1) fun r2 =>
  xbd (F_X7_copyFrom_106_14 r2) fun r3 =>
  xlet (xup r3 93 3 (r3 1 3)) fun σ4 =>
  xlet (xup σ4 93 4 (σ4 1 4)) fun σ5 =>
  xlet (xup σ5 93 5 (σ5 1 5)) fun σ6 =>
  xlet (xup σ6 93 6 (σ6 1 6)) fun σ7 =>
  some σ7
set_option maxHeartbeats 1000000 in
set_option maxRecDepth 20000 in
theorem T_X9_copyFrom_93_1 (σ : xM) {d : Nat} {q : xM} (hd : 1 ≤ d) (h : F_X9_copyFrom_93_1 σ = some q) : xR xT xLn d 77 [.ref 93, .ref 1] σ (none, q) := by
  unfold F_X9_copyFrom_93_1 at h
  show xX xT xLn d 77 0 [.ref 93, .ref 1] [] σ _
  refine xX_blk (w := xw_77) eT_77 4 0 (ls' := [.ref 93, .ref 1]) (st' := [.ref 2, .ref 94]) (σ' := σ) rfl ?_
  obtain ⟨r1, hr1, h⟩ := xbd_inv h
  refine xX_c0 (w := xw_77) (i := 4) (ls := [.ref 93, .ref 1]) (rest := []) eT_77 rfl (by omega) rfl rfl rfl (T_X1_copyFrom_94_2 σ (by omega) hr1) ?_
  refine xX_blk (w := xw_77) eT_77 4 5 (ls' := [.ref 93, .ref 1]) (st' := [.ref 8, .ref 100]) (σ' := r1) rfl ?_
  obtain ⟨r2, hr2, h⟩ := xbd_inv h
  refine xX_c0 (w := xw_77) (i := 9) (ls := [.ref 93, .ref 1]) (rest := []) eT_77 rfl (by omega) rfl rfl rfl (T_X8_copyFrom_100_8 r1 (by omega) hr2) ?_
  refine xX_blk (w := xw_77) eT_77 4 10 (ls' := [.ref 93, .ref 1]) (st' := [.ref 14, .ref 106]) (σ' := r2) rfl ?_
  obtain ⟨r3, hr3, h⟩ := xbd_inv h
  refine xX_c0 (w := xw_77) (i := 14) (ls := [.ref 93, .ref 1]) (rest := []) eT_77 rfl (by omega) rfl rfl rfl (T_X7_copyFrom_106_14 r2 (by omega) hr3) ?_
  refine xX_blk (w := xw_77) eT_77 3 15 (ls' := [.ref 93, .ref 1]) (st' := [.int (r3 1 3), .ref 93]) (σ' := r3) rfl ?_
  refine xX_blk (w := xw_77) eT_77 1 18 (ls' := [.ref 93, .ref 1]) (st' := []) (σ' := xup r3 93 3 (r3 1 3)) rfl ?_
  obtain ⟨σ4, eσ4, h⟩ := xlet_inv h
  rw [← eσ4]
  refine xX_blk (w := xw_77) eT_77 3 19 (ls' := [.ref 93, .ref 1]) (st' := [.int (σ4 1 4), .ref 93]) (σ' := σ4) rfl ?_
  refine xX_blk (w := xw_77) eT_77 1 22 (ls' := [.ref 93, .ref 1]) (st' := []) (σ' := xup σ4 93 4 (σ4 1 4)) rfl ?_
  obtain ⟨σ5, eσ5, h⟩ := xlet_inv h
  rw [← eσ5]
  refine xX_blk (w := xw_77) eT_77 3 23 (ls' := [.ref 93, .ref 1]) (st' := [.int (σ5 1 5), .ref 93]) (σ' := σ5) rfl ?_
  refine xX_blk (w := xw_77) eT_77 1 26 (ls' := [.ref 93, .ref 1]) (st' := []) (σ' := xup σ5 93 5 (σ5 1 5)) rfl ?_
  obtain ⟨σ6, eσ6, h⟩ := xlet_inv h
  rw [← eσ6]
  refine xX_blk (w := xw_77) eT_77 3 27 (ls' := [.ref 93, .ref 1]) (st' := [.int (σ6 1 6), .ref 93]) (σ' := σ6) rfl ?_
  refine xX_blk (w := xw_77) eT_77 1 30 (ls' := [.ref 93, .ref 1]) (st' := []) (σ' := xup σ6 93 6 (σ6 1 6)) rfl ?_
  obtain ⟨σ7, eσ7, h⟩ := xlet_inv h
  rw [← eσ7]
  obtain rfl := Option.some.inj h
  exact xX_ret (w := xw_77) (i := 31) eT_77 rfl rfl
def F_X1_copyFrom_112_2 (σ : xM) : Option (xM) :=
  xlet (xup σ 112 0 (σ 2 0)) fun σ1 =>
  xlet (xset σ1 113 (va_cpy (σ1 3) (σ1 113) 0 0 8)) fun σ2 =>
  xlet (xset σ2 114 (va_cpy (σ2 4) (σ2 114) 0 0 8)) fun σ3 =>
  xlet (xset σ3 115 (va_cpy (σ3 5) (σ3 115) 0 0 8)) fun σ4 =>
  xlet (xset σ4 116 (va_cpy (σ4 6) (σ4 116) 0 0 64)) fun σ5 =>
  xlet (xset σ5 117 (va_cpy (σ5 7) (σ5 117) 0 0 64)) fun σ6 =>
  some σ6
set_option maxHeartbeats 1000000 in
set_option maxRecDepth 20000 in
theorem T_X1_copyFrom_112_2 (σ : xM) {d : Nat} {q : xM} (hd : 0 ≤ d) (h : F_X1_copyFrom_112_2 σ = some q) : xR xT xLn d 25 [.ref 112, .ref 2] σ (none, q) := by
  unfold F_X1_copyFrom_112_2 at h
  show xX xT xLn d 25 0 [.ref 112, .ref 2] [] σ _
  refine xX_blk (w := xw_25) eT_25 3 0 (ls' := [.ref 112, .ref 2]) (st' := [.int (σ 2 0), .ref 112]) (σ' := σ) rfl ?_
  refine xX_blk (w := xw_25) eT_25 1 3 (ls' := [.ref 112, .ref 2]) (st' := []) (σ' := xup σ 112 0 (σ 2 0)) rfl ?_
  obtain ⟨σ1, eσ1, h⟩ := xlet_inv h
  rw [← eσ1]
  refine xX_blk (w := xw_25) eT_25 7 4 (ls' := [.ref 112, .ref 2]) (st' := [.int 8, .int 0, .ref 113, .int 0, .ref 3]) (σ' := σ1) rfl ?_
  refine xX_one (w := xw_25) (i := 11) (ls' := [.ref 112, .ref 2]) (st' := []) (σ' := xset σ1 113 (va_cpy (σ1 3) (σ1 113) 0 0 8)) eT_25 rfl (e_copy xs_3 xs_113 (by decide) (by decide) (Nat.le_of_ble_eq_true rfl)) ?_
  obtain ⟨σ2, eσ2, h⟩ := xlet_inv h
  rw [← eσ2]
  refine xX_blk (w := xw_25) eT_25 7 12 (ls' := [.ref 112, .ref 2]) (st' := [.int 8, .int 0, .ref 114, .int 0, .ref 4]) (σ' := σ2) rfl ?_
  refine xX_one (w := xw_25) (i := 19) (ls' := [.ref 112, .ref 2]) (st' := []) (σ' := xset σ2 114 (va_cpy (σ2 4) (σ2 114) 0 0 8)) eT_25 rfl (e_copy xs_4 xs_114 (by decide) (by decide) (Nat.le_of_ble_eq_true rfl)) ?_
  obtain ⟨σ3, eσ3, h⟩ := xlet_inv h
  rw [← eσ3]
  refine xX_blk (w := xw_25) eT_25 7 20 (ls' := [.ref 112, .ref 2]) (st' := [.int 8, .int 0, .ref 115, .int 0, .ref 5]) (σ' := σ3) rfl ?_
  refine xX_one (w := xw_25) (i := 27) (ls' := [.ref 112, .ref 2]) (st' := []) (σ' := xset σ3 115 (va_cpy (σ3 5) (σ3 115) 0 0 8)) eT_25 rfl (e_copy xs_5 xs_115 (by decide) (by decide) (Nat.le_of_ble_eq_true rfl)) ?_
  obtain ⟨σ4, eσ4, h⟩ := xlet_inv h
  rw [← eσ4]
  refine xX_blk (w := xw_25) eT_25 7 28 (ls' := [.ref 112, .ref 2]) (st' := [.int 64, .int 0, .ref 116, .int 0, .ref 6]) (σ' := σ4) rfl ?_
  refine xX_one (w := xw_25) (i := 35) (ls' := [.ref 112, .ref 2]) (st' := []) (σ' := xset σ4 116 (va_cpy (σ4 6) (σ4 116) 0 0 64)) eT_25 rfl (e_copy xs_6 xs_116 (by decide) (by decide) (Nat.le_of_ble_eq_true rfl)) ?_
  obtain ⟨σ5, eσ5, h⟩ := xlet_inv h
  rw [← eσ5]
  refine xX_blk (w := xw_25) eT_25 7 36 (ls' := [.ref 112, .ref 2]) (st' := [.int 64, .int 0, .ref 117, .int 0, .ref 7]) (σ' := σ5) rfl ?_
  refine xX_one (w := xw_25) (i := 43) (ls' := [.ref 112, .ref 2]) (st' := []) (σ' := xset σ5 117 (va_cpy (σ5 7) (σ5 117) 0 0 64)) eT_25 rfl (e_copy xs_7 xs_117 (by decide) (by decide) (Nat.le_of_ble_eq_true rfl)) ?_
  obtain ⟨σ6, eσ6, h⟩ := xlet_inv h
  rw [← eσ6]
  obtain rfl := Option.some.inj h
  exact xX_ret (w := xw_25) (i := 44) eT_25 rfl rfl
def F_X8_copyFrom_118_8 (σ : xM) : Option (xM) :=
  xlet (xup σ 118 0 (σ 8 0)) fun σ1 =>
  xlet (xup σ1 118 1 (σ1 8 1)) fun σ2 =>
  xlet (xset σ2 119 (va_cpy (σ2 9) (σ2 119) 0 0 5)) fun σ3 =>
  xlet (xset σ3 120 (va_cpy (σ3 10) (σ3 120) 0 0 5)) fun σ4 =>
  xlet (xset σ4 121 (va_cpy (σ4 11) (σ4 121) 0 0 5)) fun σ5 =>
  xlet (xset σ5 122 (va_cpy (σ5 12) (σ5 122) 0 0 5)) fun σ6 =>
  xlet (xset σ6 123 (va_cpy (σ6 13) (σ6 123) 0 0 5)) fun σ7 =>
  some σ7
set_option maxHeartbeats 1000000 in
set_option maxRecDepth 20000 in
theorem T_X8_copyFrom_118_8 (σ : xM) {d : Nat} {q : xM} (hd : 0 ≤ d) (h : F_X8_copyFrom_118_8 σ = some q) : xR xT xLn d 76 [.ref 118, .ref 8] σ (none, q) := by
  unfold F_X8_copyFrom_118_8 at h
  show xX xT xLn d 76 0 [.ref 118, .ref 8] [] σ _
  refine xX_blk (w := xw_76) eT_76 3 0 (ls' := [.ref 118, .ref 8]) (st' := [.int (σ 8 0), .ref 118]) (σ' := σ) rfl ?_
  refine xX_blk (w := xw_76) eT_76 1 3 (ls' := [.ref 118, .ref 8]) (st' := []) (σ' := xup σ 118 0 (σ 8 0)) rfl ?_
  obtain ⟨σ1, eσ1, h⟩ := xlet_inv h
  rw [← eσ1]
  refine xX_blk (w := xw_76) eT_76 3 4 (ls' := [.ref 118, .ref 8]) (st' := [.int (σ1 8 1), .ref 118]) (σ' := σ1) rfl ?_
  refine xX_blk (w := xw_76) eT_76 1 7 (ls' := [.ref 118, .ref 8]) (st' := []) (σ' := xup σ1 118 1 (σ1 8 1)) rfl ?_
  obtain ⟨σ2, eσ2, h⟩ := xlet_inv h
  rw [← eσ2]
  refine xX_blk (w := xw_76) eT_76 7 8 (ls' := [.ref 118, .ref 8]) (st' := [.int 5, .int 0, .ref 119, .int 0, .ref 9]) (σ' := σ2) rfl ?_
  refine xX_one (w := xw_76) (i := 15) (ls' := [.ref 118, .ref 8]) (st' := []) (σ' := xset σ2 119 (va_cpy (σ2 9) (σ2 119) 0 0 5)) eT_76 rfl (e_copy xs_9 xs_119 (by decide) (by decide) (Nat.le_of_ble_eq_true rfl)) ?_
  obtain ⟨σ3, eσ3, h⟩ := xlet_inv h
  rw [← eσ3]
  refine xX_blk (w := xw_76) eT_76 7 16 (ls' := [.ref 118, .ref 8]) (st' := [.int 5, .int 0, .ref 120, .int 0, .ref 10]) (σ' := σ3) rfl ?_
  refine xX_one (w := xw_76) (i := 23) (ls' := [.ref 118, .ref 8]) (st' := []) (σ' := xset σ3 120 (va_cpy (σ3 10) (σ3 120) 0 0 5)) eT_76 rfl (e_copy xs_10 xs_120 (by decide) (by decide) (Nat.le_of_ble_eq_true rfl)) ?_
  obtain ⟨σ4, eσ4, h⟩ := xlet_inv h
  rw [← eσ4]
  refine xX_blk (w := xw_76) eT_76 7 24 (ls' := [.ref 118, .ref 8]) (st' := [.int 5, .int 0, .ref 121, .int 0, .ref 11]) (σ' := σ4) rfl ?_
  refine xX_one (w := xw_76) (i := 31) (ls' := [.ref 118, .ref 8]) (st' := []) (σ' := xset σ4 121 (va_cpy (σ4 11) (σ4 121) 0 0 5)) eT_76 rfl (e_copy xs_11 xs_121 (by decide) (by decide) (Nat.le_of_ble_eq_true rfl)) ?_
  obtain ⟨σ5, eσ5, h⟩ := xlet_inv h
  rw [← eσ5]
  refine xX_blk (w := xw_76) eT_76 7 32 (ls' := [.ref 118, .ref 8]) (st' := [.int 5, .int 0, .ref 122, .int 0, .ref 12]) (σ' := σ5) rfl ?_
  refine xX_one (w := xw_76) (i := 39) (ls' := [.ref 118, .ref 8]) (st' := []) (σ' := xset σ5 122 (va_cpy (σ5 12) (σ5 122) 0 0 5)) eT_76 rfl (e_copy xs_12 xs_122 (by decide) (by decide) (Nat.le_of_ble_eq_true rfl)) ?_
  obtain ⟨σ6, eσ6, h⟩ := xlet_inv h
  rw [← eσ6]
  refine xX_blk (w := xw_76) eT_76 7 40 (ls' := [.ref 118, .ref 8]) (st' := [.int 5, .int 0, .ref 123, .int 0, .ref 13]) (σ' := σ6) rfl ?_
  refine xX_one (w := xw_76) (i := 47) (ls' := [.ref 118, .ref 8]) (st' := []) (σ' := xset σ6 123 (va_cpy (σ6 13) (σ6 123) 0 0 5)) eT_76 rfl (e_copy xs_13 xs_123 (by decide) (by decide) (Nat.le_of_ble_eq_true rfl)) ?_
  obtain ⟨σ7, eσ7, h⟩ := xlet_inv h
  rw [← eσ7]
  obtain rfl := Option.some.inj h
  exact xX_ret (w := xw_76) (i := 48) eT_76 rfl rfl
def F_X7_copyFrom_124_14 (σ : xM) : Option (xM) :=
  xlet (xup σ 124 0 (σ 14 0)) fun σ1 =>
  xlet (xset σ1 125 (va_cpy (σ1 15) (σ1 125) 0 0 12)) fun σ2 =>
  xlet (xset σ2 126 (va_cpy (σ2 16) (σ2 126) 0 0 12)) fun σ3 =>
  xlet (xset σ3 127 (va_cpy (σ3 17) (σ3 127) 0 0 12)) fun σ4 =>
  xlet (xset σ4 128 (va_cpy (σ4 18) (σ4 128) 0 0 12)) fun σ5 =>
  some σ5
set_option maxHeartbeats 1000000 in
set_option maxRecDepth 20000 in
theorem T_X7_copyFrom_124_14 (σ : xM) {d : Nat} {q : xM} (hd : 0 ≤ d) (h : F_X7_copyFrom_124_14 σ = some q) : xR xT xLn d 67 [.ref 124, .ref 14] σ (none, q) := by
  unfold F_X7_copyFrom_124_14 at h
  show xX xT xLn d 67 0 [.ref 124, .ref 14] [] σ _
  refine xX_blk (w := xw_67) eT_67 3 0 (ls' := [.ref 124, .ref 14]) (st' := [.int (σ 14 0), .ref 124]) (σ' := σ) rfl ?_
  refine xX_blk (w := xw_67) eT_67 1 3 (ls' := [.ref 124, .ref 14]) (st' := []) (σ' := xup σ 124 0 (σ 14 0)) rfl ?_
  obtain ⟨σ1, eσ1, h⟩ := xlet_inv h
  rw [← eσ1]
  refine xX_blk (w := xw_67) eT_67 7 4 (ls' := [.ref 124, .ref 14]) (st' := [.int 12, .int 0, .ref 125, .int 0, .ref 15]) (σ' := σ1) rfl ?_
  refine xX_one (w := xw_67) (i := 11) (ls' := [.ref 124, .ref 14]) (st' := []) (σ' := xset σ1 125 (va_cpy (σ1 15) (σ1 125) 0 0 12)) eT_67 rfl (e_copy xs_15 xs_125 (by decide) (by decide) (Nat.le_of_ble_eq_true rfl)) ?_
  obtain ⟨σ2, eσ2, h⟩ := xlet_inv h
  rw [← eσ2]
  refine xX_blk (w := xw_67) eT_67 7 12 (ls' := [.ref 124, .ref 14]) (st' := [.int 12, .int 0, .ref 126, .int 0, .ref 16]) (σ' := σ2) rfl ?_
  refine xX_one (w := xw_67) (i := 19) (ls' := [.ref 124, .ref 14]) (st' := []) (σ' := xset σ2 126 (va_cpy (σ2 16) (σ2 126) 0 0 12)) eT_67 rfl (e_copy xs_16 xs_126 (by decide) (by decide) (Nat.le_of_ble_eq_true rfl)) ?_
  obtain ⟨σ3, eσ3, h⟩ := xlet_inv h
  rw [← eσ3]
  refine xX_blk (w := xw_67) eT_67 7 20 (ls' := [.ref 124, .ref 14]) (st' := [.int 12, .int 0, .ref 127, .int 0, .ref 17]) (σ' := σ3) rfl ?_
  refine xX_one (w := xw_67) (i := 27) (ls' := [.ref 124, .ref 14]) (st' := []) (σ' := xset σ3 127 (va_cpy (σ3 17) (σ3 127) 0 0 12)) eT_67 rfl (e_copy xs_17 xs_127 (by decide) (by decide) (Nat.le_of_ble_eq_true rfl)) ?_
  obtain ⟨σ4, eσ4, h⟩ := xlet_inv h
  rw [← eσ4]
  refine xX_blk (w := xw_67) eT_67 7 28 (ls' := [.ref 124, .ref 14]) (st' := [.int 12, .int 0, .ref 128, .int 0, .ref 18]) (σ' := σ4) rfl ?_
  refine xX_one (w := xw_67) (i := 35) (ls' := [.ref 124, .ref 14]) (st' := []) (σ' := xset σ4 128 (va_cpy (σ4 18) (σ4 128) 0 0 12)) eT_67 rfl (e_copy xs_18 xs_128 (by decide) (by decide) (Nat.le_of_ble_eq_true rfl)) ?_
  obtain ⟨σ5, eσ5, h⟩ := xlet_inv h
  rw [← eσ5]
  obtain rfl := Option.some.inj h
  exact xX_ret (w := xw_67) (i := 36) eT_67 rfl rfl
def F_X9_copyFrom_111_1 (σ : xM) : Option (xM) :=
  xbd (F_X1_copyFrom_112_2 σ) fun r1 =>
  xbd (F_X8_copyFrom_118_8 r1) fun r2 =>
  xbd (F_X7_copyFrom_124_14 r2) fun r3 =>
  xlet (xup r3 111 3 (r3 1 3)) fun σ4 =>
  xlet (xup σ4 111 4 (σ4 1 4)) fun σ5 =>
  xlet (xup σ5 111 5 (σ5 1 5)) fun σ6 =>
  xlet (xup σ6 111 6 (σ6 1 6)) fun σ7 =>
  some σ7
set_option maxHeartbeats 1000000 in
set_option maxRecDepth 20000 in
theorem T_X9_copyFrom_111_1 (σ : xM) {d : Nat} {q : xM} (hd : 1 ≤ d) (h : F_X9_copyFrom_111_1 σ = some q) : xR xT xLn d 77 [.ref 111, .ref 1] σ (none, q) := by
  unfold F_X9_copyFrom_111_1 at h
  show xX xT xLn d 77 0 [.ref 111, .ref 1] [] σ _
  refine xX_blk (w := xw_77) eT_77 4 0 (ls' := [.ref 111, .ref 1]) (st' := [.ref 2, .ref 112]) (σ' := σ) rfl ?_
  obtain ⟨r1, hr1, h⟩ := xbd_inv h
  refine xX_c0 (w := xw_77) (i := 4) (ls := [.ref 111, .ref 1]) (rest := []) eT_77 rfl (by omega) rfl rfl rfl (T_X1_copyFrom_112_2 σ (by omega) hr1) ?_
  refine xX_blk (w := xw_77) eT_77 4 5 (ls' := [.ref 111, .ref 1]) (st' := [.ref 8, .ref 118]) (σ' := r1) rfl ?_
  obtain ⟨r2, hr2, h⟩ := xbd_inv h
  refine xX_c0 (w := xw_77) (i := 9) (ls := [.ref 111, .ref 1]) (rest := []) eT_77 rfl (by omega) rfl rfl rfl (T_X8_copyFrom_118_8 r1 (by omega) hr2) ?_
  refine xX_blk (w := xw_77) eT_77 4 10 (ls' := [.ref 111, .ref 1]) (st' := [.ref 14, .ref 124]) (σ' := r2) rfl ?_
  obtain ⟨r3, hr3, h⟩ := xbd_inv h
  refine xX_c0 (w := xw_77) (i := 14) (ls := [.ref 111, .ref 1]) (rest := []) eT_77 rfl (by omega) rfl rfl rfl (T_X7_copyFrom_124_14 r2 (by omega) hr3) ?_
  refine xX_blk (w := xw_77) eT_77 3 15 (ls' := [.ref 111, .ref 1]) (st' := [.int (r3 1 3), .ref 111]) (σ' := r3) rfl ?_
  refine xX_blk (w := xw_77) eT_77 1 18 (ls' := [.ref 111, .ref 1]) (st' := []) (σ' := xup r3 111 3 (r3 1 3)) rfl ?_
  obtain ⟨σ4, eσ4, h⟩ := xlet_inv h
  rw [← eσ4]
  refine xX_blk (w := xw_77) eT_77 3 19 (ls' := [.ref 111, .ref 1]) (st' := [.int (σ4 1 4), .ref 111]) (σ' := σ4) rfl ?_
  refine xX_blk (w := xw_77) eT_77 1 22 (ls' := [.ref 111, .ref 1]) (st' := []) (σ' := xup σ4 111 4 (σ4 1 4)) rfl ?_
  obtain ⟨σ5, eσ5, h⟩ := xlet_inv h
  rw [← eσ5]
  refine xX_blk (w := xw_77) eT_77 3 23 (ls' := [.ref 111, .ref 1]) (st' := [.int (σ5 1 5), .ref 111]) (σ' := σ5) rfl ?_
  refine xX_blk (w := xw_77) eT_77 1 26 (ls' := [.ref 111, .ref 1]) (st' := []) (σ' := xup σ5 111 5 (σ5 1 5)) rfl ?_
  obtain ⟨σ6, eσ6, h⟩ := xlet_inv h
  rw [← eσ6]
  refine xX_blk (w := xw_77) eT_77 3 27 (ls' := [.ref 111, .ref 1]) (st' := [.int (σ6 1 6), .ref 111]) (σ' := σ6) rfl ?_
  refine xX_blk (w := xw_77) eT_77 1 30 (ls' := [.ref 111, .ref 1]) (st' := []) (σ' := xup σ6 111 6 (σ6 1 6)) rfl ?_
  obtain ⟨σ7, eσ7, h⟩ := xlet_inv h
  rw [← eσ7]
  obtain rfl := Option.some.inj h
  exact xX_ret (w := xw_77) (i := 31) eT_77 rfl rfl
def F_X3_markState_1 (σ : xM) : Option (xM) :=
  if (σ 19 1) = 0 then
    xbd (F_X9_copyFrom_21_1 σ) fun r2 =>
    some r2
  else if (σ 19 1) = 1 then
    xbd (F_X9_copyFrom_39_1 σ) fun r4 =>
    some r4
  else if (σ 19 1) = 2 then
    xbd (F_X9_copyFrom_57_1 σ) fun r6 =>
    some r6
  else if (σ 19 1) = 3 then
    xbd (F_X9_copyFrom_75_1 σ) fun r8 =>
    some r8
  else if (σ 19 1) = 4 then
    xbd (F_X9_copyFrom_93_1 σ) fun r10 =>
    some r10
  else if (σ 19 1) = 5 then
    xbd (F_X9_copyFrom_111_1 σ) fun r12 =>
    some r12
  else none
set_option maxHeartbeats 1000000 in
set_option maxRecDepth 20000 in
theorem T_X3_markState_1 (σ : xM) {d : Nat} {q : xM} (hd : 2 ≤ d) (h : F_X3_markState_1 σ = some q) : xR xT xLn d 32 [.ref 19, .ref 1] σ (none, q) := by
  unfold F_X3_markState_1 at h
  show xX xT xLn d 32 0 [.ref 19, .ref 1] [] σ _
  refine xX_blk (w := xw_32) eT_32 4 0 (ls' := [.ref 19, .ref 1]) (st' := [.int (σ 19 1), .ref 20]) (σ' := σ) rfl ?_
  by_cases hc1 : (σ 19 1) = 0
  · rw [if_pos hc1] at h
    refine xX_one (w := xw_32) (i := 4) (ls' := [.ref 19, .ref 1]) (st' := [.ref 21]) (σ' := σ) eT_32 rfl (e_aald xs_20 (by rw [hc1]; decide) (by rw [hc1]; decide)) ?_
    refine xX_blk (w := xw_32) eT_32 1 5 (ls' := [.ref 19, .ref 1]) (st' := [.ref 1, .ref 21]) (σ' := σ) rfl ?_
    obtain ⟨r2, hr2, h⟩ := xbd_inv h
    refine xX_c0 (w := xw_32) (i := 6) (ls := [.ref 19, .ref 1]) (rest := []) eT_32 rfl (by omega) rfl rfl rfl (T_X9_copyFrom_21_1 σ (by omega) hr2) ?_
    obtain rfl := Option.some.inj h
    exact xX_ret (w := xw_32) (i := 7) eT_32 rfl rfl
  rw [if_neg hc1] at h
  by_cases hc3 : (σ 19 1) = 1
  · rw [if_pos hc3] at h
    refine xX_one (w := xw_32) (i := 4) (ls' := [.ref 19, .ref 1]) (st' := [.ref 39]) (σ' := σ) eT_32 rfl (e_aald xs_20 (by rw [hc3]; decide) (by rw [hc3]; decide)) ?_
    refine xX_blk (w := xw_32) eT_32 1 5 (ls' := [.ref 19, .ref 1]) (st' := [.ref 1, .ref 39]) (σ' := σ) rfl ?_
    obtain ⟨r4, hr4, h⟩ := xbd_inv h
    refine xX_c0 (w := xw_32) (i := 6) (ls := [.ref 19, .ref 1]) (rest := []) eT_32 rfl (by omega) rfl rfl rfl (T_X9_copyFrom_39_1 σ (by omega) hr4) ?_
    obtain rfl := Option.some.inj h
    exact xX_ret (w := xw_32) (i := 7) eT_32 rfl rfl
  rw [if_neg hc3] at h
  by_cases hc5 : (σ 19 1) = 2
  · rw [if_pos hc5] at h
    refine xX_one (w := xw_32) (i := 4) (ls' := [.ref 19, .ref 1]) (st' := [.ref 57]) (σ' := σ) eT_32 rfl (e_aald xs_20 (by rw [hc5]; decide) (by rw [hc5]; decide)) ?_
    refine xX_blk (w := xw_32) eT_32 1 5 (ls' := [.ref 19, .ref 1]) (st' := [.ref 1, .ref 57]) (σ' := σ) rfl ?_
    obtain ⟨r6, hr6, h⟩ := xbd_inv h
    refine xX_c0 (w := xw_32) (i := 6) (ls := [.ref 19, .ref 1]) (rest := []) eT_32 rfl (by omega) rfl rfl rfl (T_X9_copyFrom_57_1 σ (by omega) hr6) ?_
    obtain rfl := Option.some.inj h
    exact xX_ret (w := xw_32) (i := 7) eT_32 rfl rfl
  rw [if_neg hc5] at h
  by_cases hc7 : (σ 19 1) = 3
  · rw [if_pos hc7] at h
    refine xX_one (w := xw_32) (i := 4) (ls' := [.ref 19, .ref 1]) (st' := [.ref 75]) (σ' := σ) eT_32 rfl (e_aald xs_20 (by rw [hc7]; decide) (by rw [hc7]; decide)) ?_
    refine xX_blk (w := xw_32) eT_32 1 5 (ls' := [.ref 19, .ref 1]) (st' := [.ref 1, .ref 75]) (σ' := σ) rfl ?_
    obtain ⟨r8, hr8, h⟩ := xbd_inv h
    refine xX_c0 (w := xw_32) (i := 6) (ls := [.ref 19, .ref 1]) (rest := []) eT_32 rfl (by omega) rfl rfl rfl (T_X9_copyFrom_75_1 σ (by omega) hr8) ?_
    obtain rfl := Option.some.inj h
    exact xX_ret (w := xw_32) (i := 7) eT_32 rfl rfl
  rw [if_neg hc7] at h
  by_cases hc9 : (σ 19 1) = 4
  · rw [if_pos hc9] at h
    refine xX_one (w := xw_32) (i := 4) (ls' := [.ref 19, .ref 1]) (st' := [.ref 93]) (σ' := σ) eT_32 rfl (e_aald xs_20 (by rw [hc9]; decide) (by rw [hc9]; decide)) ?_
    refine xX_blk (w := xw_32) eT_32 1 5 (ls' := [.ref 19, .ref 1]) (st' := [.ref 1, .ref 93]) (σ' := σ) rfl ?_
    obtain ⟨r10, hr10, h⟩ := xbd_inv h
    refine xX_c0 (w := xw_32) (i := 6) (ls := [.ref 19, .ref 1]) (rest := []) eT_32 rfl (by omega) rfl rfl rfl (T_X9_copyFrom_93_1 σ (by omega) hr10) ?_
    obtain rfl := Option.some.inj h
    exact xX_ret (w := xw_32) (i := 7) eT_32 rfl rfl
  rw [if_neg hc9] at h
  by_cases hc11 : (σ 19 1) = 5
  · rw [if_pos hc11] at h
    refine xX_one (w := xw_32) (i := 4) (ls' := [.ref 19, .ref 1]) (st' := [.ref 111]) (σ' := σ) eT_32 rfl (e_aald xs_20 (by rw [hc11]; decide) (by rw [hc11]; decide)) ?_
    refine xX_blk (w := xw_32) eT_32 1 5 (ls' := [.ref 19, .ref 1]) (st' := [.ref 1, .ref 111]) (σ' := σ) rfl ?_
    obtain ⟨r12, hr12, h⟩ := xbd_inv h
    refine xX_c0 (w := xw_32) (i := 6) (ls := [.ref 19, .ref 1]) (rest := []) eT_32 rfl (by omega) rfl rfl rfl (T_X9_copyFrom_111_1 σ (by omega) hr12) ?_
    obtain rfl := Option.some.inj h
    exact xX_ret (w := xw_32) (i := 7) eT_32 rfl rfl
  rw [if_neg hc11] at h
  cases h
def F_X5_forget (σ : xM) : Option (xM) :=
  xlet (xup σ 132 3 0) fun σ1 =>
  some σ1
set_option maxHeartbeats 1000000 in
set_option maxRecDepth 20000 in
theorem T_X5_forget (σ : xM) {d : Nat} {q : xM} (hd : 0 ≤ d) (h : F_X5_forget σ = some q) : xR xT xLn d 46 [.ref 132] σ (none, q) := by
  unfold F_X5_forget at h
  show xX xT xLn d 46 0 [.ref 132] [] σ _
  refine xX_blk (w := xw_46) eT_46 2 0 (ls' := [.ref 132]) (st' := [.int 0, .ref 132]) (σ' := σ) rfl ?_
  refine xX_blk (w := xw_46) eT_46 1 2 (ls' := [.ref 132]) (st' := []) (σ' := xup σ 132 3 0) rfl ?_
  obtain ⟨σ1, eσ1, h⟩ := xlet_inv h
  rw [← eσ1]
  obtain rfl := Option.some.inj h
  exact xX_ret (w := xw_46) (i := 3) eT_46 rfl rfl
def F_X10_mark (σ : xM) : Option (xM) :=
  xbd (F_X3_markState_1 σ) fun r1 =>
  xbd (F_X5_forget r1) fun r2 =>
  some r2
set_option maxHeartbeats 1000000 in
set_option maxRecDepth 20000 in
theorem T_X10_mark (σ : xM) {d : Nat} {q : xM} (hd : 3 ≤ d) (h : F_X10_mark σ = some q) : xR xT xLn d 111 [.ref 0] σ (none, q) := by
  unfold F_X10_mark at h
  show xX xT xLn d 111 0 [.ref 0] [] σ _
  refine xX_blk (w := xw_111) eT_111 4 0 (ls' := [.ref 0]) (st' := [.ref 1, .ref 19]) (σ' := σ) rfl ?_
  obtain ⟨r1, hr1, h⟩ := xbd_inv h
  refine xX_c0 (w := xw_111) (i := 4) (ls := [.ref 0]) (rest := []) eT_111 rfl (by omega) rfl rfl rfl (T_X3_markState_1 σ (by omega) hr1) ?_
  refine xX_blk (w := xw_111) eT_111 2 5 (ls' := [.ref 0]) (st' := [.ref 132]) (σ' := r1) rfl ?_
  obtain ⟨r2, hr2, h⟩ := xbd_inv h
  refine xX_c0 (w := xw_111) (i := 7) (ls := [.ref 0]) (rest := []) eT_111 rfl (by omega) rfl rfl rfl (T_X5_forget r1 (by omega) hr2) ?_
  obtain rfl := Option.some.inj h
  exact xX_ret (w := xw_111) (i := 8) eT_111 rfl rfl
def F_X10_within (a : Int32) (b : Int32) (c : Int32) (σ : xM) : Option (Int32) :=
  if a < b then
    some 0
  else
    if c < a then
      some 0
    else
      some 1
set_option maxHeartbeats 1000000 in
set_option maxRecDepth 20000 in
theorem T_X10_within (a : Int32) (b : Int32) (c : Int32) (σ : xM) {d : Nat} {q : Int32} (hd : 0 ≤ d) (h : F_X10_within a b c σ = some q) : xR xT xLn d 114 [.int a, .int b, .int c] σ (some (.int q), σ) := by
  unfold F_X10_within at h
  show xX xT xLn d 114 0 [.int a, .int b, .int c] [] σ _
  refine xX_blk (w := xw_114) eT_114 2 0 (ls' := [.int a, .int b, .int c]) (st' := [.int b, .int a]) (σ' := σ) rfl ?_
  refine xX_ite (c := a < b) (w := xw_114) (i := 2) (a := 8) (b := 3) (st' := []) eT_114 rfl rfl (fun hc1 => ?_) (fun hc1 => ?_)
  · rw [if_pos hc1] at h
    refine xX_blk (w := xw_114) eT_114 1 8 (ls' := [.int a, .int b, .int c]) (st' := [.int 0]) (σ' := σ) rfl ?_
    obtain rfl := Option.some.inj h
    exact xX_ret (w := xw_114) (i := 9) eT_114 rfl (e_ret2 (by decide))
  · rw [if_neg hc1] at h
    refine xX_blk (w := xw_114) eT_114 2 3 (ls' := [.int a, .int b, .int c]) (st' := [.int c, .int a]) (σ' := σ) rfl ?_
    refine xX_ite (c := c < a) (w := xw_114) (i := 5) (a := 8) (b := 6) (st' := []) eT_114 rfl rfl (fun hc2 => ?_) (fun hc2 => ?_)
    · rw [if_pos hc2] at h
      refine xX_blk (w := xw_114) eT_114 1 8 (ls' := [.int a, .int b, .int c]) (st' := [.int 0]) (σ' := σ) rfl ?_
      obtain rfl := Option.some.inj h
      exact xX_ret (w := xw_114) (i := 9) eT_114 rfl (e_ret2 (by decide))
    · rw [if_neg hc2] at h
      refine xX_blk (w := xw_114) eT_114 1 6 (ls' := [.int a, .int b, .int c]) (st' := [.int 1]) (σ' := σ) rfl ?_
      refine xX_jmp (w := xw_114) (i := 7) (a := 9) (st' := [.int 1]) eT_114 rfl rfl ?_
      obtain rfl := Option.some.inj h
      exact xX_ret (w := xw_114) (i := 9) eT_114 rfl (e_ret2 (by decide))
def F_X1_lineLength (a : Int32) (b : Int32) (σ : xM) : Option (Int32) :=
  xgd (xin ((a * 8) + b) 64) (
  some (σ 6 ((a * 8) + b).toNatClampNeg))
set_option maxHeartbeats 1000000 in
set_option maxRecDepth 20000 in
theorem T_X1_lineLength (a : Int32) (b : Int32) (σ : xM) {d : Nat} {q : Int32} (hd : 0 ≤ d) (h : F_X1_lineLength a b σ = some q) : xR xT xLn d 20 [.ref 2, .int a, .int b] σ (some (.int q), σ) := by
  unfold F_X1_lineLength at h
  show xX xT xLn d 20 0 [.ref 2, .int a, .int b] [] σ _
  refine xX_blk (w := xw_20) eT_20 7 0 (ls' := [.ref 2, .int a, .int b]) (st' := [.int ((a * 8) + b), .ref 6]) (σ' := σ) rfl ?_
  obtain ⟨hi1, h⟩ := xgd_inv h
  refine xX_one (w := xw_20) (i := 7) (ls' := [.ref 2, .int a, .int b]) (st' := [.int (σ 6 ((a * 8) + b).toNatClampNeg)]) (σ' := σ) eT_20 rfl (e_iald xs_6 hi1) ?_
  obtain rfl := Option.some.inj h
  exact xX_ret (w := xw_20) (i := 8) eT_20 rfl rfl
def F_X1_distance (a : Int32) (b : Int32) (σ : xM) : Option (Int32) :=
  xgd (xin ((a * 8) + b) 64) (
  some (σ 7 ((a * 8) + b).toNatClampNeg))
set_option maxHeartbeats 1000000 in
set_option maxRecDepth 20000 in
theorem T_X1_distance (a : Int32) (b : Int32) (σ : xM) {d : Nat} {q : Int32} (hd : 0 ≤ d) (h : F_X1_distance a b σ = some q) : xR xT xLn d 21 [.ref 2, .int a, .int b] σ (some (.int q), σ) := by
  unfold F_X1_distance at h
  show xX xT xLn d 21 0 [.ref 2, .int a, .int b] [] σ _
  refine xX_blk (w := xw_21) eT_21 7 0 (ls' := [.ref 2, .int a, .int b]) (st' := [.int ((a * 8) + b), .ref 7]) (σ' := σ) rfl ?_
  obtain ⟨hi1, h⟩ := xgd_inv h
  refine xX_one (w := xw_21) (i := 7) (ls' := [.ref 2, .int a, .int b]) (st' := [.int (σ 7 ((a * 8) + b).toNatClampNeg)]) (σ' := σ) eT_21 rfl (e_iald xs_7 hi1) ?_
  obtain rfl := Option.some.inj h
  exact xX_ret (w := xw_21) (i := 8) eT_21 rfl rfl
def F_X1_shorten (a : Int32) (b : Int32) (c : Int32) (σ : xM) : Option (xM) :=
  xbd (F_X1_distance a b σ) fun r1 =>
  xbd (F_X1_distance b c σ) fun r2 =>
  if r1 = (-1) then
    some σ
  else
    if r2 = (-1) then
      some σ
    else
      xbd (F_X1_distance a c σ) fun r5 =>
      if r5 = (-1) then
        xgd (xin ((a * 8) + c) 64) (
        xlet (xup σ 7 ((a * 8) + c).toNatClampNeg (r1 + r2)) fun σ8 =>
        some σ8)
      else
        if r5 ≤ (r1 + r2) then
          some σ
        else
          xgd (xin ((a * 8) + c) 64) (
          xlet (xup σ 7 ((a * 8) + c).toNatClampNeg (r1 + r2)) fun σ11 =>
          some σ11)
set_option maxHeartbeats 1000000 in
set_option maxRecDepth 20000 in
theorem T_X1_shorten (a : Int32) (b : Int32) (c : Int32) (σ : xM) {d : Nat} {q : xM} (hd : 1 ≤ d) (h : F_X1_shorten a b c σ = some q) : xR xT xLn d 24 [.ref 2, .int a, .int b, .int c] σ (none, q) := by
  unfold F_X1_shorten at h
  show xX xT xLn d 24 0 [.ref 2, .int a, .int b, .int c, .null, .null, .null] [] σ _
  refine xX_blk (w := xw_24) eT_24 3 0 (ls' := [.ref 2, .int a, .int b, .int c, .null, .null, .null]) (st' := [.int b, .int a, .ref 2]) (σ' := σ) rfl ?_
  obtain ⟨r1, hr1, h⟩ := xbd_inv h
  refine xX_c1 (w := xw_24) (i := 3) (ls := [.ref 2, .int a, .int b, .int c, .null, .null, .null]) (rest := []) eT_24 rfl (by omega) rfl rfl rfl (T_X1_distance a b σ (by omega) hr1) ?_
  refine xX_blk (w := xw_24) eT_24 4 4 (ls' := [.ref 2, .int a, .int b, .int c, .int r1, .null, .null]) (st' := [.int c, .int b, .ref 2]) (σ' := σ) rfl ?_
  obtain ⟨r2, hr2, h⟩ := xbd_inv h
  refine xX_c1 (w := xw_24) (i := 8) (ls := [.ref 2, .int a, .int b, .int c, .int r1, .null, .null]) (rest := []) eT_24 rfl (by omega) rfl rfl rfl (T_X1_distance b c σ (by omega) hr2) ?_
  refine xX_blk (w := xw_24) eT_24 3 9 (ls' := [.ref 2, .int a, .int b, .int c, .int r1, .int r2, .null]) (st' := [.int (-1), .int r1]) (σ' := σ) rfl ?_
  refine xX_ite (c := r1 = (-1)) (w := xw_24) (i := 12) (a := 16) (b := 13) (st' := []) eT_24 rfl rfl (fun hc3 => ?_) (fun hc3 => ?_)
  · rw [if_pos hc3] at h
    obtain rfl := Option.some.inj h
    exact xX_ret (w := xw_24) (i := 16) eT_24 rfl rfl
  · rw [if_neg hc3] at h
    refine xX_blk (w := xw_24) eT_24 2 13 (ls' := [.ref 2, .int a, .int b, .int c, .int r1, .int r2, .null]) (st' := [.int (-1), .int r2]) (σ' := σ) rfl ?_
    refine xX_ite (c := r2 = (-1)) (w := xw_24) (i := 15) (a := 16) (b := 17) (st' := []) eT_24 rfl rfl (fun hc4 => ?_) (fun hc4 => ?_)
    · rw [if_pos hc4] at h
      obtain rfl := Option.some.inj h
      exact xX_ret (w := xw_24) (i := 16) eT_24 rfl rfl
    · rw [if_neg hc4] at h
      refine xX_blk (w := xw_24) eT_24 3 17 (ls' := [.ref 2, .int a, .int b, .int c, .int r1, .int r2, .null]) (st' := [.int c, .int a, .ref 2]) (σ' := σ) rfl ?_
      obtain ⟨r5, hr5, h⟩ := xbd_inv h
      refine xX_c1 (w := xw_24) (i := 20) (ls := [.ref 2, .int a, .int b, .int c, .int r1, .int r2, .null]) (rest := []) eT_24 rfl (by omega) rfl rfl rfl (T_X1_distance a c σ (by omega) hr5) ?_
      refine xX_blk (w := xw_24) eT_24 3 21 (ls' := [.ref 2, .int a, .int b, .int c, .int r1, .int r2, .int r5]) (st' := [.int (-1), .int r5]) (σ' := σ) rfl ?_
      refine xX_ite (c := r5 = (-1)) (w := xw_24) (i := 24) (a := 30) (b := 25) (st' := []) eT_24 rfl rfl (fun hc6 => ?_) (fun hc6 => ?_)
      · rw [if_pos hc6] at h
        refine xX_blk (w := xw_24) eT_24 10 30 (ls' := [.ref 2, .int a, .int b, .int c, .int r1, .int r2, .int r5]) (st' := [.int (r1 + r2), .int ((a * 8) + c), .ref 7]) (σ' := σ) rfl ?_
        obtain ⟨hi7, h⟩ := xgd_inv h
        refine xX_one (w := xw_24) (i := 40) (ls' := [.ref 2, .int a, .int b, .int c, .int r1, .int r2, .int r5]) (st' := []) (σ' := xup σ 7 ((a * 8) + c).toNatClampNeg (r1 + r2)) eT_24 rfl (e_iast xs_7 hi7) ?_
        obtain ⟨σ8, eσ8, h⟩ := xlet_inv h
        rw [← eσ8]
        obtain rfl := Option.some.inj h
        exact xX_ret (w := xw_24) (i := 41) eT_24 rfl rfl
      · rw [if_neg hc6] at h
        refine xX_blk (w := xw_24) eT_24 4 25 (ls' := [.ref 2, .int a, .int b, .int c, .int r1, .int r2, .int r5]) (st' := [.int r5, .int (r1 + r2)]) (σ' := σ) rfl ?_
        refine xX_ite (c := r5 ≤ (r1 + r2)) (w := xw_24) (i := 29) (a := 41) (b := 30) (st' := []) eT_24 rfl rfl (fun hc9 => ?_) (fun hc9 => ?_)
        · rw [if_pos hc9] at h
          obtain rfl := Option.some.inj h
          exact xX_ret (w := xw_24) (i := 41) eT_24 rfl rfl
        · rw [if_neg hc9] at h
          refine xX_blk (w := xw_24) eT_24 10 30 (ls' := [.ref 2, .int a, .int b, .int c, .int r1, .int r2, .int r5]) (st' := [.int (r1 + r2), .int ((a * 8) + c), .ref 7]) (σ' := σ) rfl ?_
          obtain ⟨hi10, h⟩ := xgd_inv h
          refine xX_one (w := xw_24) (i := 40) (ls' := [.ref 2, .int a, .int b, .int c, .int r1, .int r2, .int r5]) (st' := []) (σ' := xup σ 7 ((a * 8) + c).toNatClampNeg (r1 + r2)) eT_24 rfl (e_iast xs_7 hi10) ?_
          obtain ⟨σ11, eσ11, h⟩ := xlet_inv h
          rw [← eσ11]
          obtain rfl := Option.some.inj h
          exact xX_ret (w := xw_24) (i := 41) eT_24 rfl rfl
def B_X1_measure_8 (p1 : Int32) (v2 : Int32) (σ : xM) : Option ((Int32 × xM) ⊕ ((xM))) :=
  if (σ 2 0) ≤ v2 then
    some (.inr σ)
  else
    xbd (F_X1_lineLength p1 v2 σ) fun r3 =>
    if p1 = v2 then
      xgd (xin ((p1 * 8) + v2) 64) (
      xlet (xup σ 7 ((p1 * 8) + v2).toNatClampNeg 0) fun σ6 =>
      some (.inl ((v2 + 1), σ6)))
    else
      if r3 = 0 then
        xgd (xin ((p1 * 8) + v2) 64) (
        xlet (xup σ 7 ((p1 * 8) + v2).toNatClampNeg (-1)) fun σ9 =>
        some (.inl ((v2 + 1), σ9)))
      else
        xgd (xin ((p1 * 8) + v2) 64) (
        xlet (xup σ 7 ((p1 * 8) + v2).toNatClampNeg r3) fun σ11 =>
        some (.inl ((v2 + 1), σ11)))
def L_X1_measure_8 (p1 : Int32) (v2 : Int32) (σ : xM) : Option ((xM)) := xloop (fun s : Int32 × xM => B_X1_measure_8 p1 s.1 s.2) 6000 (v2, σ)
set_option maxHeartbeats 1000000 in
set_option maxRecDepth 20000 in
theorem TB_X1_measure_8 {d : Nat} {o : Option Value × xM} (p1 : Int32) (v2 : Int32) (σ : xM) {q : (Int32 × xM) ⊕ ((xM))} (hd : 1 ≤ d) (h : B_X1_measure_8 p1 v2 σ = some q) (hB : ∀ s', q = .inl s' → ∀ (z3 : Value), xX xT xLn d 23 9 [.ref 2, .int p1, .int s'.1, z3] [] s'.2 o) (hE : ∀ e', q = .inr e' → ∀ (z2 z3 : Value), xX xT xLn d 23 39 [.ref 2, .int p1, z2, z3] [] e' o) (z3 : Value) : xX xT xLn d 23 9 [.ref 2, .int p1, .int v2, z3] [] σ o := by
  unfold B_X1_measure_8 at h
  refine xX_blk (w := xw_23) eT_23 4 9 (ls' := [.ref 2, .int p1, .int v2, .null]) (st' := [.int (σ 2 0), .int v2]) (σ' := σ) rfl ?_
  refine xX_ite (c := (σ 2 0) ≤ v2) (w := xw_23) (i := 13) (a := 39) (b := 14) (st' := []) eT_23 rfl rfl (fun hc2 => ?_) (fun hc2 => ?_)
  · rw [if_pos hc2] at h
    obtain rfl := Option.some.inj h
    exact hE σ rfl _ _
  · rw [if_neg hc2] at h
    refine xX_blk (w := xw_23) eT_23 3 14 (ls' := [.ref 2, .int p1, .int v2, .null]) (st' := [.int v2, .int p1, .ref 2]) (σ' := σ) rfl ?_
    obtain ⟨r3, hr3, h⟩ := xbd_inv h
    refine xX_c1 (w := xw_23) (i := 17) (ls := [.ref 2, .int p1, .int v2, .null]) (rest := []) eT_23 rfl (by omega) rfl rfl rfl (T_X1_lineLength p1 v2 σ (by omega) hr3) ?_
    refine xX_blk (w := xw_23) eT_23 10 18 (ls' := [.ref 2, .int p1, .int v2, .int r3]) (st' := [.int v2, .int p1, .int ((p1 * 8) + v2), .ref 7]) (σ' := σ) rfl ?_
    refine xX_ite (c := p1 = v2) (w := xw_23) (i := 28) (a := 29) (b := 31) (st' := [.int ((p1 * 8) + v2), .ref 7]) eT_23 rfl rfl (fun hc4 => ?_) (fun hc4 => ?_)
    · rw [if_pos hc4] at h
      refine xX_blk (w := xw_23) eT_23 1 29 (ls' := [.ref 2, .int p1, .int v2, .int r3]) (st' := [.int 0, .int ((p1 * 8) + v2), .ref 7]) (σ' := σ) rfl ?_
      refine xX_jmp (w := xw_23) (i := 30) (a := 36) (st' := [.int 0, .int ((p1 * 8) + v2), .ref 7]) eT_23 rfl rfl ?_
      obtain ⟨hi5, h⟩ := xgd_inv h
      refine xX_one (w := xw_23) (i := 36) (ls' := [.ref 2, .int p1, .int v2, .int r3]) (st' := []) (σ' := xup σ 7 ((p1 * 8) + v2).toNatClampNeg 0) eT_23 rfl (e_iast xs_7 hi5) ?_
      obtain ⟨σ6, eσ6, h⟩ := xlet_inv h
      rw [← eσ6]
      refine xX_blk (w := xw_23) eT_23 1 37 (ls' := [.ref 2, .int p1, .int (v2 + 1), .int r3]) (st' := []) (σ' := σ6) rfl ?_
      refine xX_jmp (w := xw_23) (i := 38) (a := 9) (st' := []) eT_23 rfl rfl ?_
      obtain rfl := Option.some.inj h
      exact hB ((v2 + 1), σ6) rfl _
    · rw [if_neg hc4] at h
      refine xX_blk (w := xw_23) eT_23 1 31 (ls' := [.ref 2, .int p1, .int v2, .int r3]) (st' := [.int r3, .int ((p1 * 8) + v2), .ref 7]) (σ' := σ) rfl ?_
      refine xX_ite (c := r3 = 0) (w := xw_23) (i := 32) (a := 33) (b := 35) (st' := [.int ((p1 * 8) + v2), .ref 7]) eT_23 rfl rfl (fun hc7 => ?_) (fun hc7 => ?_)
      · rw [if_pos hc7] at h
        refine xX_blk (w := xw_23) eT_23 1 33 (ls' := [.ref 2, .int p1, .int v2, .int r3]) (st' := [.int (-1), .int ((p1 * 8) + v2), .ref 7]) (σ' := σ) rfl ?_
        refine xX_jmp (w := xw_23) (i := 34) (a := 36) (st' := [.int (-1), .int ((p1 * 8) + v2), .ref 7]) eT_23 rfl rfl ?_
        obtain ⟨hi8, h⟩ := xgd_inv h
        refine xX_one (w := xw_23) (i := 36) (ls' := [.ref 2, .int p1, .int v2, .int r3]) (st' := []) (σ' := xup σ 7 ((p1 * 8) + v2).toNatClampNeg (-1)) eT_23 rfl (e_iast xs_7 hi8) ?_
        obtain ⟨σ9, eσ9, h⟩ := xlet_inv h
        rw [← eσ9]
        refine xX_blk (w := xw_23) eT_23 1 37 (ls' := [.ref 2, .int p1, .int (v2 + 1), .int r3]) (st' := []) (σ' := σ9) rfl ?_
        refine xX_jmp (w := xw_23) (i := 38) (a := 9) (st' := []) eT_23 rfl rfl ?_
        obtain rfl := Option.some.inj h
        exact hB ((v2 + 1), σ9) rfl _
      · rw [if_neg hc7] at h
        refine xX_blk (w := xw_23) eT_23 1 35 (ls' := [.ref 2, .int p1, .int v2, .int r3]) (st' := [.int r3, .int ((p1 * 8) + v2), .ref 7]) (σ' := σ) rfl ?_
        obtain ⟨hi10, h⟩ := xgd_inv h
        refine xX_one (w := xw_23) (i := 36) (ls' := [.ref 2, .int p1, .int v2, .int r3]) (st' := []) (σ' := xup σ 7 ((p1 * 8) + v2).toNatClampNeg r3) eT_23 rfl (e_iast xs_7 hi10) ?_
        obtain ⟨σ11, eσ11, h⟩ := xlet_inv h
        rw [← eσ11]
        refine xX_blk (w := xw_23) eT_23 1 37 (ls' := [.ref 2, .int p1, .int (v2 + 1), .int r3]) (st' := []) (σ' := σ11) rfl ?_
        refine xX_jmp (w := xw_23) (i := 38) (a := 9) (st' := []) eT_23 rfl rfl ?_
        obtain rfl := Option.some.inj h
        exact hB ((v2 + 1), σ11) rfl _
set_option maxHeartbeats 1000000 in
set_option maxRecDepth 20000 in
theorem TL_X1_measure_8 {d : Nat} {o : Option Value × xM} (p1 : Int32) (v2 : Int32) (σ : xM) {e : (xM)} (hd : 1 ≤ d) (h : L_X1_measure_8 p1 v2 σ = some e) (hE : ∀ (z2 z3 : Value), xX xT xLn d 23 39 [.ref 2, .int p1, z2, z3] [] e o) (z3 : Value) : xX xT xLn d 23 9 [.ref 2, .int p1, .int v2, z3] [] σ o :=
  xloop_snd (X := fun s => ∀ (z3 : Value), xX xT xLn d 23 9 [.ref 2, .int p1, .int s.1, z3] [] s.2 o) (Y := fun e' => ∀ (z2 z3 : Value), xX xT xLn d 23 39 [.ref 2, .int p1, z2, z3] [] e' o) (fun s q hs hB hE z3 => TB_X1_measure_8 p1 s.1 s.2 hd hs hB hE z3) _ _ _ h hE z3
def B_X1_measure_2 (v1 : Int32) (σ : xM) : Option ((Int32 × xM) ⊕ ((xM))) :=
  if (σ 2 0) ≤ v1 then
    some (.inr σ)
  else
    xbd (L_X1_measure_8 v1 0 σ) fun e12 =>
    some (.inl ((v1 + 1), e12))
def L_X1_measure_2 (v1 : Int32) (σ : xM) : Option ((xM)) := xloop (fun s : Int32 × xM => B_X1_measure_2 s.1 s.2) 6000 (v1, σ)
set_option maxHeartbeats 1000000 in
set_option maxRecDepth 20000 in
theorem TB_X1_measure_2 {d : Nat} {o : Option Value × xM} (v1 : Int32) (σ : xM) {q : (Int32 × xM) ⊕ ((xM))} (hd : 1 ≤ d) (h : B_X1_measure_2 v1 σ = some q) (hB : ∀ s', q = .inl s' → ∀ (z2 z3 : Value), xX xT xLn d 23 2 [.ref 2, .int s'.1, z2, z3] [] s'.2 o) (hE : ∀ e', q = .inr e' → ∀ (z1 z2 z3 : Value), xX xT xLn d 23 42 [.ref 2, z1, z2, z3] [] e' o) (z2 : Value) (z3 : Value) : xX xT xLn d 23 2 [.ref 2, .int v1, z2, z3] [] σ o := by
  unfold B_X1_measure_2 at h
  refine xX_blk (w := xw_23) eT_23 4 2 (ls' := [.ref 2, .int v1, .null, .null]) (st' := [.int (σ 2 0), .int v1]) (σ' := σ) rfl ?_
  refine xX_ite (c := (σ 2 0) ≤ v1) (w := xw_23) (i := 6) (a := 42) (b := 7) (st' := []) eT_23 rfl rfl (fun hc1 => ?_) (fun hc1 => ?_)
  · rw [if_pos hc1] at h
    obtain rfl := Option.some.inj h
    exact hE σ rfl _ _ _
  · rw [if_neg hc1] at h
    refine xX_blk (w := xw_23) eT_23 2 7 (ls' := [.ref 2, .int v1, .int 0, .null]) (st' := []) (σ' := σ) rfl ?_
    obtain ⟨e12, he12, h⟩ := xbd_inv h
    refine TL_X1_measure_8 v1 0 σ (by omega) he12 (fun z2 z3 => ?_) _
    refine xX_blk (w := xw_23) eT_23 2 39 (ls' := [.ref 2, .int (v1 + 1), .null, .null]) (st' := []) (σ' := e12) rfl ?_
    refine xX_jmp (w := xw_23) (i := 41) (a := 2) (st' := []) eT_23 rfl rfl ?_
    obtain rfl := Option.some.inj h
    exact hB ((v1 + 1), e12) rfl _ _
set_option maxHeartbeats 1000000 in
set_option maxRecDepth 20000 in
theorem TL_X1_measure_2 {d : Nat} {o : Option Value × xM} (v1 : Int32) (σ : xM) {e : (xM)} (hd : 1 ≤ d) (h : L_X1_measure_2 v1 σ = some e) (hE : ∀ (z1 z2 z3 : Value), xX xT xLn d 23 42 [.ref 2, z1, z2, z3] [] e o) (z2 : Value) (z3 : Value) : xX xT xLn d 23 2 [.ref 2, .int v1, z2, z3] [] σ o :=
  xloop_snd (X := fun s => ∀ (z2 z3 : Value), xX xT xLn d 23 2 [.ref 2, .int s.1, z2, z3] [] s.2 o) (Y := fun e' => ∀ (z1 z2 z3 : Value), xX xT xLn d 23 42 [.ref 2, z1, z2, z3] [] e' o) (fun s q hs hB hE z2 z3 => TB_X1_measure_2 s.1 s.2 hd hs hB hE z2 z3) _ _ _ h hE z2 z3
def B_X1_measure_53 (p1 : Int32) (p2 : Int32) (v3 : Int32) (σ : xM) : Option ((Int32 × xM) ⊕ ((xM))) :=
  if (σ 2 0) ≤ v3 then
    some (.inr σ)
  else
    xbd (F_X1_shorten p2 p1 v3 σ) fun r17 =>
    some (.inl ((v3 + 1), r17))
def L_X1_measure_53 (p1 : Int32) (p2 : Int32) (v3 : Int32) (σ : xM) : Option ((xM)) := xloop (fun s : Int32 × xM => B_X1_measure_53 p1 p2 s.1 s.2) 6000 (v3, σ)
set_option maxHeartbeats 1000000 in
set_option maxRecDepth 20000 in
theorem TB_X1_measure_53 {d : Nat} {o : Option Value × xM} (p1 : Int32) (p2 : Int32) (v3 : Int32) (σ : xM) {q : (Int32 × xM) ⊕ ((xM))} (hd : 2 ≤ d) (h : B_X1_measure_53 p1 p2 v3 σ = some q) (hB : ∀ s', q = .inl s' → xX xT xLn d 23 59 [.ref 2, .int p1, .int p2, .int s'.1] [] s'.2 o) (hE : ∀ e', q = .inr e' → ∀ (z3 : Value), xX xT xLn d 23 71 [.ref 2, .int p1, .int p2, z3] [] e' o) : xX xT xLn d 23 59 [.ref 2, .int p1, .int p2, .int v3] [] σ o := by
  unfold B_X1_measure_53 at h
  refine xX_blk (w := xw_23) eT_23 4 59 (ls' := [.ref 2, .int p1, .int p2, .int v3]) (st' := [.int (σ 2 0), .int v3]) (σ' := σ) rfl ?_
  refine xX_ite (c := (σ 2 0) ≤ v3) (w := xw_23) (i := 63) (a := 71) (b := 64) (st' := []) eT_23 rfl rfl (fun hc16 => ?_) (fun hc16 => ?_)
  · rw [if_pos hc16] at h
    obtain rfl := Option.some.inj h
    exact hE σ rfl _
  · rw [if_neg hc16] at h
    refine xX_blk (w := xw_23) eT_23 4 64 (ls' := [.ref 2, .int p1, .int p2, .int v3]) (st' := [.int v3, .int p1, .int p2, .ref 2]) (σ' := σ) rfl ?_
    obtain ⟨r17, hr17, h⟩ := xbd_inv h
    refine xX_c0 (w := xw_23) (i := 68) (ls := [.ref 2, .int p1, .int p2, .int v3]) (rest := []) eT_23 rfl (by omega) rfl rfl rfl (T_X1_shorten p2 p1 v3 σ (by omega) hr17) ?_
    refine xX_blk (w := xw_23) eT_23 1 69 (ls' := [.ref 2, .int p1, .int p2, .int (v3 + 1)]) (st' := []) (σ' := r17) rfl ?_
    refine xX_jmp (w := xw_23) (i := 70) (a := 59) (st' := []) eT_23 rfl rfl ?_
    obtain rfl := Option.some.inj h
    exact hB ((v3 + 1), r17) rfl
set_option maxHeartbeats 1000000 in
set_option maxRecDepth 20000 in
theorem TL_X1_measure_53 {d : Nat} {o : Option Value × xM} (p1 : Int32) (p2 : Int32) (v3 : Int32) (σ : xM) {e : (xM)} (hd : 2 ≤ d) (h : L_X1_measure_53 p1 p2 v3 σ = some e) (hE : ∀ (z3 : Value), xX xT xLn d 23 71 [.ref 2, .int p1, .int p2, z3] [] e o) : xX xT xLn d 23 59 [.ref 2, .int p1, .int p2, .int v3] [] σ o :=
  xloop_snd (X := fun s => xX xT xLn d 23 59 [.ref 2, .int p1, .int p2, .int s.1] [] s.2 o) (Y := fun e' => ∀ (z3 : Value), xX xT xLn d 23 71 [.ref 2, .int p1, .int p2, z3] [] e' o) (fun s q hs hB hE => TB_X1_measure_53 p1 p2 s.1 s.2 hd hs hB hE) _ _ _ h hE
def B_X1_measure_47 (p1 : Int32) (v2 : Int32) (σ : xM) : Option ((Int32 × xM) ⊕ ((xM))) :=
  if (σ 2 0) ≤ v2 then
    some (.inr σ)
  else
    xbd (L_X1_measure_53 p1 v2 0 σ) fun e18 =>
    some (.inl ((v2 + 1), e18))
def L_X1_measure_47 (p1 : Int32) (v2 : Int32) (σ : xM) : Option ((xM)) := xloop (fun s : Int32 × xM => B_X1_measure_47 p1 s.1 s.2) 6000 (v2, σ)
set_option maxHeartbeats 1000000 in
set_option maxRecDepth 20000 in
theorem TB_X1_measure_47 {d : Nat} {o : Option Value × xM} (p1 : Int32) (v2 : Int32) (σ : xM) {q : (Int32 × xM) ⊕ ((xM))} (hd : 2 ≤ d) (h : B_X1_measure_47 p1 v2 σ = some q) (hB : ∀ s', q = .inl s' → ∀ (z3 : Value), xX xT xLn d 23 52 [.ref 2, .int p1, .int s'.1, z3] [] s'.2 o) (hE : ∀ e', q = .inr e' → ∀ (z2 z3 : Value), xX xT xLn d 23 74 [.ref 2, .int p1, z2, z3] [] e' o) (z3 : Value) : xX xT xLn d 23 52 [.ref 2, .int p1, .int v2, z3] [] σ o := by
  unfold B_X1_measure_47 at h
  refine xX_blk (w := xw_23) eT_23 4 52 (ls' := [.ref 2, .int p1, .int v2, .null]) (st' := [.int (σ 2 0), .int v2]) (σ' := σ) rfl ?_
  refine xX_ite (c := (σ 2 0) ≤ v2) (w := xw_23) (i := 56) (a := 74) (b := 57) (st' := []) eT_23 rfl rfl (fun hc15 => ?_) (fun hc15 => ?_)
  · rw [if_pos hc15] at h
    obtain rfl := Option.some.inj h
    exact hE σ rfl _ _
  · rw [if_neg hc15] at h
    refine xX_blk (w := xw_23) eT_23 2 57 (ls' := [.ref 2, .int p1, .int v2, .int 0]) (st' := []) (σ' := σ) rfl ?_
    obtain ⟨e18, he18, h⟩ := xbd_inv h
    refine TL_X1_measure_53 p1 v2 0 σ (by omega) he18 (fun z3 => ?_)
    refine xX_blk (w := xw_23) eT_23 2 71 (ls' := [.ref 2, .int p1, .int (v2 + 1), .null]) (st' := []) (σ' := e18) rfl ?_
    refine xX_jmp (w := xw_23) (i := 73) (a := 52) (st' := []) eT_23 rfl rfl ?_
    obtain rfl := Option.some.inj h
    exact hB ((v2 + 1), e18) rfl _
set_option maxHeartbeats 1000000 in
set_option maxRecDepth 20000 in
theorem TL_X1_measure_47 {d : Nat} {o : Option Value × xM} (p1 : Int32) (v2 : Int32) (σ : xM) {e : (xM)} (hd : 2 ≤ d) (h : L_X1_measure_47 p1 v2 σ = some e) (hE : ∀ (z2 z3 : Value), xX xT xLn d 23 74 [.ref 2, .int p1, z2, z3] [] e o) (z3 : Value) : xX xT xLn d 23 52 [.ref 2, .int p1, .int v2, z3] [] σ o :=
  xloop_snd (X := fun s => ∀ (z3 : Value), xX xT xLn d 23 52 [.ref 2, .int p1, .int s.1, z3] [] s.2 o) (Y := fun e' => ∀ (z2 z3 : Value), xX xT xLn d 23 74 [.ref 2, .int p1, z2, z3] [] e' o) (fun s q hs hB hE z3 => TB_X1_measure_47 p1 s.1 s.2 hd hs hB hE z3) _ _ _ h hE z3
def B_X1_measure_41 (v1 : Int32) (σ : xM) : Option ((Int32 × xM) ⊕ ((xM))) :=
  if (σ 2 0) ≤ v1 then
    some (.inr σ)
  else
    xbd (L_X1_measure_47 v1 0 σ) fun e19 =>
    some (.inl ((v1 + 1), e19))
def L_X1_measure_41 (v1 : Int32) (σ : xM) : Option ((xM)) := xloop (fun s : Int32 × xM => B_X1_measure_41 s.1 s.2) 6000 (v1, σ)
set_option maxHeartbeats 1000000 in
set_option maxRecDepth 20000 in
theorem TB_X1_measure_41 {d : Nat} {o : Option Value × xM} (v1 : Int32) (σ : xM) {q : (Int32 × xM) ⊕ ((xM))} (hd : 2 ≤ d) (h : B_X1_measure_41 v1 σ = some q) (hB : ∀ s', q = .inl s' → ∀ (z2 z3 : Value), xX xT xLn d 23 45 [.ref 2, .int s'.1, z2, z3] [] s'.2 o) (hE : ∀ e', q = .inr e' → ∀ (z0 z1 z2 z3 : Value), xX xT xLn d 23 77 [z0, z1, z2, z3] [] e' o) (z2 : Value) (z3 : Value) : xX xT xLn d 23 45 [.ref 2, .int v1, z2, z3] [] σ o := by
  unfold B_X1_measure_41 at h
  refine xX_blk (w := xw_23) eT_23 4 45 (ls' := [.ref 2, .int v1, .null, .null]) (st' := [.int (σ 2 0), .int v1]) (σ' := σ) rfl ?_
  refine xX_ite (c := (σ 2 0) ≤ v1) (w := xw_23) (i := 49) (a := 77) (b := 50) (st' := []) eT_23 rfl rfl (fun hc14 => ?_) (fun hc14 => ?_)
  · rw [if_pos hc14] at h
    obtain rfl := Option.some.inj h
    exact hE σ rfl _ _ _ _
  · rw [if_neg hc14] at h
    refine xX_blk (w := xw_23) eT_23 2 50 (ls' := [.ref 2, .int v1, .int 0, .null]) (st' := []) (σ' := σ) rfl ?_
    obtain ⟨e19, he19, h⟩ := xbd_inv h
    refine TL_X1_measure_47 v1 0 σ (by omega) he19 (fun z2 z3 => ?_) _
    refine xX_blk (w := xw_23) eT_23 2 74 (ls' := [.ref 2, .int (v1 + 1), .null, .null]) (st' := []) (σ' := e19) rfl ?_
    refine xX_jmp (w := xw_23) (i := 76) (a := 45) (st' := []) eT_23 rfl rfl ?_
    obtain rfl := Option.some.inj h
    exact hB ((v1 + 1), e19) rfl _ _
set_option maxHeartbeats 1000000 in
set_option maxRecDepth 20000 in
theorem TL_X1_measure_41 {d : Nat} {o : Option Value × xM} (v1 : Int32) (σ : xM) {e : (xM)} (hd : 2 ≤ d) (h : L_X1_measure_41 v1 σ = some e) (hE : ∀ (z0 z1 z2 z3 : Value), xX xT xLn d 23 77 [z0, z1, z2, z3] [] e o) (z2 : Value) (z3 : Value) : xX xT xLn d 23 45 [.ref 2, .int v1, z2, z3] [] σ o :=
  xloop_snd (X := fun s => ∀ (z2 z3 : Value), xX xT xLn d 23 45 [.ref 2, .int s.1, z2, z3] [] s.2 o) (Y := fun e' => ∀ (z0 z1 z2 z3 : Value), xX xT xLn d 23 77 [z0, z1, z2, z3] [] e' o) (fun s q hs hB hE z2 z3 => TB_X1_measure_41 s.1 s.2 hd hs hB hE z2 z3) _ _ _ h hE z2 z3
def F_X1_measure (σ : xM) : Option (xM) :=
  xbd (L_X1_measure_2 0 σ) fun e13 =>
  xbd (L_X1_measure_41 0 e13) fun e20 =>
  some e20
set_option maxHeartbeats 1000000 in
set_option maxRecDepth 20000 in
theorem T_X1_measure (σ : xM) {d : Nat} {q : xM} (hd : 2 ≤ d) (h : F_X1_measure σ = some q) : xR xT xLn d 23 [.ref 2] σ (none, q) := by
  unfold F_X1_measure at h
  show xX xT xLn d 23 0 [.ref 2, .null, .null, .null] [] σ _
  refine xX_blk (w := xw_23) eT_23 2 0 (ls' := [.ref 2, .int 0, .null, .null]) (st' := []) (σ' := σ) rfl ?_
  obtain ⟨e13, he13, h⟩ := xbd_inv h
  refine TL_X1_measure_2 0 σ (by omega) he13 (fun z1 z2 z3 => ?_) _ _
  refine xX_blk (w := xw_23) eT_23 3 42 (ls' := [.ref 2, .int 0, .null, .null]) (st' := []) (σ' := e13) rfl ?_
  obtain ⟨e20, he20, h⟩ := xbd_inv h
  refine TL_X1_measure_41 0 e13 (by omega) he20 (fun z0 z1 z2 z3 => ?_) _ _
  refine xX_blk (w := xw_23) eT_23 1 77 (ls' := [.null, .null, .null, .null]) (st' := []) (σ' := e20) rfl ?_
  obtain rfl := Option.some.inj h
  exact xX_ret (w := xw_23) (i := 78) eT_23 rfl rfl
def F_X1_add (a : Int32) (σ : xM) : Option (Int32 × xM) :=
  xgd (xin (σ 2 0) 8) (
  xlet (xup σ 3 (σ 2 0).toNatClampNeg a) fun σ2 =>
  xgd (xin (σ 2 0) 8) (
  xlet (xup σ2 4 (σ 2 0).toNatClampNeg 0) fun σ4 =>
  xgd (xin (σ 2 0) 8) (
  xlet (xup σ4 5 (σ 2 0).toNatClampNeg (-1)) fun σ6 =>
  xlet (xup σ6 2 0 ((σ6 2 0) + 1)) fun σ7 =>
  xbd (F_X1_measure σ7) fun r8 =>
  some ((σ 2 0), r8))))
set_option maxHeartbeats 1000000 in
set_option maxRecDepth 20000 in
theorem T_X1_add (a : Int32) (σ : xM) {d : Nat} {q : Int32 × xM} (hd : 3 ≤ d) (h : F_X1_add a σ = some q) : xR xT xLn d 19 [.ref 2, .int a] σ (some (.int q.1), q.2) := by
  unfold F_X1_add at h
  show xX xT xLn d 19 0 [.ref 2, .int a, .null] [] σ _
  refine xX_blk (w := xw_19) eT_19 7 0 (ls' := [.ref 2, .int a, .int (σ 2 0)]) (st' := [.int a, .int (σ 2 0), .ref 3]) (σ' := σ) rfl ?_
  obtain ⟨hi1, h⟩ := xgd_inv h
  refine xX_one (w := xw_19) (i := 7) (ls' := [.ref 2, .int a, .int (σ 2 0)]) (st' := []) (σ' := xup σ 3 (σ 2 0).toNatClampNeg a) eT_19 rfl (e_iast xs_3 hi1) ?_
  obtain ⟨σ2, eσ2, h⟩ := xlet_inv h
  rw [← eσ2]
  refine xX_blk (w := xw_19) eT_19 4 8 (ls' := [.ref 2, .int a, .int (σ 2 0)]) (st' := [.int 0, .int (σ 2 0), .ref 4]) (σ' := σ2) rfl ?_
  obtain ⟨hi3, h⟩ := xgd_inv h
  refine xX_one (w := xw_19) (i := 12) (ls' := [.ref 2, .int a, .int (σ 2 0)]) (st' := []) (σ' := xup σ2 4 (σ 2 0).toNatClampNeg 0) eT_19 rfl (e_iast xs_4 hi3) ?_
  obtain ⟨σ4, eσ4, h⟩ := xlet_inv h
  rw [← eσ4]
  refine xX_blk (w := xw_19) eT_19 4 13 (ls' := [.ref 2, .int a, .int (σ 2 0)]) (st' := [.int (-1), .int (σ 2 0), .ref 5]) (σ' := σ4) rfl ?_
  obtain ⟨hi5, h⟩ := xgd_inv h
  refine xX_one (w := xw_19) (i := 17) (ls' := [.ref 2, .int a, .int (σ 2 0)]) (st' := []) (σ' := xup σ4 5 (σ 2 0).toNatClampNeg (-1)) eT_19 rfl (e_iast xs_5 hi5) ?_
  obtain ⟨σ6, eσ6, h⟩ := xlet_inv h
  rw [← eσ6]
  refine xX_blk (w := xw_19) eT_19 5 18 (ls' := [.ref 2, .int a, .int (σ 2 0)]) (st' := [.int ((σ6 2 0) + 1), .ref 2]) (σ' := σ6) rfl ?_
  refine xX_blk (w := xw_19) eT_19 1 23 (ls' := [.ref 2, .int a, .int (σ 2 0)]) (st' := []) (σ' := xup σ6 2 0 ((σ6 2 0) + 1)) rfl ?_
  obtain ⟨σ7, eσ7, h⟩ := xlet_inv h
  rw [← eσ7]
  refine xX_blk (w := xw_19) eT_19 1 24 (ls' := [.ref 2, .int a, .int (σ 2 0)]) (st' := [.ref 2]) (σ' := σ7) rfl ?_
  obtain ⟨r8, hr8, h⟩ := xbd_inv h
  refine xX_c0 (w := xw_19) (i := 25) (ls := [.ref 2, .int a, .int (σ 2 0)]) (rest := []) eT_19 rfl (by omega) rfl rfl rfl (T_X1_measure σ7 (by omega) hr8) ?_
  refine xX_blk (w := xw_19) eT_19 1 26 (ls' := [.ref 2, .int a, .int (σ 2 0)]) (st' := [.int (σ 2 0)]) (σ' := r8) rfl ?_
  obtain rfl := Option.some.inj h
  exact xX_ret (w := xw_19) (i := 27) eT_19 rfl rfl
def F_X0_addArea (a : Int32) (σ : xM) : Option (Int32 × xM) :=
  xbd (F_X10_within a 0 99 σ) fun r1 =>
  if r1 = 0 then
    some ((-2), σ)
  else
    if (σ 2 0) < 8 then
      xbd (F_X1_add a σ) fun r4 =>
      some (r4.1, r4.2)
    else
      some ((-4), σ)
set_option maxHeartbeats 1000000 in
set_option maxRecDepth 20000 in
theorem T_X0_addArea (a : Int32) (σ : xM) {d : Nat} {q : Int32 × xM} (hd : 4 ≤ d) (h : F_X0_addArea a σ = some q) : xR xT xLn d 1 [.ref 136, .int a] σ (some (.int q.1), q.2) := by
  unfold F_X0_addArea at h
  show xX xT xLn d 1 0 [.ref 136, .int a] [] σ _
  refine xX_blk (w := xw_1) eT_1 3 0 (ls' := [.ref 136, .int a]) (st' := [.int 99, .int 0, .int a]) (σ' := σ) rfl ?_
  obtain ⟨r1, hr1, h⟩ := xbd_inv h
  refine xX_c1 (w := xw_1) (i := 3) (ls := [.ref 136, .int a]) (rest := []) eT_1 rfl (by omega) rfl rfl rfl (T_X10_within a 0 99 σ (by omega) hr1) ?_
  refine xX_ite (c := r1 = 0) (w := xw_1) (i := 4) (a := 5) (b := 7) (st' := []) eT_1 rfl rfl (fun hc2 => ?_) (fun hc2 => ?_)
  · rw [if_pos hc2] at h
    refine xX_blk (w := xw_1) eT_1 1 5 (ls' := [.ref 136, .int a]) (st' := [.int (-2)]) (σ' := σ) rfl ?_
    obtain rfl := Option.some.inj h
    exact xX_ret (w := xw_1) (i := 6) eT_1 rfl rfl
  · rw [if_neg hc2] at h
    refine xX_blk (w := xw_1) eT_1 5 7 (ls' := [.ref 136, .int a]) (st' := [.int 8, .int (σ 2 0)]) (σ' := σ) rfl ?_
    refine xX_ite (c := (σ 2 0) < 8) (w := xw_1) (i := 12) (a := 15) (b := 13) (st' := []) eT_1 rfl rfl (fun hc3 => ?_) (fun hc3 => ?_)
    · rw [if_pos hc3] at h
      refine xX_blk (w := xw_1) eT_1 4 15 (ls' := [.ref 136, .int a]) (st' := [.int a, .ref 2]) (σ' := σ) rfl ?_
      obtain ⟨r4, hr4, h⟩ := xbd_inv h
      refine xX_c1 (w := xw_1) (i := 19) (ls := [.ref 136, .int a]) (rest := []) eT_1 rfl (by omega) rfl rfl rfl (T_X1_add a σ (by omega) hr4) ?_
      obtain rfl := Option.some.inj h
      exact xX_ret (w := xw_1) (i := 20) eT_1 rfl rfl
    · rw [if_neg hc3] at h
      refine xX_blk (w := xw_1) eT_1 1 13 (ls' := [.ref 136, .int a]) (st' := [.int (-4)]) (σ' := σ) rfl ?_
      refine xX_jmp (w := xw_1) (i := 14) (a := 20) (st' := [.int (-4)]) eT_1 rfl rfl ?_
      obtain rfl := Option.some.inj h
      exact xX_ret (w := xw_1) (i := 20) eT_1 rfl rfl
def F_X10_counted (a : Int32) (σ : xM) : Option (Int32 × xM) :=
  if a = (-2) then
    xlet (xup σ 0 7 ((σ 0 7) + 1)) fun σ2 =>
    some (a, σ2)
  else
    if a = (-3) then
      xlet (xup σ 0 8 ((σ 0 8) + 1)) fun σ4 =>
      some (a, σ4)
    else
      if a = (-4) then
        xlet (xup σ 0 9 ((σ 0 9) + 1)) fun σ6 =>
        some (a, σ6)
      else
        some (a, σ)
set_option maxHeartbeats 1000000 in
set_option maxRecDepth 20000 in
theorem T_X10_counted (a : Int32) (σ : xM) {d : Nat} {q : Int32 × xM} (hd : 0 ≤ d) (h : F_X10_counted a σ = some q) : xR xT xLn d 113 [.ref 0, .int a] σ (some (.int q.1), q.2) := by
  unfold F_X10_counted at h
  show xX xT xLn d 113 0 [.ref 0, .int a] [] σ _
  refine xX_blk (w := xw_113) eT_113 2 0 (ls' := [.ref 0, .int a]) (st' := [.int (-2), .int a]) (σ' := σ) rfl ?_
  refine xX_ite (c := a = (-2)) (w := xw_113) (i := 2) (a := 3) (b := 10) (st' := []) eT_113 rfl rfl (fun hc1 => ?_) (fun hc1 => ?_)
  · rw [if_pos hc1] at h
    refine xX_blk (w := xw_113) eT_113 5 3 (ls' := [.ref 0, .int a]) (st' := [.int ((σ 0 7) + 1), .ref 0]) (σ' := σ) rfl ?_
    refine xX_blk (w := xw_113) eT_113 1 8 (ls' := [.ref 0, .int a]) (st' := []) (σ' := xup σ 0 7 ((σ 0 7) + 1)) rfl ?_
    obtain ⟨σ2, eσ2, h⟩ := xlet_inv h
    rw [← eσ2]
    refine xX_jmp (w := xw_113) (i := 9) (a := 29) (st' := []) eT_113 rfl rfl ?_
    refine xX_blk (w := xw_113) eT_113 1 29 (ls' := [.ref 0, .int a]) (st' := [.int a]) (σ' := σ2) rfl ?_
    obtain rfl := Option.some.inj h
    exact xX_ret (w := xw_113) (i := 30) eT_113 rfl rfl
  · rw [if_neg hc1] at h
    refine xX_blk (w := xw_113) eT_113 2 10 (ls' := [.ref 0, .int a]) (st' := [.int (-3), .int a]) (σ' := σ) rfl ?_
    refine xX_ite (c := a = (-3)) (w := xw_113) (i := 12) (a := 13) (b := 20) (st' := []) eT_113 rfl rfl (fun hc3 => ?_) (fun hc3 => ?_)
    · rw [if_pos hc3] at h
      refine xX_blk (w := xw_113) eT_113 5 13 (ls' := [.ref 0, .int a]) (st' := [.int ((σ 0 8) + 1), .ref 0]) (σ' := σ) rfl ?_
      refine xX_blk (w := xw_113) eT_113 1 18 (ls' := [.ref 0, .int a]) (st' := []) (σ' := xup σ 0 8 ((σ 0 8) + 1)) rfl ?_
      obtain ⟨σ4, eσ4, h⟩ := xlet_inv h
      rw [← eσ4]
      refine xX_jmp (w := xw_113) (i := 19) (a := 29) (st' := []) eT_113 rfl rfl ?_
      refine xX_blk (w := xw_113) eT_113 1 29 (ls' := [.ref 0, .int a]) (st' := [.int a]) (σ' := σ4) rfl ?_
      obtain rfl := Option.some.inj h
      exact xX_ret (w := xw_113) (i := 30) eT_113 rfl rfl
    · rw [if_neg hc3] at h
      refine xX_blk (w := xw_113) eT_113 2 20 (ls' := [.ref 0, .int a]) (st' := [.int (-4), .int a]) (σ' := σ) rfl ?_
      refine xX_ite (c := a = (-4)) (w := xw_113) (i := 22) (a := 23) (b := 29) (st' := []) eT_113 rfl rfl (fun hc5 => ?_) (fun hc5 => ?_)
      · rw [if_pos hc5] at h
        refine xX_blk (w := xw_113) eT_113 5 23 (ls' := [.ref 0, .int a]) (st' := [.int ((σ 0 9) + 1), .ref 0]) (σ' := σ) rfl ?_
        refine xX_blk (w := xw_113) eT_113 1 28 (ls' := [.ref 0, .int a]) (st' := []) (σ' := xup σ 0 9 ((σ 0 9) + 1)) rfl ?_
        obtain ⟨σ6, eσ6, h⟩ := xlet_inv h
        rw [← eσ6]
        refine xX_blk (w := xw_113) eT_113 1 29 (ls' := [.ref 0, .int a]) (st' := [.int a]) (σ' := σ6) rfl ?_
        obtain rfl := Option.some.inj h
        exact xX_ret (w := xw_113) (i := 30) eT_113 rfl rfl
      · rw [if_neg hc5] at h
        refine xX_blk (w := xw_113) eT_113 1 29 (ls' := [.ref 0, .int a]) (st' := [.int a]) (σ' := σ) rfl ?_
        obtain rfl := Option.some.inj h
        exact xX_ret (w := xw_113) (i := 30) eT_113 rfl rfl
