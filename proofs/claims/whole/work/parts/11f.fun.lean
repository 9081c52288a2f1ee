def F_X8_copyFrom_8_64 (σ : xM) : Option (xM) :=
  xlet (xup σ 8 0 (σ 64 0)) fun σ1 =>
  xlet (xup σ1 8 1 (σ1 64 1)) fun σ2 =>
  xlet (xset σ2 9 (va_cpy (σ2 65) (σ2 9) 0 0 5)) fun σ3 =>
  xlet (xset σ3 10 (va_cpy (σ3 66) (σ3 10) 0 0 5)) fun σ4 =>
  xlet (xset σ4 11 (va_cpy (σ4 67) (σ4 11) 0 0 5)) fun σ5 =>
  xlet (xset σ5 12 (va_cpy (σ5 68) (σ5 12) 0 0 5)) fun σ6 =>
  xlet (xset σ6 13 (va_cpy (σ6 69) (σ6 13) 0 0 5)) fun σ7 =>
  some σ7
set_option maxHeartbeats 1000000 in
set_option maxRecDepth 20000 in
theorem T_X8_copyFrom_8_64 (σ : xM) {d : Nat} {q : xM} (hd : 0 ≤ d) (h : F_X8_copyFrom_8_64 σ = some q) : xR xT xLn d 76 [.ref 8, .ref 64] σ (none, q) := by
  unfold F_X8_copyFrom_8_64 at h
  show xX xT xLn d 76 0 [.ref 8, .ref 64] [] σ _
  refine xX_blk (w := xw_76) eT_76 3 0 (ls' := [.ref 8, .ref 64]) (st' := [.int (σ 64 0), .ref 8]) (σ' := σ) rfl ?_
  refine xX_blk (w := xw_76) eT_76 1 3 (ls' := [.ref 8, .ref 64]) (st' := []) (σ' := xup σ 8 0 (σ 64 0)) rfl ?_
  obtain ⟨σ1, eσ1, h⟩ := xlet_inv h
  rw [← eσ1]
  refine xX_blk (w := xw_76) eT_76 3 4 (ls' := [.ref 8, .ref 64]) (st' := [.int (σ1 64 1), .ref 8]) (σ' := σ1) rfl ?_
  refine xX_blk (w := xw_76) eT_76 1 7 (ls' := [.ref 8, .ref 64]) (st' := []) (σ' := xup σ1 8 1 (σ1 64 1)) rfl ?_
  obtain ⟨σ2, eσ2, h⟩ := xlet_inv h
  rw [← eσ2]
  refine xX_blk (w := xw_76) eT_76 7 8 (ls' := [.ref 8, .ref 64]) (st' := [.int 5, .int 0, .ref 9, .int 0, .ref 65]) (σ' := σ2) rfl ?_
  refine xX_one (w := xw_76) (i := 15) (ls' := [.ref 8, .ref 64]) (st' := []) (σ' := xset σ2 9 (va_cpy (σ2 65) (σ2 9) 0 0 5)) eT_76 rfl (e_copy xs_65 xs_9 (by decide) (by decide) (Nat.le_of_ble_eq_true rfl)) ?_
  obtain ⟨σ3, eσ3, h⟩ := xlet_inv h
  rw [← eσ3]
  refine xX_blk (w := xw_76) eT_76 7 16 (ls' := [.ref 8, .ref 64]) (st' := [.int 5, .int 0, .ref 10, .int 0, .ref 66]) (σ' := σ3) rfl ?_
  refine xX_one (w := xw_76) (i := 23) (ls' := [.ref 8, .ref 64]) (st' := []) (σ' := xset σ3 10 (va_cpy (σ3 66) (σ3 10) 0 0 5)) eT_76 rfl (e_copy xs_66 xs_10 (by decide) (by decide) (Nat.le_of_ble_eq_true rfl)) ?_
  obtain ⟨σ4, eσ4, h⟩ := xlet_inv h
  rw [← eσ4]
  refine xX_blk (w := xw_76) eT_76 7 24 (ls' := [.ref 8, .ref 64]) (st' := [.int 5, .int 0, .ref 11, .int 0, .ref 67]) (σ' := σ4) rfl ?_
  refine xX_one (w := xw_76) (i := 31) (ls' := [.ref 8, .ref 64]) (st' := []) (σ' := xset σ4 11 (va_cpy (σ4 67) (σ4 11) 0 0 5)) eT_76 rfl (e_copy xs_67 xs_11 (by decide) (by decide) (Nat.le_of_ble_eq_true rfl)) ?_
  obtain ⟨σ5, eσ5, h⟩ := xlet_inv h
  rw [← eσ5]
  refine xX_blk (w := xw_76) eT_76 7 32 (ls' := [.ref 8, .ref 64]) (st' := [.int 5, .int 0, .ref 12, .int 0, .ref 68]) (σ' := σ5) rfl ?_
  refine xX_one (w := xw_76) (i := 39) (ls' := [.ref 8, .ref 64]) (st' := []) (σ' := xset σ5 12 (va_cpy (σ5 68) (σ5 12) 0 0 5)) eT_76 rfl (e_copy xs_68 xs_12 (by decide) (by decide) (Nat.le_of_ble_eq_true rfl)) ?_
  obtain ⟨σ6, eσ6, h⟩ := xlet_inv h
  rw [← eσ6]
  refine xX_blk (w := xw_76) eT_76 7 40 (ls' := [.ref 8, .ref 64]) (st' := [.int 5, .int 0, .ref 13, .int 0, .ref 69]) (σ' := σ6) rfl ?_
  refine xX_one (w := xw_76) (i := 47) (ls' := [.ref 8, .ref 64]) (st' := []) (σ' := xset σ6 13 (va_cpy (σ6 69) (σ6 13) 0 0 5)) eT_76 rfl (e_copy xs_69 xs_13 (by decide) (by decide) (Nat.le_of_ble_eq_true rfl)) ?_
  obtain ⟨σ7, eσ7, h⟩ := xlet_inv h
  rw [← eσ7]
  obtain rfl := Option.some.inj h
  exact xX_ret (w := xw_76) (i := 48) eT_76 rfl rfl
def F_X7_copyFrom_14_70 (σ : xM) : Option (xM) :=
  xlet (xup σ 14 0 (σ 70 0)) fun σ1 =>
  xlet (xset σ1 15 (va_cpy (σ1 71) (σ1 15) 0 0 12)) fun σ2 =>
  xlet (xset σ2 16 (va_cpy (σ2 72) (σ2 16) 0 0 12)) fun σ3 =>
  xlet (xset σ3 17 (va_cpy (σ3 73) (σ3 17) 0 0 12)) fun σ4 =>
  xlet (xset σ4 18 (va_cpy (σ4 74) (σ4 18) 0 0 12)) fun σ5 =>
  some σ5
set_option maxHeartbeats 1000000 in
set_option maxRecDepth 20000 in
theorem T_X7_copyFrom_14_70 (σ : xM) {d : Nat} {q : xM} (hd : 0 ≤ d) (h : F_X7_copyFrom_14_70 σ = some q) : xR xT xLn d 67 [.ref 14, .ref 70] σ (none, q) := by
  unfold F_X7_copyFrom_14_70 at h
  show xX xT xLn d 67 0 [.ref 14, .ref 70] [] σ _
  refine xX_blk (w := xw_67) eT_67 3 0 (ls' := [.ref 14, .ref 70]) (st' := [.int (σ 70 0), .ref 14]) (σ' := σ) rfl ?_
  refine xX_blk (w := xw_67) eT_67 1 3 (ls' := [.ref 14, .ref 70]) (st' := []) (σ' := xup σ 14 0 (σ 70 0)) rfl ?_
  obtain ⟨σ1, eσ1, h⟩ := xlet_inv h
  rw [← eσ1]
  refine xX_blk (w := xw_67) eT_67 7 4 (ls' := [.ref 14, .ref 70]) (st' := [.int 12, .int 0, .ref 15, .int 0, .ref 71]) (σ' := σ1) rfl ?_
  refine xX_one (w := xw_67) (i := 11) (ls' := [.ref 14, .ref 70]) (st' := []) (σ' := xset σ1 15 (va_cpy (σ1 71) (σ1 15) 0 0 12)) eT_67 rfl (e_copy xs_71 xs_15 (by decide) (by decide) (Nat.le_of_ble_eq_true rfl)) ?_
  obtain ⟨σ2, eσ2, h⟩ := xlet_inv h
  rw [← eσ2]
  refine xX_blk (w := xw_67) eT_67 7 12 (ls' := [.ref 14, .ref 70]) (st' := [.int 12, .int 0, .ref 16, .int 0, .ref 72]) (σ' := σ2) rfl ?_
  refine xX_one (w := xw_67) (i := 19) (ls' := [.ref 14, .ref 70]) (st' := []) (σ' := xset σ2 16 (va_cpy (σ2 72) (σ2 16) 0 0 12)) eT_67 rfl (e_copy xs_72 xs_16 (by decide) (by decide) (Nat.le_of_ble_eq_true rfl)) ?_
  obtain ⟨σ3, eσ3, h⟩ := xlet_inv h
  rw [← eσ3]
  refine xX_blk (w := xw_67) eT_67 7 20 (ls' := [.ref 14, .ref 70]) (st' := [.int 12, .int 0, .ref 17, .int 0, .ref 73]) (σ' := σ3) rfl ?_
  refine xX_one (w := xw_67) (i := 27) (ls' := [.ref 14, .ref 70]) (st' := []) (σ' := xset σ3 17 (va_cpy (σ3 73) (σ3 17) 0 0 12)) eT_67 rfl (e_copy xs_73 xs_17 (by decide) (by decide) (Nat.le_of_ble_eq_true rfl)) ?_
  obtain ⟨σ4, eσ4, h⟩ := xlet_inv h
  rw [← eσ4]
  refine xX_blk (w := xw_67) eT_67 7 28 (ls' := [.ref 14, .ref 70]) (st' := [.int 12, .int 0, .ref 18, .int 0, .ref 74]) (σ' := σ4) rfl ?_
  refine xX_one (w := xw_67) (i := 35) (ls' := [.ref 14, .ref 70]) (st' := []) (σ' := xset σ4 18 (va_cpy (σ4 74) (σ4 18) 0 0 12)) eT_67 rfl (e_copy xs_74 xs_18 (by decide) (by decide) (Nat.le_of_ble_eq_true rfl)) ?_
  obtain ⟨σ5, eσ5, h⟩ := xlet_inv h
  rw [← eσ5]
  obtain rfl := Option.some.inj h
  exact xX_ret (w := xw_67) (i := 36) eT_67 rfl rfl
def F_X9_copyFrom_1_57 (σ : xM) : Option (xM) :=
  xbd (F_X1_copyFrom_2_58 σ) fun r1 =>
  xbd (F_X8_copyFrom_8_64 r1) fun r2 =>
  xbd (F_X7_copyFrom_14_70 r2) fun r3 =>
  xlet (xup r3 1 3 (r3 57 3)) fun σ4 =>
  xlet (xup σ4 1 4 (σ4 57 4)) fun σ5 =>
  xlet (xup σ5 1 5 (σ5 57 5)) fun σ6 =>
  xlet (xup σ6 1 6 (σ6 57 6)) fun σ7 =>
  some σ7
set_option maxHeartbeats 1000000 in
set_option maxRecDepth 20000 in
theorem T_X9_copyFrom_1_57 (σ : xM) {d : Nat} {q : xM} (hd : 1 ≤ d) (h : F_X9_copyFrom_1_57 σ = some q) : xR xT xLn d 77 [.ref 1, .ref 57] σ (none, q) := by
  unfold F_X9_copyFrom_1_57 at h
  show xX xT xLn d 77 0 [.ref 1, .ref 57] [] σ _
  refine xX_blk (w := xw_77) eT_77 4 0 (ls' := [.ref 1, .ref 57]) (st' := [.ref 58, .ref 2]) (σ' := σ) rfl ?_
  obtain ⟨r1, hr1, h⟩ := xbd_inv h
  refine xX_c0 (w := xw_77) (i := 4) (ls := [.ref 1, .ref 57]) (rest := []) eT_77 rfl (by omega) rfl rfl rfl (T_X1_copyFrom_2_58 σ (by omega) hr1) ?_
  refine xX_blk (w := xw_77) eT_77 4 5 (ls' := [.ref 1, .ref 57]) (st' := [.ref 64, .ref 8]) (σ' := r1) rfl ?_
  obtain ⟨r2, hr2, h⟩ := xbd_inv h
  refine xX_c0 (w := xw_77) (i := 9) (ls := [.ref 1, .ref 57]) (rest := []) eT_77 rfl (by omega) rfl rfl rfl (T_X8_copyFrom_8_64 r1 (by omega) hr2) ?_
  refine xX_blk (w := xw_77) eT_77 4 10 (ls' := [.ref 1, .ref 57]) (st' := [.ref 70, .ref 14]) (σ' := r2) rfl ?_
  obtain ⟨r3, hr3, h⟩ := xbd_inv h
  refine xX_c0 (w := xw_77) (i := 14) (ls := [.ref 1, .ref 57]) (rest := []) eT_77 rfl (by omega) rfl rfl rfl (T_X7_copyFrom_14_70 r2 (by omega) hr3) ?_
  refine xX_blk (w := xw_77) eT_77 3 15 (ls' := [.ref 1, .ref 57]) (st' := [.int (r3 57 3), .ref 1]) (σ' := r3) rfl ?_
  refine xX_blk (w := xw_77) eT_77 1 18 (ls' := [.ref 1, .ref 57]) (st' := []) (σ' := xup r3 1 3 (r3 57 3)) rfl ?_
  obtain ⟨σ4, eσ4, h⟩ := xlet_inv h
  rw [← eσ4]
  refine xX_blk (w := xw_77) eT_77 3 19 (ls' := [.ref 1, .ref 57]) (st' := [.int (σ4 57 4), .ref 1]) (σ' := σ4) rfl ?_
  refine xX_blk (w := xw_77) eT_77 1 22 (ls' := [.ref 1, .ref 57]) (st' := []) (σ' := xup σ4 1 4 (σ4 57 4)) rfl ?_
  obtain ⟨σ5, eσ5, h⟩ := xlet_inv h
  rw [← eσ5]
  refine xX_blk (w := xw_77) eT_77 3 23 (ls' := [.ref 1, .ref 57]) (st' := [.int (σ5 57 5), .ref 1]) (σ' := σ5) rfl ?_
  refine xX_blk (w := xw_77) eT_77 1 26 (ls' := [.ref 1, .ref 57]) (st' := []) (σ' := xup σ5 1 5 (σ5 57 5)) rfl ?_
  obtain ⟨σ6, eσ6, h⟩ := xlet_inv h
  rw [← eσ6]
  refine xX_blk (w := xw_77) eT_77 3 27 (ls' := [.ref 1, .ref 57]) (st' := [.int (σ6 57 6), .ref 1]) (σ' := σ6) rfl ?_
  refine xX_blk (w := xw_77) eT_77 1 30 (ls' := [.ref 1, .ref 57]) (st' := []) (σ' := xup σ6 1 6 (σ6 57 6)) rfl ?_
  obtain ⟨σ7, eσ7, h⟩ := xlet_inv h
  rw [← eσ7]
  obtain rfl := Option.some.inj h
  exact xX_ret (w := xw_77) (i := 31) eT_77 rfl rfl
def F_X1_copyFrom_2_76 (σ : xM) : Option (xM) :=
  xlet (xup σ 2 0 (σ 76 0)) fun σ1 =>
  xlet (xset σ1 3 (va_cpy (σ1 77) (σ1 3) 0 0 8)) fun σ2 =>
  xlet (xset σ2 4 (va_cpy (σ2 78) (σ2 4) 0 0 8)) fun σ3 =>
  xlet (xset σ3 5 (va_cpy (σ3 79) (σ3 5) 0 0 8)) fun σ4 =>
  xlet (xset σ4 6 (va_cpy (σ4 80) (σ4 6) 0 0 64)) fun σ5 =>
  xlet (xset σ5 7 (va_cpy (σ5 81) (σ5 7) 0 0 64)) fun σ6 =>
  some σ6
set_option maxHeartbeats 1000000 in
set_option maxRecDepth 20000 in
theorem T_X1_copyFrom_2_76 (σ : xM) {d : Nat} {q : xM} (hd : 0 ≤ d) (h : F_X1_copyFrom_2_76 σ = some q) : xR xT xLn d 25 [.ref 2, .ref 76] σ (none, q) := by
  unfold F_X1_copyFrom_2_76 at h
  show xX xT xLn d 25 0 [.ref 2, .ref 76] [] σ _
  refine xX_blk (w := xw_25) eT_25 3 0 (ls' := [.ref 2, .ref 76]) (st' := [.int (σ 76 0), .ref 2]) (σ' := σ) rfl ?_
  refine xX_blk (w := xw_25) eT_25 1 3 (ls' := [.ref 2, .ref 76]) (st' := []) (σ' := xup σ 2 0 (σ 76 0)) rfl ?_
  obtain ⟨σ1, eσ1, h⟩ := xlet_inv h
  rw [← eσ1]
  refine xX_blk (w := xw_25) eT_25 7 4 (ls' := [.ref 2, .ref 76]) (st' := [.int 8, .int 0, .ref 3, .int 0, .ref 77]) (σ' := σ1) rfl ?_
  refine xX_one (w := xw_25) (i := 11) (ls' := [.ref 2, .ref 76]) (st' := []) (σ' := xset σ1 3 (va_cpy (σ1 77) (σ1 3) 0 0 8)) eT_25 rfl (e_copy xs_77 xs_3 (by decide) (by decide) (Nat.le_of_ble_eq_true rfl)) ?_
  obtain ⟨σ2, eσ2, h⟩ := xlet_inv h
  rw [← eσ2]
  refine xX_blk (w := xw_25) eT_25 7 12 (ls' := [.ref 2, .ref 76]) (st' := [.int 8, .int 0, .ref 4, .int 0, .ref 78]) (σ' := σ2) rfl ?_
  refine xX_one (w := xw_25) (i := 19) (ls' := [.ref 2, .ref 76]) (st' := []) (σ' := xset σ2 4 (va_cpy (σ2 78) (σ2 4) 0 0 8)) eT_25 rfl (e_copy xs_78 xs_4 (by decide) (by decide) (Nat.le_of_ble_eq_true rfl)) ?_
  obtain ⟨σ3, eσ3, h⟩ := xlet_inv h
  rw [← eσ3]
  refine xX_blk (w := xw_25) eT_25 7 20 (ls' := [.ref 2, .ref 76]) (st' := [.int 8, .int 0, .ref 5, .int 0, .ref 79]) (σ' := σ3) rfl ?_
  refine xX_one (w := xw_25) (i := 27) (ls' := [.ref 2, .ref 76]) (st' := []) (σ' := xset σ3 5 (va_cpy (σ3 79) (σ3 5) 0 0 8)) eT_25 rfl (e_copy xs_79 xs_5 (by decide) (by decide) (Nat.le_of_ble_eq_true rfl)) ?_
  obtain ⟨σ4, eσ4, h⟩ := xlet_inv h
  rw [← eσ4]
  refine xX_blk (w := xw_25) eT_25 7 28 (ls' := [.ref 2, .ref 76]) (st' := [.int 64, .int 0, .ref 6, .int 0, .ref 80]) (σ' := σ4) rfl ?_
  refine xX_one (w := xw_25) (i := 35) (ls' := [.ref 2, .ref 76]) (st' := []) (σ' := xset σ4 6 (va_cpy (σ4 80) (σ4 6) 0 0 64)) eT_25 rfl (e_copy xs_80 xs_6 (by decide) (by decide) (Nat.le_of_ble_eq_true rfl)) ?_
  obtain ⟨σ5, eσ5, h⟩ := xlet_inv h
  rw [← eσ5]
  refine xX_blk (w := xw_25) eT_25 7 36 (ls' := [.ref 2, .ref 76]) (st' := [.int 64, .int 0, .ref 7, .int 0, .ref 81]) (σ' := σ5) rfl ?_
  refine xX_one (w := xw_25) (i := 43) (ls' := [.ref 2, .ref 76]) (st' := []) (σ' := xset σ5 7 (va_cpy (σ5 81) (σ5 7) 0 0 64)) eT_25 rfl (e_copy xs_81 xs_7 (by decide) (by decide) (Nat.le_of_ble_eq_true rfl)) ?_
  obtain ⟨σ6, eσ6, h⟩ := xlet_inv h
  rw [← eσ6]
  obtain rfl := Option.some.inj h
  exact xX_ret (w := xw_25) (i := 44) eT_25 rfl rfl
def F_X8_copyFrom_8_82 (σ : xM) : Option (xM) :=
  xlet (xup σ 8 0 (σ 82 0)) fun σ1 =>
  xlet (xup σ1 8 1 (σ1 82 1)) fun σ2 =>
  xlet (xset σ2 9 (va_cpy (σ2 83) (σ2 9) 0 0 5)) fun σ3 =>
  xlet (xset σ3 10 (va_cpy (σ3 84) (σ3 10) 0 0 5)) fun σ4 =>
  xlet (xset σ4 11 (va_cpy (σ4 85) (σ4 11) 0 0 5)) fun σ5 =>
  xlet (xset σ5 12 (va_cpy (σ5 86) (σ5 12) 0 0 5)) fun σ6 =>
  xlet (xset σ6 13 (va_cpy (σ6 87) (σ6 13) 0 0 5)) fun σ7 =>
  some σ7
set_option maxHeartbeats 1000000 in
set_option maxRecDepth 20000 in
theorem T_X8_copyFrom_8_82 (σ : xM) {d : Nat} {q : xM} (hd : 0 ≤ d) (h : F_X8_copyFrom_8_82 σ = some q) : xR xT xLn d 76 [.ref 8, .ref 82] σ (none, q) := by
  unfold F_X8_copyFrom_8_82 at h
  show xX xT xLn d 76 0 [.ref 8, .ref 82] [] σ _
  refine xX_blk (w := xw_76) eT_76 3 0 (ls' := [.ref 8, .ref 82]) (st' := [.int (σ 82 0), .ref 8]) (σ' := σ) rfl ?_
  refine xX_blk (w := xw_76) eT_76 1 3 (ls' := [.ref 8, .ref 82]) (st' := []) (σ' := xup σ 8 0 (σ 82 0)) rfl ?_
  obtain ⟨σ1, eσ1, h⟩ := xlet_inv h
  rw [← eσ1]
  refine xX_blk (w := xw_76) eT_76 3 4 (ls' := [.ref 8, .ref 82]) (st' := [.int (σ1 82 1), .ref 8]) (σ' := σ1) rfl ?_
  refine xX_blk (w := xw_76) eT_76 1 7 (ls' := [.ref 8, .ref 82]) (st' := []) (σ' := xup σ1 8 1 (σ1 82 1)) rfl ?_
  obtain ⟨σ2, eσ2, h⟩ := xlet_inv h
  rw [← eσ2]
  refine xX_blk (w := xw_76) eT_76 7 8 (ls' := [.ref 8, .ref 82]) (st' := [.int 5, .int 0, .ref 9, .int 0, .ref 83]) (σ' := σ2) rfl ?_
  refine xX_one (w := xw_76) (i := 15) (ls' := [.ref 8, .ref 82]) (st' := []) (σ' := xset σ2 9 (va_cpy (σ2 83) (σ2 9) 0 0 5)) eT_76 rfl (e_copy xs_83 xs_9 (by decide) (by decide) (Nat.le_of_ble_eq_true rfl)) ?_
  obtain ⟨σ3, eσ3, h⟩ := xlet_inv h
  rw [← eσ3]
  refine xX_blk (w := xw_76) eT_76 7 16 (ls' := [.ref 8, .ref 82]) (st' := [.int 5, .int 0, .ref 10, .int 0, .ref 84]) (σ' := σ3) rfl ?_
  refine xX_one (w := xw_76) (i := 23) (ls' := [.ref 8, .ref 82]) (st' := []) (σ' := xset σ3 10 (va_cpy (σ3 84) (σ3 10) 0 0 5)) eT_76 rfl (e_copy xs_84 xs_10 (by decide) (by decide) (Nat.le_of_ble_eq_true rfl)) ?_
  obtain ⟨σ4, eσ4, h⟩ := xlet_inv h
  rw [← eσ4]
  refine xX_blk (w := xw_76) eT_76 7 24 (ls' := [.ref 8, .ref 82]) (st' := [.int 5, .int 0, .ref 11, .int 0, .ref 85]) (σ' := σ4) rfl ?_
  refine xX_one (w := xw_76) (i := 31) (ls' := [.ref 8, .ref 82]) (st' := []) (σ' := xset σ4 11 (va_cpy (σ4 85) (σ4 11) 0 0 5)) eT_76 rfl (e_copy xs_85 xs_11 (by decide) (by decide) (Nat.le_of_ble_eq_true rfl)) ?_
  obtain ⟨σ5, eσ5, h⟩ := xlet_inv h
  rw [← eσ5]
  refine xX_blk (w := xw_76) eT_76 7 32 (ls' := [.ref 8, .ref 82]) (st' := [.int 5, .int 0, .ref 12, .int 0, .ref 86]) (σ' := σ5) rfl ?_
  refine xX_one (w := xw_76) (i := 39) (ls' := [.ref 8, .ref 82]) (st' := []) (σ' := xset σ5 12 (va_cpy (σ5 86) (σ5 12) 0 0 5)) eT_76 rfl (e_copy xs_86 xs_12 (by decide) (by decide) (Nat.le_of_ble_eq_true rfl)) ?_
  obtain ⟨σ6, eσ6, h⟩ := xlet_inv h
  rw [← eσ6]
  refine xX_blk (w := xw_76) eT_76 7 40 (ls' := [.ref 8, .ref 82]) (st' := [.int 5, .int 0, .ref 13, .int 0, .ref 87]) (σ' := σ6) rfl ?_
  refine xX_one (w := xw_76) (i := 47) (ls' := [.ref 8, .ref 82]) (st' := []) (σ' := xset σ6 13 (va_cpy (σ6 87) (σ6 13) 0 0 5)) eT_76 rfl (e_copy xs_87 xs_13 (by decide) (by decide) (Nat.le_of_ble_eq_true rfl)) ?_
  obtain ⟨σ7, eσ7, h⟩ := xlet_inv h
  rw [← eσ7]
  obtain rfl := Option.some.inj h
  exact xX_ret (w := xw_76) (i := 48) eT_76 rfl rfl
def F_X7_copyFrom_14_88 (σ : xM) : Option (xM) :=
  xlet (xup σ 14 0 (σ 88 0)) fun σ1 =>
  xlet (xset σ1 15 (va_cpy (σ1 89) (σ1 15) 0 0 12)) fun σ2 =>
  xlet (xset σ2 16 (va_cpy (σ2 90) (σ2 16) 0 0 12)) fun σ3 =>
  xlet (xset σ3 17 (va_cpy (σ3 91) (σ3 17) 0 0 12)) fun σ4 =>
  xlet (xset σ4 18 (va_cpy (σ4 92) (σ4 18) 0 0 12)) fun σ5 =>
  some σ5
set_option maxHeartbeats 1000000 in
set_option maxRecDepth 20000 in
theorem T_X7_copyFrom_14_88 (σ : xM) {d : Nat} {q : xM} (hd : 0 ≤ d) (h : F_X7_copyFrom_14_88 σ = some q) : xR xT xLn d 67 [.ref 14, .ref 88] σ (none, q) := by
  unfold F_X7_copyFrom_14_88 at h
  show xX xT xLn d 67 0 [.ref 14, .ref 88] [] σ _
  refine xX_blk (w := xw_67) eT_67 3 0 (ls' := [.ref 14, .ref 88]) (st' := [.int (σ 88 0), .ref 14]) (σ' := σ) rfl ?_
  refine xX_blk (w := xw_67) eT_67 1 3 (ls' := [.ref 14, .ref 88]) (st' := []) (σ' := xup σ 14 0 (σ 88 0)) rfl ?_
  obtain ⟨σ1, eσ1, h⟩ := xlet_inv h
  rw [← eσ1]
  refine xX_blk (w := xw_67) eT_67 7 4 (ls' := [.ref 14, .ref 88]) (st' := [.int 12, .int 0, .ref 15, .int 0, .ref 89]) (σ' := σ1) rfl ?_
  refine xX_one (w := xw_67) (i := 11) (ls' := [.ref 14, .ref 88]) (st' := []) (σ' := xset σ1 15 (va_cpy (σ1 89) (σ1 15) 0 0 12)) eT_67 rfl (e_copy xs_89 xs_15 (by decide) (by decide) (Nat.le_of_ble_eq_true rfl)) ?_
  obtain ⟨σ2, eσ2, h⟩ := xlet_inv h
  rw [← eσ2]
  refine xX_blk (w := xw_67) eT_67 7 12 (ls' := [.ref 14, .ref 88]) (st' := [.int 12, .int 0, .ref 16, .int 0, .ref 90]) (σ' := σ2) rfl ?_
  refine xX_one (w := xw_67) (i := 19) (ls' := [.ref 14, .ref 88]) (st' := []) (σ' := xset σ2 16 (va_cpy (σ2 90) (σ2 16) 0 0 12)) eT_67 rfl (e_copy xs_90 xs_16 (by decide) (by decide) (Nat.le_of_ble_eq_true rfl)) ?_
  obtain ⟨σ3, eσ3, h⟩ := xlet_inv h
  rw [← eσ3]
  refine xX_blk (w := xw_67) eT_67 7 20 (ls' := [.ref 14, .ref 88]) (st' := [.int 12, .int 0, .ref 17, .int 0, .ref 91]) (σ' := σ3) rfl ?_
  refine xX_one (w := xw_67) (i := 27) (ls' := [.ref 14, .ref 88]) (st' := []) (σ' := xset σ3 17 (va_cpy (σ3 91) (σ3 17) 0 0 12)) eT_67 rfl (e_copy xs_91 xs_17 (by decide) (by decide) (Nat.le_of_ble_eq_true rfl)) ?_
  obtain ⟨σ4, eσ4, h⟩ := xlet_inv h
  rw [← eσ4]
  refine xX_blk (w := xw_67) eT_67 7 28 (ls' := [.ref 14, .ref 88]) (st' := [.int 12, .int 0, .ref 18, .int 0, .ref 92]) (σ' := σ4) rfl ?_
  refine xX_one (w := xw_67) (i := 35) (ls' := [.ref 14, .ref 88]) (st' := []) (σ' := xset σ4 18 (va_cpy (σ4 92) (σ4 18) 0 0 12)) eT_67 rfl (e_copy xs_92 xs_18 (by decide) (by decide) (Nat.le_of_ble_eq_true rfl)) ?_
  obtain ⟨σ5, eσ5, h⟩ := xlet_inv h
  rw [← eσ5]
  obtain rfl := Option.some.inj h
  exact xX_ret (w := xw_67) (i := 36) eT_67 rfl rfl
def F_X9_copyFrom_1_75 (σ : xM) : Option (xM) :=
  xbd (F_X1_copyFrom_2_76 σ) fun r1 =>
  xbd (F_X8_copyFrom_8_82 r1) fun r2 =>
  xbd (F_X7_copyFrom_14_88 r2) fun r3 =>
  xlet (xup r3 1 3 (r3 75 3)) fun σ4 =>
  xlet (xup σ4 1 4 (σ4 75 4)) fun σ5 =>
  xlet (xup σ5 1 5 (σ5 75 5)) fun σ6 =>
  xlet (xup σ6 1 6 (σ6 75 6)) fun σ7 =>
  some σ7
set_option maxHeartbeats 1000000 in
set_option maxRecDepth 20000 in
theorem T_X9_copyFrom_1_75 (σ : xM) {d : Nat} {q : xM} (hd : 1 ≤ d) (h : F_X9_copyFrom_1_75 σ = some q) : xR xT xLn d 77 [.ref 1, .ref 75] σ (none, q) := by
  unfold F_X9_copyFrom_1_75 at h
  show xX xT xLn d 77 0 [.ref 1, .ref 75] [] σ _
  refine xX_blk (w := xw_77) eT_77 4 0 (ls' := [.ref 1, .ref 75]) (st' := [.ref 76, .ref 2]) (σ' := σ) rfl ?_
  obtain ⟨r1, hr1, h⟩ := xbd_inv h
  refine xX_c0 (w := xw_77) (i := 4) (ls := [.ref 1, .ref 75]) (rest := []) eT_77 rfl (by omega) rfl rfl rfl (T_X1_copyFrom_2_76 σ (by omega) hr1) ?_
  refine xX_blk (w := xw_77) eT_77 4 5 (ls' := [.ref 1, .ref 75]) (st' := [.ref 82, .ref 8]) (σ' := r1) rfl ?_
  obtain ⟨r2, hr2, h⟩ := xbd_inv h
  refine xX_c0 (w := xw_77) (i := 9) (ls := [.ref 1, .ref 75]) (rest := []) eT_77 rfl (by omega) rfl rfl rfl (T_X8_copyFrom_8_82 r1 (by omega) hr2) ?_
  refine xX_blk (w := xw_77) eT_77 4 10 (ls' := [.ref 1, .ref 75]) (st' := [.ref 88, .ref 14]) (σ' := r2) rfl ?_
  obtain ⟨r3, hr3, h⟩ := xbd_inv h
  refine xX_c0 (w := xw_77) (i := 14) (ls := [.ref 1, .ref 75]) (rest := []) eT_77 rfl (by omega) rfl rfl rfl (T_X7_copyFrom_14_88 r2 (by omega) hr3) ?_
  refine xX_blk (w := xw_77) eT_77 3 15 (ls' := [.ref 1, .ref 75]) (st' := [.int (r3 75 3), .ref 1]) (σ' := r3) rfl ?_
  refine xX_blk (w := xw_77) eT_77 1 18 (ls' := [.ref 1, .ref 75]) (st' := []) (σ' := xup r3 1 3 (r3 75 3)) rfl ?_
  obtain ⟨σ4, eσ4, h⟩ := xlet_inv h
  rw [← eσ4]
  refine xX_blk (w := xw_77) eT_77 3 19 (ls' := [.ref 1, .ref 75]) (st' := [.int (σ4 75 4), .ref 1]) (σ' := σ4) rfl ?_
  refine xX_blk (w := xw_77) eT_77 1 22 (ls' := [.ref 1, .ref 75]) (st' := []) (σ' := xup σ4 1 4 (σ4 75 4)) rfl ?_
  obtain ⟨σ5, eσ5, h⟩ := xlet_inv h
  rw [← eσ5]
  refine xX_blk (w := xw_77) eT_77 3 23 (ls' := [.ref 1, .ref 75]) (st' := [.int (σ5 75 5), .ref 1]) (σ' := σ5) rfl ?_
  refine xX_blk (w := xw_77) eT_77 1 26 (ls' := [.ref 1, .ref 75]) (st' := []) (σ' := xup σ5 1 5 (σ5 75 5)) rfl ?_
  obtain ⟨σ6, eσ6, h⟩ := xlet_inv h
  rw [← eσ6]
  refine xX_blk (w := xw_77) eT_77 3 27 (ls' := [.ref 1, .ref 75]) (st' := [.int (σ6 75 6), .ref 1]) (σ' := σ6) rfl ?_
  refine xX_blk (w := xw_77) eT_77 1 30 (ls' := [.ref 1, .ref 75]) (st' := []) (σ' := xup σ6 1 6 (σ6 75 6)) rfl ?_
  obtain ⟨σ7, eσ7, h⟩ := xlet_inv h
  rw [← eσ7]
  obtain rfl := Option.some.inj h
  exact xX_ret (w := xw_77) (i := 31) eT_77 rfl rfl
def F_X1_copyFrom_2_94 (σ : xM) : Option (xM) :=
  xlet (xup σ 2 0 (σ 94 0)) fun σ1 =>
  xlet (xset σ1 3 (va_cpy (σ1 95) (σ1 3) 0 0 8)) fun σ2 =>
  xlet (xset σ2 4 (va_cpy (σ2 96) (σ2 4) 0 0 8)) fun σ3 =>
  xlet (xset σ3 5 (va_cpy (σ3 97) (σ3 5) 0 0 8)) fun σ4 =>
  xlet (xset σ4 6 (va_cpy (σ4 98) (σ4 6) 0 0 64)) fun σ5 =>
  xlet (xset σ5 7 (va_cpy (σ5 99) (σ5 7) 0 0 64)) fun σ6 =>
  some σ6
set_option maxHeartbeats 1000000 in
set_option maxRecDepth 20000 in
theorem T_X1_copyFrom_2_94 (σ : xM) {d : Nat} {q : xM} (hd : 0 ≤ d) (h : F_X1_copyFrom_2_94 σ = some q) : xR xT xLn d 25 [.ref 2, .ref 94] σ (none, q) := by
  unfold F_X1_copyFrom_2_94 at h
  show xX xT xLn d 25 0 [.ref 2, .ref 94] [] σ _
  refine xX_blk (w := xw_25) eT_25 3 0 (ls' := [.ref 2, .ref 94]) (st' := [.int (σ 94 0), .ref 2]) (σ' := σ) rfl ?_
  refine xX_blk (w := xw_25) eT_25 1 3 (ls' := [.ref 2, .ref 94]) (st' := []) (σ' := xup σ 2 0 (σ 94 0)) rfl ?_
  obtain ⟨σ1, eσ1, h⟩ := xlet_inv h
  rw [← eσ1]
  refine xX_blk (w := xw_25) eT_25 7 4 (ls' := [.ref 2, .ref 94]) (st' := [.int 8, .int 0, .ref 3, .int 0, .ref 95]) (σ' := σ1) rfl ?_
  refine xX_one (w := xw_25) (i := 11) (ls' := [.ref 2, .ref 94]) (st' := []) (σ' := xset σ1 3 (va_cpy (σ1 95) (σ1 3) 0 0 8)) eT_25 rfl (e_copy xs_95 xs_3 (by decide) (by decide) (Nat.le_of_ble_eq_true rfl)) ?_
  obtain ⟨σ2, eσ2, h⟩ := xlet_inv h
  rw [← eσ2]
  refine xX_blk (w := xw_25) eT_25 7 12 (ls' := [.ref 2, .ref 94]) (st' := [.int 8, .int 0, .ref 4, .int 0, .ref 96]) (σ' := σ2) rfl ?_
  refine xX_one (w := xw_25) (i := 19) (ls' := [.ref 2, .ref 94]) (st' := []) (σ' := xset σ2 4 (va_cpy (σ2 96) (σ2 4) 0 0 8)) eT_25 rfl (e_copy xs_96 xs_4 (by decide) (by decide) (Nat.le_of_ble_eq_true rfl)) ?_
  obtain ⟨σ3, eσ3, h⟩ := xlet_inv h
  rw [← eσ3]
  refine xX_blk (w := xw_25) eT_25 7 20 (ls' := [.ref 2, .ref 94]) (st' := [.int 8, .int 0, .ref 5, .int 0, .ref 97]) (σ' := σ3) rfl ?_
  refine xX_one (w := xw_25) (i := 27) (ls' := [.ref 2, .ref 94]) (st' := []) (σ' := xset σ3 5 (va_cpy (σ3 97) (σ3 5) 0 0 8)) eT_25 rfl (e_copy xs_97 xs_5 (by decide) (by decide) (Nat.le_of_ble_eq_true rfl)) ?_
  obtain ⟨σ4, eσ4, h⟩ := xlet_inv h
  rw [← eσ4]
  refine xX_blk (w := xw_25) eT_25 7 28 (ls' := [.ref 2, .ref 94]) (st' := [.int 64, .int 0, .ref 6, .int 0, .ref 98]) (σ' := σ4) rfl ?_
  refine xX_one (w := xw_25) (i := 35) (ls' := [.ref 2, .ref 94]) (st' := []) (σ' := xset σ4 6 (va_cpy (σ4 98) (σ4 6) 0 0 64)) eT_25 rfl (e_copy xs_98 xs_6 (by decide) (by decide) (Nat.le_of_ble_eq_true rfl)) ?_
  obtain ⟨σ5, eσ5, h⟩ := xlet_inv h
  rw [← eσ5]
  refine xX_blk (w := xw_25) eT_25 7 36 (ls' := [.ref 2, .ref 94]) (st' := [.int 64, .int 0, .ref 7, .int 0, .ref 99]) (σ' := σ5) rfl ?_
  refine xX_one (w := xw_25) (i := 43) (ls' := [.ref 2, .ref 94]) (st' := []) (σ' := xset σ5 7 (va_cpy (σ5 99) (σ5 7) 0 0 64)) eT_25 rfl (e_copy xs_99 xs_7 (by decide) (by decide) (Nat.le_of_ble_eq_true rfl)) ?_
  obtain ⟨σ6, eσ6, h⟩ := xlet_inv h
  rw [← eσ6]
  obtain rfl := Option.some.inj h
  exact xX_ret (w := xw_25) (i := 44) eT_25 rfl rfl
def F_X8_copyFrom_8_100 (σ : xM) : Option (xM) :=
  xlet (xup σ 8 0 (σ 100 0)) fun σ1 =>
  xlet (xup σ1 8 1 (σ1 100 1)) fun σ2 =>
  xlet (xset σ2 9 (va_cpy (σ2 101) (σ2 9) 0 0 5)) fun σ3 =>
  xlet (xset σ3 10 (va_cpy (σ3 102) (σ3 10) 0 0 5)) fun σ4 =>
  xlet (xset σ4 11 (va_cpy (σ4 103) (σ4 11) 0 0 5)) fun σ5 =>
  xlet (xset σ5 12 (va_cpy (σ5 104) (σ5 12) 0 0 5)) fun σ6 =>
  xlet (xset σ6 13 (va_cpy (σ6 105) (σ6 13) 0 0 5)) fun σ7 =>
  some σ7
set_option maxHeartbeats 1000000 in
set_option maxRecDepth 20000 in
theorem T_X8_copyFrom_8_100 (σ : xM) {d : Nat} {q : xM} (hd : 0 ≤ d) (h : F_X8_copyFrom_8_100 σ = some q) : xR xT xLn d 76 [.ref 8, .ref 100] σ (none, q) := by
  unfold F_X8_copyFrom_8_100 at h
  show xX xT xLn d 76 0 [.ref 8, .ref 100] [] σ _
  refine xX_blk (w := xw_76) eT_76 3 0 (ls' := [.ref 8, .ref 100]) (st' := [.int (σ 100 0), .ref 8]) (σ' := σ) rfl ?_
  refine xX_blk (w := xw_76) eT_76 1 3 (ls' := [.ref 8, .ref 100]) (st' := []) (σ' := xup σ 8 0 (σ 100 0)) rfl ?_
  obtain ⟨σ1, eσ1, h⟩ := xlet_inv h
  rw [← eσ1]
  refine xX_blk (w := xw_76) eT_76 3 4 (ls' := [.ref 8, .ref 100]) (st' := [.int (σ1 100 1), .ref 8]) (σ' := σ1) rfl ?_
  refine xX_blk (w := xw_76) eT_76 1 7 (ls' := [.ref 8, .ref 100]) (st' := []) (σ' := xup σ1 8 1 (σ1 100 1)) rfl ?_
  obtain ⟨σ2, eσ2, h⟩ := xlet_inv h
  rw [← eσ2]
  refine xX_blk (w := xw_76) eT_76 7 8 (ls' := [.ref 8, .ref 100]) (st' := [.int 5, .int 0, .ref 9, .int 0, .ref 101]) (σ' := σ2) rfl ?_
  refine xX_one (w := xw_76) (i := 15) (ls' := [.ref 8, .ref 100]) (st' := []) (σ' := xset σ2 9 (va_cpy (σ2 101) (σ2 9) 0 0 5)) eT_76 rfl (e_copy xs_101 xs_9 (by decide) (by decide) (Nat.le_of_ble_eq_true rfl)) ?_
  obtain ⟨σ3, eσ3, h⟩ := xlet_inv h
  rw [← eσ3]
  refine xX_blk (w := xw_76) eT_76 7 16 (ls' := [.ref 8, .ref 100]) (st' := [.int 5, .int 0, .ref 10, .int 0, .ref 102]) (σ' := σ3) rfl ?_
  refine xX_one (w := xw_76) (i := 23) (ls' := [.ref 8, .ref 100]) (st' := []) (σ' := xset σ3 10 (va_cpy (σ3 102) (σ3 10) 0 0 5)) eT_76 rfl (e_copy xs_102 xs_10 (by decide) (by decide) (Nat.le_of_ble_eq_true rfl)) ?_
  obtain ⟨σ4, eσ4, h⟩ := xlet_inv h
  rw [← eσ4]
  refine xX_blk (w := xw_76) eT_76 7 24 (ls' := [.ref 8, .ref 100]) (st' := [.int 5, .int 0, .ref 11, .int 0, .ref 103]) (σ' := σ4) rfl ?_
  refine xX_one (w := xw_76) (i := 31) (ls' := [.ref 8, .ref 100]) (st' := []) (σ' := xset σ4 11 (va_cpy (σ4 103) (σ4 11) 0 0 5)) eT_76 rfl (e_copy xs_103 xs_11 (by decide) (by decide) (Nat.le_of_ble_eq_true rfl)) ?_
  obtain ⟨σ5, eσ5, h⟩ := xlet_inv h
  rw [← eσ5]
  refine xX_blk (w := xw_76) eT_76 7 32 (ls' := [.ref 8, .ref 100]) (st' := [.int 5, .int 0, .ref 12, .int 0, .ref 104]) (σ' := σ5) rfl ?_
  refine xX_one (w := xw_76) (i := 39) (ls' := [.ref 8, .ref 100]) (st' := []) (σ' := xset σ5 12 (va_cpy (σ5 104) (σ5 12) 0 0 5)) eT_76 rfl (e_copy xs_104 xs_12 (by decide) (by decide) (Nat.le_of_ble_eq_true rfl)) ?_
  obtain ⟨σ6, eσ6, h⟩ := xlet_inv h
  rw [← eσ6]
  refine xX_blk (w := xw_76) eT_76 7 40 (ls' := [.ref 8, .ref 100]) (st' := [.int 5, .int 0, .ref 13, .int 0, .ref 105]) (σ' := σ6) rfl ?_
  refine xX_one (w := xw_76) (i := 47) (ls' := [.ref 8, .ref 100]) (st' := []) (σ' := xset σ6 13 (va_cpy (σ6 105) (σ6 13) 0 0 5)) eT_76 rfl (e_copy xs_105 xs_13 (by decide) (by decide) (Nat.le_of_ble_eq_true rfl)) ?_
  obtain ⟨σ7, eσ7, h⟩ := xlet_inv h
  rw [← eσ7]
  obtain rfl := Option.some.inj h
  exact xX_ret (w := xw_76) (i := 48) eT_76 rfl rfl
def F_X7_copyFrom_14_106 (σ : xM) : Option (xM) :=
  xlet (xup σ 14 0 (σ 106 0)) fun σ1 =>
  xlet (xset σ1 15 (va_cpy (σ1 107) (σ1 15) 0 0 12)) fun σ2 =>
  xlet (xset σ2 16 (va_cpy (σ2 108) (σ2 16) 0 0 12)) fun σ3 =>
  xlet (xset σ3 17 (va_cpy (σ3 109) (σ3 17) 0 0 12)) fun σ4 =>
  xlet (xset σ4 18 (va_cpy (σ4 110) (σ4 18) 0 0 12)) fun σ5 =>
  some σ5
set_option maxHeartbeats 1000000 in
set_option maxRecDepth 20000 in
theorem T_X7_copyFrom_14_106 (σ : xM) {d : Nat} {q : xM} (hd : 0 ≤ d) (h : F_X7_copyFrom_14_106 σ = some q) : xR xT xLn d 67 [.ref 14, .ref 106] σ (none, q) := by
  unfold F_X7_copyFrom_14_106 at h
  show xX xT xLn d 67 0 [.ref 14, .ref 106] [] σ _
  refine xX_blk (w := xw_67) eT_67 3 0 (ls' := [.ref 14, .ref 106]) (st' := [.int (σ 106 0), .ref 14]) (σ' := σ) rfl ?_
  refine xX_blk (w := xw_67) eT_67 1 3 (ls' := [.ref 14, .ref 106]) (st' := []) (σ' := xup σ 14 0 (σ 106 0)) rfl ?_
  obtain ⟨σ1, eσ1, h⟩ := xlet_inv h
  rw [← eσ1]
  refine xX_blk (w := xw_67) eT_67 7 4 (ls' := [.ref 14, .ref 106]) (st' := [.int 12, .int 0, .ref 15, .int 0, .ref 107]) (σ' := σ1) rfl ?_
  refine xX_one (w := xw_67) (i := 11) (ls' := [.ref 14, .ref 106]) (st' := []) (σ' := xset σ1 15 (va_cpy (σ1 107) (σ1 15) 0 0 12)) eT_67 rfl (e_copy xs_107 xs_15 (by decide) (by decide) (Nat.le_of_ble_eq_true rfl)) ?_
  obtain ⟨σ2, eσ2, h⟩ := xlet_inv h
  rw [← eσ2]
  refine xX_blk (w := xw_67) eT_67 7 12 (ls' := [.ref 14, .ref 106]) (st' := [.int 12, .int 0, .ref 16, .int 0, .ref 108]) (σ' := σ2) rfl ?_
  refine xX_one (w := xw_67) (i := 19) (ls' := [.ref 14, .ref 106]) (st' := []) (σ' := xset σ2 16 (va_cpy (σ2 108) (σ2 16) 0 0 12)) eT_67 rfl (e_copy xs_108 xs_16 (by decide) (by decide) (Nat.le_of_ble_eq_true rfl)) ?_
  obtain ⟨σ3, eσ3, h⟩ := xlet_inv h
  rw [← eσ3]
  refine xX_blk (w := xw_67) eT_67 7 20 (ls' := [.ref 14, .ref 106]) (st' := [.int 12, .int 0, .ref 17, .int 0, .ref 109]) (σ' := σ3) rfl ?_
  refine xX_one (w := xw_67) (i := 27) (ls' := [.ref 14, .ref 106]) (st' := []) (σ' := xset σ3 17 (va_cpy (σ3 109) (σ3 17) 0 0 12)) eT_67 rfl (e_copy xs_109 xs_17 (by decide) (by decide) (Nat.le_of_ble_eq_true rfl)) ?_
  obtain ⟨σ4, eσ4, h⟩ := xlet_inv h
  rw [← eσ4]
  refine xX_blk (w := xw_67) eT_67 7 28 (ls' := [.ref 14, .ref 106]) (st' := [.int 12, .int 0, .ref 18, .int 0, .ref 110]) (σ' := σ4) rfl ?_
  refine xX_one (w := xw_67) (i := 35) (ls' := [.ref 14, .ref 106]) (st' := []) (σ' := xset σ4 18 (va_cpy (σ4 110) (σ4 18) 0 0 12)) eT_67 rfl (e_copy xs_110 xs_18 (by decide) (by decide) (Nat.le_of_ble_eq_true rfl)) ?_
  obtain ⟨σ5, eσ5, h⟩ := xlet_inv h
  rw [← eσ5]
  obtain rfl := Option.some.inj h
  exact xX_ret (w := xw_67) (i := 36) eT_67 rfl rfl
def F_X9_copyFrom_1_93 (σ : xM) : Option (xM) :=
  xbd (F_X1_copyFrom_2_94 σ) fun r1 =>
  xbd (F_X8_copyFrom_8_100 r1) fun r2 =>
  xbd (F_X7_copyFrom_14_106 r2) fun r3 =>
  xlet (xup r3 1 3 (r3 93 3)) fun σ4 =>
  xlet (xup σ4 1 4 (σ4 93 4)) fun σ5 =>
  xlet (xup σ5 1 5 (σ5 93 5)) fun σ6 =>
  xlet (xup σ6 1 6 (σ6 93 6)) fun σ7 =>
  some σ7
set_option maxHeartbeats 1000000 in
set_option maxRecDepth 20000 in
theorem T_X9_copyFrom_1_93 (σ : xM) {d : Nat} {q : xM} (hd : 1 ≤ d) (h : F_X9_copyFrom_1_93 σ = some q) : xR xT xLn d 77 [.ref 1, .ref 93] σ (none, q) := by
  unfold F_X9_copyFrom_1_93 at h
  show xX xT xLn d 77 0 [.ref 1, .ref 93] [] σ _
  refine xX_blk (w := xw_77) eT_77 4 0 (ls' := [.ref 1, .ref 93]) (st' := [.ref 94, .ref 2]) (σ' := σ) rfl ?_
  obtain ⟨r1, hr1, h⟩ := xbd_inv h
  refine xX_c0 (w := xw_77) (i := 4) (ls := [.ref 1, .ref 93]) (rest := []) eT_77 rfl (by omega) rfl rfl rfl (T_X1_copyFrom_2_94 σ (by omega) hr1) ?_
  refine xX_blk (w := xw_77) eT_77 4 5 (ls' := [.ref 1, .ref 93]) (st' := [.ref 100, .ref 8]) (σ' := r1) rfl ?_
  obtain ⟨r2, hr2, h⟩ := xbd_inv h
  refine xX_c0 (w := xw_77) (i := 9) (ls := [.ref 1, .ref 93]) (rest := []) eT_77 rfl (by omega) rfl rfl rfl (T_X8_copyFrom_8_100 r1 (by omega) hr2) ?_
  refine xX_blk (w := xw_77) eT_77 4 10 (ls' := [.ref 1, .ref 93]) (st' := [.ref 106, .ref 14]) (σ' := r2) rfl ?_
  obtain ⟨r3, hr3, h⟩ := xbd_inv h
  refine xX_c0 (w := xw_77) (i := 14) (ls := [.ref 1, .ref 93]) (rest := []) eT_77 rfl (by omega) rfl rfl rfl (T_X7_copyFrom_14_106 r2 (by omega) hr3) ?_
  refine xX_blk (w := xw_77) eT_77 3 15 (ls' := [.ref 1, .ref 93]) (st' := [.int (r3 93 3), .ref 1]) (σ' := r3) rfl ?_
  refine xX_blk (w := xw_77) eT_77 1 18 (ls' := [.ref 1, .ref 93]) (st' := []) (σ' := xup r3 1 3 (r3 93 3)) rfl ?_
  obtain ⟨σ4, eσ4, h⟩ := xlet_inv h
  rw [← eσ4]
  refine xX_blk (w := xw_77) eT_77 3 19 (ls' := [.ref 1, .ref 93]) (st' := [.int (σ4 93 4), .ref 1]) (σ' := σ4) rfl ?_
  refine xX_blk (w := xw_77) eT_77 1 22 (ls' := [.ref 1, .ref 93]) (st' := []) (σ' := xup σ4 1 4 (σ4 93 4)) rfl ?_
  obtain ⟨σ5, eσ5, h⟩ := xlet_inv h
  rw [← eσ5]
  refine xX_blk (w := xw_77) eT_77 3 23 (ls' := [.ref 1, .ref 93]) (st' := [.int (σ5 93 5), .ref 1]) (σ' := σ5) rfl ?_
  refine xX_blk (w := xw_77) eT_77 1 26 (ls' := [.ref 1, .ref 93]) (st' := []) (σ' := xup σ5 1 5 (σ5 93 5)) rfl ?_
  obtain ⟨σ6, eσ6, h⟩ := xlet_inv h
  rw [← eσ6]
  refine xX_blk (w := xw_77) eT_77 3 27 (ls' := [.ref 1, .ref 93]) (st' := [.int (σ6 93 6), .ref 1]) (σ' := σ6) rfl ?_
  refine xX_blk (w := xw_77) eT_77 1 30 (ls' := [.ref 1, .ref 93]) (st' := []) (σ' := xup σ6 1 6 (σ6 93 6)) rfl ?_
  obtain ⟨σ7, eσ7, h⟩ := xlet_inv h
  rw [← eσ7]
  obtain rfl := Option.some.inj h
  exact xX_ret (w := xw_77) (i := 31) eT_77 rfl rfl
def F_X1_copyFrom_2_112 (σ : xM) : Option (xM) :=
  xlet (xup σ 2 0 (σ 112 0)) fun σ1 =>
  xlet (xset σ1 3 (va_cpy (σ1 113) (σ1 3) 0 0 8)) fun σ2 =>
  xlet (xset σ2 4 (va_cpy (σ2 114) (σ2 4) 0 0 8)) fun σ3 =>
  xlet (xset σ3 5 (va_cpy (σ3 115) (σ3 5) 0 0 8)) fun σ4 =>
  xlet (xset σ4 6 (va_cpy (σ4 116) (σ4 6) 0 0 64)) fun σ5 =>
  xlet (xset σ5 7 (va_cpy (σ5 117) (σ5 7) 0 0 64)) fun σ6 =>
  some σ6
set_option maxHeartbeats 1000000 in
set_option maxRecDepth 20000 in
theorem T_X1_copyFrom_2_112 (σ : xM) {d : Nat} {q : xM} (hd : 0 ≤ d) (h : F_X1_copyFrom_2_112 σ = some q) : xR xT xLn d 25 [.ref 2, .ref 112] σ (none, q) := by
  unfold F_X1_copyFrom_2_112 at h
  show xX xT xLn d 25 0 [.ref 2, .ref 112] [] σ _
  refine xX_blk (w := xw_25) eT_25 3 0 (ls' := [.ref 2, .ref 112]) (st' := [.int (σ 112 0), .ref 2]) (σ' := σ) rfl ?_
  refine xX_blk (w := xw_25) eT_25 1 3 (ls' := [.ref 2, .ref 112]) (st' := []) (σ' := xup σ 2 0 (σ 112 0)) rfl ?_
  obtain ⟨σ1, eσ1, h⟩ := xlet_inv h
  rw [← eσ1]
  refine xX_blk (w := xw_25) eT_25 7 4 (ls' := [.ref 2, .ref 112]) (st' := [.int 8, .int 0, .ref 3, .int 0, .ref 113]) (σ' := σ1) rfl ?_
  refine xX_one (w := xw_25) (i := 11) (ls' := [.ref 2, .ref 112]) (st' := []) (σ' := xset σ1 3 (va_cpy (σ1 113) (σ1 3) 0 0 8)) eT_25 rfl (e_copy xs_113 xs_3 (by decide) (by decide) (Nat.le_of_ble_eq_true rfl)) ?_
  obtain ⟨σ2, eσ2, h⟩ := xlet_inv h
  rw [← eσ2]
  refine xX_blk (w := xw_25) eT_25 7 12 (ls' := [.ref 2, .ref 112]) (st' := [.int 8, .int 0, .ref 4, .int 0, .ref 114]) (σ' := σ2) rfl ?_
  refine xX_one (w := xw_25) (i := 19) (ls' := [.ref 2, .ref 112]) (st' := []) (σ' := xset σ2 4 (va_cpy (σ2 114) (σ2 4) 0 0 8)) eT_25 rfl (e_copy xs_114 xs_4 (by decide) (by decide) (Nat.le_of_ble_eq_true rfl)) ?_
  obtain ⟨σ3, eσ3, h⟩ := xlet_inv h
  rw [← eσ3]
  refine xX_blk (w := xw_25) eT_25 7 20 (ls' := [.ref 2, .ref 112]) (st' := [.int 8, .int 0, .ref 5, .int 0, .ref 115]) (σ' := σ3) rfl ?_
  refine xX_one (w := xw_25) (i := 27) (ls' := [.ref 2, .ref 112]) (st' := []) (σ' := xset σ3 5 (va_cpy (σ3 115) (σ3 5) 0 0 8)) eT_25 rfl (e_copy xs_115 xs_5 (by decide) (by decide) (Nat.le_of_ble_eq_true rfl)) ?_
  obtain ⟨σ4, eσ4, h⟩ := xlet_inv h
  rw [← eσ4]
  refine xX_blk (w := xw_25) eT_25 7 28 (ls' := [.ref 2, .ref 112]) (st' := [.int 64, .int 0, .ref 6, .int 0, .ref 116]) (σ' := σ4) rfl ?_
  refine xX_one (w := xw_25) (i := 35) (ls' := [.ref 2, .ref 112]) (st' := []) (σ' := xset σ4 6 (va_cpy (σ4 116) (σ4 6) 0 0 64)) eT_25 rfl (e_copy xs_116 xs_6 (by decide) (by decide) (Nat.le_of_ble_eq_true rfl)) ?_
  obtain ⟨σ5, eσ5, h⟩ := xlet_inv h
  rw [← eσ5]
  refine xX_blk (w := xw_25) eT_25 7 36 (ls' := [.ref 2, .ref 112]) (st' := [.int 64, .int 0, .ref 7, .int 0, .ref 117]) (σ' := σ5) rfl ?_
  refine xX_one (w := xw_25) (i := 43) (ls' := [.ref 2, .ref 112]) (st' := []) (σ' := xset σ5 7 (va_cpy (σ5 117) (σ5 7) 0 0 64)) eT_25 rfl (e_copy xs_117 xs_7 (by decide) (by decide) (Nat.le_of_ble_eq_true rfl)) ?_
  obtain ⟨σ6, eσ6, h⟩ := xlet_inv h
  rw [← eσ6]
  obtain rfl := Option.some.inj h
  exact xX_ret (w := xw_25) (i := 44) eT_25 rfl rfl
def F_X8_copyFrom_8_118 (σ : xM) : Option (xM) :=
  xlet (xup σ 8 0 (σ 118 0)) fun σ1 =>
  xlet (xup σ1 8 1 (σ1 118 1)) fun σ2 =>
  xlet (xset σ2 9 (va_cpy (σ2 119) (σ2 9) 0 0 5)) fun σ3 =>
  xlet (xset σ3 10 (va_cpy (σ3 120) (σ3 10) 0 0 5)) fun σ4 =>
  xlet (xset σ4 11 (va_cpy (σ4 121) (σ4 11) 0 0 5)) fun σ5 =>
  xlet (xset σ5 12 (va_cpy (σ5 122) (σ5 12) 0 0 5)) fun σ6 =>
  xlet (xset σ6 13 (va_cpy (σ6 123) (σ6 13) 0 0 5)) fun σ7 =>
  some σ7
set_option maxHeartbeats 1000000 in
set_option maxRecDepth 20000 in
theorem T_X8_copyFrom_8_118 (σ : xM) {d : Nat} {q : xM} (hd : 0 ≤ d) (h : F_X8_copyFrom_8_118 σ = some q) : xR xT xLn d 76 [.ref 8, .ref 118] σ (none, q) := by
  unfold F_X8_copyFrom_8_118 at h
  show xX xT xLn d 76 0 [.ref 8, .ref 118] [] σ _
  refine xX_blk (w := xw_76) eT_76 3 0 (ls' := [.ref 8, .ref 118]) (st' := [.int (σ 118 0), .ref 8]) (σ' := σ) rfl ?_
  refine xX_blk (w := xw_76) eT_76 1 3 (ls' := [.ref 8, .ref 118]) (st' := []) (σ' := xup σ 8 0 (σ 118 0)) rfl ?_
  obtain ⟨σ1, eσ1, h⟩ := xlet_inv h
  rw [← eσ1]
  refine xX_blk (w := xw_76) eT_76 3 4 (ls' := [.ref 8, .ref 118]) (st' := [.int (σ1 118 1), .ref 8]) (σ' := σ1) rfl ?_
  refine xX_blk (w := xw_76) eT_76 1 7 (ls' := [.ref 8, .ref 118]) (st' := []) (σ' := xup σ1 8 1 (σ1 118 1)) rfl ?_
  obtain ⟨σ2, eσ2, h⟩ := xlet_inv h
  rw [← eσ2]
  refine xX_blk (w := xw_76) eT_76 7 8 (ls' := [.ref 8, .ref 118]) (st' := [.int 5, .int 0, .ref 9, .int 0, .ref 119]) (σ' := σ2) rfl ?_
  refine xX_one (w := xw_76) (i := 15) (ls' := [.ref 8, .ref 118]) (st' := []) (σ' := xset σ2 9 (va_cpy (σ2 119) (σ2 9) 0 0 5)) eT_76 rfl (e_copy xs_119 xs_9 (by decide) (by decide) (Nat.le_of_ble_eq_true rfl)) ?_
  obtain ⟨σ3, eσ3, h⟩ := xlet_inv h
  rw [← eσ3]
  refine xX_blk (w := xw_76) eT_76 7 16 (ls' := [.ref 8, .ref 118]) (st' := [.int 5, .int 0, .ref 10, .int 0, .ref 120]) (σ' := σ3) rfl ?_
  refine xX_one (w := xw_76) (i := 23) (ls' := [.ref 8, .ref 118]) (st' := []) (σ' := xset σ3 10 (va_cpy (σ3 120) (σ3 10) 0 0 5)) eT_76 rfl (e_copy xs_120 xs_10 (by decide) (by decide) (Nat.le_of_ble_eq_true rfl)) ?_
  obtain ⟨σ4, eσ4, h⟩ := xlet_inv h
  rw [← eσ4]
  refine xX_blk (w := xw_76) eT_76 7 24 (ls' := [.ref 8, .ref 118]) (st' := [.int 5, .int 0, .ref 11, .int 0, .ref 121]) (σ' := σ4) rfl ?_
  refine xX_one (w := xw_76) (i := 31) (ls' := [.ref 8, .ref 118]) (st' := []) (σ' := xset σ4 11 (va_cpy (σ4 121) (σ4 11) 0 0 5)) eT_76 rfl (e_copy xs_121 xs_11 (by decide) (by decide) (Nat.le_of_ble_eq_true rfl)) ?_
  obtain ⟨σ5, eσ5, h⟩ := xlet_inv h
  rw [← eσ5]
  refine xX_blk (w := xw_76) eT_76 7 32 (ls' := [.ref 8, .ref 118]) (st' := [.int 5, .int 0, .ref 12, .int 0, .ref 122]) (σ' := σ5) rfl ?_
  refine xX_one (w := xw_76) (i := 39) (ls' := [.ref 8, .ref 118]) (st' := []) (σ' := xset σ5 12 (va_cpy (σ5 122) (σ5 12) 0 0 5)) eT_76 rfl (e_copy xs_122 xs_12 (by decide) (by decide) (Nat.le_of_ble_eq_true rfl)) ?_
  obtain ⟨σ6, eσ6, h⟩ := xlet_inv h
  rw [← eσ6]
  refine xX_blk (w := xw_76) eT_76 7 40 (ls' := [.ref 8, .ref 118]) (st' := [.int 5, .int 0, .ref 13, .int 0, .ref 123]) (σ' := σ6) rfl ?_
  refine xX_one (w := xw_76) (i := 47) (ls' := [.ref 8, .ref 118]) (st' := []) (σ' := xset σ6 13 (va_cpy (σ6 123) (σ6 13) 0 0 5)) eT_76 rfl (e_copy xs_123 xs_13 (by decide) (by decide) (Nat.le_of_ble_eq_true rfl)) ?_
  obtain ⟨σ7, eσ7, h⟩ := xlet_inv h
  rw [← eσ7]
  obtain rfl := Option.some.inj h
  exact xX_ret (w := xw_76) (i := 48) eT_76 rfl rfl
def F_X7_copyFrom_14_124 (σ : xM) : Option (xM) :=
  xlet (xup σ 14 0 (σ 124 0)) fun σ1 =>
  xlet (xset σ1 15 (va_cpy (σ1 125) (σ1 15) 0 0 12)) fun σ2 =>
  xlet (xset σ2 16 (va_cpy (σ2 126) (σ2 16) 0 0 12)) fun σ3 =>
  xlet (xset σ3 17 (va_cpy (σ3 127) (σ3 17) 0 0 12)) fun σ4 =>
  xlet (xset σ4 18 (va_cpy (σ4 128) (σ4 18) 0 0 12)) fun σ5 =>
  some σ5
set_option maxHeartbeats 1000000 in
set_option maxRecDepth 20000 in
theorem T_X7_copyFrom_14_124 (σ : xM) {d : Nat} {q : xM} (hd : 0 ≤ d) (h : F_X7_copyFrom_14_124 σ = some q) : xR xT xLn d 67 [.ref 14, .ref 124] σ (none, q) := by
  unfold F_X7_copyFrom_14_124 at h
  show xX xT xLn d 67 0 [.ref 14, .ref 124] [] σ _
  refine xX_blk (w := xw_67) eT_67 3 0 (ls' := [.ref 14, .ref 124]) (st' := [.int (σ 124 0), .ref 14]) (σ' := σ) rfl ?_
  refine xX_blk (w := xw_67) eT_67 1 3 (ls' := [.ref 14, .ref 124]) (st' := []) (σ' := xup σ 14 0 (σ 124 0)) rfl ?_
  obtain ⟨σ1, eσ1, h⟩ := xlet_inv h
  rw [← eσ1]
  refine xX_blk (w := xw_67) eT_67 7 4 (ls' := [.ref 14, .ref 124]) (st' := [.int 12, .int 0, .ref 15, .int 0, .ref 125]) (σ' := σ1) rfl ?_
  refine xX_one (w := xw_67) (i := 11) (ls' := [.ref 14, .ref 124]) (st' := []) (σ' := xset σ1 15 (va_cpy (σ1 125) (σ1 15) 0 0 12)) eT_67 rfl (e_copy xs_125 xs_15 (by decide) (by decide) (Nat.le_of_ble_eq_true rfl)) ?_
  obtain ⟨σ2, eσ2, h⟩ := xlet_inv h
  rw [← eσ2]
  refine xX_blk (w := xw_67) eT_67 7 12 (ls' := [.ref 14, .ref 124]) (st' := [.int 12, .int 0, .ref 16, .int 0, .ref 126]) (σ' := σ2) rfl ?_
  refine xX_one (w := xw_67) (i := 19) (ls' := [.ref 14, .ref 124]) (st' := []) (σ' := xset σ2 16 (va_cpy (σ2 126) (σ2 16) 0 0 12)) eT_67 rfl (e_copy xs_126 xs_16 (by decide) (by decide) (Nat.le_of_ble_eq_true rfl)) ?_
  obtain ⟨σ3, eσ3, h⟩ := xlet_inv h
  rw [← eσ3]
  refine xX_blk (w := xw_67) eT_67 7 20 (ls' := [.ref 14, .ref 124]) (st' := [.int 12, .int 0, .ref 17, .int 0, .ref 127]) (σ' := σ3) rfl ?_
  refine xX_one (w := xw_67) (i := 27) (ls' := [.ref 14, .ref 124]) (st' := []) (σ' := xset σ3 17 (va_cpy (σ3 127) (σ3 17) 0 0 12)) eT_67 rfl (e_copy xs_127 xs_17 (by decide) (by decide) (Nat.le_of_ble_eq_true rfl)) ?_
  obtain ⟨σ4, eσ4, h⟩ := xlet_inv h
  rw [← eσ4]
  refine xX_blk (w := xw_67) eT_67 7 28 (ls' := [.ref 14, .ref 124]) (st' := [.int 12, .int 0, .ref 18, .int 0, .ref 128]) (σ' := σ4) rfl ?_
  refine xX_one (w := xw_67) (i := 35) (ls' := [.ref 14, .ref 124]) (st' := []) (σ' := xset σ4 18 (va_cpy (σ4 128) (σ4 18) 0 0 12)) eT_67 rfl (e_copy xs_128 xs_18 (by decide) (by decide) (Nat.le_of_ble_eq_true rfl)) ?_
  obtain ⟨σ5, eσ5, h⟩ := xlet_inv h
  rw [← eσ5]
  obtain rfl := Option.some.inj h
  exact xX_ret (w := xw_67) (i := 36) eT_67 rfl rfl
def F_X9_copyFrom_1_111 (σ : xM) : Option (xM) :=
  xbd (F_X1_copyFrom_2_112 σ) fun r1 =>
  xbd (F_X8_copyFrom_8_118 r1) fun r2 =>
  xbd (F_X7_copyFrom_14_124 r2) fun r3 =>
  xlet (xup r3 1 3 (r3 111 3)) fun σ4 =>
  xlet (xup σ4 1 4 (σ4 111 4)) fun σ5 =>
  xlet (xup σ5 1 5 (σ5 111 5)) fun σ6 =>
  xlet (xup σ6 1 6 (σ6 111 6)) fun σ7 =>
  some σ7
set_option maxHeartbeats 1000000 in
set_option maxRecDepth 20000 in
theorem T_X9_copyFrom_1_111 (σ : xM) {d : Nat} {q : xM} (hd : 1 ≤ d) (h : F_X9_copyFrom_1_111 σ = some q) : xR xT xLn d 77 [.ref 1, .ref 111] σ (none, q) := by
  unfold F_X9_copyFrom_1_111 at h
  show xX xT xLn d 77 0 [.ref 1, .ref 111] [] σ _
  refine xX_blk (w := xw_77) eT_77 4 0 (ls' := [.ref 1, .ref 111]) (st' := [.ref 112, .ref 2]) (σ' := σ) rfl ?_
  obtain ⟨r1, hr1, h⟩ := xbd_inv h
  refine xX_c0 (w := xw_77) (i := 4) (ls := [.ref 1, .ref 111]) (rest := []) eT_77 rfl (by omega) rfl rfl rfl (T_X1_copyFrom_2_112 σ (by omega) hr1) ?_
  refine xX_blk (w := xw_77) eT_77 4 5 (ls' := [.ref 1, .ref 111]) (st' := [.ref 118, .ref 8]) (σ' := r1) rfl ?_
  obtain ⟨r2, hr2, h⟩ := xbd_inv h
  refine xX_c0 (w := xw_77) (i := 9) (ls := [.ref 1, .ref 111]) (rest := []) eT_77 rfl (by omega) rfl rfl rfl (T_X8_copyFrom_8_118 r1 (by omega) hr2) ?_
  refine xX_blk (w := xw_77) eT_77 4 10 (ls' := [.ref 1, .ref 111]) (st' := [.ref 124, .ref 14]) (σ' := r2) rfl ?_
  obtain ⟨r3, hr3, h⟩ := xbd_inv h
  refine xX_c0 (w := xw_77) (i := 14) (ls := [.ref 1, .ref 111]) (rest := []) eT_77 rfl (by omega) rfl rfl rfl (T_X7_copyFrom_14_124 r2 (by omega) hr3) ?_
  refine xX_blk (w := xw_77) eT_77 3 15 (ls' := [.ref 1, .ref 111]) (st' := [.int (r3 111 3), .ref 1]) (σ' := r3) rfl ?_
  refine xX_blk (w := xw_77) eT_77 1 18 (ls' := [.ref 1, .ref 111]) (st' := []) (σ' := xup r3 1 3 (r3 111 3)) rfl ?_
  obtain ⟨σ4, eσ4, h⟩ := xlet_inv h
  rw [← eσ4]
  refine xX_blk (w := xw_77) eT_77 3 19 (ls' := [.ref 1, .ref 111]) (st' := [.int (σ4 111 4), .ref 1]) (σ' := σ4) rfl ?_
  refine xX_blk (w := xw_77) eT_77 1 22 (ls' := [.ref 1, .ref 111]) (st' := []) (σ' := xup σ4 1 4 (σ4 111 4)) rfl ?_
  obtain ⟨σ5, eσ5, h⟩ := xlet_inv h
  rw [← eσ5]
  refine xX_blk (w := xw_77) eT_77 3 23 (ls' := [.ref 1, .ref 111]) (st' := [.int (σ5 111 5), .ref 1]) (σ' := σ5) rfl ?_
  refine xX_blk (w := xw_77) eT_77 1 26 (ls' := [.ref 1, .ref 111]) (st' := []) (σ' := xup σ5 1 5 (σ5 111 5)) rfl ?_
  obtain ⟨σ6, eσ6, h⟩ := xlet_inv h
  rw [← eσ6]
  refine xX_blk (w := xw_77) eT_77 3 27 (ls' := [.ref 1, .ref 111]) (st' := [.int (σ6 111 6), .ref 1]) (σ' := σ6) rfl ?_
  refine xX_blk (w := xw_77) eT_77 1 30 (ls' := [.ref 1, .ref 111]) (st' := []) (σ' := xup σ6 1 6 (σ6 111 6)) rfl ?_
  obtain ⟨σ7, eσ7, h⟩ := xlet_inv h
  rw [← eσ7]
  obtain rfl := Option.some.inj h
  exact xX_ret (w := xw_77) (i := 31) eT_77 rfl rfl
def F_X3_restoreMarked_1 (σ : xM) : Option (xM) :=
  if (σ 19 1) = 0 then
    xbd (F_X9_copyFrom_1_21 σ) fun r2 =>
    some r2
  else if (σ 19 1) = 1 then
    xbd (F_X9_copyFrom_1_39 σ) fun r4 =>
    some r4
  else if (σ 19 1) = 2 then
    xbd (F_X9_copyFrom_1_57 σ) fun r6 =>
    some r6
  else if (σ 19 1) = 3 then
    xbd (F_X9_copyFrom_1_75 σ) fun r8 =>
    some r8
  else if (σ 19 1) = 4 then
    xbd (F_X9_copyFrom_1_93 σ) fun r10 =>
    some r10
  else if (σ 19 1) = 5 then
    xbd (F_X9_copyFrom_1_111 σ) fun r12 =>
    some r12
  else none
set_option maxHeartbeats 1000000 in
set_option maxRecDepth 20000 in
theorem T_X3_restoreMarked_1 (σ : xM) {d : Nat} {q : xM} (hd : 2 ≤ d) (h : F_X3_restoreMarked_1 σ = some q) : xR xT xLn d 34 [.ref 19, .ref 1] σ (none, q) := by
  unfold F_X3_restoreMarked_1 at h
  show xX xT xLn d 34 0 [.ref 19, .ref 1] [] σ _
  refine xX_blk (w := xw_34) eT_34 5 0 (ls' := [.ref 19, .ref 1]) (st' := [.int (σ 19 1), .ref 20, .ref 1]) (σ' := σ) rfl ?_
  by_cases hc1 : (σ 19 1) = 0
  · rw [if_pos hc1] at h
    refine xX_one (w := xw_34) (i := 5) (ls' := [.ref 19, .ref 1]) (st' := [.ref 21, .ref 1]) (σ' := σ) eT_34 rfl (e_aald xs_20 (by rw [hc1]; decide) (by rw [hc1]; decide)) ?_
    obtain ⟨r2, hr2, h⟩ := xbd_inv h
    refine xX_c0 (w := xw_34) (i := 6) (ls := [.ref 19, .ref 1]) (rest := []) eT_34 rfl (by omega) rfl rfl rfl (T_X9_copyFrom_1_21 σ (by omega) hr2) ?_
    obtain rfl := Option.some.inj h
    exact xX_ret (w := xw_34) (i := 7) eT_34 rfl rfl
  rw [if_neg hc1] at h
  by_cases hc3 : (σ 19 1) = 1
  · rw [if_pos hc3] at h
    refine xX_one (w := xw_34) (i := 5) (ls' := [.ref 19, .ref 1]) (st' := [.ref 39, .ref 1]) (σ' := σ) eT_34 rfl (e_aald xs_20 (by rw [hc3]; decide) (by rw [hc3]; decide)) ?_
    obtain ⟨r4, hr4, h⟩ := xbd_inv h
    refine xX_c0 (w := xw_34) (i := 6) (ls := [.ref 19, .ref 1]) (rest := []) eT_34 rfl (by omega) rfl rfl rfl (T_X9_copyFrom_1_39 σ (by omega) hr4) ?_
    obtain rfl := Option.some.inj h
    exact xX_ret (w := xw_34) (i := 7) eT_34 rfl rfl
  rw [if_neg hc3] at h
  by_cases hc5 : (σ 19 1) = 2
  · rw [if_pos hc5] at h
    refine xX_one (w := xw_34) (i := 5) (ls' := [.ref 19, .ref 1]) (st' := [.ref 57, .ref 1]) (σ' := σ) eT_34 rfl (e_aald xs_20 (by rw [hc5]; decide) (by rw [hc5]; decide)) ?_
    obtain ⟨r6, hr6, h⟩ := xbd_inv h
    refine xX_c0 (w := xw_34) (i := 6) (ls := [.ref 19, .ref 1]) (rest := []) eT_34 rfl (by omega) rfl rfl rfl (T_X9_copyFrom_1_57 σ (by omega) hr6) ?_
    obtain rfl := Option.some.inj h
    exact xX_ret (w := xw_34) (i := 7) eT_34 rfl rfl
  rw [if_neg hc5] at h
  by_cases hc7 : (σ 19 1) = 3
  · rw [if_pos hc7] at h
    refine xX_one (w := xw_34) (i := 5) (ls' := [.ref 19, .ref 1]) (st' := [.ref 75, .ref 1]) (σ' := σ) eT_34 rfl (e_aald xs_20 (by rw [hc7]; decide) (by rw [hc7]; decide)) ?_
    obtain ⟨r8, hr8, h⟩ := xbd_inv h
    refine xX_c0 (w := xw_34) (i := 6) (ls := [.ref 19, .ref 1]) (rest := []) eT_34 rfl (by omega) rfl rfl rfl (T_X9_copyFrom_1_75 σ (by omega) hr8) ?_
    obtain rfl := Option.some.inj h
    exact xX_ret (w := xw_34) (i := 7) eT_34 rfl rfl
  rw [if_neg hc7] at h
  by_cases hc9 : (σ 19 1) = 4
  · rw [if_pos hc9] at h
    refine xX_one (w := xw_34) (i := 5) (ls' := [.ref 19, .ref 1]) (st' := [.ref 93, .ref 1]) (σ' := σ) eT_34 rfl (e_aald xs_20 (by rw [hc9]; decide) (by rw [hc9]; decide)) ?_
    obtain ⟨r10, hr10, h⟩ := xbd_inv h
    refine xX_c0 (w := xw_34) (i := 6) (ls := [.ref 19, .ref 1]) (rest := []) eT_34 rfl (by omega) rfl rfl rfl (T_X9_copyFrom_1_93 σ (by omega) hr10) ?_
    obtain rfl := Option.some.inj h
    exact xX_ret (w := xw_34) (i := 7) eT_34 rfl rfl
  rw [if_neg hc9] at h
  by_cases hc11 : (σ 19 1) = 5
  · rw [if_pos hc11] at h
    refine xX_one (w := xw_34) (i := 5) (ls' := [.ref 19, .ref 1]) (st' := [.ref 111, .ref 1]) (σ' := σ) eT_34 rfl (e_aald xs_20 (by rw [hc11]; decide) (by rw [hc11]; decide)) ?_
    obtain ⟨r12, hr12, h⟩ := xbd_inv h
    refine xX_c0 (w := xw_34) (i := 6) (ls := [.ref 19, .ref 1]) (rest := []) eT_34 rfl (by omega) rfl rfl rfl (T_X9_copyFrom_1_111 σ (by omega) hr12) ?_
    obtain rfl := Option.some.inj h
    exact xX_ret (w := xw_34) (i := 7) eT_34 rfl rfl
  rw [if_neg hc11] at h
  cases h
def B_X10_reads_15 (v2 : Int32) (σ : xM) : Option ((Int32 × xM) ⊕ ((Int32 × xM) ⊕ (xM))) :=
  if (σ 137 1) ≤ v2 then
    some (.inr (.inr σ))
  else
    xbd (F_X6_letter v2 σ) fun r5 =>
    xbd (F_X6_number v2 0 σ) fun r6 =>
    xbd (F_X6_number v2 1 σ) fun r7 =>
    xbd (F_X6_number v2 2 σ) fun r8 =>
    xbd (F_X0_carryOut r5 r6 r7 r8 σ) fun r9 =>
    if 0 ≤ r9.1 then
      some (.inl ((v2 + 1), r9.2))
    else
      some (.inr (.inl (v2, r9.2)))
def L_X10_reads_15 (v2 : Int32) (σ : xM) : Option ((Int32 × xM) ⊕ (xM)) := xloop (fun s : Int32 × xM => B_X10_reads_15 s.1 s.2) 6000 (v2, σ)
set_option maxHeartbeats 1000000 in
set_option maxRecDepth 20000 in
theorem TB_X10_reads_15 {d : Nat} {o : Option Value × xM} (v2 : Int32) (σ : xM) {q : (Int32 × xM) ⊕ ((Int32 × xM) ⊕ (xM))} (hd : 6 ≤ d) (h : B_X10_reads_15 v2 σ = some q) (hB : ∀ s', q = .inl s' → ∀ (z1 z3 : Value), xX xT xLn d 101 15 [.ref 0, z1, .int s'.1, z3] [] s'.2 o) (hE : ∀ e', q = .inr e' → (∀ a, e' = .inl a → ∀ (z1 z3 : Value), xX xT xLn d 101 46 [.ref 0, z1, .int a.1, z3] [] a.2 o) ∧ (∀ a, e' = .inr (a) → ∀ (z1 z2 z3 : Value), xX xT xLn d 101 58 [.ref 0, z1, z2, z3] [] a o)) (z1 : Value) (z3 : Value) : xX xT xLn d 101 15 [.ref 0, z1, .int v2, z3] [] σ o := by
  unfold B_X10_reads_15 at h
  refine xX_blk (w := xw_101) eT_101 5 15 (ls' := [.ref 0, .null, .int v2, .null]) (st' := [.int (σ 137 1), .int v2]) (σ' := σ) rfl ?_
  refine xX_ite (c := (σ 137 1) ≤ v2) (w := xw_101) (i := 20) (a := 58) (b := 21) (st' := []) eT_101 rfl rfl (fun hc4 => ?_) (fun hc4 => ?_)
  · rw [if_pos hc4] at h
    obtain rfl := Option.some.inj h
    exact (hE (.inr σ) rfl).2 σ rfl _ _ _
  · rw [if_neg hc4] at h
    refine xX_blk (w := xw_101) eT_101 5 21 (ls' := [.ref 0, .null, .int v2, .null]) (st' := [.int v2, .ref 137, .ref 136]) (σ' := σ) rfl ?_
    obtain ⟨r5, hr5, h⟩ := xbd_inv h
    refine xX_c1 (w := xw_101) (i := 26) (ls := [.ref 0, .null, .int v2, .null]) (rest := [.ref 136]) eT_101 rfl (by omega) rfl rfl rfl (T_X6_letter v2 σ (by omega) hr5) ?_
    refine xX_blk (w := xw_101) eT_101 4 27 (ls' := [.ref 0, .null, .int v2, .null]) (st' := [.int 0, .int v2, .ref 137, .int r5, .ref 136]) (σ' := σ) rfl ?_
    obtain ⟨r6, hr6, h⟩ := xbd_inv h
    refine xX_c1 (w := xw_101) (i := 31) (ls := [.ref 0, .null, .int v2, .null]) (rest := [.int r5, .ref 136]) eT_101 rfl (by omega) rfl rfl rfl (T_X6_number v2 0 σ (by omega) hr6) ?_
    refine xX_blk (w := xw_101) eT_101 4 32 (ls' := [.ref 0, .null, .int v2, .null]) (st' := [.int 1, .int v2, .ref 137, .int r6, .int r5, .ref 136]) (σ' := σ) rfl ?_
    obtain ⟨r7, hr7, h⟩ := xbd_inv h
    refine xX_c1 (w := xw_101) (i := 36) (ls := [.ref 0, .null, .int v2, .null]) (rest := [.int r6, .int r5, .ref 136]) eT_101 rfl (by omega) rfl rfl rfl (T_X6_number v2 1 σ (by omega) hr7) ?_
    refine xX_blk (w := xw_101) eT_101 4 37 (ls' := [.ref 0, .null, .int v2, .null]) (st' := [.int 2, .int v2, .ref 137, .int r7, .int r6, .int r5, .ref 136]) (σ' := σ) rfl ?_
    obtain ⟨r8, hr8, h⟩ := xbd_inv h
    refine xX_c1 (w := xw_101) (i := 41) (ls := [.ref 0, .null, .int v2, .null]) (rest := [.int r7, .int r6, .int r5, .ref 136]) eT_101 rfl (by omega) rfl rfl rfl (T_X6_number v2 2 σ (by omega) hr8) ?_
    obtain ⟨r9, hr9, h⟩ := xbd_inv h
    refine xX_c1 (w := xw_101) (i := 42) (ls := [.ref 0, .null, .int v2, .null]) (rest := []) eT_101 rfl (by omega) rfl rfl rfl (T_X0_carryOut r5 r6 r7 r8 σ (by omega) hr9) ?_
    refine xX_blk (w := xw_101) eT_101 2 43 (ls' := [.ref 0, .null, .int v2, .int r9.1]) (st' := [.int r9.1]) (σ' := r9.2) rfl ?_
    refine xX_ite (c := 0 ≤ r9.1) (w := xw_101) (i := 45) (a := 56) (b := 46) (st' := []) eT_101 rfl rfl (fun hc10 => ?_) (fun hc10 => ?_)
    · rw [if_pos hc10] at h
      refine xX_blk (w := xw_101) eT_101 1 56 (ls' := [.ref 0, .null, .int (v2 + 1), .int r9.1]) (st' := []) (σ' := r9.2) rfl ?_
      refine xX_jmp (w := xw_101) (i := 57) (a := 15) (st' := []) eT_101 rfl rfl ?_
      obtain rfl := Option.some.inj h
      exact hB ((v2 + 1), r9.2) rfl _ _
    · rw [if_neg hc10] at h
      obtain rfl := Option.some.inj h
      exact (hE (.inl (v2, r9.2)) rfl).1 (v2, r9.2) rfl _ _
set_option maxHeartbeats 1000000 in
set_option maxRecDepth 20000 in
theorem TL_X10_reads_15 {d : Nat} {o : Option Value × xM} (v2 : Int32) (σ : xM) {e : (Int32 × xM) ⊕ (xM)} (hd : 6 ≤ d) (h : L_X10_reads_15 v2 σ = some e) (hE0 : ∀ a, e = .inl a → ∀ (z1 z3 : Value), xX xT xLn d 101 46 [.ref 0, z1, .int a.1, z3] [] a.2 o) (hE1 : ∀ a, e = .inr (a) → ∀ (z1 z2 z3 : Value), xX xT xLn d 101 58 [.ref 0, z1, z2, z3] [] a o) (z1 : Value) (z3 : Value) : xX xT xLn d 101 15 [.ref 0, z1, .int v2, z3] [] σ o :=
  xloop_snd (X := fun s => ∀ (z1 z3 : Value), xX xT xLn d 101 15 [.ref 0, z1, .int s.1, z3] [] s.2 o) (Y := fun e' => (∀ a, e' = .inl a → ∀ (z1 z3 : Value), xX xT xLn d 101 46 [.ref 0, z1, .int a.1, z3] [] a.2 o) ∧ (∀ a, e' = .inr (a) → ∀ (z1 z2 z3 : Value), xX xT xLn d 101 58 [.ref 0, z1, z2, z3] [] a o)) (fun s q hs hB hE z1 z3 => TB_X10_reads_15 s.1 s.2 hd hs hB hE z1 z3) _ _ _ h ⟨hE0, hE1⟩ z1 z3
def F_X10_reads (σ : xM) : Option (Int32 × xM) :=
  xbd (F_X6_parse σ) fun r1 =>
  if r1.1 = (-1) then
    xbd (F_X10_mark r1.2) fun r3 =>
    xbd (L_X10_reads_15 0 r3) fun e11 =>
    xsm e11 (fun ae110 =>
      xbd (F_X3_restoreMarked_1 ae110.2) fun r12 =>
      some (((-1000 : Int32) - ae110.1), r12))
    (fun ae111 =>
      xbd (F_X10_settled (ae111 137 1) ae111) fun r13 =>
      some (r13.1, r13.2))
  else
    some (((-10 : Int32) - r1.1), r1.2)
set_option maxHeartbeats 1000000 in
set_option maxRecDepth 20000 in
theorem T_X10_reads (σ : xM) {d : Nat} {q : Int32 × xM} (hd : 6 ≤ d) (h : F_X10_reads σ = some q) : xR xT xLn d 101 [.ref 0] σ (some (.int q.1), q.2) := by
  unfold F_X10_reads at h
  show xX xT xLn d 101 0 [.ref 0, .null, .null, .null] [] σ _
  refine xX_blk (w := xw_101) eT_101 2 0 (ls' := [.ref 0, .null, .null, .null]) (st' := [.ref 137]) (σ' := σ) rfl ?_
  obtain ⟨r1, hr1, h⟩ := xbd_inv h
  refine xX_c1 (w := xw_101) (i := 2) (ls := [.ref 0, .null, .null, .null]) (rest := []) eT_101 rfl (by omega) rfl rfl rfl (T_X6_parse σ (by omega) hr1) ?_
  refine xX_blk (w := xw_101) eT_101 3 3 (ls' := [.ref 0, .int r1.1, .null, .null]) (st' := [.int (-1), .int r1.1]) (σ' := r1.2) rfl ?_
  refine xX_ite (c := r1.1 = (-1)) (w := xw_101) (i := 6) (a := 11) (b := 7) (st' := []) eT_101 rfl rfl (fun hc2 => ?_) (fun hc2 => ?_)
  · rw [if_pos hc2] at h
    refine xX_blk (w := xw_101) eT_101 1 11 (ls' := [.ref 0, .int r1.1, .null, .null]) (st' := [.ref 0]) (σ' := r1.2) rfl ?_
    obtain ⟨r3, hr3, h⟩ := xbd_inv h
    refine xX_c0 (w := xw_101) (i := 12) (ls := [.ref 0, .int r1.1, .null, .null]) (rest := []) eT_101 rfl (by omega) rfl rfl rfl (T_X10_mark r1.2 (by omega) hr3) ?_
    refine xX_blk (w := xw_101) eT_101 2 13 (ls' := [.ref 0, .int r1.1, .int 0, .null]) (st' := []) (σ' := r3) rfl ?_
    obtain ⟨e11, he11, h⟩ := xbd_inv h
    refine TL_X10_reads_15 0 r3 (by omega) he11 (fun ae110 hee110 z1 z3 => ?_) (fun ae111 hee111 z1 z2 z3 => ?_) _ _
    · subst hee110
      rw [xsm_l] at h
      refine xX_blk (w := xw_101) eT_101 5 46 (ls' := [.ref 0, .null, .int ae110.1, .null]) (st' := [.ref 1, .ref 19]) (σ' := ae110.2) rfl ?_
      obtain ⟨r12, hr12, h⟩ := xbd_inv h
      refine xX_c0 (w := xw_101) (i := 51) (ls := [.ref 0, .null, .int ae110.1, .null]) (rest := []) eT_101 rfl (by omega) rfl rfl rfl (T_X3_restoreMarked_1 ae110.2 (by omega) hr12) ?_
      refine xX_blk (w := xw_101) eT_101 3 52 (ls' := [.ref 0, .null, .int ae110.1, .null]) (st' := [.int ((-1000 : Int32) - ae110.1)]) (σ' := r12) rfl ?_
      obtain rfl := Option.some.inj h
      exact xX_ret (w := xw_101) (i := 55) eT_101 rfl rfl
    · subst hee111
      rw [xsm_r] at h
      refine xX_blk (w := xw_101) eT_101 5 58 (ls' := [.ref 0, .null, .null, .null]) (st' := [.int (ae111 137 1), .ref 0]) (σ' := ae111) rfl ?_
      obtain ⟨r13, hr13, h⟩ := xbd_inv h
      refine xX_c1 (w := xw_101) (i := 63) (ls := [.ref 0, .null, .null, .null]) (rest := []) eT_101 rfl (by omega) rfl rfl rfl (T_X10_settled (ae111 137 1) ae111 (by omega) hr13) ?_
      obtain rfl := Option.some.inj h
      exact xX_ret (w := xw_101) (i := 64) eT_101 rfl rfl
  · rw [if_neg hc2] at h
    refine xX_blk (w := xw_101) eT_101 3 7 (ls' := [.ref 0, .int r1.1, .null, .null]) (st' := [.int ((-10 : Int32) - r1.1)]) (σ' := r1.2) rfl ?_
    obtain rfl := Option.some.inj h
    exact xX_ret (w := xw_101) (i := 10) eT_101 rfl rfl
def F_X3_restoreLatest_1 (σ : xM) : Option (xM) :=
  if (σ 19 1) ≤ 0 then
    xlet (xup σ 19 1 5) fun σ2 =>
    xlet (xup σ2 19 0 ((σ2 19 0) - 1)) fun σ3 =>
    xbd (F_X3_restoreMarked_1 σ3) fun r4 =>
    some r4
  else
    xlet (xup σ 19 1 ((σ 19 1) - 1)) fun σ5 =>
    xlet (xup σ5 19 0 ((σ5 19 0) - 1)) fun σ6 =>
    xbd (F_X3_restoreMarked_1 σ6) fun r7 =>
    some r7
set_option maxHeartbeats 1000000 in
set_option maxRecDepth 20000 in
theorem T_X3_restoreLatest_1 (σ : xM) {d : Nat} {q : xM} (hd : 3 ≤ d) (h : F_X3_restoreLatest_1 σ = some q) : xR xT xLn d 35 [.ref 19, .ref 1] σ (none, q) := by
  unfold F_X3_restoreLatest_1 at h
  show xX xT xLn d 35 0 [.ref 19, .ref 1] [] σ _
  refine xX_blk (w := xw_35) eT_35 3 0 (ls' := [.ref 19, .ref 1]) (st' := [.int (σ 19 1), .ref 19]) (σ' := σ) rfl ?_
  refine xX_ite (c := (σ 19 1) ≤ 0) (w := xw_35) (i := 3) (a := 9) (b := 4) (st' := [.ref 19]) eT_35 rfl rfl (fun hc1 => ?_) (fun hc1 => ?_)
  · rw [if_pos hc1] at h
    refine xX_blk (w := xw_35) eT_35 1 9 (ls' := [.ref 19, .ref 1]) (st' := [.int 5, .ref 19]) (σ' := σ) rfl ?_
    refine xX_blk (w := xw_35) eT_35 1 10 (ls' := [.ref 19, .ref 1]) (st' := []) (σ' := xup σ 19 1 5) rfl ?_
    obtain ⟨σ2, eσ2, h⟩ := xlet_inv h
    rw [← eσ2]
    refine xX_blk (w := xw_35) eT_35 5 11 (ls' := [.ref 19, .ref 1]) (st' := [.int ((σ2 19 0) - 1), .ref 19]) (σ' := σ2) rfl ?_
    refine xX_blk (w := xw_35) eT_35 1 16 (ls' := [.ref 19, .ref 1]) (st' := []) (σ' := xup σ2 19 0 ((σ2 19 0) - 1)) rfl ?_
    obtain ⟨σ3, eσ3, h⟩ := xlet_inv h
    rw [← eσ3]
    refine xX_blk (w := xw_35) eT_35 2 17 (ls' := [.ref 19, .ref 1]) (st' := [.ref 1, .ref 19]) (σ' := σ3) rfl ?_
    obtain ⟨r4, hr4, h⟩ := xbd_inv h
    refine xX_c0 (w := xw_35) (i := 19) (ls := [.ref 19, .ref 1]) (rest := []) eT_35 rfl (by omega) rfl rfl rfl (T_X3_restoreMarked_1 σ3 (by omega) hr4) ?_
    obtain rfl := Option.some.inj h
    exact xX_ret (w := xw_35) (i := 20) eT_35 rfl rfl
  · rw [if_neg hc1] at h
    refine xX_blk (w := xw_35) eT_35 4 4 (ls' := [.ref 19, .ref 1]) (st' := [.int ((σ 19 1) - 1), .ref 19]) (σ' := σ) rfl ?_
    refine xX_jmp (w := xw_35) (i := 8) (a := 10) (st' := [.int ((σ 19 1) - 1), .ref 19]) eT_35 rfl rfl ?_
    refine xX_blk (w := xw_35) eT_35 1 10 (ls' := [.ref 19, .ref 1]) (st' := []) (σ' := xup σ 19 1 ((σ 19 1) - 1)) rfl ?_
    obtain ⟨σ5, eσ5, h⟩ := xlet_inv h
    rw [← eσ5]
    refine xX_blk (w := xw_35) eT_35 5 11 (ls' := [.ref 19, .ref 1]) (st' := [.int ((σ5 19 0) - 1), .ref 19]) (σ' := σ5) rfl ?_
    refine xX_blk (w := xw_35) eT_35 1 16 (ls' := [.ref 19, .ref 1]) (st' := []) (σ' := xup σ5 19 0 ((σ5 19 0) - 1)) rfl ?_
    obtain ⟨σ6, eσ6, h⟩ := xlet_inv h
    rw [← eσ6]
    refine xX_blk (w := xw_35) eT_35 2 17 (ls' := [.ref 19, .ref 1]) (st' := [.ref 1, .ref 19]) (σ' := σ6) rfl ?_
    obtain ⟨r7, hr7, h⟩ := xbd_inv h
    refine xX_c0 (w := xw_35) (i := 19) (ls := [.ref 19, .ref 1]) (rest := []) eT_35 rfl (by omega) rfl rfl rfl (T_X3_restoreMarked_1 σ6 (by omega) hr7) ?_
    obtain rfl := Option.some.inj h
    exact xX_ret (w := xw_35) (i := 20) eT_35 rfl rfl
def F_X10_back (σ : xM) : Option (Int32 × xM) :=
  if (σ 19 0) = 0 then
    xbd (F_X10_counted (-3) σ) fun r2 =>
    some (r2.1, r2.2)
  else
    xbd (F_X3_restoreLatest_1 σ) fun r3 =>
    xbd (F_X5_forget r3) fun r4 =>
    some ((r4 19 0), r4)
set_option maxHeartbeats 1000000 in
set_option maxRecDepth 20000 in
theorem T_X10_back (σ : xM) {d : Nat} {q : Int32 × xM} (hd : 4 ≤ d) (h : F_X10_back σ = some q) : xR xT xLn d 102 [.ref 0] σ (some (.int q.1), q.2) := by
  unfold F_X10_back at h
  show xX xT xLn d 102 0 [.ref 0] [] σ _
  refine xX_blk (w := xw_102) eT_102 3 0 (ls' := [.ref 0]) (st' := [.int (σ 19 0)]) (σ' := σ) rfl ?_
  refine xX_ite (c := (σ 19 0) = 0) (w := xw_102) (i := 3) (a := 4) (b := 8) (st' := []) eT_102 rfl rfl (fun hc1 => ?_) (fun hc1 => ?_)
  · rw [if_pos hc1] at h
    refine xX_blk (w := xw_102) eT_102 2 4 (ls' := [.ref 0]) (st' := [.int (-3), .ref 0]) (σ' := σ) rfl ?_
    obtain ⟨r2, hr2, h⟩ := xbd_inv h
    refine xX_c1 (w := xw_102) (i := 6) (ls := [.ref 0]) (rest := []) eT_102 rfl (by omega) rfl rfl rfl (T_X10_counted (-3) σ (by omega) hr2) ?_
    obtain rfl := Option.some.inj h
    exact xX_ret (w := xw_102) (i := 7) eT_102 rfl rfl
  · rw [if_neg hc1] at h
    refine xX_blk (w := xw_102) eT_102 4 8 (ls' := [.ref 0]) (st' := [.ref 1, .ref 19]) (σ' := σ) rfl ?_
    obtain ⟨r3, hr3, h⟩ := xbd_inv h
    refine xX_c0 (w := xw_102) (i := 12) (ls := [.ref 0]) (rest := []) eT_102 rfl (by omega) rfl rfl rfl (T_X3_restoreLatest_1 σ (by omega) hr3) ?_
    refine xX_blk (w := xw_102) eT_102 2 13 (ls' := [.ref 0]) (st' := [.ref 132]) (σ' := r3) rfl ?_
    obtain ⟨r4, hr4, h⟩ := xbd_inv h
    refine xX_c0 (w := xw_102) (i := 15) (ls := [.ref 0]) (rest := []) eT_102 rfl (by omega) rfl rfl rfl (T_X5_forget r3 (by omega) hr4) ?_
    refine xX_blk (w := xw_102) eT_102 3 16 (ls' := [.ref 0]) (st' := [.int (r4 19 0)]) (σ' := r4) rfl ?_
    obtain rfl := Option.some.inj h
    exact xX_ret (w := xw_102) (i := 19) eT_102 rfl rfl
def F_X10_countValue (a : Int32) (σ : xM) : Option (Int32) :=
  if a = 0 then
    some (σ 0 7)
  else if a = 1 then
    some (σ 0 8)
  else if a = 2 then
    some (σ 0 9)
  else if a = 3 then
    some (σ 137 0)
  else if a = 4 then
    some (σ 2 0)
  else if a = 5 then
    some (σ 8 0)
  else if a = 6 then
    some (σ 14 0)
  else if a = 7 then
    some (σ 1 3)
  else if a = 8 then
    some (σ 1 4)
  else if a = 9 then
    some (σ 1 5)
  else if a = 10 then
    some (σ 1 6)
  else if a = 11 then
    some (σ 8 1)
  else 
  some (σ 19 0)
set_option maxHeartbeats 1000000 in
set_option maxRecDepth 20000 in
theorem T_X10_countValue (a : Int32) (σ : xM) {d : Nat} {q : Int32} (hd : 0 ≤ d) (h : F_X10_countValue a σ = some q) : xR xT xLn d 110 [.ref 0, .int a] σ (some (.int q), σ) := by
  unfold F_X10_countValue at h
  show xX xT xLn d 110 0 [.ref 0, .int a] [] σ _
  refine xX_blk (w := xw_110) eT_110 1 0 (ls' := [.ref 0, .int a]) (st' := [.int a]) (σ' := σ) rfl ?_
  by_cases hc1 : a = 0
  · rw [if_pos hc1] at h
    refine xX_jmp (w := xw_110) (i := 1) (a := 2) (st' := []) eT_110 rfl (e_tsw (by rw [hc1]; decide)) ?_
    refine xX_blk (w := xw_110) eT_110 2 2 (ls' := [.ref 0, .int a]) (st' := [.int (σ 0 7)]) (σ' := σ) rfl ?_
    obtain rfl := Option.some.inj h
    exact xX_ret (w := xw_110) (i := 4) eT_110 rfl rfl
  rw [if_neg hc1] at h
  by_cases hc2 : a = 1
  · rw [if_pos hc2] at h
    refine xX_jmp (w := xw_110) (i := 1) (a := 5) (st' := []) eT_110 rfl (e_tsw (by rw [hc2]; decide)) ?_
    refine xX_blk (w := xw_110) eT_110 2 5 (ls' := [.ref 0, .int a]) (st' := [.int (σ 0 8)]) (σ' := σ) rfl ?_
    obtain rfl := Option.some.inj h
    exact xX_ret (w := xw_110) (i := 7) eT_110 rfl rfl
  rw [if_neg hc2] at h
  by_cases hc3 : a = 2
  · rw [if_pos hc3] at h
    refine xX_jmp (w := xw_110) (i := 1) (a := 8) (st' := []) eT_110 rfl (e_tsw (by rw [hc3]; decide)) ?_
    refine xX_blk (w := xw_110) eT_110 2 8 (ls' := [.ref 0, .int a]) (st' := [.int (σ 0 9)]) (σ' := σ) rfl ?_
    obtain rfl := Option.some.inj h
    exact xX_ret (w := xw_110) (i := 10) eT_110 rfl rfl
  rw [if_neg hc3] at h
  by_cases hc4 : a = 3
  · rw [if_pos hc4] at h
    refine xX_jmp (w := xw_110) (i := 1) (a := 11) (st' := []) eT_110 rfl (e_tsw (by rw [hc4]; decide)) ?_
    refine xX_blk (w := xw_110) eT_110 3 11 (ls' := [.ref 0, .int a]) (st' := [.int (σ 137 0)]) (σ' := σ) rfl ?_
    obtain rfl := Option.some.inj h
    exact xX_ret (w := xw_110) (i := 14) eT_110 rfl rfl
  rw [if_neg hc4] at h
  by_cases hc5 : a = 4
  · rw [if_pos hc5] at h
    refine xX_jmp (w := xw_110) (i := 1) (a := 15) (st' := []) eT_110 rfl (e_tsw (by rw [hc5]; decide)) ?_
    refine xX_blk (w := xw_110) eT_110 4 15 (ls' := [.ref 0, .int a]) (st' := [.int (σ 2 0)]) (σ' := σ) rfl ?_
    obtain rfl := Option.some.inj h
    exact xX_ret (w := xw_110) (i := 19) eT_110 rfl rfl
  rw [if_neg hc5] at h
  by_cases hc6 : a = 5
  · rw [if_pos hc6] at h
    refine xX_jmp (w := xw_110) (i := 1) (a := 20) (st' := []) eT_110 rfl (e_tsw (by rw [hc6]; decide)) ?_
    refine xX_blk (w := xw_110) eT_110 4 20 (ls' := [.ref 0, .int a]) (st' := [.int (σ 8 0)]) (σ' := σ) rfl ?_
    obtain rfl := Option.some.inj h
    exact xX_ret (w := xw_110) (i := 24) eT_110 rfl rfl
  rw [if_neg hc6] at h
  by_cases hc7 : a = 6
  · rw [if_pos hc7] at h
    refine xX_jmp (w := xw_110) (i := 1) (a := 25) (st' := []) eT_110 rfl (e_tsw (by rw [hc7]; decide)) ?_
    refine xX_blk (w := xw_110) eT_110 4 25 (ls' := [.ref 0, .int a]) (st' := [.int (σ 14 0)]) (σ' := σ) rfl ?_
    obtain rfl := Option.some.inj h
    exact xX_ret (w := xw_110) (i := 29) eT_110 rfl rfl
  rw [if_neg hc7] at h
  by_cases hc8 : a = 7
  · rw [if_pos hc8] at h
    refine xX_jmp (w := xw_110) (i := 1) (a := 30) (st' := []) eT_110 rfl (e_tsw (by rw [hc8]; decide)) ?_
    refine xX_blk (w := xw_110) eT_110 3 30 (ls' := [.ref 0, .int a]) (st' := [.int (σ 1 3)]) (σ' := σ) rfl ?_
    obtain rfl := Option.some.inj h
    exact xX_ret (w := xw_110) (i := 33) eT_110 rfl rfl
  rw [if_neg hc8] at h
  by_cases hc9 : a = 8
  · rw [if_pos hc9] at h
    refine xX_jmp (w := xw_110) (i := 1) (a := 34) (st' := []) eT_110 rfl (e_tsw (by rw [hc9]; decide)) ?_
    refine xX_blk (w := xw_110) eT_110 3 34 (ls' := [.ref 0, .int a]) (st' := [.int (σ 1 4)]) (σ' := σ) rfl ?_
    obtain rfl := Option.some.inj h
    exact xX_ret (w := xw_110) (i := 37) eT_110 rfl rfl
  rw [if_neg hc9] at h
  by_cases hc10 : a = 9
  · rw [if_pos hc10] at h
    refine xX_jmp (w := xw_110) (i := 1) (a := 38) (st' := []) eT_110 rfl (e_tsw (by rw [hc10]; decide)) ?_
    refine xX_blk (w := xw_110) eT_110 3 38 (ls' := [.ref 0, .int a]) (st' := [.int (σ 1 5)]) (σ' := σ) rfl ?_
    obtain rfl := Option.some.inj h
    exact xX_ret (w := xw_110) (i := 41) eT_110 rfl rfl
  rw [if_neg hc10] at h
  by_cases hc11 : a = 10
  · rw [if_pos hc11] at h
    refine xX_jmp (w := xw_110) (i := 1) (a := 42) (st' := []) eT_110 rfl (e_tsw (by rw [hc11]; decide)) ?_
    refine xX_blk (w := xw_110) eT_110 3 42 (ls' := [.ref 0, .int a]) (st' := [.int (σ 1 6)]) (σ' := σ) rfl ?_
    obtain rfl := Option.some.inj h
    exact xX_ret (w := xw_110) (i := 45) eT_110 rfl rfl
  rw [if_neg hc11] at h
  by_cases hc12 : a = 11
  · rw [if_pos hc12] at h
    refine xX_jmp (w := xw_110) (i := 1) (a := 46) (st' := []) eT_110 rfl (e_tsw (by rw [hc12]; decide)) ?_
    refine xX_blk (w := xw_110) eT_110 4 46 (ls' := [.ref 0, .int a]) (st' := [.int (σ 8 1)]) (σ' := σ) rfl ?_
    obtain rfl := Option.some.inj h
    exact xX_ret (w := xw_110) (i := 50) eT_110 rfl rfl
  rw [if_neg hc12] at h
  refine xX_jmp (w := xw_110) (i := 1) (a := 51) (st' := []) eT_110 rfl (e_tsw (e_tswd [0, 1, 2, 3, 4, 5, 6, 7, 8, 9, 10, 11] (by decide) (List.forall_mem_cons.mpr ⟨hc1, List.forall_mem_cons.mpr ⟨hc2, List.forall_mem_cons.mpr ⟨hc3, List.forall_mem_cons.mpr ⟨hc4, List.forall_mem_cons.mpr ⟨hc5, List.forall_mem_cons.mpr ⟨hc6, List.forall_mem_cons.mpr ⟨hc7, List.forall_mem_cons.mpr ⟨hc8, List.forall_mem_cons.mpr ⟨hc9, List.forall_mem_cons.mpr ⟨hc10, List.forall_mem_cons.mpr ⟨hc11, List.forall_mem_cons.mpr ⟨hc12, fun _ h => absurd h List.not_mem_nil⟩⟩⟩⟩⟩⟩⟩⟩⟩⟩⟩⟩))) ?_
  refine xX_blk (w := xw_110) eT_110 3 51 (ls' := [.ref 0, .int a]) (st' := [.int (σ 19 0)]) (σ' := σ) rfl ?_
  obtain rfl := Option.some.inj h
  exact xX_ret (w := xw_110) (i := 54) eT_110 rfl rfl
def F_X10_told (a : Int32) (σ : xM) : Option (Int32 × xM) :=
  xbd (F_X10_within a 0 12 σ) fun r1 =>
  if r1 = 0 then
    xbd (F_X10_counted (-2) σ) fun r3 =>
    some (r3.1, r3.2)
  else
    xbd (F_X10_countValue a σ) fun r4 =>
    some (r4, σ)
set_option maxHeartbeats 1000000 in
set_option maxRecDepth 20000 in
theorem T_X10_told (a : Int32) (σ : xM) {d : Nat} {q : Int32 × xM} (hd : 1 ≤ d) (h : F_X10_told a σ = some q) : xR xT xLn d 103 [.ref 0, .int a] σ (some (.int q.1), q.2) := by
  unfold F_X10_told at h
  show xX xT xLn d 103 0 [.ref 0, .int a] [] σ _
  refine xX_blk (w := xw_103) eT_103 3 0 (ls' := [.ref 0, .int a]) (st' := [.int 12, .int 0, .int a]) (σ' := σ) rfl ?_
  obtain ⟨r1, hr1, h⟩ := xbd_inv h
  refine xX_c1 (w := xw_103) (i := 3) (ls := [.ref 0, .int a]) (rest := []) eT_103 rfl (by omega) rfl rfl rfl (T_X10_within a 0 12 σ (by omega) hr1) ?_
  refine xX_ite (c := r1 = 0) (w := xw_103) (i := 4) (a := 9) (b := 5) (st' := []) eT_103 rfl rfl (fun hc2 => ?_) (fun hc2 => ?_)
  · rw [if_pos hc2] at h
    refine xX_blk (w := xw_103) eT_103 2 9 (ls' := [.ref 0, .int a]) (st' := [.int (-2), .ref 0]) (σ' := σ) rfl ?_
    obtain ⟨r3, hr3, h⟩ := xbd_inv h
    refine xX_c1 (w := xw_103) (i := 11) (ls := [.ref 0, .int a]) (rest := []) eT_103 rfl (by omega) rfl rfl rfl (T_X10_counted (-2) σ (by omega) hr3) ?_
    obtain rfl := Option.some.inj h
    exact xX_ret (w := xw_103) (i := 12) eT_103 rfl rfl
  · rw [if_neg hc2] at h
    refine xX_blk (w := xw_103) eT_103 2 5 (ls' := [.ref 0, .int a]) (st' := [.int a, .ref 0]) (σ' := σ) rfl ?_
    obtain ⟨r4, hr4, h⟩ := xbd_inv h
    refine xX_c1 (w := xw_103) (i := 7) (ls := [.ref 0, .int a]) (rest := []) eT_103 rfl (by omega) rfl rfl rfl (T_X10_countValue a σ (by omega) hr4) ?_
    refine xX_jmp (w := xw_103) (i := 8) (a := 12) (st' := [.int r4]) eT_103 rfl rfl ?_
    obtain rfl := Option.some.inj h
    exact xX_ret (w := xw_103) (i := 12) eT_103 rfl rfl
def F_X10_mixed (a : Int64) (b : Int32) (σ : xM) : Option (Int64) :=
  some (((31 : Int64) * a) + (b : Int32).toInt64)
set_option maxHeartbeats 1000000 in
set_option maxRecDepth 20000 in
theorem T_X10_mixed (a : Int64) (b : Int32) (σ : xM) {d : Nat} {q : Int64} (hd : 0 ≤ d) (h : F_X10_mixed a b σ = some q) : xR xT xLn d 106 [.long a, .int b] σ (some (.long q), σ) := by
  unfold F_X10_mixed at h
  show xX xT xLn d 106 0 [.long a, .null, .int b] [] σ _
  refine xX_blk (w := xw_106) eT_106 6 0 (ls' := [.long a, .null, .int b]) (st' := [.long (((31 : Int64) * a) + (b : Int32).toInt64)]) (σ' := σ) rfl ?_
  obtain rfl := Option.some.inj h
  exact xX_ret (w := xw_106) (i := 6) eT_106 rfl rfl
def B_X10_digestOfAreas_12 (p5 : Int32) (v3 : Int64) (v6 : Int32) (σ : xM) : Option ((Int64 × Int32) ⊕ ((Int64))) :=
  if 6 ≤ v6 then
    some (.inr v3)
  else
    xbd (F_X10_areaValue p5 v6 σ) fun r3 =>
    xbd (F_X10_mixed v3 r3 σ) fun r4 =>
    some (.inl (r4, (v6 + 1)))
def L_X10_digestOfAreas_12 (p5 : Int32) (v3 : Int64) (v6 : Int32) (σ : xM) : Option ((Int64)) := xloop (fun s : Int64 × Int32 => B_X10_digestOfAreas_12 p5 s.1 s.2 σ) 6000 (v3, v6)
set_option maxHeartbeats 1000000 in
set_option maxRecDepth 20000 in
theorem TB_X10_digestOfAreas_12 {d : Nat} {o : Option Value × xM} (p5 : Int32) (v3 : Int64) (v6 : Int32) (σ : xM) {q : (Int64 × Int32) ⊕ ((Int64))} (hd : 4 ≤ d) (h : B_X10_digestOfAreas_12 p5 v3 v6 σ = some q) (hB : ∀ s', q = .inl s' → ∀ (z1 z2 z4 : Value), xX xT xLn d 105 13 [.ref 0, z1, z2, .long s'.1, z4, .int p5, .int s'.2] [] σ o) (hE : ∀ e', q = .inr e' → ∀ (z1 z2 z4 z6 : Value), xX xT xLn d 105 26 [.ref 0, z1, z2, .long e', z4, .int p5, z6] [] σ o) (z1 : Value) (z2 : Value) (z4 : Value) : xX xT xLn d 105 13 [.ref 0, z1, z2, .long v3, z4, .int p5, .int v6] [] σ o := by
  unfold B_X10_digestOfAreas_12 at h
  refine xX_blk (w := xw_105) eT_105 3 13 (ls' := [.ref 0, .null, .null, .long v3, .null, .int p5, .int v6]) (st' := [.int 6, .int v6]) (σ' := σ) rfl ?_
  refine xX_ite (c := 6 ≤ v6) (w := xw_105) (i := 16) (a := 26) (b := 17) (st' := []) eT_105 rfl rfl (fun hc2 => ?_) (fun hc2 => ?_)
  · rw [if_pos hc2] at h
    obtain rfl := Option.some.inj h
    exact hE v3 rfl _ _ _ _
  · rw [if_neg hc2] at h
    refine xX_blk (w := xw_105) eT_105 4 17 (ls' := [.ref 0, .null, .null, .long v3, .null, .int p5, .int v6]) (st' := [.int v6, .int p5, .ref 0, .long v3]) (σ' := σ) rfl ?_
    obtain ⟨r3, hr3, h⟩ := xbd_inv h
    refine xX_c1 (w := xw_105) (i := 21) (ls := [.ref 0, .null, .null, .long v3, .null, .int p5, .int v6]) (rest := [.long v3]) eT_105 rfl (by omega) rfl rfl rfl (T_X10_areaValue p5 v6 σ (by omega) hr3) ?_
    obtain ⟨r4, hr4, h⟩ := xbd_inv h
    refine xX_c1 (w := xw_105) (i := 22) (ls := [.ref 0, .null, .null, .long v3, .null, .int p5, .int v6]) (rest := []) eT_105 rfl (by omega) rfl rfl rfl (T_X10_mixed v3 r3 σ (by omega) hr4) ?_
    refine xX_blk (w := xw_105) eT_105 2 23 (ls' := [.ref 0, .null, .null, .long r4, .null, .int p5, .int (v6 + 1)]) (st' := []) (σ' := σ) rfl ?_
    refine xX_jmp (w := xw_105) (i := 25) (a := 13) (st' := []) eT_105 rfl rfl ?_
    obtain rfl := Option.some.inj h
    exact hB (r4, (v6 + 1)) rfl _ _ _
set_option maxHeartbeats 1000000 in
set_option maxRecDepth 20000 in
theorem TL_X10_digestOfAreas_12 {d : Nat} {o : Option Value × xM} (p5 : Int32) (v3 : Int64) (v6 : Int32) (σ : xM) {e : (Int64)} (hd : 4 ≤ d) (h : L_X10_digestOfAreas_12 p5 v3 v6 σ = some e) (hE : ∀ (z1 z2 z4 z6 : Value), xX xT xLn d 105 26 [.ref 0, z1, z2, .long e, z4, .int p5, z6] [] σ o) (z1 : Value) (z2 : Value) (z4 : Value) : xX xT xLn d 105 13 [.ref 0, z1, z2, .long v3, z4, .int p5, .int v6] [] σ o :=
  xloop_snd (X := fun s => ∀ (z1 z2 z4 : Value), xX xT xLn d 105 13 [.ref 0, z1, z2, .long s.1, z4, .int p5, .int s.2] [] σ o) (Y := fun e' => ∀ (z1 z2 z4 z6 : Value), xX xT xLn d 105 26 [.ref 0, z1, z2, .long e', z4, .int p5, z6] [] σ o) (fun s q hs hB hE z1 z2 z4 => TB_X10_digestOfAreas_12 p5 s.1 s.2 σ hd hs hB hE z1 z2 z4) _ _ _ h hE z1 z2 z4
def B_X10_digestOfAreas_4 (v3 : Int64) (v5 : Int32) (σ : xM) : Option ((Int64 × Int32) ⊕ ((Int64))) :=
  if (σ 2 0) ≤ v5 then
    some (.inr v3)
  else
    xbd (L_X10_digestOfAreas_12 v5 v3 0 σ) fun e5 =>
    some (.inl (e5, (v5 + 1)))
def L_X10_digestOfAreas_4 (v3 : Int64) (v5 : Int32) (σ : xM) : Option ((Int64)) := xloop (fun s : Int64 × Int32 => B_X10_digestOfAreas_4 s.1 s.2 σ) 6000 (v3, v5)
set_option maxHeartbeats 1000000 in
set_option maxRecDepth 20000 in
theorem TB_X10_digestOfAreas_4 {d : Nat} {o : Option Value × xM} (v3 : Int64) (v5 : Int32) (σ : xM) {q : (Int64 × Int32) ⊕ ((Int64))} (hd : 4 ≤ d) (h : B_X10_digestOfAreas_4 v3 v5 σ = some q) (hB : ∀ s', q = .inl s' → ∀ (z1 z2 z4 z6 : Value), xX xT xLn d 105 4 [.ref 0, z1, z2, .long s'.1, z4, .int s'.2, z6] [] σ o) (hE : ∀ e', q = .inr e' → ∀ (z1 z2 z4 z5 z6 : Value), xX xT xLn d 105 29 [.ref 0, z1, z2, .long e', z4, z5, z6] [] σ o) (z1 : Value) (z2 : Value) (z4 : Value) (z6 : Value) : xX xT xLn d 105 4 [.ref 0, z1, z2, .long v3, z4, .int v5, z6] [] σ o := by
  unfold B_X10_digestOfAreas_4 at h
  refine xX_blk (w := xw_105) eT_105 6 4 (ls' := [.ref 0, .null, .null, .long v3, .null, .int v5, .null]) (st' := [.int (σ 2 0), .int v5]) (σ' := σ) rfl ?_
  refine xX_ite (c := (σ 2 0) ≤ v5) (w := xw_105) (i := 10) (a := 29) (b := 11) (st' := []) eT_105 rfl rfl (fun hc1 => ?_) (fun hc1 => ?_)
  · rw [if_pos hc1] at h
    obtain rfl := Option.some.inj h
    exact hE v3 rfl _ _ _ _ _
  · rw [if_neg hc1] at h
    refine xX_blk (w := xw_105) eT_105 2 11 (ls' := [.ref 0, .null, .null, .long v3, .null, .int v5, .int 0]) (st' := []) (σ' := σ) rfl ?_
    obtain ⟨e5, he5, h⟩ := xbd_inv h
    refine TL_X10_digestOfAreas_12 v5 v3 0 σ (by omega) he5 (fun z1 z2 z4 z6 => ?_) _ _ _
    refine xX_blk (w := xw_105) eT_105 2 26 (ls' := [.ref 0, .null, .null, .long e5, .null, .int (v5 + 1), .null]) (st' := []) (σ' := σ) rfl ?_
    refine xX_jmp (w := xw_105) (i := 28) (a := 4) (st' := []) eT_105 rfl rfl ?_
    obtain rfl := Option.some.inj h
    exact hB (e5, (v5 + 1)) rfl _ _ _ _
set_option maxHeartbeats 1000000 in
set_option maxRecDepth 20000 in
theorem TL_X10_digestOfAreas_4 {d : Nat} {o : Option Value × xM} (v3 : Int64) (v5 : Int32) (σ : xM) {e : (Int64)} (hd : 4 ≤ d) (h : L_X10_digestOfAreas_4 v3 v5 σ = some e) (hE : ∀ (z1 z2 z4 z5 z6 : Value), xX xT xLn d 105 29 [.ref 0, z1, z2, .long e, z4, z5, z6] [] σ o) (z1 : Value) (z2 : Value) (z4 : Value) (z6 : Value) : xX xT xLn d 105 4 [.ref 0, z1, z2, .long v3, z4, .int v5, z6] [] σ o :=
  xloop_snd (X := fun s => ∀ (z1 z2 z4 z6 : Value), xX xT xLn d 105 4 [.ref 0, z1, z2, .long s.1, z4, .int s.2, z6] [] σ o) (Y := fun e' => ∀ (z1 z2 z4 z5 z6 : Value), xX xT xLn d 105 29 [.ref 0, z1, z2, .long e', z4, z5, z6] [] σ o) (fun s q hs hB hE z1 z2 z4 z6 => TB_X10_digestOfAreas_4 s.1 s.2 σ hd hs hB hE z1 z2 z4 z6) _ _ _ h hE z1 z2 z4 z6
def B_X10_digestOfAreas_36 (p5 : Int32) (v3 : Int64) (v6 : Int32) (σ : xM) : Option ((Int64 × Int32) ⊕ ((Int64))) :=
  if p5 ≤ v6 then
    some (.inr v3)
  else
    xbd (F_X1_lineLength v6 p5 σ) fun r9 =>
    xbd (F_X10_mixed v3 r9 σ) fun r10 =>
    xbd (F_X1_distance v6 p5 σ) fun r11 =>
    xbd (F_X10_mixed r10 r11 σ) fun r12 =>
    some (.inl (r12, (v6 + 1)))
def L_X10_digestOfAreas_36 (p5 : Int32) (v3 : Int64) (v6 : Int32) (σ : xM) : Option ((Int64)) := xloop (fun s : Int64 × Int32 => B_X10_digestOfAreas_36 p5 s.1 s.2 σ) 6000 (v3, v6)
set_option maxHeartbeats 1000000 in
set_option maxRecDepth 20000 in
theorem TB_X10_digestOfAreas_36 {d : Nat} {o : Option Value × xM} (p5 : Int32) (v3 : Int64) (v6 : Int32) (σ : xM) {q : (Int64 × Int32) ⊕ ((Int64))} (hd : 4 ≤ d) (h : B_X10_digestOfAreas_36 p5 v3 v6 σ = some q) (hB : ∀ s', q = .inl s' → ∀ (z1 z2 z4 : Value), xX xT xLn d 105 41 [.ref 0, z1, z2, .long s'.1, z4, .int p5, .int s'.2] [] σ o) (hE : ∀ e', q = .inr e' → ∀ (z1 z2 z4 z6 : Value), xX xT xLn d 105 65 [.ref 0, z1, z2, .long e', z4, .int p5, z6] [] σ o) (z1 : Value) (z2 : Value) (z4 : Value) : xX xT xLn d 105 41 [.ref 0, z1, z2, .long v3, z4, .int p5, .int v6] [] σ o := by
  unfold B_X10_digestOfAreas_36 at h
  refine xX_blk (w := xw_105) eT_105 3 41 (ls' := [.ref 0, .null, .null, .long v3, .null, .int p5, .int v6]) (st' := [.int p5, .int v6]) (σ' := σ) rfl ?_
  refine xX_ite (c := p5 ≤ v6) (w := xw_105) (i := 44) (a := 65) (b := 45) (st' := []) eT_105 rfl rfl (fun hc8 => ?_) (fun hc8 => ?_)
  · rw [if_pos hc8] at h
    obtain rfl := Option.some.inj h
    exact hE v3 rfl _ _ _ _
  · rw [if_neg hc8] at h
    refine xX_blk (w := xw_105) eT_105 6 45 (ls' := [.ref 0, .null, .null, .long v3, .null, .int p5, .int v6]) (st' := [.int p5, .int v6, .ref 2, .long v3]) (σ' := σ) rfl ?_
    obtain ⟨r9, hr9, h⟩ := xbd_inv h
    refine xX_c1 (w := xw_105) (i := 51) (ls := [.ref 0, .null, .null, .long v3, .null, .int p5, .int v6]) (rest := [.long v3]) eT_105 rfl (by omega) rfl rfl rfl (T_X1_lineLength v6 p5 σ (by omega) hr9) ?_
    obtain ⟨r10, hr10, h⟩ := xbd_inv h
    refine xX_c1 (w := xw_105) (i := 52) (ls := [.ref 0, .null, .null, .long v3, .null, .int p5, .int v6]) (rest := []) eT_105 rfl (by omega) rfl rfl rfl (T_X10_mixed v3 r9 σ (by omega) hr10) ?_
    refine xX_blk (w := xw_105) eT_105 7 53 (ls' := [.ref 0, .null, .null, .long r10, .null, .int p5, .int v6]) (st' := [.int p5, .int v6, .ref 2, .long r10]) (σ' := σ) rfl ?_
    obtain ⟨r11, hr11, h⟩ := xbd_inv h
    refine xX_c1 (w := xw_105) (i := 60) (ls := [.ref 0, .null, .null, .long r10, .null, .int p5, .int v6]) (rest := [.long r10]) eT_105 rfl (by omega) rfl rfl rfl (T_X1_distance v6 p5 σ (by omega) hr11) ?_
    obtain ⟨r12, hr12, h⟩ := xbd_inv h
    refine xX_c1 (w := xw_105) (i := 61) (ls := [.ref 0, .null, .null, .long r10, .null, .int p5, .int v6]) (rest := []) eT_105 rfl (by omega) rfl rfl rfl (T_X10_mixed r10 r11 σ (by omega) hr12) ?_
    refine xX_blk (w := xw_105) eT_105 2 62 (ls' := [.ref 0, .null, .null, .long r12, .null, .int p5, .int (v6 + 1)]) (st' := []) (σ' := σ) rfl ?_
    refine xX_jmp (w := xw_105) (i := 64) (a := 41) (st' := []) eT_105 rfl rfl ?_
    obtain rfl := Option.some.inj h
    exact hB (r12, (v6 + 1)) rfl _ _ _
set_option maxHeartbeats 1000000 in
set_option maxRecDepth 20000 in
theorem TL_X10_digestOfAreas_36 {d : Nat} {o : Option Value × xM} (p5 : Int32) (v3 : Int64) (v6 : Int32) (σ : xM) {e : (Int64)} (hd : 4 ≤ d) (h : L_X10_digestOfAreas_36 p5 v3 v6 σ = some e) (hE : ∀ (z1 z2 z4 z6 : Value), xX xT xLn d 105 65 [.ref 0, z1, z2, .long e, z4, .int p5, z6] [] σ o) (z1 : Value) (z2 : Value) (z4 : Value) : xX xT xLn d 105 41 [.ref 0, z1, z2, .long v3, z4, .int p5, .int v6] [] σ o :=
  xloop_snd (X := fun s => ∀ (z1 z2 z4 : Value), xX xT xLn d 105 41 [.ref 0, z1, z2, .long s.1, z4, .int p5, .int s.2] [] σ o) (Y := fun e' => ∀ (z1 z2 z4 z6 : Value), xX xT xLn d 105 65 [.ref 0, z1, z2, .long e', z4, .int p5, z6] [] σ o) (fun s q hs hB hE z1 z2 z4 => TB_X10_digestOfAreas_36 p5 s.1 s.2 σ hd hs hB hE z1 z2 z4) _ _ _ h hE z1 z2 z4
def B_X10_digestOfAreas_28 (v3 : Int64) (v5 : Int32) (σ : xM) : Option ((Int64 × Int32) ⊕ ((Int64))) :=
  if (σ 2 0) ≤ v5 then
    some (.inr v3)
  else
    xbd (L_X10_digestOfAreas_36 v5 v3 0 σ) fun e13 =>
    some (.inl (e13, (v5 + 1)))
def L_X10_digestOfAreas_28 (v3 : Int64) (v5 : Int32) (σ : xM) : Option ((Int64)) := xloop (fun s : Int64 × Int32 => B_X10_digestOfAreas_28 s.1 s.2 σ) 6000 (v3, v5)
set_option maxHeartbeats 1000000 in
set_option maxRecDepth 20000 in
theorem TB_X10_digestOfAreas_28 {d : Nat} {o : Option Value × xM} (v3 : Int64) (v5 : Int32) (σ : xM) {q : (Int64 × Int32) ⊕ ((Int64))} (hd : 4 ≤ d) (h : B_X10_digestOfAreas_28 v3 v5 σ = some q) (hB : ∀ s', q = .inl s' → ∀ (z1 z2 z4 z6 : Value), xX xT xLn d 105 32 [.ref 0, z1, z2, .long s'.1, z4, .int s'.2, z6] [] σ o) (hE : ∀ e', q = .inr e' → ∀ (z0 z1 z2 z4 z5 z6 : Value), xX xT xLn d 105 68 [z0, z1, z2, .long e', z4, z5, z6] [] σ o) (z1 : Value) (z2 : Value) (z4 : Value) (z6 : Value) : xX xT xLn d 105 32 [.ref 0, z1, z2, .long v3, z4, .int v5, z6] [] σ o := by
  unfold B_X10_digestOfAreas_28 at h
  refine xX_blk (w := xw_105) eT_105 6 32 (ls' := [.ref 0, .null, .null, .long v3, .null, .int v5, .null]) (st' := [.int (σ 2 0), .int v5]) (σ' := σ) rfl ?_
  refine xX_ite (c := (σ 2 0) ≤ v5) (w := xw_105) (i := 38) (a := 68) (b := 39) (st' := []) eT_105 rfl rfl (fun hc7 => ?_) (fun hc7 => ?_)
  · rw [if_pos hc7] at h
    obtain rfl := Option.some.inj h
    exact hE v3 rfl _ _ _ _ _ _
  · rw [if_neg hc7] at h
    refine xX_blk (w := xw_105) eT_105 2 39 (ls' := [.ref 0, .null, .null, .long v3, .null, .int v5, .int 0]) (st' := []) (σ' := σ) rfl ?_
    obtain ⟨e13, he13, h⟩ := xbd_inv h
    refine TL_X10_digestOfAreas_36 v5 v3 0 σ (by omega) he13 (fun z1 z2 z4 z6 => ?_) _ _ _
    refine xX_blk (w := xw_105) eT_105 2 65 (ls' := [.ref 0, .null, .null, .long e13, .null, .int (v5 + 1), .null]) (st' := []) (σ' := σ) rfl ?_
    refine xX_jmp (w := xw_105) (i := 67) (a := 32) (st' := []) eT_105 rfl rfl ?_
    obtain rfl := Option.some.inj h
    exact hB (e13, (v5 + 1)) rfl _ _ _ _
set_option maxHeartbeats 1000000 in
set_option maxRecDepth 20000 in
theorem TL_X10_digestOfAreas_28 {d : Nat} {o : Option Value × xM} (v3 : Int64) (v5 : Int32) (σ : xM) {e : (Int64)} (hd : 4 ≤ d) (h : L_X10_digestOfAreas_28 v3 v5 σ = some e) (hE : ∀ (z0 z1 z2 z4 z5 z6 : Value), xX xT xLn d 105 68 [z0, z1, z2, .long e, z4, z5, z6] [] σ o) (z1 : Value) (z2 : Value) (z4 : Value) (z6 : Value) : xX xT xLn d 105 32 [.ref 0, z1, z2, .long v3, z4, .int v5, z6] [] σ o :=
  xloop_snd (X := fun s => ∀ (z1 z2 z4 z6 : Value), xX xT xLn d 105 32 [.ref 0, z1, z2, .long s.1, z4, .int s.2, z6] [] σ o) (Y := fun e' => ∀ (z0 z1 z2 z4 z5 z6 : Value), xX xT xLn d 105 68 [z0, z1, z2, .long e', z4, z5, z6] [] σ o) (fun s q hs hB hE z1 z2 z4 z6 => TB_X10_digestOfAreas_28 s.1 s.2 σ hd hs hB hE z1 z2 z4 z6) _ _ _ h hE z1 z2 z4 z6
def F_X10_digestOfAreas (a : Int64) (σ : xM) : Option (Int64) :=
  xbd (L_X10_digestOfAreas_4 a 0 σ) fun e6 =>
  xbd (L_X10_digestOfAreas_28 e6 0 σ) fun e14 =>
  some e14
set_option maxHeartbeats 1000000 in
set_option maxRecDepth 20000 in
theorem T_X10_digestOfAreas (a : Int64) (σ : xM) {d : Nat} {q : Int64} (hd : 4 ≤ d) (h : F_X10_digestOfAreas a σ = some q) : xR xT xLn d 105 [.ref 0, .long a] σ (some (.long q), σ) := by
  unfold F_X10_digestOfAreas at h
  show xX xT xLn d 105 0 [.ref 0, .long a, .null, .null, .null, .null, .null] [] σ _
  refine xX_blk (w := xw_105) eT_105 4 0 (ls' := [.ref 0, .long a, .null, .long a, .null, .int 0, .null]) (st' := []) (σ' := σ) rfl ?_
  obtain ⟨e6, he6, h⟩ := xbd_inv h
  refine TL_X10_digestOfAreas_4 a 0 σ (by omega) he6 (fun z1 z2 z4 z5 z6 => ?_) _ _ _ _
  refine xX_blk (w := xw_105) eT_105 3 29 (ls' := [.ref 0, .null, .null, .long e6, .null, .int 0, .null]) (st' := []) (σ' := σ) rfl ?_
  obtain ⟨e14, he14, h⟩ := xbd_inv h
  refine TL_X10_digestOfAreas_28 e6 0 σ (by omega) he14 (fun z0 z1 z2 z4 z5 z6 => ?_) _ _ _ _
  refine xX_blk (w := xw_105) eT_105 2 68 (ls' := [.null, .null, .null, .long e14, .null, .null, .null]) (st' := [.long e14]) (σ' := σ) rfl ?_
  obtain rfl := Option.some.inj h
  exact xX_ret (w := xw_105) (i := 70) eT_105 rfl rfl
def B_X10_digest_4 (v1 : Int64) (v3 : Int32) (σ : xM) : Option ((Int64 × Int32) ⊕ ((Int64))) :=
  if 13 ≤ v3 then
    some (.inr v1)
  else
    xbd (F_X10_countValue v3 σ) fun r2 =>
    xbd (F_X10_mixed v1 r2 σ) fun r3 =>
    some (.inl (r3, (v3 + 1)))
def L_X10_digest_4 (v1 : Int64) (v3 : Int32) (σ : xM) : Option ((Int64)) := xloop (fun s : Int64 × Int32 => B_X10_digest_4 s.1 s.2 σ) 6000 (v1, v3)
set_option maxHeartbeats 1000000 in
set_option maxRecDepth 20000 in
theorem TB_X10_digest_4 {d : Nat} {o : Option Value × xM} (v1 : Int64) (v3 : Int32) (σ : xM) {q : (Int64 × Int32) ⊕ ((Int64))} (hd : 1 ≤ d) (h : B_X10_digest_4 v1 v3 σ = some q) (hB : ∀ s', q = .inl s' → ∀ (z2 z4 : Value), xX xT xLn d 104 4 [.ref 0, .long s'.1, z2, .int s'.2, z4] [] σ o) (hE : ∀ e', q = .inr e' → ∀ (z2 z3 z4 : Value), xX xT xLn d 104 16 [.ref 0, .long e', z2, z3, z4] [] σ o) (z2 : Value) (z4 : Value) : xX xT xLn d 104 4 [.ref 0, .long v1, z2, .int v3, z4] [] σ o := by
  unfold B_X10_digest_4 at h
  refine xX_blk (w := xw_104) eT_104 3 4 (ls' := [.ref 0, .long v1, .null, .int v3, .null]) (st' := [.int 13, .int v3]) (σ' := σ) rfl ?_
  refine xX_ite (c := 13 ≤ v3) (w := xw_104) (i := 7) (a := 16) (b := 8) (st' := []) eT_104 rfl rfl (fun hc1 => ?_) (fun hc1 => ?_)
  · rw [if_pos hc1] at h
    obtain rfl := Option.some.inj h
    exact hE v1 rfl _ _ _
  · rw [if_neg hc1] at h
    refine xX_blk (w := xw_104) eT_104 3 8 (ls' := [.ref 0, .long v1, .null, .int v3, .null]) (st' := [.int v3, .ref 0, .long v1]) (σ' := σ) rfl ?_
    obtain ⟨r2, hr2, h⟩ := xbd_inv h
    refine xX_c1 (w := xw_104) (i := 11) (ls := [.ref 0, .long v1, .null, .int v3, .null]) (rest := [.long v1]) eT_104 rfl (by omega) rfl rfl rfl (T_X10_countValue v3 σ (by omega) hr2) ?_
    obtain ⟨r3, hr3, h⟩ := xbd_inv h
    refine xX_c1 (w := xw_104) (i := 12) (ls := [.ref 0, .long v1, .null, .int v3, .null]) (rest := []) eT_104 rfl (by omega) rfl rfl rfl (T_X10_mixed v1 r2 σ (by omega) hr3) ?_
    refine xX_blk (w := xw_104) eT_104 2 13 (ls' := [.ref 0, .long r3, .null, .int (v3 + 1), .null]) (st' := []) (σ' := σ) rfl ?_
    refine xX_jmp (w := xw_104) (i := 15) (a := 4) (st' := []) eT_104 rfl rfl ?_
    obtain rfl := Option.some.inj h
    exact hB (r3, (v3 + 1)) rfl _ _
set_option maxHeartbeats 1000000 in
set_option maxRecDepth 20000 in
theorem TL_X10_digest_4 {d : Nat} {o : Option Value × xM} (v1 : Int64) (v3 : Int32) (σ : xM) {e : (Int64)} (hd : 1 ≤ d) (h : L_X10_digest_4 v1 v3 σ = some e) (hE : ∀ (z2 z3 z4 : Value), xX xT xLn d 104 16 [.ref 0, .long e, z2, z3, z4] [] σ o) (z2 : Value) (z4 : Value) : xX xT xLn d 104 4 [.ref 0, .long v1, z2, .int v3, z4] [] σ o :=
  xloop_snd (X := fun s => ∀ (z2 z4 : Value), xX xT xLn d 104 4 [.ref 0, .long s.1, z2, .int s.2, z4] [] σ o) (Y := fun e' => ∀ (z2 z3 z4 : Value), xX xT xLn d 104 16 [.ref 0, .long e', z2, z3, z4] [] σ o) (fun s q hs hB hE z2 z4 => TB_X10_digest_4 s.1 s.2 σ hd hs hB hE z2 z4) _ _ _ h hE z2 z4
def B_X10_digest_29 (p3 : Int32) (v1 : Int64) (v4 : Int32) (σ : xM) : Option ((Int64 × Int32 × xM) ⊕ ((Int64 × xM))) :=
  if 10 ≤ v4 then
    some (.inr (v1, σ))
  else
    xbd (F_X10_siteValue p3 v4 σ) fun r8 =>
    xbd (F_X10_mixed v1 r8.1 r8.2) fun r9 =>
    some (.inl (r9, (v4 + 1), r8.2))
def L_X10_digest_29 (p3 : Int32) (v1 : Int64) (v4 : Int32) (σ : xM) : Option ((Int64 × xM)) := xloop (fun s : Int64 × Int32 × xM => B_X10_digest_29 p3 s.1 s.2.1 s.2.2) 6000 (v1, v4, σ)
set_option maxHeartbeats 1000000 in
set_option maxRecDepth 20000 in
theorem TB_X10_digest_29 {d : Nat} {o : Option Value × xM} (p3 : Int32) (v1 : Int64) (v4 : Int32) (σ : xM) {q : (Int64 × Int32 × xM) ⊕ ((Int64 × xM))} (hd : 6 ≤ d) (h : B_X10_digest_29 p3 v1 v4 σ = some q) (hB : ∀ s', q = .inl s' → ∀ (z2 : Value), xX xT xLn d 104 32 [.ref 0, .long s'.1, z2, .int p3, .int s'.2.1] [] s'.2.2 o) (hE : ∀ e', q = .inr e' → ∀ (z2 z4 : Value), xX xT xLn d 104 45 [.ref 0, .long e'.1, z2, .int p3, z4] [] e'.2 o) (z2 : Value) : xX xT xLn d 104 32 [.ref 0, .long v1, z2, .int p3, .int v4] [] σ o := by
  unfold B_X10_digest_29 at h
  refine xX_blk (w := xw_104) eT_104 3 32 (ls' := [.ref 0, .long v1, .null, .int p3, .int v4]) (st' := [.int 10, .int v4]) (σ' := σ) rfl ?_
  refine xX_ite (c := 10 ≤ v4) (w := xw_104) (i := 35) (a := 45) (b := 36) (st' := []) eT_104 rfl rfl (fun hc7 => ?_) (fun hc7 => ?_)
  · rw [if_pos hc7] at h
    obtain rfl := Option.some.inj h
    exact hE (v1, σ) rfl _ _
  · rw [if_neg hc7] at h
    refine xX_blk (w := xw_104) eT_104 4 36 (ls' := [.ref 0, .long v1, .null, .int p3, .int v4]) (st' := [.int v4, .int p3, .ref 0, .long v1]) (σ' := σ) rfl ?_
    obtain ⟨r8, hr8, h⟩ := xbd_inv h
    refine xX_c1 (w := xw_104) (i := 40) (ls := [.ref 0, .long v1, .null, .int p3, .int v4]) (rest := [.long v1]) eT_104 rfl (by omega) rfl rfl rfl (T_X10_siteValue p3 v4 σ (by omega) hr8) ?_
    obtain ⟨r9, hr9, h⟩ := xbd_inv h
    refine xX_c1 (w := xw_104) (i := 41) (ls := [.ref 0, .long v1, .null, .int p3, .int v4]) (rest := []) eT_104 rfl (by omega) rfl rfl rfl (T_X10_mixed v1 r8.1 r8.2 (by omega) hr9) ?_
    refine xX_blk (w := xw_104) eT_104 2 42 (ls' := [.ref 0, .long r9, .null, .int p3, .int (v4 + 1)]) (st' := []) (σ' := r8.2) rfl ?_
    refine xX_jmp (w := xw_104) (i := 44) (a := 32) (st' := []) eT_104 rfl rfl ?_
    obtain rfl := Option.some.inj h
    exact hB (r9, (v4 + 1), r8.2) rfl _
set_option maxHeartbeats 1000000 in
set_option maxRecDepth 20000 in
theorem TL_X10_digest_29 {d : Nat} {o : Option Value × xM} (p3 : Int32) (v1 : Int64) (v4 : Int32) (σ : xM) {e : (Int64 × xM)} (hd : 6 ≤ d) (h : L_X10_digest_29 p3 v1 v4 σ = some e) (hE : ∀ (z2 z4 : Value), xX xT xLn d 104 45 [.ref 0, .long e.1, z2, .int p3, z4] [] e.2 o) (z2 : Value) : xX xT xLn d 104 32 [.ref 0, .long v1, z2, .int p3, .int v4] [] σ o :=
  xloop_snd (X := fun s => ∀ (z2 : Value), xX xT xLn d 104 32 [.ref 0, .long s.1, z2, .int p3, .int s.2.1] [] s.2.2 o) (Y := fun e' => ∀ (z2 z4 : Value), xX xT xLn d 104 45 [.ref 0, .long e'.1, z2, .int p3, z4] [] e'.2 o) (fun s q hs hB hE z2 => TB_X10_digest_29 p3 s.1 s.2.1 s.2.2 hd hs hB hE z2) _ _ _ h hE z2
def B_X10_digest_21 (v1 : Int64) (v3 : Int32) (σ : xM) : Option ((Int64 × Int32 × xM) ⊕ ((Int64 × xM))) :=
  if (σ 8 0) ≤ v3 then
    some (.inr (v1, σ))
  else
    xbd (L_X10_digest_29 v3 v1 0 σ) fun e10 =>
    some (.inl (e10.1, (v3 + 1), e10.2))
def L_X10_digest_21 (v1 : Int64) (v3 : Int32) (σ : xM) : Option ((Int64 × xM)) := xloop (fun s : Int64 × Int32 × xM => B_X10_digest_21 s.1 s.2.1 s.2.2) 6000 (v1, v3, σ)
set_option maxHeartbeats 1000000 in
set_option maxRecDepth 20000 in
theorem TB_X10_digest_21 {d : Nat} {o : Option Value × xM} (v1 : Int64) (v3 : Int32) (σ : xM) {q : (Int64 × Int32 × xM) ⊕ ((Int64 × xM))} (hd : 6 ≤ d) (h : B_X10_digest_21 v1 v3 σ = some q) (hB : ∀ s', q = .inl s' → ∀ (z2 z4 : Value), xX xT xLn d 104 23 [.ref 0, .long s'.1, z2, .int s'.2.1, z4] [] s'.2.2 o) (hE : ∀ e', q = .inr e' → ∀ (z2 z3 z4 : Value), xX xT xLn d 104 48 [.ref 0, .long e'.1, z2, z3, z4] [] e'.2 o) (z2 : Value) (z4 : Value) : xX xT xLn d 104 23 [.ref 0, .long v1, z2, .int v3, z4] [] σ o := by
  unfold B_X10_digest_21 at h
  refine xX_blk (w := xw_104) eT_104 6 23 (ls' := [.ref 0, .long v1, .null, .int v3, .null]) (st' := [.int (σ 8 0), .int v3]) (σ' := σ) rfl ?_
  refine xX_ite (c := (σ 8 0) ≤ v3) (w := xw_104) (i := 29) (a := 48) (b := 30) (st' := []) eT_104 rfl rfl (fun hc6 => ?_) (fun hc6 => ?_)
  · rw [if_pos hc6] at h
    obtain rfl := Option.some.inj h
    exact hE (v1, σ) rfl _ _ _
  · rw [if_neg hc6] at h
    refine xX_blk (w := xw_104) eT_104 2 30 (ls' := [.ref 0, .long v1, .null, .int v3, .int 0]) (st' := []) (σ' := σ) rfl ?_
    obtain ⟨e10, he10, h⟩ := xbd_inv h
    refine TL_X10_digest_29 v3 v1 0 σ (by omega) he10 (fun z2 z4 => ?_) _
    refine xX_blk (w := xw_104) eT_104 2 45 (ls' := [.ref 0, .long e10.1, .null, .int (v3 + 1), .null]) (st' := []) (σ' := e10.2) rfl ?_
    refine xX_jmp (w := xw_104) (i := 47) (a := 23) (st' := []) eT_104 rfl rfl ?_
    obtain rfl := Option.some.inj h
    exact hB (e10.1, (v3 + 1), e10.2) rfl _ _
set_option maxHeartbeats 1000000 in
set_option maxRecDepth 20000 in
theorem TL_X10_digest_21 {d : Nat} {o : Option Value × xM} (v1 : Int64) (v3 : Int32) (σ : xM) {e : (Int64 × xM)} (hd : 6 ≤ d) (h : L_X10_digest_21 v1 v3 σ = some e) (hE : ∀ (z2 z3 z4 : Value), xX xT xLn d 104 48 [.ref 0, .long e.1, z2, z3, z4] [] e.2 o) (z2 : Value) (z4 : Value) : xX xT xLn d 104 23 [.ref 0, .long v1, z2, .int v3, z4] [] σ o :=
  xloop_snd (X := fun s => ∀ (z2 z4 : Value), xX xT xLn d 104 23 [.ref 0, .long s.1, z2, .int s.2.1, z4] [] s.2.2 o) (Y := fun e' => ∀ (z2 z3 z4 : Value), xX xT xLn d 104 48 [.ref 0, .long e'.1, z2, z3, z4] [] e'.2 o) (fun s q hs hB hE z2 z4 => TB_X10_digest_21 s.1 s.2.1 s.2.2 hd hs hB hE z2 z4) _ _ _ h hE z2 z4
def B_X10_digest_53 (p3 : Int32) (v1 : Int64) (v4 : Int32) (σ : xM) : Option ((Int64 × Int32) ⊕ ((Int64))) :=
  if 5 ≤ v4 then
    some (.inr v1)
  else
    xbd (F_X10_sessionValue p3 v4 σ) fun r14 =>
    xbd (F_X10_mixed v1 r14 σ) fun r15 =>
    some (.inl (r15, (v4 + 1)))
def L_X10_digest_53 (p3 : Int32) (v1 : Int64) (v4 : Int32) (σ : xM) : Option ((Int64)) := xloop (fun s : Int64 × Int32 => B_X10_digest_53 p3 s.1 s.2 σ) 6000 (v1, v4)
set_option maxHeartbeats 1000000 in
set_option maxRecDepth 20000 in
theorem TB_X10_digest_53 {d : Nat} {o : Option Value × xM} (p3 : Int32) (v1 : Int64) (v4 : Int32) (σ : xM) {q : (Int64 × Int32) ⊕ ((Int64))} (hd : 6 ≤ d) (h : B_X10_digest_53 p3 v1 v4 σ = some q) (hB : ∀ s', q = .inl s' → ∀ (z2 : Value), xX xT xLn d 104 60 [.ref 0, .long s'.1, z2, .int p3, .int s'.2] [] σ o) (hE : ∀ e', q = .inr e' → ∀ (z2 z4 : Value), xX xT xLn d 104 73 [.ref 0, .long e', z2, .int p3, z4] [] σ o) (z2 : Value) : xX xT xLn d 104 60 [.ref 0, .long v1, z2, .int p3, .int v4] [] σ o := by
  unfold B_X10_digest_53 at h
  refine xX_blk (w := xw_104) eT_104 3 60 (ls' := [.ref 0, .long v1, .null, .int p3, .int v4]) (st' := [.int 5, .int v4]) (σ' := σ) rfl ?_
  refine xX_ite (c := 5 ≤ v4) (w := xw_104) (i := 63) (a := 73) (b := 64) (st' := []) eT_104 rfl rfl (fun hc13 => ?_) (fun hc13 => ?_)
  · rw [if_pos hc13] at h
    obtain rfl := Option.some.inj h
    exact hE v1 rfl _ _
  · rw [if_neg hc13] at h
    refine xX_blk (w := xw_104) eT_104 4 64 (ls' := [.ref 0, .long v1, .null, .int p3, .int v4]) (st' := [.int v4, .int p3, .ref 0, .long v1]) (σ' := σ) rfl ?_
    obtain ⟨r14, hr14, h⟩ := xbd_inv h
    refine xX_c1 (w := xw_104) (i := 68) (ls := [.ref 0, .long v1, .null, .int p3, .int v4]) (rest := [.long v1]) eT_104 rfl (by omega) rfl rfl rfl (T_X10_sessionValue p3 v4 σ (by omega) hr14) ?_
    obtain ⟨r15, hr15, h⟩ := xbd_inv h
    refine xX_c1 (w := xw_104) (i := 69) (ls := [.ref 0, .long v1, .null, .int p3, .int v4]) (rest := []) eT_104 rfl (by omega) rfl rfl rfl (T_X10_mixed v1 r14 σ (by omega) hr15) ?_
    refine xX_blk (w := xw_104) eT_104 2 70 (ls' := [.ref 0, .long r15, .null, .int p3, .int (v4 + 1)]) (st' := []) (σ' := σ) rfl ?_
    refine xX_jmp (w := xw_104) (i := 72) (a := 60) (st' := []) eT_104 rfl rfl ?_
    obtain rfl := Option.some.inj h
    exact hB (r15, (v4 + 1)) rfl _
set_option maxHeartbeats 1000000 in
set_option maxRecDepth 20000 in
theorem TL_X10_digest_53 {d : Nat} {o : Option Value × xM} (p3 : Int32) (v1 : Int64) (v4 : Int32) (σ : xM) {e : (Int64)} (hd : 6 ≤ d) (h : L_X10_digest_53 p3 v1 v4 σ = some e) (hE : ∀ (z2 z4 : Value), xX xT xLn d 104 73 [.ref 0, .long e, z2, .int p3, z4] [] σ o) (z2 : Value) : xX xT xLn d 104 60 [.ref 0, .long v1, z2, .int p3, .int v4] [] σ o :=
  xloop_snd (X := fun s => ∀ (z2 : Value), xX xT xLn d 104 60 [.ref 0, .long s.1, z2, .int p3, .int s.2] [] σ o) (Y := fun e' => ∀ (z2 z4 : Value), xX xT xLn d 104 73 [.ref 0, .long e', z2, .int p3, z4] [] σ o) (fun s q hs hB hE z2 => TB_X10_digest_53 p3 s.1 s.2 σ hd hs hB hE z2) _ _ _ h hE z2
def B_X10_digest_45 (v1 : Int64) (v3 : Int32) (σ : xM) : Option ((Int64 × Int32) ⊕ ((Int64))) :=
  if (σ 14 0) ≤ v3 then
    some (.inr v1)
  else
    xbd (L_X10_digest_53 v3 v1 0 σ) fun e16 =>
    some (.inl (e16, (v3 + 1)))
def L_X10_digest_45 (v1 : Int64) (v3 : Int32) (σ : xM) : Option ((Int64)) := xloop (fun s : Int64 × Int32 => B_X10_digest_45 s.1 s.2 σ) 6000 (v1, v3)
set_option maxHeartbeats 1000000 in
set_option maxRecDepth 20000 in
theorem TB_X10_digest_45 {d : Nat} {o : Option Value × xM} (v1 : Int64) (v3 : Int32) (σ : xM) {q : (Int64 × Int32) ⊕ ((Int64))} (hd : 6 ≤ d) (h : B_X10_digest_45 v1 v3 σ = some q) (hB : ∀ s', q = .inl s' → ∀ (z2 z4 : Value), xX xT xLn d 104 51 [.ref 0, .long s'.1, z2, .int s'.2, z4] [] σ o) (hE : ∀ e', q = .inr e' → ∀ (z0 z2 z3 z4 : Value), xX xT xLn d 104 76 [z0, .long e', z2, z3, z4] [] σ o) (z2 : Value) (z4 : Value) : xX xT xLn d 104 51 [.ref 0, .long v1, z2, .int v3, z4] [] σ o := by
  unfold B_X10_digest_45 at h
  refine xX_blk (w := xw_104) eT_104 6 51 (ls' := [.ref 0, .long v1, .null, .int v3, .null]) (st' := [.int (σ 14 0), .int v3]) (σ' := σ) rfl ?_
  refine xX_ite (c := (σ 14 0) ≤ v3) (w := xw_104) (i := 57) (a := 76) (b := 58) (st' := []) eT_104 rfl rfl (fun hc12 => ?_) (fun hc12 => ?_)
  · rw [if_pos hc12] at h
    obtain rfl := Option.some.inj h
    exact hE v1 rfl _ _ _ _
  · rw [if_neg hc12] at h
    refine xX_blk (w := xw_104) eT_104 2 58 (ls' := [.ref 0, .long v1, .null, .int v3, .int 0]) (st' := []) (σ' := σ) rfl ?_
    obtain ⟨e16, he16, h⟩ := xbd_inv h
    refine TL_X10_digest_53 v3 v1 0 σ (by omega) he16 (fun z2 z4 => ?_) _
    refine xX_blk (w := xw_104) eT_104 2 73 (ls' := [.ref 0, .long e16, .null, .int (v3 + 1), .null]) (st' := []) (σ' := σ) rfl ?_
    refine xX_jmp (w := xw_104) (i := 75) (a := 51) (st' := []) eT_104 rfl rfl ?_
    obtain rfl := Option.some.inj h
    exact hB (e16, (v3 + 1)) rfl _ _
set_option maxHeartbeats 1000000 in
set_option maxRecDepth 20000 in
theorem TL_X10_digest_45 {d : Nat} {o : Option Value × xM} (v1 : Int64) (v3 : Int32) (σ : xM) {e : (Int64)} (hd : 6 ≤ d) (h : L_X10_digest_45 v1 v3 σ = some e) (hE : ∀ (z0 z2 z3 z4 : Value), xX xT xLn d 104 76 [z0, .long e, z2, z3, z4] [] σ o) (z2 : Value) (z4 : Value) : xX xT xLn d 104 51 [.ref 0, .long v1, z2, .int v3, z4] [] σ o :=
  xloop_snd (X := fun s => ∀ (z2 z4 : Value), xX xT xLn d 104 51 [.ref 0, .long s.1, z2, .int s.2, z4] [] σ o) (Y := fun e' => ∀ (z0 z2 z3 z4 : Value), xX xT xLn d 104 76 [z0, .long e', z2, z3, z4] [] σ o) (fun s q hs hB hE z2 z4 => TB_X10_digest_45 s.1 s.2 σ hd hs hB hE z2 z4) _ _ _ h hE z2 z4
def F_X10_digest (σ : xM) : Option (Int64 × xM) :=
  xbd (L_X10_digest_4 2333 0 σ) fun e4 =>
  xbd (F_X10_digestOfAreas e4 σ) fun r5 =>
  xbd (L_X10_digest_21 r5 0 σ) fun e11 =>
  xbd (L_X10_digest_45 e11.1 0 e11.2) fun e17 =>
  some (e17, e11.2)
set_option maxHeartbeats 1000000 in
set_option maxRecDepth 20000 in
theorem T_X10_digest (σ : xM) {d : Nat} {q : Int64 × xM} (hd : 6 ≤ d) (h : F_X10_digest σ = some q) : xR xT xLn d 104 [.ref 0] σ (some (.long q.1), q.2) := by
  unfold F_X10_digest at h
  show xX xT xLn d 104 0 [.ref 0, .null, .null, .null, .null] [] σ _
  refine xX_blk (w := xw_104) eT_104 4 0 (ls' := [.ref 0, .long 2333, .null, .int 0, .null]) (st' := []) (σ' := σ) rfl ?_
  obtain ⟨e4, he4, h⟩ := xbd_inv h
  refine TL_X10_digest_4 2333 0 σ (by omega) he4 (fun z2 z3 z4 => ?_) _ _
  refine xX_blk (w := xw_104) eT_104 3 16 (ls' := [.ref 0, .long e4, .null, .null, .null]) (st' := [.long e4, .ref 0]) (σ' := σ) rfl ?_
  obtain ⟨r5, hr5, h⟩ := xbd_inv h
  refine xX_c1 (w := xw_104) (i := 19) (ls := [.ref 0, .long e4, .null, .null, .null]) (rest := []) eT_104 rfl (by omega) rfl rfl rfl (T_X10_digestOfAreas e4 σ (by omega) hr5) ?_
  refine xX_blk (w := xw_104) eT_104 3 20 (ls' := [.ref 0, .long r5, .null, .int 0, .null]) (st' := []) (σ' := σ) rfl ?_
  obtain ⟨e11, he11, h⟩ := xbd_inv h
  refine TL_X10_digest_21 r5 0 σ (by omega) he11 (fun z2 z3 z4 => ?_) _ _
  refine xX_blk (w := xw_104) eT_104 3 48 (ls' := [.ref 0, .long e11.1, .null, .int 0, .null]) (st' := []) (σ' := e11.2) rfl ?_
  obtain ⟨e17, he17, h⟩ := xbd_inv h
  refine TL_X10_digest_45 e11.1 0 e11.2 (by omega) he17 (fun z0 z2 z3 z4 => ?_) _ _
  refine xX_blk (w := xw_104) eT_104 2 76 (ls' := [.null, .long e17, .null, .null, .null]) (st' := [.long e17]) (σ' := e11.2) rfl ?_
  obtain rfl := Option.some.inj h
  exact xX_ret (w := xw_104) (i := 78) eT_104 rfl rfl
def F_X11_in (a : Int64) (b : Int64) (c : Int64) (σ : xM) : Option (Int32) :=
  if (lg_cmp a b) < 0 then
    some 0
  else
    if 0 < (lg_cmp a c) then
      some 0
    else
      some 1
set_option maxHeartbeats 1000000 in
set_option maxRecDepth 20000 in
theorem T_X11_in (a : Int64) (b : Int64) (c : Int64) (σ : xM) {d : Nat} {q : Int32} (hd : 0 ≤ d) (h : F_X11_in a b c σ = some q) : xR xT xLn d 115 [.long a, .long b, .long c] σ (some (.int q), σ) := by
  unfold F_X11_in at h
  show xX xT xLn d 115 0 [.long a, .null, .long b, .null, .long c, .null] [] σ _
  refine xX_blk (w := xw_115) eT_115 3 0 (ls' := [.long a, .null, .long b, .null, .long c, .null]) (st' := [.int (lg_cmp a b)]) (σ' := σ) rfl ?_
  refine xX_ite (c := (lg_cmp a b) < 0) (w := xw_115) (i := 3) (a := 10) (b := 4) (st' := []) eT_115 rfl rfl (fun hc1 => ?_) (fun hc1 => ?_)
  · rw [if_pos hc1] at h
    refine xX_blk (w := xw_115) eT_115 1 10 (ls' := [.long a, .null, .long b, .null, .long c, .null]) (st' := [.int 0]) (σ' := σ) rfl ?_
    obtain rfl := Option.some.inj h
    exact xX_ret (w := xw_115) (i := 11) eT_115 rfl (e_ret2 (by decide))
  · rw [if_neg hc1] at h
    refine xX_blk (w := xw_115) eT_115 3 4 (ls' := [.long a, .null, .long b, .null, .long c, .null]) (st' := [.int (lg_cmp a c)]) (σ' := σ) rfl ?_
    refine xX_ite (c := 0 < (lg_cmp a c)) (w := xw_115) (i := 7) (a := 10) (b := 8) (st' := []) eT_115 rfl rfl (fun hc2 => ?_) (fun hc2 => ?_)
    · rw [if_pos hc2] at h
      refine xX_blk (w := xw_115) eT_115 1 10 (ls' := [.long a, .null, .long b, .null, .long c, .null]) (st' := [.int 0]) (σ' := σ) rfl ?_
      obtain rfl := Option.some.inj h
      exact xX_ret (w := xw_115) (i := 11) eT_115 rfl (e_ret2 (by decide))
    · rw [if_neg hc2] at h
      refine xX_blk (w := xw_115) eT_115 1 8 (ls' := [.long a, .null, .long b, .null, .long c, .null]) (st' := [.int 1]) (σ' := σ) rfl ?_
      refine xX_jmp (w := xw_115) (i := 9) (a := 11) (st' := [.int 1]) eT_115 rfl rfl ?_
      obtain rfl := Option.some.inj h
      exact xX_ret (w := xw_115) (i := 11) eT_115 rfl (e_ret2 (by decide))
def F_X11_canArea (a : Int32) (σ : xM) : Option (Int32) :=
  xbd (F_X11_in ((a : Int32).toInt64) 0 99 σ) fun r1 =>
  if r1 = 0 then
    some (-2)
  else
    if (σ 142 0) = 8 then
      some (-4)
    else
      some 0
set_option maxHeartbeats 1000000 in
set_option maxRecDepth 20000 in
theorem T_X11_canArea (a : Int32) (σ : xM) {d : Nat} {q : Int32} (hd : 1 ≤ d) (h : F_X11_canArea a σ = some q) : xR xT xLn d 136 [.ref 141, .int a] σ (some (.int q), σ) := by
  unfold F_X11_canArea at h
  show xX xT xLn d 136 0 [.ref 141, .int a] [] σ _
  refine xX_blk (w := xw_136) eT_136 4 0 (ls' := [.ref 141, .int a]) (st' := [.long 99, .long 0, .long ((a : Int32).toInt64)]) (σ' := σ) rfl ?_
  obtain ⟨r1, hr1, h⟩ := xbd_inv h
  refine xX_c1 (w := xw_136) (i := 4) (ls := [.ref 141, .int a]) (rest := []) eT_136 rfl (by omega) rfl rfl rfl (T_X11_in ((a : Int32).toInt64) 0 99 σ (by omega) hr1) ?_
  refine xX_ite (c := r1 = 0) (w := xw_136) (i := 5) (a := 6) (b := 8) (st' := []) eT_136 rfl rfl (fun hc2 => ?_) (fun hc2 => ?_)
  · rw [if_pos hc2] at h
    refine xX_blk (w := xw_136) eT_136 1 6 (ls' := [.ref 141, .int a]) (st' := [.int (-2)]) (σ' := σ) rfl ?_
    refine xX_jmp (w := xw_136) (i := 7) (a := 17) (st' := [.int (-2)]) eT_136 rfl rfl ?_
    obtain rfl := Option.some.inj h
    exact xX_ret (w := xw_136) (i := 17) eT_136 rfl rfl
  · rw [if_neg hc2] at h
    refine xX_blk (w := xw_136) eT_136 3 8 (ls' := [.ref 141, .int a]) (st' := [.int 0, .ref 142]) (σ' := σ) rfl ?_
    refine xX_one (w := xw_136) (i := 11) (ls' := [.ref 141, .int a]) (st' := [.int (σ 142 0)]) (σ' := σ) eT_136 rfl (e_ialK xs_142 (by decide) (by decide)) ?_
    refine xX_blk (w := xw_136) eT_136 1 12 (ls' := [.ref 141, .int a]) (st' := [.int 8, .int (σ 142 0)]) (σ' := σ) rfl ?_
    refine xX_ite (c := (σ 142 0) = 8) (w := xw_136) (i := 13) (a := 14) (b := 16) (st' := []) eT_136 rfl rfl (fun hc3 => ?_) (fun hc3 => ?_)
    · rw [if_pos hc3] at h
      refine xX_blk (w := xw_136) eT_136 1 14 (ls' := [.ref 141, .int a]) (st' := [.int (-4)]) (σ' := σ) rfl ?_
      refine xX_jmp (w := xw_136) (i := 15) (a := 17) (st' := [.int (-4)]) eT_136 rfl rfl ?_
      obtain rfl := Option.some.inj h
      exact xX_ret (w := xw_136) (i := 17) eT_136 rfl rfl
    · rw [if_neg hc3] at h
      refine xX_blk (w := xw_136) eT_136 1 16 (ls' := [.ref 141, .int a]) (st' := [.int 0]) (σ' := σ) rfl ?_
      obtain rfl := Option.some.inj h
      exact xX_ret (w := xw_136) (i := 17) eT_136 rfl rfl
def B_X11_keep_6 (v1 : Int32) (σ : xM) : Option ((Int32 × xM) ⊕ ((xM))) :=
  if 676 ≤ v1 then
    some (.inr σ)
  else
    xgd (xin (v1 + 169) 845) (
    xgd (xin v1 845) (
    xlet (xup σ 143 v1.toNatClampNeg (σ 143 (v1 + 169).toNatClampNeg)) fun σ5 =>
    some (.inl ((v1 + 1), σ5))))
def L_X11_keep_6 (v1 : Int32) (σ : xM) : Option ((xM)) := xloop (fun s : Int32 × xM => B_X11_keep_6 s.1 s.2) 6000 (v1, σ)
set_option maxHeartbeats 1000000 in
set_option maxRecDepth 20000 in
theorem TB_X11_keep_6 {d : Nat} {o : Option Value × xM} (v1 : Int32) (σ : xM) {q : (Int32 × xM) ⊕ ((xM))} (hd : 0 ≤ d) (h : B_X11_keep_6 v1 σ = some q) (hB : ∀ s', q = .inl s' → xX xT xLn d 117 6 [.ref 141, .int s'.1] [] s'.2 o) (hE : ∀ e', q = .inr e' → ∀ (z1 : Value), xX xT xLn d 117 22 [.ref 141, z1] [] e' o) : xX xT xLn d 117 6 [.ref 141, .int v1] [] σ o := by
  unfold B_X11_keep_6 at h
  refine xX_blk (w := xw_117) eT_117 3 6 (ls' := [.ref 141, .int v1]) (st' := [.int 676, .int v1]) (σ' := σ) rfl ?_
  refine xX_ite (c := 676 ≤ v1) (w := xw_117) (i := 9) (a := 22) (b := 10) (st' := []) eT_117 rfl rfl (fun hc2 => ?_) (fun hc2 => ?_)
  · rw [if_pos hc2] at h
    obtain rfl := Option.some.inj h
    exact hE σ rfl _
  · rw [if_neg hc2] at h
    refine xX_blk (w := xw_117) eT_117 8 10 (ls' := [.ref 141, .int v1]) (st' := [.int (v1 + 169), .ref 143, .int v1, .ref 143]) (σ' := σ) rfl ?_
    obtain ⟨hi3, h⟩ := xgd_inv h
    refine xX_one (w := xw_117) (i := 18) (ls' := [.ref 141, .int v1]) (st' := [.int (σ 143 (v1 + 169).toNatClampNeg), .int v1, .ref 143]) (σ' := σ) eT_117 rfl (e_iald xs_143 hi3) ?_
    obtain ⟨hi4, h⟩ := xgd_inv h
    refine xX_one (w := xw_117) (i := 19) (ls' := [.ref 141, .int v1]) (st' := []) (σ' := xup σ 143 v1.toNatClampNeg (σ 143 (v1 + 169).toNatClampNeg)) eT_117 rfl (e_iast xs_143 hi4) ?_
    obtain ⟨σ5, eσ5, h⟩ := xlet_inv h
    rw [← eσ5]
    refine xX_blk (w := xw_117) eT_117 1 20 (ls' := [.ref 141, .int (v1 + 1)]) (st' := []) (σ' := σ5) rfl ?_
    refine xX_jmp (w := xw_117) (i := 21) (a := 6) (st' := []) eT_117 rfl rfl ?_
    obtain rfl := Option.some.inj h
    exact hB ((v1 + 1), σ5) rfl
set_option maxHeartbeats 1000000 in
set_option maxRecDepth 20000 in
theorem TL_X11_keep_6 {d : Nat} {o : Option Value × xM} (v1 : Int32) (σ : xM) {e : (xM)} (hd : 0 ≤ d) (h : L_X11_keep_6 v1 σ = some e) (hE : ∀ (z1 : Value), xX xT xLn d 117 22 [.ref 141, z1] [] e o) : xX xT xLn d 117 6 [.ref 141, .int v1] [] σ o :=
  xloop_snd (X := fun s => xX xT xLn d 117 6 [.ref 141, .int s.1] [] s.2 o) (Y := fun e' => ∀ (z1 : Value), xX xT xLn d 117 22 [.ref 141, z1] [] e' o) (fun s q hs hB hE => TB_X11_keep_6 s.1 s.2 hd hs hB hE) _ _ _ h hE
def B_X11_keep_29 (v1 : Int32) (σ : xM) : Option ((Int32 × xM) ⊕ ((xM))) :=
  if 169 ≤ v1 then
    some (.inr σ)
  else
    xgd (xin v1 169) (
    xgd (xin (((169 : Int32) * (σ 141 3)) + v1) 845) (
    xlet (xup σ 143 (((169 : Int32) * (σ 141 3)) + v1).toNatClampNeg (σ 142 v1.toNatClampNeg)) fun σ11 =>
    some (.inl ((v1 + 1), σ11))))
def L_X11_keep_29 (v1 : Int32) (σ : xM) : Option ((xM)) := xloop (fun s : Int32 × xM => B_X11_keep_29 s.1 s.2) 6000 (v1, σ)
set_option maxHeartbeats 1000000 in
set_option maxRecDepth 20000 in
theorem TB_X11_keep_29 {d : Nat} {o : Option Value × xM} (v1 : Int32) (σ : xM) {q : (Int32 × xM) ⊕ ((xM))} (hd : 0 ≤ d) (h : B_X11_keep_29 v1 σ = some q) (hB : ∀ s', q = .inl s' → xX xT xLn d 117 31 [.ref 141, .int s'.1] [] s'.2 o) (hE : ∀ e', q = .inr e' → ∀ (z1 : Value), xX xT xLn d 117 50 [.ref 141, z1] [] e' o) : xX xT xLn d 117 31 [.ref 141, .int v1] [] σ o := by
  unfold B_X11_keep_29 at h
  refine xX_blk (w := xw_117) eT_117 3 31 (ls' := [.ref 141, .int v1]) (st' := [.int 169, .int v1]) (σ' := σ) rfl ?_
  refine xX_ite (c := 169 ≤ v1) (w := xw_117) (i := 34) (a := 50) (b := 35) (st' := []) eT_117 rfl rfl (fun hc8 => ?_) (fun hc8 => ?_)
  · rw [if_pos hc8] at h
    obtain rfl := Option.some.inj h
    exact hE σ rfl _
  · rw [if_neg hc8] at h
    refine xX_blk (w := xw_117) eT_117 11 35 (ls' := [.ref 141, .int v1]) (st' := [.int v1, .ref 142, .int (((169 : Int32) * (σ 141 3)) + v1), .ref 143]) (σ' := σ) rfl ?_
    obtain ⟨hi9, h⟩ := xgd_inv h
    refine xX_one (w := xw_117) (i := 46) (ls' := [.ref 141, .int v1]) (st' := [.int (σ 142 v1.toNatClampNeg), .int (((169 : Int32) * (σ 141 3)) + v1), .ref 143]) (σ' := σ) eT_117 rfl (e_iald xs_142 hi9) ?_
    obtain ⟨hi10, h⟩ := xgd_inv h
    refine xX_one (w := xw_117) (i := 47) (ls' := [.ref 141, .int v1]) (st' := []) (σ' := xup σ 143 (((169 : Int32) * (σ 141 3)) + v1).toNatClampNeg (σ 142 v1.toNatClampNeg)) eT_117 rfl (e_iast xs_143 hi10) ?_
    obtain ⟨σ11, eσ11, h⟩ := xlet_inv h
    rw [← eσ11]
    refine xX_blk (w := xw_117) eT_117 1 48 (ls' := [.ref 141, .int (v1 + 1)]) (st' := []) (σ' := σ11) rfl ?_
    refine xX_jmp (w := xw_117) (i := 49) (a := 31) (st' := []) eT_117 rfl rfl ?_
    obtain rfl := Option.some.inj h
    exact hB ((v1 + 1), σ11) rfl
set_option maxHeartbeats 1000000 in
set_option maxRecDepth 20000 in
theorem TL_X11_keep_29 {d : Nat} {o : Option Value × xM} (v1 : Int32) (σ : xM) {e : (xM)} (hd : 0 ≤ d) (h : L_X11_keep_29 v1 σ = some e) (hE : ∀ (z1 : Value), xX xT xLn d 117 50 [.ref 141, z1] [] e o) : xX xT xLn d 117 31 [.ref 141, .int v1] [] σ o :=
  xloop_snd (X := fun s => xX xT xLn d 117 31 [.ref 141, .int s.1] [] s.2 o) (Y := fun e' => ∀ (z1 : Value), xX xT xLn d 117 50 [.ref 141, z1] [] e' o) (fun s q hs hB hE => TB_X11_keep_29 s.1 s.2 hd hs hB hE) _ _ _ h hE
def F_X11_keep (σ : xM) : Option (xM) :=
  if (σ 141 3) = 5 then
    xbd (L_X11_keep_6 0 σ) fun e6 =>
    xlet (xup e6 141 3 ((e6 141 3) - 1)) fun σ7 =>
    xbd (L_X11_keep_29 0 σ7) fun e12 =>
    xlet (xup e12 141 3 ((e12 141 3) + 1)) fun σ13 =>
    some σ13
  else
    xbd (L_X11_keep_29 0 σ) fun e14 =>
    xlet (xup e14 141 3 ((e14 141 3) + 1)) fun σ15 =>
    some σ15
set_option maxHeartbeats 1000000 in
set_option maxRecDepth 20000 in
theorem T_X11_keep (σ : xM) {d : Nat} {q : xM} (hd : 0 ≤ d) (h : F_X11_keep σ = some q) : xR xT xLn d 117 [.ref 141] σ (none, q) := by
  unfold F_X11_keep at h
  show xX xT xLn d 117 0 [.ref 141, .null] [] σ _
  refine xX_blk (w := xw_117) eT_117 3 0 (ls' := [.ref 141, .null]) (st' := [.int 5, .int (σ 141 3)]) (σ' := σ) rfl ?_
  refine xX_ite (c := (σ 141 3) = 5) (w := xw_117) (i := 3) (a := 4) (b := 29) (st' := []) eT_117 rfl rfl (fun hc1 => ?_) (fun hc1 => ?_)
  · rw [if_pos hc1] at h
    refine xX_blk (w := xw_117) eT_117 2 4 (ls' := [.ref 141, .int 0]) (st' := []) (σ' := σ) rfl ?_
    obtain ⟨e6, he6, h⟩ := xbd_inv h
    refine TL_X11_keep_6 0 σ (by omega) he6 (fun z1 => ?_)
    refine xX_blk (w := xw_117) eT_117 6 22 (ls' := [.ref 141, .null]) (st' := [.int ((e6 141 3) - 1), .ref 141]) (σ' := e6) rfl ?_
    refine xX_blk (w := xw_117) eT_117 1 28 (ls' := [.ref 141, .null]) (st' := []) (σ' := xup e6 141 3 ((e6 141 3) - 1)) rfl ?_
    obtain ⟨σ7, eσ7, h⟩ := xlet_inv h
    rw [← eσ7]
    refine xX_blk (w := xw_117) eT_117 2 29 (ls' := [.ref 141, .int 0]) (st' := []) (σ' := σ7) rfl ?_
    obtain ⟨e12, he12, h⟩ := xbd_inv h
    refine TL_X11_keep_29 0 σ7 (by omega) he12 (fun z1 => ?_)
    refine xX_blk (w := xw_117) eT_117 6 50 (ls' := [.ref 141, .null]) (st' := [.int ((e12 141 3) + 1), .ref 141]) (σ' := e12) rfl ?_
    refine xX_blk (w := xw_117) eT_117 1 56 (ls' := [.ref 141, .null]) (st' := []) (σ' := xup e12 141 3 ((e12 141 3) + 1)) rfl ?_
    obtain ⟨σ13, eσ13, h⟩ := xlet_inv h
    rw [← eσ13]
    obtain rfl := Option.some.inj h
    exact xX_ret (w := xw_117) (i := 57) eT_117 rfl rfl
  · rw [if_neg hc1] at h
    refine xX_blk (w := xw_117) eT_117 2 29 (ls' := [.ref 141, .int 0]) (st' := []) (σ' := σ) rfl ?_
    obtain ⟨e14, he14, h⟩ := xbd_inv h
    refine TL_X11_keep_29 0 σ (by omega) he14 (fun z1 => ?_)
    refine xX_blk (w := xw_117) eT_117 6 50 (ls' := [.ref 141, .null]) (st' := [.int ((e14 141 3) + 1), .ref 141]) (σ' := e14) rfl ?_
    refine xX_blk (w := xw_117) eT_117 1 56 (ls' := [.ref 141, .null]) (st' := []) (σ' := xup e14 141 3 ((e14 141 3) + 1)) rfl ?_
    obtain ⟨σ15, eσ15, h⟩ := xlet_inv h
    rw [← eσ15]
    obtain rfl := Option.some.inj h
    exact xX_ret (w := xw_117) (i := 57) eT_117 rfl rfl
