set_option maxRecDepth 100000 in
theorem xa_0 : xAR (xRow RX0 cX0_carryOut 5 (some .int) xp_0) xw_0 := by
  unfold xw_0
  exact xcn (rO (s_iload_n (k := 1) (by decide +kernel))) <|
    xcn (rJ (s_tsw (dflt := 174) (hi := 120) (offs := #[111, 174, 174, 156, 174, 174, 174, 174, 174, 174, 174, 117, 133, 174, 147, 140, 174, 174, 126, 168, 174, 174, 174, 162]) (len := 111) (by decide +kernel) (by decide) (by decide +kernel) (by decide +kernel))) <|
    xcn (rO (s_aload_n (k := 0) (by decide +kernel))) <|
    xcn (rO (s_iload_n (k := 2) (by decide +kernel))) <|
    xcn (rC (s_cV (index := 23) wb_1 wm_X0_23 (by decide +kernel))) <|
    xcn (rR (s_ret1 (by decide +kernel))) <|
    xcn (rO (s_aload_n (k := 0) (by decide +kernel))) <|
    xcn (rO (s_iload_n (k := 2) (by decide +kernel))) <|
    xcn (rO (s_iload_n (k := 3) (by decide +kernel))) <|
    xcn (rO (s_iload (k := 4) (by decide +kernel))) <|
    xcn (rC (s_cV (index := 27) wb_3 wm_X0_27 (by decide +kernel))) <|
    xcn (rR (s_ret1 (by decide +kernel))) <|
    xcn (rO (s_aload_n (k := 0) (by decide +kernel))) <|
    xcn (rO (s_iload_n (k := 2) (by decide +kernel))) <|
    xcn (rO (s_iload_n (k := 3) (by decide +kernel))) <|
    xcn (rC (s_cV (index := 31) wb_5 wm_X0_31 (by decide +kernel))) <|
    xcn (rR (s_ret1 (by decide +kernel))) <|
    xcn (rO (s_aload_n (k := 0) (by decide +kernel))) <|
    xcn (rO (s_iload_n (k := 2) (by decide +kernel))) <|
    xcn (rO (s_iload_n (k := 3) (by decide +kernel))) <|
    xcn (rC (s_cV (index := 35) wb_4 wm_X0_35 (by decide +kernel))) <|
    xcn (rR (s_ret1 (by decide +kernel))) <|
    xcn (rO (s_aload_n (k := 0) (by decide +kernel))) <|
    xcn (rO (s_iload_n (k := 2) (by decide +kernel))) <|
    xcn (rO (s_iload_n (k := 3) (by decide +kernel))) <|
    xcn (rC (s_cV (index := 38) wb_7 wm_X0_38 (by decide +kernel))) <|
    xcn (rR (s_ret1 (by decide +kernel))) <|
    xcn (rO (s_aload_n (k := 0) (by decide +kernel))) <|
    xcn (rO (s_iload_n (k := 2) (by decide +kernel))) <|
    xcn (rO (s_iload_n (k := 3) (by decide +kernel))) <|
    xcn (rO (s_iload (k := 4) (by decide +kernel))) <|
    xcn (rC (s_cV (index := 41) wb_10 wm_X0_41 (by decide +kernel))) <|
    xcn (rR (s_ret1 (by decide +kernel))) <|
    xcn (rO (s_aload_n (k := 0) (by decide +kernel))) <|
    xcn (rO (s_iload_n (k := 2) (by decide +kernel))) <|
    xcn (rC (s_cV (index := 44) wb_8 wm_X0_44 (by decide +kernel))) <|
    xcn (rR (s_ret1 (by decide +kernel))) <|
    xcn (rO (s_aload_n (k := 0) (by decide +kernel))) <|
    xcn (rO (s_iload_n (k := 2) (by decide +kernel))) <|
    xcn (rC (s_cV (index := 47) wb_9 wm_X0_47 (by decide +kernel))) <|
    xcn (rR (s_ret1 (by decide +kernel))) <|
    xcn (rO (s_aload_n (k := 0) (by decide +kernel))) <|
    xcn (rO (s_iload_n (k := 2) (by decide +kernel))) <|
    xcn (rC (s_cV (index := 50) wb_13 wm_X0_50 (by decide +kernel))) <|
    xcn (rR (s_ret1 (by decide +kernel))) <|
    xcn (rO (s_bipush (n := (-2)) (by decide +kernel) (by decide))) <|
    xcn (rR (s_ret1 (by decide +kernel))) <| xnl
theorem xv_0 : xMd (xw_0, xp_0, yX0_carryOut, cX0_carryOut, 5, some .int) := ⟨by decide +kernel, rfl, by decide +kernel, by decide +kernel, xa_0⟩
set_option maxRecDepth 100000 in
theorem xa_1 : xAR (xRow RX0 cX0_addArea 2 (some .int) xp_1) xw_1 := by
  unfold xw_1
  exact xcn (rO (s_iload_n (k := 1) (by decide +kernel))) <|
    xcn (rO (s_iconst (n := 0) (by decide +kernel) (by decide))) <|
    xcn (rO (s_bipush (n := 99) (by decide +kernel) (by decide))) <|
    xcn (rC (s_cN (index := 53) wb_114 (by decide +kernel) (by decide +kernel))) <|
    xcn (rJ (s_if_ne (off := 6) (by decide +kernel) (by decide +kernel) (by decide +kernel))) <|
    xcn (rO (s_bipush (n := (-2)) (by decide +kernel) (by decide))) <|
    xcn (rR (s_ret1 (by decide +kernel))) <|
    xcn (rO (s_aload_n (k := 0) (by decide +kernel))) <|
    xcn (rO (s_get (T := TX0) (N := 3) (index := 9) x_iw0 rfl (by decide) wf_X0_9 rfl (by decide +kernel))) <|
    xcn (rO (s_get (T := TX9) (N := 7) (index := 57) x_iw9 rfl (by decide) wf_X0_57 rfl (by decide +kernel))) <|
    xcn (rO (s_get (T := TX1) (N := 6) (index := 63) x_iw1 rfl (by decide) wf_X0_63 rfl (by decide +kernel))) <|
    xcn (rO (s_bipush (n := 8) (by decide +kernel) (by decide))) <|
    xcn (rJ (s_ic_lt (off := 8) (by decide +kernel) (by decide +kernel) (by decide +kernel))) <|
    xcn (rO (s_bipush (n := (-4)) (by decide +kernel) (by decide))) <|
    xcn (rJ (s_goto (off := 14) (by decide +kernel) (by decide +kernel))) <|
    xcn (rO (s_aload_n (k := 0) (by decide +kernel))) <|
    xcn (rO (s_get (T := TX0) (N := 3) (index := 9) x_iw0 rfl (by decide) wf_X0_9 rfl (by decide +kernel))) <|
    xcn (rO (s_get (T := TX9) (N := 7) (index := 57) x_iw9 rfl (by decide) wf_X0_57 rfl (by decide +kernel))) <|
    xcn (rO (s_iload_n (k := 1) (by decide +kernel))) <|
    xcn (rC (s_cV (index := 69) wb_19 wm_X0_69 (by decide +kernel))) <|
    xcn (rR (s_ret1 (by decide +kernel))) <| xnl
theorem xv_1 : xMd (xw_1, xp_1, yX0_addArea, cX0_addArea, 2, some .int) := ⟨by decide +kernel, rfl, by decide +kernel, by decide +kernel, xa_1⟩
set_option maxRecDepth 100000 in
theorem xa_2 : xAR (xRow RX0 cX0_setDemand 4 (some .int) xp_2) xw_2 := by
  unfold xw_2
  exact xcn (rO (s_aload_n (k := 0) (by decide +kernel))) <|
    xcn (rO (s_get (T := TX0) (N := 3) (index := 9) x_iw0 rfl (by decide) wf_X0_9 rfl (by decide +kernel))) <|
    xcn (rO (s_get (T := TX9) (N := 7) (index := 57) x_iw9 rfl (by decide) wf_X0_57 rfl (by decide +kernel))) <|
    xcn (rO (s_iload_n (k := 1) (by decide +kernel))) <|
    xcn (rC (s_cV (index := 72) wb_18 wm_X0_72 (by decide +kernel))) <|
    xcn (rJ (s_if_eq (off := 13) (by decide +kernel) (by decide +kernel) (by decide +kernel))) <|
    xcn (rO (s_iload_n (k := 2) (by decide +kernel))) <|
    xcn (rO (s_iconst (n := 0) (by decide +kernel) (by decide))) <|
    xcn (rO (s_bipush (n := 99) (by decide +kernel) (by decide))) <|
    xcn (rC (s_cN (index := 53) wb_114 (by decide +kernel) (by decide +kernel))) <|
    xcn (rJ (s_if_ne (off := 6) (by decide +kernel) (by decide +kernel) (by decide +kernel))) <|
    xcn (rO (s_bipush (n := (-2)) (by decide +kernel) (by decide))) <|
    xcn (rR (s_ret1 (by decide +kernel))) <|
    xcn (rO (s_aload_n (k := 0) (by decide +kernel))) <|
    xcn (rO (s_get (T := TX0) (N := 3) (index := 9) x_iw0 rfl (by decide) wf_X0_9 rfl (by decide +kernel))) <|
    xcn (rO (s_get (T := TX9) (N := 7) (index := 57) x_iw9 rfl (by decide) wf_X0_57 rfl (by decide +kernel))) <|
    xcn (rO (s_get (T := TX1) (N := 6) (index := 76) x_iw1 rfl (by decide) wf_X0_76 rfl (by decide +kernel))) <|
    xcn (rO (s_iload_n (k := 1) (by decide +kernel))) <|
    xcn (rO (s_iald (by decide +kernel))) <|
    xcn (rO (s_istore_n (k := 3) (by decide) (by decide +kernel))) <|
    xcn (rO (s_aload_n (k := 0) (by decide +kernel))) <|
    xcn (rO (s_get (T := TX0) (N := 3) (index := 9) x_iw0 rfl (by decide) wf_X0_9 rfl (by decide +kernel))) <|
    xcn (rO (s_get (T := TX9) (N := 7) (index := 57) x_iw9 rfl (by decide) wf_X0_57 rfl (by decide +kernel))) <|
    xcn (rO (s_get (T := TX1) (N := 6) (index := 76) x_iw1 rfl (by decide) wf_X0_76 rfl (by decide +kernel))) <|
    xcn (rO (s_iload_n (k := 1) (by decide +kernel))) <|
    xcn (rO (s_iload_n (k := 2) (by decide +kernel))) <|
    xcn (rO (s_iast (by decide +kernel))) <|
    xcn (rO (s_iload_n (k := 3) (by decide +kernel))) <|
    xcn (rR (s_ret1 (by decide +kernel))) <| xnl
theorem xv_2 : xMd (xw_2, xp_2, yX0_setDemand, cX0_setDemand, 4, some .int) := ⟨by decide +kernel, rfl, by decide +kernel, by decide +kernel, xa_2⟩
set_option maxRecDepth 100000 in
theorem xa_3 : xAR (xRow RX0 cX0_setLine 5 (some .int) xp_3) xw_3 := by
  unfold xw_3
  exact xcn (rO (s_aload_n (k := 0) (by decide +kernel))) <|
    xcn (rO (s_get (T := TX0) (N := 3) (index := 9) x_iw0 rfl (by decide) wf_X0_9 rfl (by decide +kernel))) <|
    xcn (rO (s_get (T := TX9) (N := 7) (index := 57) x_iw9 rfl (by decide) wf_X0_57 rfl (by decide +kernel))) <|
    xcn (rO (s_iload_n (k := 1) (by decide +kernel))) <|
    xcn (rC (s_cV (index := 72) wb_18 wm_X0_72 (by decide +kernel))) <|
    xcn (rJ (s_if_eq (off := 32) (by decide +kernel) (by decide +kernel) (by decide +kernel))) <|
    xcn (rO (s_aload_n (k := 0) (by decide +kernel))) <|
    xcn (rO (s_get (T := TX0) (N := 3) (index := 9) x_iw0 rfl (by decide) wf_X0_9 rfl (by decide +kernel))) <|
    xcn (rO (s_get (T := TX9) (N := 7) (index := 57) x_iw9 rfl (by decide) wf_X0_57 rfl (by decide +kernel))) <|
    xcn (rO (s_iload_n (k := 2) (by decide +kernel))) <|
    xcn (rC (s_cV (index := 72) wb_18 wm_X0_72 (by decide +kernel))) <|
    xcn (rJ (s_if_eq (off := 18) (by decide +kernel) (by decide +kernel) (by decide +kernel))) <|
    xcn (rO (s_iload_n (k := 1) (by decide +kernel))) <|
    xcn (rO (s_iload_n (k := 2) (by decide +kernel))) <|
    xcn (rJ (s_ic_eq (off := 13) (by decide +kernel) (by decide +kernel) (by decide +kernel))) <|
    xcn (rO (s_iload_n (k := 3) (by decide +kernel))) <|
    xcn (rO (s_iconst (n := 0) (by decide +kernel) (by decide))) <|
    xcn (rO (s_bipush (n := 9) (by decide +kernel) (by decide))) <|
    xcn (rC (s_cN (index := 53) wb_114 (by decide +kernel) (by decide +kernel))) <|
    xcn (rJ (s_if_ne (off := 6) (by decide +kernel) (by decide +kernel) (by decide +kernel))) <|
    xcn (rO (s_bipush (n := (-2)) (by decide +kernel) (by decide))) <|
    xcn (rR (s_ret1 (by decide +kernel))) <|
    xcn (rO (s_aload_n (k := 0) (by decide +kernel))) <|
    xcn (rO (s_get (T := TX0) (N := 3) (index := 9) x_iw0 rfl (by decide) wf_X0_9 rfl (by decide +kernel))) <|
    xcn (rO (s_get (T := TX9) (N := 7) (index := 57) x_iw9 rfl (by decide) wf_X0_57 rfl (by decide +kernel))) <|
    xcn (rO (s_iload_n (k := 1) (by decide +kernel))) <|
    xcn (rO (s_iload_n (k := 2) (by decide +kernel))) <|
    xcn (rC (s_cV (index := 80) wb_20 wm_X0_80 (by decide +kernel))) <|
    xcn (rO (s_istore (k := 4) (by decide) (by decide +kernel))) <|
    xcn (rO (s_aload_n (k := 0) (by decide +kernel))) <|
    xcn (rO (s_get (T := TX0) (N := 3) (index := 9) x_iw0 rfl (by decide) wf_X0_9 rfl (by decide +kernel))) <|
    xcn (rO (s_get (T := TX9) (N := 7) (index := 57) x_iw9 rfl (by decide) wf_X0_57 rfl (by decide +kernel))) <|
    xcn (rO (s_iload_n (k := 1) (by decide +kernel))) <|
    xcn (rO (s_iload_n (k := 2) (by decide +kernel))) <|
    xcn (rO (s_iload_n (k := 3) (by decide +kernel))) <|
    xcn (rC (s_cV (index := 83) wb_22 wm_X0_83 (by decide +kernel))) <|
    xcn (rO (s_iload (k := 4) (by decide +kernel))) <|
    xcn (rR (s_ret1 (by decide +kernel))) <| xnl
theorem xv_3 : xMd (xw_3, xp_3, yX0_setLine, cX0_setLine, 5, some .int) := ⟨by decide +kernel, rfl, by decide +kernel, by decide +kernel, xa_3⟩
set_option maxRecDepth 100000 in
theorem xa_4 : xAR (xRow RX0 cX0_setMood 4 (some .int) xp_4) xw_4 := by
  unfold xw_4
  exact xcn (rO (s_aload_n (k := 0) (by decide +kernel))) <|
    xcn (rO (s_get (T := TX0) (N := 3) (index := 9) x_iw0 rfl (by decide) wf_X0_9 rfl (by decide +kernel))) <|
    xcn (rO (s_get (T := TX9) (N := 7) (index := 57) x_iw9 rfl (by decide) wf_X0_57 rfl (by decide +kernel))) <|
    xcn (rO (s_iload_n (k := 1) (by decide +kernel))) <|
    xcn (rC (s_cV (index := 72) wb_18 wm_X0_72 (by decide +kernel))) <|
    xcn (rJ (s_if_eq (off := 12) (by decide +kernel) (by decide +kernel) (by decide +kernel))) <|
    xcn (rO (s_iload_n (k := 2) (by decide +kernel))) <|
    xcn (rO (s_iconst (n := 0) (by decide +kernel) (by decide))) <|
    xcn (rO (s_iconst (n := 2) (by decide +kernel) (by decide))) <|
    xcn (rC (s_cN (index := 53) wb_114 (by decide +kernel) (by decide +kernel))) <|
    xcn (rJ (s_if_ne (off := 6) (by decide +kernel) (by decide +kernel) (by decide +kernel))) <|
    xcn (rO (s_bipush (n := (-2)) (by decide +kernel) (by decide))) <|
    xcn (rR (s_ret1 (by decide +kernel))) <|
    xcn (rO (s_aload_n (k := 0) (by decide +kernel))) <|
    xcn (rO (s_get (T := TX0) (N := 3) (index := 9) x_iw0 rfl (by decide) wf_X0_9 rfl (by decide +kernel))) <|
    xcn (rO (s_get (T := TX9) (N := 7) (index := 57) x_iw9 rfl (by decide) wf_X0_57 rfl (by decide +kernel))) <|
    xcn (rO (s_get (T := TX1) (N := 6) (index := 87) x_iw1 rfl (by decide) wf_X0_87 rfl (by decide +kernel))) <|
    xcn (rO (s_iload_n (k := 1) (by decide +kernel))) <|
    xcn (rO (s_iald (by decide +kernel))) <|
    xcn (rO (s_istore_n (k := 3) (by decide) (by decide +kernel))) <|
    xcn (rO (s_iload_n (k := 2) (by decide +kernel))) <|
    xcn (rO (s_iconst (n := 2) (by decide +kernel) (by decide))) <|
    xcn (rJ (s_ic_ne (off := 28) (by decide +kernel) (by decide +kernel) (by decide +kernel))) <|
    xcn (rO (s_iload_n (k := 3) (by decide +kernel))) <|
    xcn (rO (s_iconst (n := 2) (by decide +kernel) (by decide))) <|
    xcn (rJ (s_ic_eq (off := 23) (by decide +kernel) (by decide +kernel) (by decide +kernel))) <|
    xcn (rO (s_aload_n (k := 0) (by decide +kernel))) <|
    xcn (rO (s_get (T := TX0) (N := 3) (index := 9) x_iw0 rfl (by decide) wf_X0_9 rfl (by decide +kernel))) <|
    xcn (rO (s_get (T := TX9) (N := 7) (index := 57) x_iw9 rfl (by decide) wf_X0_57 rfl (by decide +kernel))) <|
    xcn (rO (s_get (T := TX1) (N := 6) (index := 90) x_iw1 rfl (by decide) wf_X0_90 rfl (by decide +kernel))) <|
    xcn (rO (s_iload_n (k := 1) (by decide +kernel))) <|
    xcn (rO (s_aload_n (k := 0) (by decide +kernel))) <|
    xcn (rO (s_get (T := TX0) (N := 3) (index := 15) x_iw0 rfl (by decide) wf_X0_15 rfl (by decide +kernel))) <|
    xcn (rO (s_iload_n (k := 1) (by decide +kernel))) <|
    xcn (rC (s_cV (index := 93) wb_39 wm_X0_93 (by decide +kernel))) <|
    xcn (rO (s_iast (by decide +kernel))) <|
    xcn (rO (s_aload_n (k := 0) (by decide +kernel))) <|
    xcn (rO (s_get (T := TX0) (N := 3) (index := 9) x_iw0 rfl (by decide) wf_X0_9 rfl (by decide +kernel))) <|
    xcn (rO (s_get (T := TX9) (N := 7) (index := 57) x_iw9 rfl (by decide) wf_X0_57 rfl (by decide +kernel))) <|
    xcn (rO (s_get (T := TX1) (N := 6) (index := 87) x_iw1 rfl (by decide) wf_X0_87 rfl (by decide +kernel))) <|
    xcn (rO (s_iload_n (k := 1) (by decide +kernel))) <|
    xcn (rO (s_iload_n (k := 2) (by decide +kernel))) <|
    xcn (rO (s_iast (by decide +kernel))) <|
    xcn (rO (s_iload_n (k := 3) (by decide +kernel))) <|
    xcn (rR (s_ret1 (by decide +kernel))) <| xnl
theorem xv_4 : xMd (xw_4, xp_4, yX0_setMood, cX0_setMood, 4, some .int) := ⟨by decide +kernel, rfl, by decide +kernel, by decide +kernel, xa_4⟩
set_option maxRecDepth 100000 in
theorem xa_5 : xAR (xRow RX0 cX0_addSite 3 (some .int) xp_5) xw_5 := by
  unfold xw_5
  exact xcn (rO (s_aload_n (k := 0) (by decide +kernel))) <|
    xcn (rO (s_get (T := TX0) (N := 3) (index := 9) x_iw0 rfl (by decide) wf_X0_9 rfl (by decide +kernel))) <|
    xcn (rO (s_get (T := TX9) (N := 7) (index := 57) x_iw9 rfl (by decide) wf_X0_57 rfl (by decide +kernel))) <|
    xcn (rO (s_iload_n (k := 1) (by decide +kernel))) <|
    xcn (rC (s_cV (index := 72) wb_18 wm_X0_72 (by decide +kernel))) <|
    xcn (rJ (s_if_eq (off := 14) (by decide +kernel) (by decide +kernel) (by decide +kernel))) <|
    xcn (rO (s_iload_n (k := 2) (by decide +kernel))) <|
    xcn (rO (s_iconst (n := 0) (by decide +kernel) (by decide))) <|
    xcn (rO (s_sipush (n := 999) (by decide +kernel) (by decide))) <|
    xcn (rC (s_cN (index := 53) wb_114 (by decide +kernel) (by decide +kernel))) <|
    xcn (rJ (s_if_ne (off := 6) (by decide +kernel) (by decide +kernel) (by decide +kernel))) <|
    xcn (rO (s_bipush (n := (-2)) (by decide +kernel) (by decide))) <|
    xcn (rR (s_ret1 (by decide +kernel))) <|
    xcn (rO (s_aload_n (k := 0) (by decide +kernel))) <|
    xcn (rO (s_get (T := TX0) (N := 3) (index := 9) x_iw0 rfl (by decide) wf_X0_9 rfl (by decide +kernel))) <|
    xcn (rO (s_get (T := TX9) (N := 7) (index := 98) x_iw9 rfl (by decide) wf_X0_98 rfl (by decide +kernel))) <|
    xcn (rO (s_get (T := TX8) (N := 7) (index := 102) x_iw8 rfl (by decide) wf_X0_102 rfl (by decide +kernel))) <|
    xcn (rO (s_iconst (n := 5) (by decide +kernel) (by decide))) <|
    xcn (rJ (s_ic_lt (off := 8) (by decide +kernel) (by decide +kernel) (by decide +kernel))) <|
    xcn (rO (s_bipush (n := (-4)) (by decide +kernel) (by decide))) <|
    xcn (rJ (s_goto (off := 15) (by decide +kernel) (by decide +kernel))) <|
    xcn (rO (s_aload_n (k := 0) (by decide +kernel))) <|
    xcn (rO (s_get (T := TX0) (N := 3) (index := 9) x_iw0 rfl (by decide) wf_X0_9 rfl (by decide +kernel))) <|
    xcn (rO (s_get (T := TX9) (N := 7) (index := 98) x_iw9 rfl (by decide) wf_X0_98 rfl (by decide +kernel))) <|
    xcn (rO (s_iload_n (k := 1) (by decide +kernel))) <|
    xcn (rO (s_iload_n (k := 2) (by decide +kernel))) <|
    xcn (rC (s_cV (index := 105) wb_69 wm_X0_105 (by decide +kernel))) <|
    xcn (rR (s_ret1 (by decide +kernel))) <| xnl
theorem xv_5 : xMd (xw_5, xp_5, yX0_addSite, cX0_addSite, 3, some .int) := ⟨by decide +kernel, rfl, by decide +kernel, by decide +kernel, xa_5⟩
set_option maxRecDepth 100000 in
theorem xa_6 : xAR (xRow RX0 cX0_setRoom 4 (some .int) xp_6) xw_6 := by
  unfold xw_6
  exact xcn (rO (s_aload_n (k := 0) (by decide +kernel))) <|
    xcn (rO (s_get (T := TX0) (N := 3) (index := 9) x_iw0 rfl (by decide) wf_X0_9 rfl (by decide +kernel))) <|
    xcn (rO (s_get (T := TX9) (N := 7) (index := 98) x_iw9 rfl (by decide) wf_X0_98 rfl (by decide +kernel))) <|
    xcn (rO (s_iload_n (k := 1) (by decide +kernel))) <|
    xcn (rC (s_cV (index := 107) wb_68 wm_X0_107 (by decide +kernel))) <|
    xcn (rJ (s_if_eq (off := 14) (by decide +kernel) (by decide +kernel) (by decide +kernel))) <|
    xcn (rO (s_iload_n (k := 2) (by decide +kernel))) <|
    xcn (rO (s_iconst (n := 0) (by decide +kernel) (by decide))) <|
    xcn (rO (s_sipush (n := 999) (by decide +kernel) (by decide))) <|
    xcn (rC (s_cN (index := 53) wb_114 (by decide +kernel) (by decide +kernel))) <|
    xcn (rJ (s_if_ne (off := 6) (by decide +kernel) (by decide +kernel) (by decide +kernel))) <|
    xcn (rO (s_bipush (n := (-2)) (by decide +kernel) (by decide))) <|
    xcn (rR (s_ret1 (by decide +kernel))) <|
    xcn (rO (s_aload_n (k := 0) (by decide +kernel))) <|
    xcn (rO (s_get (T := TX0) (N := 3) (index := 9) x_iw0 rfl (by decide) wf_X0_9 rfl (by decide +kernel))) <|
    xcn (rO (s_get (T := TX9) (N := 7) (index := 98) x_iw9 rfl (by decide) wf_X0_98 rfl (by decide +kernel))) <|
    xcn (rO (s_get (T := TX8) (N := 7) (index := 108) x_iw8 rfl (by decide) wf_X0_108 rfl (by decide +kernel))) <|
    xcn (rO (s_iload_n (k := 1) (by decide +kernel))) <|
    xcn (rO (s_iald (by decide +kernel))) <|
    xcn (rO (s_istore_n (k := 3) (by decide) (by decide +kernel))) <|
    xcn (rO (s_aload_n (k := 0) (by decide +kernel))) <|
    xcn (rO (s_get (T := TX0) (N := 3) (index := 9) x_iw0 rfl (by decide) wf_X0_9 rfl (by decide +kernel))) <|
    xcn (rO (s_get (T := TX9) (N := 7) (index := 98) x_iw9 rfl (by decide) wf_X0_98 rfl (by decide +kernel))) <|
    xcn (rO (s_get (T := TX8) (N := 7) (index := 108) x_iw8 rfl (by decide) wf_X0_108 rfl (by decide +kernel))) <|
    xcn (rO (s_iload_n (k := 1) (by decide +kernel))) <|
    xcn (rO (s_iload_n (k := 2) (by decide +kernel))) <|
    xcn (rO (s_iast (by decide +kernel))) <|
    xcn (rO (s_iload_n (k := 3) (by decide +kernel))) <|
    xcn (rR (s_ret1 (by decide +kernel))) <| xnl
theorem xv_6 : xMd (xw_6, xp_6, yX0_setRoom, cX0_setRoom, 4, some .int) := ⟨by decide +kernel, rfl, by decide +kernel, by decide +kernel, xa_6⟩
set_option maxRecDepth 100000 in
theorem xa_7 : xAR (xRow RX0 cX0_setStep 4 (some .int) xp_7) xw_7 := by
  unfold xw_7
  exact xcn (rO (s_aload_n (k := 0) (by decide +kernel))) <|
    xcn (rO (s_get (T := TX0) (N := 3) (index := 9) x_iw0 rfl (by decide) wf_X0_9 rfl (by decide +kernel))) <|
    xcn (rO (s_get (T := TX9) (N := 7) (index := 98) x_iw9 rfl (by decide) wf_X0_98 rfl (by decide +kernel))) <|
    xcn (rO (s_iload_n (k := 1) (by decide +kernel))) <|
    xcn (rC (s_cV (index := 107) wb_68 wm_X0_107 (by decide +kernel))) <|
    xcn (rJ (s_if_eq (off := 12) (by decide +kernel) (by decide +kernel) (by decide +kernel))) <|
    xcn (rO (s_iload_n (k := 2) (by decide +kernel))) <|
    xcn (rO (s_iconst (n := 0) (by decide +kernel) (by decide))) <|
    xcn (rO (s_iconst (n := 4) (by decide +kernel) (by decide))) <|
    xcn (rC (s_cN (index := 53) wb_114 (by decide +kernel) (by decide +kernel))) <|
    xcn (rJ (s_if_ne (off := 6) (by decide +kernel) (by decide +kernel) (by decide +kernel))) <|
    xcn (rO (s_bipush (n := (-2)) (by decide +kernel) (by decide))) <|
    xcn (rR (s_ret1 (by decide +kernel))) <|
    xcn (rO (s_aload_n (k := 0) (by decide +kernel))) <|
    xcn (rO (s_get (T := TX0) (N := 3) (index := 9) x_iw0 rfl (by decide) wf_X0_9 rfl (by decide +kernel))) <|
    xcn (rO (s_get (T := TX9) (N := 7) (index := 98) x_iw9 rfl (by decide) wf_X0_98 rfl (by decide +kernel))) <|
    xcn (rO (s_get (T := TX8) (N := 7) (index := 111) x_iw8 rfl (by decide) wf_X0_111 rfl (by decide +kernel))) <|
    xcn (rO (s_iload_n (k := 1) (by decide +kernel))) <|
    xcn (rO (s_iald (by decide +kernel))) <|
    xcn (rJ (s_if_eq (off := 6) (by decide +kernel) (by decide +kernel) (by decide +kernel))) <|
    xcn (rO (s_bipush (n := (-3)) (by decide +kernel) (by decide))) <|
    xcn (rR (s_ret1 (by decide +kernel))) <|
    xcn (rO (s_aload_n (k := 0) (by decide +kernel))) <|
    xcn (rO (s_get (T := TX0) (N := 3) (index := 9) x_iw0 rfl (by decide) wf_X0_9 rfl (by decide +kernel))) <|
    xcn (rO (s_get (T := TX9) (N := 7) (index := 98) x_iw9 rfl (by decide) wf_X0_98 rfl (by decide +kernel))) <|
    xcn (rO (s_get (T := TX8) (N := 7) (index := 114) x_iw8 rfl (by decide) wf_X0_114 rfl (by decide +kernel))) <|
    xcn (rO (s_iload_n (k := 1) (by decide +kernel))) <|
    xcn (rO (s_iald (by decide +kernel))) <|
    xcn (rO (s_istore_n (k := 3) (by decide) (by decide +kernel))) <|
    xcn (rO (s_aload_n (k := 0) (by decide +kernel))) <|
    xcn (rO (s_get (T := TX0) (N := 3) (index := 9) x_iw0 rfl (by decide) wf_X0_9 rfl (by decide +kernel))) <|
    xcn (rO (s_get (T := TX9) (N := 7) (index := 98) x_iw9 rfl (by decide) wf_X0_98 rfl (by decide +kernel))) <|
    xcn (rO (s_get (T := TX8) (N := 7) (index := 114) x_iw8 rfl (by decide) wf_X0_114 rfl (by decide +kernel))) <|
    xcn (rO (s_iload_n (k := 1) (by decide +kernel))) <|
    xcn (rO (s_iload_n (k := 2) (by decide +kernel))) <|
    xcn (rO (s_iast (by decide +kernel))) <|
    xcn (rO (s_iload_n (k := 3) (by decide +kernel))) <|
    xcn (rR (s_ret1 (by decide +kernel))) <| xnl
theorem xv_7 : xMd (xw_7, xp_7, yX0_setStep, cX0_setStep, 4, some .int) := ⟨by decide +kernel, rfl, by decide +kernel, by decide +kernel, xa_7⟩
set_option maxRecDepth 100000 in
theorem xa_8 : xAR (xRow RX0 cX0_startDrain 2 (some .int) xp_8) xw_8 := by
  unfold xw_8
  exact xcn (rO (s_aload_n (k := 0) (by decide +kernel))) <|
    xcn (rO (s_get (T := TX0) (N := 3) (index := 9) x_iw0 rfl (by decide) wf_X0_9 rfl (by decide +kernel))) <|
    xcn (rO (s_get (T := TX9) (N := 7) (index := 98) x_iw9 rfl (by decide) wf_X0_98 rfl (by decide +kernel))) <|
    xcn (rO (s_iload_n (k := 1) (by decide +kernel))) <|
    xcn (rC (s_cV (index := 107) wb_68 wm_X0_107 (by decide +kernel))) <|
    xcn (rJ (s_if_ne (off := 6) (by decide +kernel) (by decide +kernel) (by decide +kernel))) <|
    xcn (rO (s_bipush (n := (-2)) (by decide +kernel) (by decide))) <|
    xcn (rR (s_ret1 (by decide +kernel))) <|
    xcn (rO (s_aload_n (k := 0) (by decide +kernel))) <|
    xcn (rO (s_get (T := TX0) (N := 3) (index := 9) x_iw0 rfl (by decide) wf_X0_9 rfl (by decide +kernel))) <|
    xcn (rO (s_get (T := TX9) (N := 7) (index := 98) x_iw9 rfl (by decide) wf_X0_98 rfl (by decide +kernel))) <|
    xcn (rO (s_get (T := TX8) (N := 7) (index := 111) x_iw8 rfl (by decide) wf_X0_111 rfl (by decide +kernel))) <|
    xcn (rO (s_iload_n (k := 1) (by decide +kernel))) <|
    xcn (rO (s_iald (by decide +kernel))) <|
    xcn (rJ (s_if_eq (off := 6) (by decide +kernel) (by decide +kernel) (by decide +kernel))) <|
    xcn (rO (s_bipush (n := (-3)) (by decide +kernel) (by decide))) <|
    xcn (rR (s_ret1 (by decide +kernel))) <|
    xcn (rO (s_aload_n (k := 0) (by decide +kernel))) <|
    xcn (rO (s_get (T := TX0) (N := 3) (index := 9) x_iw0 rfl (by decide) wf_X0_9 rfl (by decide +kernel))) <|
    xcn (rO (s_get (T := TX9) (N := 7) (index := 98) x_iw9 rfl (by decide) wf_X0_98 rfl (by decide +kernel))) <|
    xcn (rO (s_iload_n (k := 1) (by decide +kernel))) <|
    xcn (rC (s_cV (index := 117) wb_72 wm_X0_117 (by decide +kernel))) <|
    xcn (rO (s_aload_n (k := 0) (by decide +kernel))) <|
    xcn (rO (s_get (T := TX0) (N := 3) (index := 9) x_iw0 rfl (by decide) wf_X0_9 rfl (by decide +kernel))) <|
    xcn (rO (s_get (T := TX9) (N := 7) (index := 98) x_iw9 rfl (by decide) wf_X0_98 rfl (by decide +kernel))) <|
    xcn (rO (s_get (T := TX8) (N := 7) (index := 121) x_iw8 rfl (by decide) wf_X0_121 rfl (by decide +kernel))) <|
    xcn (rR (s_ret1 (by decide +kernel))) <| xnl
theorem xv_8 : xMd (xw_8, xp_8, yX0_startDrain, cX0_startDrain, 2, some .int) := ⟨by decide +kernel, rfl, by decide +kernel, by decide +kernel, xa_8⟩
set_option maxRecDepth 100000 in
theorem xa_9 : xAR (xRow RX0 cX0_switchSite 2 (some .int) xp_9) xw_9 := by
  unfold xw_9
  exact xcn (rO (s_aload_n (k := 0) (by decide +kernel))) <|
    xcn (rO (s_get (T := TX0) (N := 3) (index := 9) x_iw0 rfl (by decide) wf_X0_9 rfl (by decide +kernel))) <|
    xcn (rO (s_get (T := TX9) (N := 7) (index := 98) x_iw9 rfl (by decide) wf_X0_98 rfl (by decide +kernel))) <|
    xcn (rO (s_iload_n (k := 1) (by decide +kernel))) <|
    xcn (rC (s_cV (index := 107) wb_68 wm_X0_107 (by decide +kernel))) <|
    xcn (rJ (s_if_ne (off := 6) (by decide +kernel) (by decide +kernel) (by decide +kernel))) <|
    xcn (rO (s_bipush (n := (-2)) (by decide +kernel) (by decide))) <|
    xcn (rR (s_ret1 (by decide +kernel))) <|
    xcn (rO (s_aload_n (k := 0) (by decide +kernel))) <|
    xcn (rO (s_get (T := TX0) (N := 3) (index := 9) x_iw0 rfl (by decide) wf_X0_9 rfl (by decide +kernel))) <|
    xcn (rO (s_get (T := TX9) (N := 7) (index := 98) x_iw9 rfl (by decide) wf_X0_98 rfl (by decide +kernel))) <|
    xcn (rO (s_get (T := TX8) (N := 7) (index := 111) x_iw8 rfl (by decide) wf_X0_111 rfl (by decide +kernel))) <|
    xcn (rO (s_iload_n (k := 1) (by decide +kernel))) <|
    xcn (rO (s_iald (by decide +kernel))) <|
    xcn (rO (s_iconst (n := 2) (by decide +kernel) (by decide))) <|
    xcn (rJ (s_ic_ne (off := 17) (by decide +kernel) (by decide +kernel) (by decide +kernel))) <|
    xcn (rO (s_aload_n (k := 0) (by decide +kernel))) <|
    xcn (rO (s_get (T := TX0) (N := 3) (index := 9) x_iw0 rfl (by decide) wf_X0_9 rfl (by decide +kernel))) <|
    xcn (rO (s_get (T := TX9) (N := 7) (index := 98) x_iw9 rfl (by decide) wf_X0_98 rfl (by decide +kernel))) <|
    xcn (rO (s_iload_n (k := 1) (by decide +kernel))) <|
    xcn (rC (s_cV (index := 124) wb_73 wm_X0_124 (by decide +kernel))) <|
    xcn (rJ (s_goto (off := 14) (by decide +kernel) (by decide +kernel))) <|
    xcn (rO (s_aload_n (k := 0) (by decide +kernel))) <|
    xcn (rO (s_get (T := TX0) (N := 3) (index := 9) x_iw0 rfl (by decide) wf_X0_9 rfl (by decide +kernel))) <|
    xcn (rO (s_get (T := TX9) (N := 7) (index := 98) x_iw9 rfl (by decide) wf_X0_98 rfl (by decide +kernel))) <|
    xcn (rO (s_iload_n (k := 1) (by decide +kernel))) <|
    xcn (rC (s_cV (index := 127) wb_74 wm_X0_127 (by decide +kernel))) <|
    xcn (rO (s_aload_n (k := 0) (by decide +kernel))) <|
    xcn (rO (s_get (T := TX0) (N := 3) (index := 9) x_iw0 rfl (by decide) wf_X0_9 rfl (by decide +kernel))) <|
    xcn (rO (s_get (T := TX9) (N := 7) (index := 98) x_iw9 rfl (by decide) wf_X0_98 rfl (by decide +kernel))) <|
    xcn (rO (s_get (T := TX8) (N := 7) (index := 111) x_iw8 rfl (by decide) wf_X0_111 rfl (by decide +kernel))) <|
    xcn (rO (s_iload_n (k := 1) (by decide +kernel))) <|
    xcn (rO (s_iald (by decide +kernel))) <|
    xcn (rR (s_ret1 (by decide +kernel))) <| xnl
theorem xv_9 : xMd (xw_9, xp_9, yX0_switchSite, cX0_switchSite, 2, some .int) := ⟨by decide +kernel, rfl, by decide +kernel, by decide +kernel, xa_9⟩
set_option maxRecDepth 100000 in
theorem xa_10 : xAR (xRow RX0 cX0_openSession 5 (some .int) xp_10) xw_10 := by
  unfold xw_10
  exact xcn (rO (s_aload_n (k := 0) (by decide +kernel))) <|
    xcn (rO (s_get (T := TX0) (N := 3) (index := 9) x_iw0 rfl (by decide) wf_X0_9 rfl (by decide +kernel))) <|
    xcn (rO (s_get (T := TX9) (N := 7) (index := 57) x_iw9 rfl (by decide) wf_X0_57 rfl (by decide +kernel))) <|
    xcn (rO (s_iload_n (k := 1) (by decide +kernel))) <|
    xcn (rC (s_cV (index := 72) wb_18 wm_X0_72 (by decide +kernel))) <|
    xcn (rJ (s_if_eq (off := 23) (by decide +kernel) (by decide +kernel) (by decide +kernel))) <|
    xcn (rO (s_iload_n (k := 2) (by decide +kernel))) <|
    xcn (rO (s_iconst (n := 1) (by decide +kernel) (by decide))) <|
    xcn (rO (s_bipush (n := 9) (by decide +kernel) (by decide))) <|
    xcn (rC (s_cN (index := 53) wb_114 (by decide +kernel) (by decide +kernel))) <|
    xcn (rJ (s_if_eq (off := 13) (by decide +kernel) (by decide +kernel) (by decide +kernel))) <|
    xcn (rO (s_iload_n (k := 3) (by decide +kernel))) <|
    xcn (rO (s_iconst (n := 1) (by decide +kernel) (by decide))) <|
    xcn (rO (s_bipush (n := 30) (by decide +kernel) (by decide))) <|
    xcn (rC (s_cN (index := 53) wb_114 (by decide +kernel) (by decide +kernel))) <|
    xcn (rJ (s_if_ne (off := 6) (by decide +kernel) (by decide +kernel) (by decide +kernel))) <|
    xcn (rO (s_bipush (n := (-2)) (by decide +kernel) (by decide))) <|
    xcn (rR (s_ret1 (by decide +kernel))) <|
    xcn (rO (s_aload_n (k := 0) (by decide +kernel))) <|
    xcn (rO (s_get (T := TX0) (N := 3) (index := 15) x_iw0 rfl (by decide) wf_X0_15 rfl (by decide +kernel))) <|
    xcn (rO (s_iload_n (k := 1) (by decide +kernel))) <|
    xcn (rC (s_cV (index := 93) wb_39 wm_X0_93 (by decide +kernel))) <|
    xcn (rO (s_istore (k := 4) (by decide) (by decide +kernel))) <|
    xcn (rO (s_iload (k := 4) (by decide +kernel))) <|
    xcn (rO (s_iconst (n := (-1)) (by decide +kernel) (by decide))) <|
    xcn (rJ (s_ic_ne (off := 6) (by decide +kernel) (by decide +kernel) (by decide +kernel))) <|
    xcn (rO (s_bipush (n := (-3)) (by decide +kernel) (by decide))) <|
    xcn (rR (s_ret1 (by decide +kernel))) <|
    xcn (rO (s_aload_n (k := 0) (by decide +kernel))) <|
    xcn (rO (s_get (T := TX0) (N := 3) (index := 9) x_iw0 rfl (by decide) wf_X0_9 rfl (by decide +kernel))) <|
    xcn (rO (s_get (T := TX9) (N := 7) (index := 130) x_iw9 rfl (by decide) wf_X0_130 rfl (by decide +kernel))) <|
    xcn (rO (s_get (T := TX7) (N := 5) (index := 134) x_iw7 rfl (by decide) wf_X0_134 rfl (by decide +kernel))) <|
    xcn (rO (s_bipush (n := 12) (by decide +kernel) (by decide))) <|
    xcn (rJ (s_ic_lt (off := 8) (by decide +kernel) (by decide +kernel) (by decide +kernel))) <|
    xcn (rO (s_bipush (n := (-4)) (by decide +kernel) (by decide))) <|
    xcn (rJ (s_goto (off := 18) (by decide +kernel) (by decide +kernel))) <|
    xcn (rO (s_aload_n (k := 0) (by decide +kernel))) <|
    xcn (rO (s_get (T := TX0) (N := 3) (index := 9) x_iw0 rfl (by decide) wf_X0_9 rfl (by decide +kernel))) <|
    xcn (rO (s_get (T := TX9) (N := 7) (index := 130) x_iw9 rfl (by decide) wf_X0_130 rfl (by decide +kernel))) <|
    xcn (rO (s_iload_n (k := 1) (by decide +kernel))) <|
    xcn (rO (s_iload (k := 4) (by decide +kernel))) <|
    xcn (rO (s_iload_n (k := 2) (by decide +kernel))) <|
    xcn (rO (s_iload_n (k := 3) (by decide +kernel))) <|
    xcn (rC (s_cV (index := 137) wb_62 wm_X0_137 (by decide +kernel))) <|
    xcn (rR (s_ret1 (by decide +kernel))) <| xnl
theorem xv_10 : xMd (xw_10, xp_10, yX0_openSession, cX0_openSession, 5, some .int) := ⟨by decide +kernel, rfl, by decide +kernel, by decide +kernel, xa_10⟩
set_option maxRecDepth 100000 in
theorem xa_11 : xAR (xRow RX0 cX0_endSession 2 (some .int) xp_11) xw_11 := by
  unfold xw_11
  exact xcn (rO (s_aload_n (k := 0) (by decide +kernel))) <|
    xcn (rO (s_get (T := TX0) (N := 3) (index := 9) x_iw0 rfl (by decide) wf_X0_9 rfl (by decide +kernel))) <|
    xcn (rO (s_get (T := TX9) (N := 7) (index := 130) x_iw9 rfl (by decide) wf_X0_130 rfl (by decide +kernel))) <|
    xcn (rO (s_iload_n (k := 1) (by decide +kernel))) <|
    xcn (rC (s_cV (index := 140) wb_61 wm_X0_140 (by decide +kernel))) <|
    xcn (rJ (s_if_ne (off := 6) (by decide +kernel) (by decide +kernel) (by decide +kernel))) <|
    xcn (rO (s_bipush (n := (-2)) (by decide +kernel) (by decide))) <|
    xcn (rR (s_ret1 (by decide +kernel))) <|
    xcn (rO (s_aload_n (k := 0) (by decide +kernel))) <|
    xcn (rO (s_get (T := TX0) (N := 3) (index := 9) x_iw0 rfl (by decide) wf_X0_9 rfl (by decide +kernel))) <|
    xcn (rO (s_get (T := TX9) (N := 7) (index := 130) x_iw9 rfl (by decide) wf_X0_130 rfl (by decide +kernel))) <|
    xcn (rO (s_iload_n (k := 1) (by decide +kernel))) <|
    xcn (rC (s_cV (index := 141) wb_63 wm_X0_141 (by decide +kernel))) <|
    xcn (rO (s_aload_n (k := 0) (by decide +kernel))) <|
    xcn (rO (s_get (T := TX0) (N := 3) (index := 9) x_iw0 rfl (by decide) wf_X0_9 rfl (by decide +kernel))) <|
    xcn (rO (s_dup (by decide +kernel))) <|
    xcn (rO (s_get (T := TX9) (N := 7) (index := 144) x_iw9 rfl (by decide) wf_X0_144 rfl (by decide +kernel))) <|
    xcn (rO (s_iconst (n := 1) (by decide +kernel) (by decide))) <|
    xcn (rO (s_iadd (by decide +kernel))) <|
    xcn (rO (s_put (T := TX9) (N := 7) (index := 144) (ty0 := tyX9) (z := false) x_iw9 tyX9_ok nmX9 rfl (by decide) wf_X0_144 rfl rfl rfl (by decide +kernel))) <|
    xcn (rO (s_aload_n (k := 0) (by decide +kernel))) <|
    xcn (rO (s_get (T := TX0) (N := 3) (index := 9) x_iw0 rfl (by decide) wf_X0_9 rfl (by decide +kernel))) <|
    xcn (rO (s_get (T := TX9) (N := 7) (index := 130) x_iw9 rfl (by decide) wf_X0_130 rfl (by decide +kernel))) <|
    xcn (rO (s_get (T := TX7) (N := 5) (index := 134) x_iw7 rfl (by decide) wf_X0_134 rfl (by decide +kernel))) <|
    xcn (rR (s_ret1 (by decide +kernel))) <| xnl
theorem xv_11 : xMd (xw_11, xp_11, yX0_endSession, cX0_endSession, 2, some .int) := ⟨by decide +kernel, rfl, by decide +kernel, by decide +kernel, xa_11⟩
set_option maxRecDepth 100000 in
theorem xa_12 : xAR (xRow RX0 cX0_layPlan 3 (some .int) xp_12) xw_12 := by
  unfold xw_12
  exact xcn (rO (s_aload_n (k := 0) (by decide +kernel))) <|
    xcn (rO (s_get (T := TX0) (N := 3) (index := 19) x_iw0 rfl (by decide) wf_X0_19 rfl (by decide +kernel))) <|
    xcn (rC (s_cV (index := 147) wb_47 wm_X0_147 (by decide +kernel))) <|
    xcn (rO (s_istore_n (k := 1) (by decide) (by decide +kernel))) <|
    xcn (rO (s_iload_n (k := 1) (by decide +kernel))) <|
    xcn (rO (s_iconst (n := (-1)) (by decide +kernel) (by decide))) <|
    xcn (rJ (s_ic_ne (off := 6) (by decide +kernel) (by decide +kernel) (by decide +kernel))) <|
    xcn (rO (s_bipush (n := (-3)) (by decide +kernel) (by decide))) <|
    xcn (rR (s_ret1 (by decide +kernel))) <|
    xcn (rO (s_iconst (n := 0) (by decide +kernel) (by decide))) <|
    xcn (rO (s_istore_n (k := 2) (by decide) (by decide +kernel))) <|
    xcn (rO s_fgt) <|
    xcn (rO (s_iload_n (k := 2) (by decide +kernel))) <|
    xcn (rO (s_aload_n (k := 0) (by decide +kernel))) <|
    xcn (rO (s_get (T := TX0) (N := 3) (index := 9) x_iw0 rfl (by decide) wf_X0_9 rfl (by decide +kernel))) <|
    xcn (rO (s_get (T := TX9) (N := 7) (index := 98) x_iw9 rfl (by decide) wf_X0_98 rfl (by decide +kernel))) <|
    xcn (rO (s_get (T := TX8) (N := 7) (index := 102) x_iw8 rfl (by decide) wf_X0_102 rfl (by decide +kernel))) <|
    xcn (rJ (s_ic_ge (off := 29) (by decide +kernel) (by decide +kernel) (by decide +kernel))) <|
    xcn (rO (s_aload_n (k := 0) (by decide +kernel))) <|
    xcn (rO (s_get (T := TX0) (N := 3) (index := 9) x_iw0 rfl (by decide) wf_X0_9 rfl (by decide +kernel))) <|
    xcn (rO (s_get (T := TX9) (N := 7) (index := 98) x_iw9 rfl (by decide) wf_X0_98 rfl (by decide +kernel))) <|
    xcn (rO (s_get (T := TX8) (N := 7) (index := 114) x_iw8 rfl (by decide) wf_X0_114 rfl (by decide +kernel))) <|
    xcn (rO (s_iload_n (k := 2) (by decide +kernel))) <|
    xcn (rO (s_aload_n (k := 0) (by decide +kernel))) <|
    xcn (rO (s_get (T := TX0) (N := 3) (index := 19) x_iw0 rfl (by decide) wf_X0_19 rfl (by decide +kernel))) <|
    xcn (rO (s_iload_n (k := 2) (by decide +kernel))) <|
    xcn (rC (s_cV (index := 153) wb_48 wm_X0_153 (by decide +kernel))) <|
    xcn (rO (s_iast (by decide +kernel))) <|
    xcn (rO (s_iinc (k := 2) (n := 1) (by decide) (by decide) (by decide +kernel))) <|
    xcn (rJ (s_goto (off := (-37)) (by decide +kernel) (by decide +kernel))) <|
    xcn (rO s_fgt) <|
    xcn (rO (s_iload_n (k := 1) (by decide +kernel))) <|
    xcn (rR (s_ret1 (by decide +kernel))) <| xnl
theorem xv_12 : xMd (xw_12, xp_12, yX0_layPlan, cX0_layPlan, 3, some .int) := ⟨by decide +kernel, rfl, by decide +kernel, by decide +kernel, xa_12⟩
set_option maxRecDepth 100000 in
theorem xa_13 : xAR (xRow RX0 cX0_passTicks 4 (some .int) xp_13) xw_13 := by
  unfold xw_13
  exact xcn (rO (s_iload_n (k := 1) (by decide +kernel))) <|
    xcn (rO (s_iconst (n := 1) (by decide +kernel) (by decide))) <|
    xcn (rO (s_bipush (n := 30) (by decide +kernel) (by decide))) <|
    xcn (rC (s_cN (index := 53) wb_114 (by decide +kernel) (by decide +kernel))) <|
    xcn (rJ (s_if_ne (off := 6) (by decide +kernel) (by decide +kernel) (by decide +kernel))) <|
    xcn (rO (s_bipush (n := (-2)) (by decide +kernel) (by decide))) <|
    xcn (rR (s_ret1 (by decide +kernel))) <|
    xcn (rO (s_aload_n (k := 0) (by decide +kernel))) <|
    xcn (rO (s_get (T := TX0) (N := 3) (index := 9) x_iw0 rfl (by decide) wf_X0_9 rfl (by decide +kernel))) <|
    xcn (rO (s_get (T := TX9) (N := 7) (index := 144) x_iw9 rfl (by decide) wf_X0_144 rfl (by decide +kernel))) <|
    xcn (rO (s_istore_n (k := 2) (by decide) (by decide +kernel))) <|
    xcn (rO (s_iconst (n := 0) (by decide +kernel) (by decide))) <|
    xcn (rO (s_istore_n (k := 3) (by decide) (by decide +kernel))) <|
    xcn (rO s_fgt) <|
    xcn (rO (s_iload_n (k := 3) (by decide +kernel))) <|
    xcn (rO (s_iload_n (k := 1) (by decide +kernel))) <|
    xcn (rJ (s_ic_ge (off := 34) (by decide +kernel) (by decide +kernel) (by decide +kernel))) <|
    xcn (rO (s_aload_n (k := 0) (by decide +kernel))) <|
    xcn (rC (s_cV (index := 156) wb_14 wm_X0_156 (by decide +kernel))) <|
    xcn (rO (s_aload_n (k := 0) (by decide +kernel))) <|
    xcn (rC (s_cV (index := 159) wb_16 wm_X0_159 (by decide +kernel))) <|
    xcn (rO (s_aload_n (k := 0) (by decide +kernel))) <|
    xcn (rC (s_cV (index := 162) wb_17 wm_X0_162 (by decide +kernel))) <|
    xcn (rO (s_aload_n (k := 0) (by decide +kernel))) <|
    xcn (rO (s_get (T := TX0) (N := 3) (index := 9) x_iw0 rfl (by decide) wf_X0_9 rfl (by decide +kernel))) <|
    xcn (rO (s_dup (by decide +kernel))) <|
    xcn (rO (s_get (T := TX9) (N := 7) (index := 165) x_iw9 rfl (by decide) wf_X0_165 rfl (by decide +kernel))) <|
    xcn (rO (s_iconst (n := 1) (by decide +kernel) (by decide))) <|
    xcn (rO (s_iadd (by decide +kernel))) <|
    xcn (rO (s_put (T := TX9) (N := 7) (index := 165) (ty0 := tyX9) (z := false) x_iw9 tyX9_ok nmX9 rfl (by decide) wf_X0_165 rfl rfl rfl (by decide +kernel))) <|
    xcn (rO (s_iinc (k := 3) (n := 1) (by decide) (by decide) (by decide +kernel))) <|
    xcn (rJ (s_goto (off := (-33)) (by decide +kernel) (by decide +kernel))) <|
    xcn (rO s_fgt) <|
    xcn (rO (s_aload_n (k := 0) (by decide +kernel))) <|
    xcn (rO (s_get (T := TX0) (N := 3) (index := 9) x_iw0 rfl (by decide) wf_X0_9 rfl (by decide +kernel))) <|
    xcn (rO (s_get (T := TX9) (N := 7) (index := 144) x_iw9 rfl (by decide) wf_X0_144 rfl (by decide +kernel))) <|
    xcn (rO (s_iload_n (k := 2) (by decide +kernel))) <|
    xcn (rO (s_isub (by decide +kernel))) <|
    xcn (rR (s_ret1 (by decide +kernel))) <| xnl
theorem xv_13 : xMd (xw_13, xp_13, yX0_passTicks, cX0_passTicks, 4, some .int) := ⟨by decide +kernel, rfl, by decide +kernel, by decide +kernel, xa_13⟩
set_option maxRecDepth 100000 in
theorem xa_14 : xAR (xRow RX0 cX0_ageSessions 5 (none) xp_14) xw_14 := by
  unfold xw_14
  exact xcn (rO (s_aload_n (k := 0) (by decide +kernel))) <|
    xcn (rO (s_get (T := TX0) (N := 3) (index := 9) x_iw0 rfl (by decide) wf_X0_9 rfl (by decide +kernel))) <|
    xcn (rO (s_get (T := TX9) (N := 7) (index := 130) x_iw9 rfl (by decide) wf_X0_130 rfl (by decide +kernel))) <|
    xcn (rO (s_astore_n (k := 1) (by decide) (by decide +kernel))) <|
    xcn (rO (s_aload_n (k := 0) (by decide +kernel))) <|
    xcn (rO (s_get (T := TX0) (N := 3) (index := 9) x_iw0 rfl (by decide) wf_X0_9 rfl (by decide +kernel))) <|
    xcn (rO (s_get (T := TX9) (N := 7) (index := 98) x_iw9 rfl (by decide) wf_X0_98 rfl (by decide +kernel))) <|
    xcn (rC (s_cV (index := 168) wb_70 wm_X0_168 (by decide +kernel))) <|
    xcn (rO (s_istore_n (k := 2) (by decide) (by decide +kernel))) <|
    xcn (rO (s_iconst (n := 0) (by decide +kernel) (by decide))) <|
    xcn (rO (s_istore_n (k := 3) (by decide) (by decide +kernel))) <|
    xcn (rO (s_iconst (n := 0) (by decide +kernel) (by decide))) <|
    xcn (rO (s_istore (k := 4) (by decide) (by decide +kernel))) <|
    xcn (rO s_fgt) <|
    xcn (rO (s_iload (k := 4) (by decide +kernel))) <|
    xcn (rO (s_aload_n (k := 1) (by decide +kernel))) <|
    xcn (rO (s_get (T := TX7) (N := 5) (index := 134) x_iw7 rfl (by decide) wf_X0_134 rfl (by decide +kernel))) <|
    xcn (rJ (s_ic_ge (off := 29) (by decide +kernel) (by decide +kernel) (by decide +kernel))) <|
    xcn (rO (s_aload_n (k := 0) (by decide +kernel))) <|
    xcn (rO (s_iload (k := 4) (by decide +kernel))) <|
    xcn (rO (s_iload_n (k := 2) (by decide +kernel))) <|
    xcn (rC (s_cV (index := 171) wb_15 wm_X0_171 (by decide +kernel))) <|
    xcn (rJ (s_if_eq (off := 13) (by decide +kernel) (by decide +kernel) (by decide +kernel))) <|
    xcn (rO (s_aload_n (k := 1) (by decide +kernel))) <|
    xcn (rO (s_iload (k := 4) (by decide +kernel))) <|
    xcn (rO (s_iload_n (k := 3) (by decide +kernel))) <|
    xcn (rC (s_cV (index := 175) wb_64 wm_X0_175 (by decide +kernel))) <|
    xcn (rO (s_iinc (k := 3) (n := 1) (by decide) (by decide) (by decide +kernel))) <|
    xcn (rO (s_iinc (k := 4) (n := 1) (by decide) (by decide) (by decide +kernel))) <|
    xcn (rJ (s_goto (off := (-32)) (by decide +kernel) (by decide +kernel))) <|
    xcn (rO s_fgt) <|
    xcn (rO (s_aload_n (k := 0) (by decide +kernel))) <|
    xcn (rO (s_get (T := TX0) (N := 3) (index := 9) x_iw0 rfl (by decide) wf_X0_9 rfl (by decide +kernel))) <|
    xcn (rO (s_dup (by decide +kernel))) <|
    xcn (rO (s_get (T := TX9) (N := 7) (index := 144) x_iw9 rfl (by decide) wf_X0_144 rfl (by decide +kernel))) <|
    xcn (rO (s_aload_n (k := 1) (by decide +kernel))) <|
    xcn (rO (s_get (T := TX7) (N := 5) (index := 134) x_iw7 rfl (by decide) wf_X0_134 rfl (by decide +kernel))) <|
    xcn (rO (s_iload_n (k := 3) (by decide +kernel))) <|
    xcn (rO (s_isub (by decide +kernel))) <|
    xcn (rO (s_iadd (by decide +kernel))) <|
    xcn (rO (s_put (T := TX9) (N := 7) (index := 144) (ty0 := tyX9) (z := false) x_iw9 tyX9_ok nmX9 rfl (by decide) wf_X0_144 rfl rfl rfl (by decide +kernel))) <|
    xcn (rO (s_aload_n (k := 1) (by decide +kernel))) <|
    xcn (rO (s_iload_n (k := 3) (by decide +kernel))) <|
    xcn (rO (s_put (T := TX7) (N := 5) (index := 134) (ty0 := tyX7) (z := false) x_iw7 tyX7_ok nmX7 rfl (by decide) wf_X0_134 rfl rfl rfl (by decide +kernel))) <|
    xcn (rR (s_ret0 (by decide +kernel))) <| xnl
theorem xv_14 : xMd (xw_14, xp_14, yX0_ageSessions, cX0_ageSessions, 5, none) := ⟨by decide +kernel, rfl, by decide +kernel, by decide +kernel, xa_14⟩
set_option maxRecDepth 100000 in
theorem xa_15 : xAR (xRow RX0 cX0_outlives 5 (some .boolean) xp_15) xw_15 := by
  unfold xw_15
  exact xcn (rO (s_aload_n (k := 0) (by decide +kernel))) <|
    xcn (rO (s_get (T := TX0) (N := 3) (index := 9) x_iw0 rfl (by decide) wf_X0_9 rfl (by decide +kernel))) <|
    xcn (rO (s_get (T := TX9) (N := 7) (index := 130) x_iw9 rfl (by decide) wf_X0_130 rfl (by decide +kernel))) <|
    xcn (rO (s_astore_n (k := 3) (by decide) (by decide +kernel))) <|
    xcn (rO (s_aload_n (k := 3) (by decide +kernel))) <|
    xcn (rO (s_get (T := TX7) (N := 5) (index := 179) x_iw7 rfl (by decide) wf_X0_179 rfl (by decide +kernel))) <|
    xcn (rO (s_iload_n (k := 1) (by decide +kernel))) <|
    xcn (rO (s_dup2 (by decide +kernel))) <|
    xcn (rO (s_iald (by decide +kernel))) <|
    xcn (rO (s_iconst (n := 1) (by decide +kernel) (by decide))) <|
    xcn (rO (s_isub (by decide +kernel))) <|
    xcn (rO (s_iast (by decide +kernel))) <|
    xcn (rO (s_aload_n (k := 3) (by decide +kernel))) <|
    xcn (rO (s_get (T := TX7) (N := 5) (index := 179) x_iw7 rfl (by decide) wf_X0_179 rfl (by decide +kernel))) <|
    xcn (rO (s_iload_n (k := 1) (by decide +kernel))) <|
    xcn (rO (s_iald (by decide +kernel))) <|
    xcn (rJ (s_if_gt (off := 5) (by decide +kernel) (by decide +kernel) (by decide +kernel))) <|
    xcn (rO (s_iconst (n := 0) (by decide +kernel) (by decide))) <|
    xcn (rR (s_ret2 (by decide +kernel))) <|
    xcn (rO (s_iload_n (k := 2) (by decide +kernel))) <|
    xcn (rO (s_aload_n (k := 3) (by decide +kernel))) <|
    xcn (rO (s_get (T := TX7) (N := 5) (index := 182) x_iw7 rfl (by decide) wf_X0_182 rfl (by decide +kernel))) <|
    xcn (rO (s_iload_n (k := 1) (by decide +kernel))) <|
    xcn (rO (s_iald (by decide +kernel))) <|
    xcn (rC (s_cS (index := 185) wb_45 wm_X0_185 (by decide +kernel))) <|
    xcn (rJ (s_if_eq (off := 5) (by decide +kernel) (by decide +kernel) (by decide +kernel))) <|
    xcn (rO (s_iconst (n := 1) (by decide +kernel) (by decide))) <|
    xcn (rR (s_ret2 (by decide +kernel))) <|
    xcn (rO (s_aload_n (k := 0) (by decide +kernel))) <|
    xcn (rO (s_get (T := TX0) (N := 3) (index := 9) x_iw0 rfl (by decide) wf_X0_9 rfl (by decide +kernel))) <|
    xcn (rO (s_dup (by decide +kernel))) <|
    xcn (rO (s_get (T := TX9) (N := 7) (index := 188) x_iw9 rfl (by decide) wf_X0_188 rfl (by decide +kernel))) <|
    xcn (rO (s_iconst (n := 1) (by decide +kernel) (by decide))) <|
    xcn (rO (s_iadd (by decide +kernel))) <|
    xcn (rO (s_put (T := TX9) (N := 7) (index := 188) (ty0 := tyX9) (z := false) x_iw9 tyX9_ok nmX9 rfl (by decide) wf_X0_188 rfl rfl rfl (by decide +kernel))) <|
    xcn (rO (s_aload_n (k := 0) (by decide +kernel))) <|
    xcn (rO (s_get (T := TX0) (N := 3) (index := 15) x_iw0 rfl (by decide) wf_X0_15 rfl (by decide +kernel))) <|
    xcn (rO (s_aload_n (k := 3) (by decide +kernel))) <|
    xcn (rO (s_get (T := TX7) (N := 5) (index := 191) x_iw7 rfl (by decide) wf_X0_191 rfl (by decide +kernel))) <|
    xcn (rO (s_iload_n (k := 1) (by decide +kernel))) <|
    xcn (rO (s_iald (by decide +kernel))) <|
    xcn (rO (s_iload_n (k := 2) (by decide +kernel))) <|
    xcn (rO (s_aload_n (k := 0) (by decide +kernel))) <|
    xcn (rO (s_get (T := TX0) (N := 3) (index := 9) x_iw0 rfl (by decide) wf_X0_9 rfl (by decide +kernel))) <|
    xcn (rO (s_get (T := TX9) (N := 7) (index := 98) x_iw9 rfl (by decide) wf_X0_98 rfl (by decide +kernel))) <|
    xcn (rO (s_get (T := TX8) (N := 7) (index := 114) x_iw8 rfl (by decide) wf_X0_114 rfl (by decide +kernel))) <|
    xcn (rC (s_cV (index := 194) wb_40 wm_X0_194 (by decide +kernel))) <|
    xcn (rO (s_istore (k := 4) (by decide) (by decide +kernel))) <|
    xcn (rO (s_iload (k := 4) (by decide +kernel))) <|
    xcn (rO (s_iconst (n := (-1)) (by decide +kernel) (by decide))) <|
    xcn (rJ (s_ic_ne (off := 5) (by decide +kernel) (by decide +kernel) (by decide +kernel))) <|
    xcn (rO (s_iconst (n := 0) (by decide +kernel) (by decide))) <|
    xcn (rR (s_ret2 (by decide +kernel))) <|
    xcn (rO (s_aload_n (k := 3) (by decide +kernel))) <|
    xcn (rO (s_get (T := TX7) (N := 5) (index := 182) x_iw7 rfl (by decide) wf_X0_182 rfl (by decide +kernel))) <|
    xcn (rO (s_iload_n (k := 1) (by decide +kernel))) <|
    xcn (rO (s_iload (k := 4) (by decide +kernel))) <|
    xcn (rO (s_iast (by decide +kernel))) <|
    xcn (rO (s_iconst (n := 1) (by decide +kernel) (by decide))) <|
    xcn (rR (s_ret2 (by decide +kernel))) <| xnl
theorem xv_15 : xMd (xw_15, xp_15, yX0_outlives, cX0_outlives, 5, some .boolean) := ⟨by decide +kernel, rfl, by decide +kernel, by decide +kernel, xa_15⟩
set_option maxRecDepth 100000 in
theorem xa_16 : xAR (xRow RX0 cX0_advanceDrain 8 (none) xp_16) xw_16 := by
  unfold xw_16
  exact xcn (rO (s_aload_n (k := 0) (by decide +kernel))) <|
    xcn (rO (s_get (T := TX0) (N := 3) (index := 9) x_iw0 rfl (by decide) wf_X0_9 rfl (by decide +kernel))) <|
    xcn (rO (s_get (T := TX9) (N := 7) (index := 98) x_iw9 rfl (by decide) wf_X0_98 rfl (by decide +kernel))) <|
    xcn (rO (s_astore_n (k := 1) (by decide) (by decide +kernel))) <|
    xcn (rO (s_aload_n (k := 1) (by decide +kernel))) <|
    xcn (rO (s_get (T := TX8) (N := 7) (index := 121) x_iw8 rfl (by decide) wf_X0_121 rfl (by decide +kernel))) <|
    xcn (rJ (s_if_ne (off := 4) (by decide +kernel) (by decide +kernel) (by decide +kernel))) <|
    xcn (rR (s_ret0 (by decide +kernel))) <|
    xcn (rO (s_aload_n (k := 1) (by decide +kernel))) <|
    xcn (rO (s_get (T := TX8) (N := 7) (index := 198) x_iw8 rfl (by decide) wf_X0_198 rfl (by decide +kernel))) <|
    xcn (rO (s_iconst (n := 0) (by decide +kernel) (by decide))) <|
    xcn (rO (s_iald (by decide +kernel))) <|
    xcn (rO (s_istore_n (k := 2) (by decide) (by decide +kernel))) <|
    xcn (rO (s_aload_n (k := 1) (by decide +kernel))) <|
    xcn (rO (s_get (T := TX8) (N := 7) (index := 114) x_iw8 rfl (by decide) wf_X0_114 rfl (by decide +kernel))) <|
    xcn (rO (s_iload_n (k := 2) (by decide +kernel))) <|
    xcn (rO (s_iald (by decide +kernel))) <|
    xcn (rO (s_istore_n (k := 3) (by decide) (by decide +kernel))) <|
    xcn (rO (s_aload_n (k := 1) (by decide +kernel))) <|
    xcn (rC (s_cV (index := 168) wb_70 wm_X0_168 (by decide +kernel))) <|
    xcn (rO (s_istore (k := 4) (by decide) (by decide +kernel))) <|
    xcn (rO (s_aload_n (k := 0) (by decide +kernel))) <|
    xcn (rO (s_get (T := TX0) (N := 3) (index := 15) x_iw0 rfl (by decide) wf_X0_15 rfl (by decide +kernel))) <|
    xcn (rO (s_iload (k := 4) (by decide +kernel))) <|
    xcn (rO (s_aload_n (k := 1) (by decide +kernel))) <|
    xcn (rO (s_get (T := TX8) (N := 7) (index := 114) x_iw8 rfl (by decide) wf_X0_114 rfl (by decide +kernel))) <|
    xcn (rC (s_cV (index := 201) wb_37 wm_X0_201 (by decide +kernel))) <|
    xcn (rO (s_istore (k := 5) (by decide) (by decide +kernel))) <|
    xcn (rO (s_iload_n (k := 3) (by decide +kernel))) <|
    xcn (rO (s_iconst (n := 4) (by decide +kernel) (by decide))) <|
    xcn (rJ (s_ic_ge (off := 14) (by decide +kernel) (by decide +kernel) (by decide +kernel))) <|
    xcn (rO (s_aload_n (k := 0) (by decide +kernel))) <|
    xcn (rO (s_get (T := TX0) (N := 3) (index := 15) x_iw0 rfl (by decide) wf_X0_15 rfl (by decide +kernel))) <|
    xcn (rO (s_iload_n (k := 2) (by decide +kernel))) <|
    xcn (rC (s_cV (index := 205) wb_44 wm_X0_205 (by decide +kernel))) <|
    xcn (rJ (s_if_ne (off := 7) (by decide +kernel) (by decide +kernel) (by decide +kernel))) <|
    xcn (rO (s_iconst (n := 1) (by decide +kernel) (by decide))) <|
    xcn (rJ (s_goto (off := 4) (by decide +kernel) (by decide +kernel))) <|
    xcn (rO (s_iconst (n := 0) (by decide +kernel) (by decide))) <|
    xcn (rO (s_istore (k := 6) (by decide) (by decide +kernel))) <|
    xcn (rO (s_iload (k := 6) (by decide +kernel))) <|
    xcn (rJ (s_if_eq (off := 16) (by decide +kernel) (by decide +kernel) (by decide +kernel))) <|
    xcn (rO (s_iload (k := 4) (by decide +kernel))) <|
    xcn (rO (s_iconst (n := 1) (by decide +kernel) (by decide))) <|
    xcn (rO (s_iload_n (k := 2) (by decide +kernel))) <|
    xcn (rO (s_ishl (by decide +kernel))) <|
    xcn (rO (s_iconst (n := (-1)) (by decide +kernel) (by decide))) <|
    xcn (rO (s_ixor (by decide +kernel))) <|
    xcn (rO (s_iand (by decide +kernel))) <|
    xcn (rO (s_istore (k := 4) (by decide) (by decide +kernel))) <|
    xcn (rJ (s_goto (off := 12) (by decide +kernel) (by decide +kernel))) <|
    xcn (rO (s_aload_n (k := 1) (by decide +kernel))) <|
    xcn (rO (s_get (T := TX8) (N := 7) (index := 114) x_iw8 rfl (by decide) wf_X0_114 rfl (by decide +kernel))) <|
    xcn (rO (s_iload_n (k := 2) (by decide +kernel))) <|
    xcn (rO (s_iload_n (k := 3) (by decide +kernel))) <|
    xcn (rO (s_iconst (n := 1) (by decide +kernel) (by decide))) <|
    xcn (rO (s_iadd (by decide +kernel))) <|
    xcn (rO (s_iast (by decide +kernel))) <|
    xcn (rO (s_aload_n (k := 0) (by decide +kernel))) <|
    xcn (rO (s_get (T := TX0) (N := 3) (index := 15) x_iw0 rfl (by decide) wf_X0_15 rfl (by decide +kernel))) <|
    xcn (rO (s_iload (k := 4) (by decide +kernel))) <|
    xcn (rO (s_aload_n (k := 1) (by decide +kernel))) <|
    xcn (rO (s_get (T := TX8) (N := 7) (index := 114) x_iw8 rfl (by decide) wf_X0_114 rfl (by decide +kernel))) <|
    xcn (rC (s_cV (index := 201) wb_37 wm_X0_201 (by decide +kernel))) <|
    xcn (rO (s_istore (k := 7) (by decide) (by decide +kernel))) <|
    xcn (rO (s_iload (k := 7) (by decide +kernel))) <|
    xcn (rO (s_iload (k := 5) (by decide +kernel))) <|
    xcn (rO (s_iconst (n := (-1)) (by decide +kernel) (by decide))) <|
    xcn (rO (s_ixor (by decide +kernel))) <|
    xcn (rO (s_iand (by decide +kernel))) <|
    xcn (rO (s_iconst (n := 1) (by decide +kernel) (by decide))) <|
    xcn (rO (s_iload_n (k := 2) (by decide +kernel))) <|
    xcn (rO (s_ishl (by decide +kernel))) <|
    xcn (rO (s_iconst (n := (-1)) (by decide +kernel) (by decide))) <|
    xcn (rO (s_ixor (by decide +kernel))) <|
    xcn (rO (s_iand (by decide +kernel))) <|
    xcn (rJ (s_if_eq (off := 26) (by decide +kernel) (by decide +kernel) (by decide +kernel))) <|
    xcn (rO (s_aload_n (k := 1) (by decide +kernel))) <|
    xcn (rO (s_get (T := TX8) (N := 7) (index := 114) x_iw8 rfl (by decide) wf_X0_114 rfl (by decide +kernel))) <|
    xcn (rO (s_iload_n (k := 2) (by decide +kernel))) <|
    xcn (rO (s_iload_n (k := 3) (by decide +kernel))) <|
    xcn (rO (s_iast (by decide +kernel))) <|
    xcn (rO (s_aload_n (k := 0) (by decide +kernel))) <|
    xcn (rO (s_get (T := TX0) (N := 3) (index := 9) x_iw0 rfl (by decide) wf_X0_9 rfl (by decide +kernel))) <|
    xcn (rO (s_dup (by decide +kernel))) <|
    xcn (rO (s_get (T := TX9) (N := 7) (index := 208) x_iw9 rfl (by decide) wf_X0_208 rfl (by decide +kernel))) <|
    xcn (rO (s_iconst (n := 1) (by decide +kernel) (by decide))) <|
    xcn (rO (s_iadd (by decide +kernel))) <|
    xcn (rO (s_put (T := TX9) (N := 7) (index := 208) (ty0 := tyX9) (z := false) x_iw9 tyX9_ok nmX9 rfl (by decide) wf_X0_208 rfl rfl rfl (by decide +kernel))) <|
    xcn (rJ (s_goto (off := 13) (by decide +kernel) (by decide +kernel))) <|
    xcn (rO (s_iload (k := 6) (by decide +kernel))) <|
    xcn (rJ (s_if_eq (off := 8) (by decide +kernel) (by decide +kernel) (by decide +kernel))) <|
    xcn (rO (s_aload_n (k := 1) (by decide +kernel))) <|
    xcn (rO (s_iload_n (k := 2) (by decide +kernel))) <|
    xcn (rC (s_cV (index := 127) wb_74 wm_X0_127 (by decide +kernel))) <|
    xcn (rR (s_ret0 (by decide +kernel))) <| xnl
theorem xv_16 : xMd (xw_16, xp_16, yX0_advanceDrain, cX0_advanceDrain, 8, none) := ⟨by decide +kernel, rfl, by decide +kernel, by decide +kernel, xa_16⟩
set_option maxRecDepth 100000 in
theorem xa_17 : xAR (xRow RX0 cX0_noteLastSites 2 (none) xp_17) xw_17 := by
  unfold xw_17
  exact xcn (rO (s_iconst (n := 0) (by decide +kernel) (by decide))) <|
    xcn (rO (s_istore_n (k := 1) (by decide) (by decide +kernel))) <|
    xcn (rO s_fgt) <|
    xcn (rO (s_iload_n (k := 1) (by decide +kernel))) <|
    xcn (rO (s_aload_n (k := 0) (by decide +kernel))) <|
    xcn (rO (s_get (T := TX0) (N := 3) (index := 9) x_iw0 rfl (by decide) wf_X0_9 rfl (by decide +kernel))) <|
    xcn (rO (s_get (T := TX9) (N := 7) (index := 57) x_iw9 rfl (by decide) wf_X0_57 rfl (by decide +kernel))) <|
    xcn (rO (s_get (T := TX1) (N := 6) (index := 63) x_iw1 rfl (by decide) wf_X0_63 rfl (by decide +kernel))) <|
    xcn (rJ (s_ic_ge (off := 29) (by decide +kernel) (by decide +kernel) (by decide +kernel))) <|
    xcn (rO (s_aload_n (k := 0) (by decide +kernel))) <|
    xcn (rO (s_get (T := TX0) (N := 3) (index := 9) x_iw0 rfl (by decide) wf_X0_9 rfl (by decide +kernel))) <|
    xcn (rO (s_get (T := TX9) (N := 7) (index := 57) x_iw9 rfl (by decide) wf_X0_57 rfl (by decide +kernel))) <|
    xcn (rO (s_get (T := TX1) (N := 6) (index := 90) x_iw1 rfl (by decide) wf_X0_90 rfl (by decide +kernel))) <|
    xcn (rO (s_iload_n (k := 1) (by decide +kernel))) <|
    xcn (rO (s_aload_n (k := 0) (by decide +kernel))) <|
    xcn (rO (s_get (T := TX0) (N := 3) (index := 15) x_iw0 rfl (by decide) wf_X0_15 rfl (by decide +kernel))) <|
    xcn (rO (s_iload_n (k := 1) (by decide +kernel))) <|
    xcn (rC (s_cV (index := 93) wb_39 wm_X0_93 (by decide +kernel))) <|
    xcn (rO (s_iast (by decide +kernel))) <|
    xcn (rO (s_iinc (k := 1) (n := 1) (by decide) (by decide) (by decide +kernel))) <|
    xcn (rJ (s_goto (off := (-37)) (by decide +kernel) (by decide +kernel))) <|
    xcn (rO s_fgt) <|
    xcn (rR (s_ret0 (by decide +kernel))) <| xnl
theorem xv_17 : xMd (xw_17, xp_17, yX0_noteLastSites, cX0_noteLastSites, 2, none) := ⟨by decide +kernel, rfl, by decide +kernel, by decide +kernel, xa_17⟩
set_option maxRecDepth 100000 in
theorem xa_18 : xAR (xRow RX1 cX1_has 2 (some .boolean) xp_18) xw_18 := by
  unfold xw_18
  exact xcn (rO (s_iload_n (k := 1) (by decide +kernel))) <|
    xcn (rO (s_iconst (n := 0) (by decide +kernel) (by decide))) <|
    xcn (rO (s_aload_n (k := 0) (by decide +kernel))) <|
    xcn (rO (s_get (T := TX1) (N := 6) (index := 27) x_iw1 rfl (by decide) wf_X1_27 rfl (by decide +kernel))) <|
    xcn (rO (s_iconst (n := 1) (by decide +kernel) (by decide))) <|
    xcn (rO (s_isub (by decide +kernel))) <|
    xcn (rC (s_cN (index := 31) wb_114 (by decide +kernel) (by decide +kernel))) <|
    xcn (rR (s_ret2 (by decide +kernel))) <| xnl
theorem xv_18 : xMd (xw_18, xp_18, yX1_has, cX1_has, 2, some .boolean) := ⟨by decide +kernel, rfl, by decide +kernel, by decide +kernel, xa_18⟩
set_option maxRecDepth 100000 in
theorem xa_19 : xAR (xRow RX1 cX1_add 3 (some .int) xp_19) xw_19 := by
  unfold xw_19
  exact xcn (rO (s_aload_n (k := 0) (by decide +kernel))) <|
    xcn (rO (s_get (T := TX1) (N := 6) (index := 27) x_iw1 rfl (by decide) wf_X1_27 rfl (by decide +kernel))) <|
    xcn (rO (s_istore_n (k := 2) (by decide) (by decide +kernel))) <|
    xcn (rO (s_aload_n (k := 0) (by decide +kernel))) <|
    xcn (rO (s_get (T := TX1) (N := 6) (index := 9) x_iw1 rfl (by decide) wf_X1_9 rfl (by decide +kernel))) <|
    xcn (rO (s_iload_n (k := 2) (by decide +kernel))) <|
    xcn (rO (s_iload_n (k := 1) (by decide +kernel))) <|
    xcn (rO (s_iast (by decide +kernel))) <|
    xcn (rO (s_aload_n (k := 0) (by decide +kernel))) <|
    xcn (rO (s_get (T := TX1) (N := 6) (index := 15) x_iw1 rfl (by decide) wf_X1_15 rfl (by decide +kernel))) <|
    xcn (rO (s_iload_n (k := 2) (by decide +kernel))) <|
    xcn (rO (s_iconst (n := 0) (by decide +kernel) (by decide))) <|
    xcn (rO (s_iast (by decide +kernel))) <|
    xcn (rO (s_aload_n (k := 0) (by decide +kernel))) <|
    xcn (rO (s_get (T := TX1) (N := 6) (index := 18) x_iw1 rfl (by decide) wf_X1_18 rfl (by decide +kernel))) <|
    xcn (rO (s_iload_n (k := 2) (by decide +kernel))) <|
    xcn (rO (s_iconst (n := (-1)) (by decide +kernel) (by decide))) <|
    xcn (rO (s_iast (by decide +kernel))) <|
    xcn (rO (s_aload_n (k := 0) (by decide +kernel))) <|
    xcn (rO (s_dup (by decide +kernel))) <|
    xcn (rO (s_get (T := TX1) (N := 6) (index := 27) x_iw1 rfl (by decide) wf_X1_27 rfl (by decide +kernel))) <|
    xcn (rO (s_iconst (n := 1) (by decide +kernel) (by decide))) <|
    xcn (rO (s_iadd (by decide +kernel))) <|
    xcn (rO (s_put (T := TX1) (N := 6) (index := 27) (ty0 := tyX1) (z := false) x_iw1 tyX1_ok nmX1 rfl (by decide) wf_X1_27 rfl rfl rfl (by decide +kernel))) <|
    xcn (rO (s_aload_n (k := 0) (by decide +kernel))) <|
    xcn (rC (s_cV (index := 35) wb_23 wm_X1_35 (by decide +kernel))) <|
    xcn (rO (s_iload_n (k := 2) (by decide +kernel))) <|
    xcn (rR (s_ret1 (by decide +kernel))) <| xnl
theorem xv_19 : xMd (xw_19, xp_19, yX1_add, cX1_add, 3, some .int) := ⟨by decide +kernel, rfl, by decide +kernel, by decide +kernel, xa_19⟩
set_option maxRecDepth 100000 in
theorem xa_20 : xAR (xRow RX1 cX1_lineLength 3 (some .int) xp_20) xw_20 := by
  unfold xw_20
  exact xcn (rO (s_aload_n (k := 0) (by decide +kernel))) <|
    xcn (rO (s_get (T := TX1) (N := 6) (index := 21) x_iw1 rfl (by decide) wf_X1_21 rfl (by decide +kernel))) <|
    xcn (rO (s_iload_n (k := 1) (by decide +kernel))) <|
    xcn (rO (s_bipush (n := 8) (by decide +kernel) (by decide))) <|
    xcn (rO (s_imul (by decide +kernel))) <|
    xcn (rO (s_iload_n (k := 2) (by decide +kernel))) <|
    xcn (rO (s_iadd (by decide +kernel))) <|
    xcn (rO (s_iald (by decide +kernel))) <|
    xcn (rR (s_ret1 (by decide +kernel))) <| xnl
theorem xv_20 : xMd (xw_20, xp_20, yX1_lineLength, cX1_lineLength, 3, some .int) := ⟨by decide +kernel, rfl, by decide +kernel, by decide +kernel, xa_20⟩
set_option maxRecDepth 100000 in
theorem xa_21 : xAR (xRow RX1 cX1_distance 3 (some .int) xp_21) xw_21 := by
  unfold xw_21
  exact xcn (rO (s_aload_n (k := 0) (by decide +kernel))) <|
    xcn (rO (s_get (T := TX1) (N := 6) (index := 24) x_iw1 rfl (by decide) wf_X1_24 rfl (by decide +kernel))) <|
    xcn (rO (s_iload_n (k := 1) (by decide +kernel))) <|
    xcn (rO (s_bipush (n := 8) (by decide +kernel) (by decide))) <|
    xcn (rO (s_imul (by decide +kernel))) <|
    xcn (rO (s_iload_n (k := 2) (by decide +kernel))) <|
    xcn (rO (s_iadd (by decide +kernel))) <|
    xcn (rO (s_iald (by decide +kernel))) <|
    xcn (rR (s_ret1 (by decide +kernel))) <| xnl
theorem xv_21 : xMd (xw_21, xp_21, yX1_distance, cX1_distance, 3, some .int) := ⟨by decide +kernel, rfl, by decide +kernel, by decide +kernel, xa_21⟩
set_option maxRecDepth 100000 in
theorem xa_22 : xAR (xRow RX1 cX1_putLine 4 (none) xp_22) xw_22 := by
  unfold xw_22
  exact xcn (rO (s_aload_n (k := 0) (by decide +kernel))) <|
    xcn (rO (s_get (T := TX1) (N := 6) (index := 21) x_iw1 rfl (by decide) wf_X1_21 rfl (by decide +kernel))) <|
    xcn (rO (s_iload_n (k := 1) (by decide +kernel))) <|
    xcn (rO (s_bipush (n := 8) (by decide +kernel) (by decide))) <|
    xcn (rO (s_imul (by decide +kernel))) <|
    xcn (rO (s_iload_n (k := 2) (by decide +kernel))) <|
    xcn (rO (s_iadd (by decide +kernel))) <|
    xcn (rO (s_iload_n (k := 3) (by decide +kernel))) <|
    xcn (rO (s_iast (by decide +kernel))) <|
    xcn (rO (s_aload_n (k := 0) (by decide +kernel))) <|
    xcn (rO (s_get (T := TX1) (N := 6) (index := 21) x_iw1 rfl (by decide) wf_X1_21 rfl (by decide +kernel))) <|
    xcn (rO (s_iload_n (k := 2) (by decide +kernel))) <|
    xcn (rO (s_bipush (n := 8) (by decide +kernel) (by decide))) <|
    xcn (rO (s_imul (by decide +kernel))) <|
    xcn (rO (s_iload_n (k := 1) (by decide +kernel))) <|
    xcn (rO (s_iadd (by decide +kernel))) <|
    xcn (rO (s_iload_n (k := 3) (by decide +kernel))) <|
    xcn (rO (s_iast (by decide +kernel))) <|
    xcn (rO (s_aload_n (k := 0) (by decide +kernel))) <|
    xcn (rC (s_cV (index := 35) wb_23 wm_X1_35 (by decide +kernel))) <|
    xcn (rR (s_ret0 (by decide +kernel))) <| xnl
theorem xv_22 : xMd (xw_22, xp_22, yX1_putLine, cX1_putLine, 4, none) := ⟨by decide +kernel, rfl, by decide +kernel, by decide +kernel, xa_22⟩
set_option maxRecDepth 100000 in
theorem xa_23 : xAR (xRow RX1 cX1_measure 4 (none) xp_23) xw_23 := by
  unfold xw_23
  exact xcn (rO (s_iconst (n := 0) (by decide +kernel) (by decide))) <|
    xcn (rO (s_istore_n (k := 1) (by decide) (by decide +kernel))) <|
    xcn (rO s_fgt) <|
    xcn (rO (s_iload_n (k := 1) (by decide +kernel))) <|
    xcn (rO (s_aload_n (k := 0) (by decide +kernel))) <|
    xcn (rO (s_get (T := TX1) (N := 6) (index := 27) x_iw1 rfl (by decide) wf_X1_27 rfl (by decide +kernel))) <|
    xcn (rJ (s_ic_ge (off := 61) (by decide +kernel) (by decide +kernel) (by decide +kernel))) <|
    xcn (rO (s_iconst (n := 0) (by decide +kernel) (by decide))) <|
    xcn (rO (s_istore_n (k := 2) (by decide) (by decide +kernel))) <|
    xcn (rO s_fgt) <|
    xcn (rO (s_iload_n (k := 2) (by decide +kernel))) <|
    xcn (rO (s_aload_n (k := 0) (by decide +kernel))) <|
    xcn (rO (s_get (T := TX1) (N := 6) (index := 27) x_iw1 rfl (by decide) wf_X1_27 rfl (by decide +kernel))) <|
    xcn (rJ (s_ic_ge (off := 45) (by decide +kernel) (by decide +kernel) (by decide +kernel))) <|
    xcn (rO (s_aload_n (k := 0) (by decide +kernel))) <|
    xcn (rO (s_iload_n (k := 1) (by decide +kernel))) <|
    xcn (rO (s_iload_n (k := 2) (by decide +kernel))) <|
    xcn (rC (s_cV (index := 38) wb_20 wm_X1_38 (by decide +kernel))) <|
    xcn (rO (s_istore_n (k := 3) (by decide) (by decide +kernel))) <|
    xcn (rO (s_aload_n (k := 0) (by decide +kernel))) <|
    xcn (rO (s_get (T := TX1) (N := 6) (index := 24) x_iw1 rfl (by decide) wf_X1_24 rfl (by decide +kernel))) <|
    xcn (rO (s_iload_n (k := 1) (by decide +kernel))) <|
    xcn (rO (s_bipush (n := 8) (by decide +kernel) (by decide))) <|
    xcn (rO (s_imul (by decide +kernel))) <|
    xcn (rO (s_iload_n (k := 2) (by decide +kernel))) <|
    xcn (rO (s_iadd (by decide +kernel))) <|
    xcn (rO (s_iload_n (k := 1) (by decide +kernel))) <|
    xcn (rO (s_iload_n (k := 2) (by decide +kernel))) <|
    xcn (rJ (s_ic_ne (off := 7) (by decide +kernel) (by decide +kernel) (by decide +kernel))) <|
    xcn (rO (s_iconst (n := 0) (by decide +kernel) (by decide))) <|
    xcn (rJ (s_goto (off := 12) (by decide +kernel) (by decide +kernel))) <|
    xcn (rO (s_iload_n (k := 3) (by decide +kernel))) <|
    xcn (rJ (s_if_ne (off := 7) (by decide +kernel) (by decide +kernel) (by decide +kernel))) <|
    xcn (rO (s_iconst (n := (-1)) (by decide +kernel) (by decide))) <|
    xcn (rJ (s_goto (off := 4) (by decide +kernel) (by decide +kernel))) <|
    xcn (rO (s_iload_n (k := 3) (by decide +kernel))) <|
    xcn (rO (s_iast (by decide +kernel))) <|
    xcn (rO (s_iinc (k := 2) (n := 1) (by decide) (by decide) (by decide +kernel))) <|
    xcn (rJ (s_goto (off := (-47)) (by decide +kernel) (by decide +kernel))) <|
    xcn (rO s_fgt) <|
    xcn (rO (s_iinc (k := 1) (n := 1) (by decide) (by decide) (by decide +kernel))) <|
    xcn (rJ (s_goto (off := (-63)) (by decide +kernel) (by decide +kernel))) <|
    xcn (rO s_fgt) <|
    xcn (rO (s_iconst (n := 0) (by decide +kernel) (by decide))) <|
    xcn (rO (s_istore_n (k := 1) (by decide) (by decide +kernel))) <|
    xcn (rO s_fgt) <|
    xcn (rO (s_iload_n (k := 1) (by decide +kernel))) <|
    xcn (rO (s_aload_n (k := 0) (by decide +kernel))) <|
    xcn (rO (s_get (T := TX1) (N := 6) (index := 27) x_iw1 rfl (by decide) wf_X1_27 rfl (by decide +kernel))) <|
    xcn (rJ (s_ic_ge (off := 48) (by decide +kernel) (by decide +kernel) (by decide +kernel))) <|
    xcn (rO (s_iconst (n := 0) (by decide +kernel) (by decide))) <|
    xcn (rO (s_istore_n (k := 2) (by decide) (by decide +kernel))) <|
    xcn (rO s_fgt) <|
    xcn (rO (s_iload_n (k := 2) (by decide +kernel))) <|
    xcn (rO (s_aload_n (k := 0) (by decide +kernel))) <|
    xcn (rO (s_get (T := TX1) (N := 6) (index := 27) x_iw1 rfl (by decide) wf_X1_27 rfl (by decide +kernel))) <|
    xcn (rJ (s_ic_ge (off := 32) (by decide +kernel) (by decide +kernel) (by decide +kernel))) <|
    xcn (rO (s_iconst (n := 0) (by decide +kernel) (by decide))) <|
    xcn (rO (s_istore_n (k := 3) (by decide) (by decide +kernel))) <|
    xcn (rO s_fgt) <|
    xcn (rO (s_iload_n (k := 3) (by decide +kernel))) <|
    xcn (rO (s_aload_n (k := 0) (by decide +kernel))) <|
    xcn (rO (s_get (T := TX1) (N := 6) (index := 27) x_iw1 rfl (by decide) wf_X1_27 rfl (by decide +kernel))) <|
    xcn (rJ (s_ic_ge (off := 16) (by decide +kernel) (by decide +kernel) (by decide +kernel))) <|
    xcn (rO (s_aload_n (k := 0) (by decide +kernel))) <|
    xcn (rO (s_iload_n (k := 2) (by decide +kernel))) <|
    xcn (rO (s_iload_n (k := 1) (by decide +kernel))) <|
    xcn (rO (s_iload_n (k := 3) (by decide +kernel))) <|
    xcn (rC (s_cV (index := 42) wb_24 wm_X1_42 (by decide +kernel))) <|
    xcn (rO (s_iinc (k := 3) (n := 1) (by decide) (by decide) (by decide +kernel))) <|
    xcn (rJ (s_goto (off := (-18)) (by decide +kernel) (by decide +kernel))) <|
    xcn (rO s_fgt) <|
    xcn (rO (s_iinc (k := 2) (n := 1) (by decide) (by decide) (by decide +kernel))) <|
    xcn (rJ (s_goto (off := (-34)) (by decide +kernel) (by decide +kernel))) <|
    xcn (rO s_fgt) <|
    xcn (rO (s_iinc (k := 1) (n := 1) (by decide) (by decide) (by decide +kernel))) <|
    xcn (rJ (s_goto (off := (-50)) (by decide +kernel) (by decide +kernel))) <|
    xcn (rO s_fgt) <|
    xcn (rR (s_ret0 (by decide +kernel))) <| xnl
theorem xv_23 : xMd (xw_23, xp_23, yX1_measure, cX1_measure, 4, none) := ⟨by decide +kernel, rfl, by decide +kernel, by decide +kernel, xa_23⟩
set_option maxRecDepth 100000 in
theorem xa_24 : xAR (xRow RX1 cX1_shorten 7 (none) xp_24) xw_24 := by
  unfold xw_24
  exact xcn (rO (s_aload_n (k := 0) (by decide +kernel))) <|
    xcn (rO (s_iload_n (k := 1) (by decide +kernel))) <|
    xcn (rO (s_iload_n (k := 2) (by decide +kernel))) <|
    xcn (rC (s_cV (index := 46) wb_21 wm_X1_46 (by decide +kernel))) <|
    xcn (rO (s_istore (k := 4) (by decide) (by decide +kernel))) <|
    xcn (rO (s_aload_n (k := 0) (by decide +kernel))) <|
    xcn (rO (s_iload_n (k := 2) (by decide +kernel))) <|
    xcn (rO (s_iload_n (k := 3) (by decide +kernel))) <|
    xcn (rC (s_cV (index := 46) wb_21 wm_X1_46 (by decide +kernel))) <|
    xcn (rO (s_istore (k := 5) (by decide) (by decide +kernel))) <|
    xcn (rO (s_iload (k := 4) (by decide +kernel))) <|
    xcn (rO (s_iconst (n := (-1)) (by decide +kernel) (by decide))) <|
    xcn (rJ (s_ic_eq (off := 9) (by decide +kernel) (by decide +kernel) (by decide +kernel))) <|
    xcn (rO (s_iload (k := 5) (by decide +kernel))) <|
    xcn (rO (s_iconst (n := (-1)) (by decide +kernel) (by decide))) <|
    xcn (rJ (s_ic_ne (off := 4) (by decide +kernel) (by decide +kernel) (by decide +kernel))) <|
    xcn (rR (s_ret0 (by decide +kernel))) <|
    xcn (rO (s_aload_n (k := 0) (by decide +kernel))) <|
    xcn (rO (s_iload_n (k := 1) (by decide +kernel))) <|
    xcn (rO (s_iload_n (k := 3) (by decide +kernel))) <|
    xcn (rC (s_cV (index := 46) wb_21 wm_X1_46 (by decide +kernel))) <|
    xcn (rO (s_istore (k := 6) (by decide) (by decide +kernel))) <|
    xcn (rO (s_iload (k := 6) (by decide +kernel))) <|
    xcn (rO (s_iconst (n := (-1)) (by decide +kernel) (by decide))) <|
    xcn (rJ (s_ic_eq (off := 13) (by decide +kernel) (by decide +kernel) (by decide +kernel))) <|
    xcn (rO (s_iload (k := 4) (by decide +kernel))) <|
    xcn (rO (s_iload (k := 5) (by decide +kernel))) <|
    xcn (rO (s_iadd (by decide +kernel))) <|
    xcn (rO (s_iload (k := 6) (by decide +kernel))) <|
    xcn (rJ (s_ic_ge (off := 19) (by decide +kernel) (by decide +kernel) (by decide +kernel))) <|
    xcn (rO (s_aload_n (k := 0) (by decide +kernel))) <|
    xcn (rO (s_get (T := TX1) (N := 6) (index := 24) x_iw1 rfl (by decide) wf_X1_24 rfl (by decide +kernel))) <|
    xcn (rO (s_iload_n (k := 1) (by decide +kernel))) <|
    xcn (rO (s_bipush (n := 8) (by decide +kernel) (by decide))) <|
    xcn (rO (s_imul (by decide +kernel))) <|
    xcn (rO (s_iload_n (k := 3) (by decide +kernel))) <|
    xcn (rO (s_iadd (by decide +kernel))) <|
    xcn (rO (s_iload (k := 4) (by decide +kernel))) <|
    xcn (rO (s_iload (k := 5) (by decide +kernel))) <|
    xcn (rO (s_iadd (by decide +kernel))) <|
    xcn (rO (s_iast (by decide +kernel))) <|
    xcn (rR (s_ret0 (by decide +kernel))) <| xnl
theorem xv_24 : xMd (xw_24, xp_24, yX1_shorten, cX1_shorten, 7, none) := ⟨by decide +kernel, rfl, by decide +kernel, by decide +kernel, xa_24⟩
set_option maxRecDepth 100000 in
theorem xa_25 : xAR (xRow RX1 cX1_copyFrom 2 (none) xp_25) xw_25 := by
  unfold xw_25
  exact xcn (rO (s_aload_n (k := 0) (by decide +kernel))) <|
    xcn (rO (s_aload_n (k := 1) (by decide +kernel))) <|
    xcn (rO (s_get (T := TX1) (N := 6) (index := 27) x_iw1 rfl (by decide) wf_X1_27 rfl (by decide +kernel))) <|
    xcn (rO (s_put (T := TX1) (N := 6) (index := 27) (ty0 := tyX1) (z := false) x_iw1 tyX1_ok nmX1 rfl (by decide) wf_X1_27 rfl rfl rfl (by decide +kernel))) <|
    xcn (rO (s_aload_n (k := 1) (by decide +kernel))) <|
    xcn (rO (s_get (T := TX1) (N := 6) (index := 9) x_iw1 rfl (by decide) wf_X1_9 rfl (by decide +kernel))) <|
    xcn (rO (s_iconst (n := 0) (by decide +kernel) (by decide))) <|
    xcn (rO (s_aload_n (k := 0) (by decide +kernel))) <|
    xcn (rO (s_get (T := TX1) (N := 6) (index := 9) x_iw1 rfl (by decide) wf_X1_9 rfl (by decide +kernel))) <|
    xcn (rO (s_iconst (n := 0) (by decide +kernel) (by decide))) <|
    xcn (rO (s_bipush (n := 8) (by decide +kernel) (by decide))) <|
    xcn (rO (s_copy (index := 49) (x_mt 374 (by decide +kernel) rfl) (x_mt 376 (by decide +kernel) rfl) (x_mt 375 (by decide +kernel) rfl) (x_mt 13 (by decide +kernel) rfl) (by decide +kernel))) <|
    xcn (rO (s_aload_n (k := 1) (by decide +kernel))) <|
    xcn (rO (s_get (T := TX1) (N := 6) (index := 15) x_iw1 rfl (by decide) wf_X1_15 rfl (by decide +kernel))) <|
    xcn (rO (s_iconst (n := 0) (by decide +kernel) (by decide))) <|
    xcn (rO (s_aload_n (k := 0) (by decide +kernel))) <|
    xcn (rO (s_get (T := TX1) (N := 6) (index := 15) x_iw1 rfl (by decide) wf_X1_15 rfl (by decide +kernel))) <|
    xcn (rO (s_iconst (n := 0) (by decide +kernel) (by decide))) <|
    xcn (rO (s_bipush (n := 8) (by decide +kernel) (by decide))) <|
    xcn (rO (s_copy (index := 49) (x_mt 374 (by decide +kernel) rfl) (x_mt 376 (by decide +kernel) rfl) (x_mt 375 (by decide +kernel) rfl) (x_mt 13 (by decide +kernel) rfl) (by decide +kernel))) <|
    xcn (rO (s_aload_n (k := 1) (by decide +kernel))) <|
    xcn (rO (s_get (T := TX1) (N := 6) (index := 18) x_iw1 rfl (by decide) wf_X1_18 rfl (by decide +kernel))) <|
    xcn (rO (s_iconst (n := 0) (by decide +kernel) (by decide))) <|
    xcn (rO (s_aload_n (k := 0) (by decide +kernel))) <|
    xcn (rO (s_get (T := TX1) (N := 6) (index := 18) x_iw1 rfl (by decide) wf_X1_18 rfl (by decide +kernel))) <|
    xcn (rO (s_iconst (n := 0) (by decide +kernel) (by decide))) <|
    xcn (rO (s_bipush (n := 8) (by decide +kernel) (by decide))) <|
    xcn (rO (s_copy (index := 49) (x_mt 374 (by decide +kernel) rfl) (x_mt 376 (by decide +kernel) rfl) (x_mt 375 (by decide +kernel) rfl) (x_mt 13 (by decide +kernel) rfl) (by decide +kernel))) <|
    xcn (rO (s_aload_n (k := 1) (by decide +kernel))) <|
    xcn (rO (s_get (T := TX1) (N := 6) (index := 21) x_iw1 rfl (by decide) wf_X1_21 rfl (by decide +kernel))) <|
    xcn (rO (s_iconst (n := 0) (by decide +kernel) (by decide))) <|
    xcn (rO (s_aload_n (k := 0) (by decide +kernel))) <|
    xcn (rO (s_get (T := TX1) (N := 6) (index := 21) x_iw1 rfl (by decide) wf_X1_21 rfl (by decide +kernel))) <|
    xcn (rO (s_iconst (n := 0) (by decide +kernel) (by decide))) <|
    xcn (rO (s_bipush (n := 64) (by decide +kernel) (by decide))) <|
    xcn (rO (s_copy (index := 49) (x_mt 374 (by decide +kernel) rfl) (x_mt 376 (by decide +kernel) rfl) (x_mt 375 (by decide +kernel) rfl) (x_mt 13 (by decide +kernel) rfl) (by decide +kernel))) <|
    xcn (rO (s_aload_n (k := 1) (by decide +kernel))) <|
    xcn (rO (s_get (T := TX1) (N := 6) (index := 24) x_iw1 rfl (by decide) wf_X1_24 rfl (by decide +kernel))) <|
    xcn (rO (s_iconst (n := 0) (by decide +kernel) (by decide))) <|
    xcn (rO (s_aload_n (k := 0) (by decide +kernel))) <|
    xcn (rO (s_get (T := TX1) (N := 6) (index := 24) x_iw1 rfl (by decide) wf_X1_24 rfl (by decide +kernel))) <|
    xcn (rO (s_iconst (n := 0) (by decide +kernel) (by decide))) <|
    xcn (rO (s_bipush (n := 64) (by decide +kernel) (by decide))) <|
    xcn (rO (s_copy (index := 49) (x_mt 374 (by decide +kernel) rfl) (x_mt 376 (by decide +kernel) rfl) (x_mt 375 (by decide +kernel) rfl) (x_mt 13 (by decide +kernel) rfl) (by decide +kernel))) <|
    xcn (rR (s_ret0 (by decide +kernel))) <| xnl
theorem xv_25 : xMd (xw_25, xp_25, yX1_copyFrom, cX1_copyFrom, 2, none) := ⟨by decide +kernel, rfl, by decide +kernel, by decide +kernel, xa_25⟩
