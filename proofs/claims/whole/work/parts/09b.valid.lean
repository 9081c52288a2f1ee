set_option maxRecDepth 100000 in
theorem xa_26 : xAR (xRow RX2 cX2_isSafeToGo 2 (some .boolean) xp_26) xw_26 := by
  unfold xw_26
  exact xcn (rO (s_aload_n (k := 0) (by decide +kernel))) <|
    xcn (rO (s_get (T := TX2) (N := 3) (index := 15) x_iw2 rfl (by decide) wf_X2_15 rfl (by decide +kernel))) <|
    xcn (rO (s_get (T := TX9) (N := 7) (index := 23) x_iw9 rfl (by decide) wf_X2_23 rfl (by decide +kernel))) <|
    xcn (rO (s_get (T := TX8) (N := 7) (index := 29) x_iw8 rfl (by decide) wf_X2_29 rfl (by decide +kernel))) <|
    xcn (rO (s_iload_n (k := 1) (by decide +kernel))) <|
    xcn (rO (s_iald (by decide +kernel))) <|
    xcn (rO (s_iconst (n := 2) (by decide +kernel) (by decide))) <|
    xcn (rJ (s_ic_eq (off := 17) (by decide +kernel) (by decide +kernel) (by decide +kernel))) <|
    xcn (rO (s_aload_n (k := 0) (by decide +kernel))) <|
    xcn (rO (s_iconst (n := 1) (by decide +kernel) (by decide))) <|
    xcn (rO (s_iload_n (k := 1) (by decide +kernel))) <|
    xcn (rO (s_ishl (by decide +kernel))) <|
    xcn (rC (s_cV (index := 34) wb_27 wm_X2_34 (by decide +kernel))) <|
    xcn (rJ (s_if_eq (off := 7) (by decide +kernel) (by decide +kernel) (by decide +kernel))) <|
    xcn (rO (s_iconst (n := 1) (by decide +kernel) (by decide))) <|
    xcn (rJ (s_goto (off := 4) (by decide +kernel) (by decide +kernel))) <|
    xcn (rO (s_iconst (n := 0) (by decide +kernel) (by decide))) <|
    xcn (rR (s_ret2 (by decide +kernel))) <| xnl
theorem xv_26 : xMd (xw_26, xp_26, yX2_isSafeToGo, cX2_isSafeToGo, 2, some .boolean) := ⟨by decide +kernel, rfl, by decide +kernel, by decide +kernel, xa_26⟩
set_option maxRecDepth 100000 in
theorem xa_27 : xAR (xRow RX2 cX2_staysCalm 2 (some .boolean) xp_27) xw_27 := by
  unfold xw_27
  exact xcn (rO (s_aload_n (k := 0) (by decide +kernel))) <|
    xcn (rO (s_get (T := TX2) (N := 3) (index := 19) x_iw2 rfl (by decide) wf_X2_19 rfl (by decide +kernel))) <|
    xcn (rO (s_aload_n (k := 0) (by decide +kernel))) <|
    xcn (rO (s_get (T := TX2) (N := 3) (index := 15) x_iw2 rfl (by decide) wf_X2_15 rfl (by decide +kernel))) <|
    xcn (rO (s_get (T := TX9) (N := 7) (index := 23) x_iw9 rfl (by decide) wf_X2_23 rfl (by decide +kernel))) <|
    xcn (rC (s_cV (index := 38) wb_70 wm_X2_38 (by decide +kernel))) <|
    xcn (rO (s_iload_n (k := 1) (by decide +kernel))) <|
    xcn (rO (s_iconst (n := (-1)) (by decide +kernel) (by decide))) <|
    xcn (rO (s_ixor (by decide +kernel))) <|
    xcn (rO (s_iand (by decide +kernel))) <|
    xcn (rO (s_aload_n (k := 0) (by decide +kernel))) <|
    xcn (rO (s_get (T := TX2) (N := 3) (index := 15) x_iw2 rfl (by decide) wf_X2_15 rfl (by decide +kernel))) <|
    xcn (rO (s_get (T := TX9) (N := 7) (index := 23) x_iw9 rfl (by decide) wf_X2_23 rfl (by decide +kernel))) <|
    xcn (rO (s_get (T := TX8) (N := 7) (index := 42) x_iw8 rfl (by decide) wf_X2_42 rfl (by decide +kernel))) <|
    xcn (rC (s_cV (index := 45) wb_37 wm_X2_45 (by decide +kernel))) <|
    xcn (rJ (s_if_ne (off := 7) (by decide +kernel) (by decide +kernel) (by decide +kernel))) <|
    xcn (rO (s_iconst (n := 1) (by decide +kernel) (by decide))) <|
    xcn (rJ (s_goto (off := 4) (by decide +kernel) (by decide +kernel))) <|
    xcn (rO (s_iconst (n := 0) (by decide +kernel) (by decide))) <|
    xcn (rR (s_ret2 (by decide +kernel))) <| xnl
theorem xv_27 : xMd (xw_27, xp_27, yX2_staysCalm, cX2_staysCalm, 2, some .boolean) := ⟨by decide +kernel, rfl, by decide +kernel, by decide +kernel, xa_27⟩
set_option maxRecDepth 100000 in
theorem xa_28 : xAR (xRow RX2 cX2_withdrawn 3 (some .int) xp_28) xw_28 := by
  unfold xw_28
  exact xcn (rO (s_iload_n (k := 2) (by decide +kernel))) <|
    xcn (rO (s_iload_n (k := 1) (by decide +kernel))) <|
    xcn (rC (s_cS (index := 51) wb_211 wm_X2_51 (by decide +kernel))) <|
    xcn (rJ (s_ic_ge (off := 13) (by decide +kernel) (by decide +kernel) (by decide +kernel))) <|
    xcn (rO (s_aload_n (k := 0) (by decide +kernel))) <|
    xcn (rO (s_iload_n (k := 1) (by decide +kernel))) <|
    xcn (rO (s_iconst (n := 0) (by decide +kernel) (by decide))) <|
    xcn (rO (s_iconst (n := 0) (by decide +kernel) (by decide))) <|
    xcn (rC (s_cV (index := 57) wb_29 wm_X2_57 (by decide +kernel))) <|
    xcn (rJ (s_if_ne (off := 5) (by decide +kernel) (by decide +kernel) (by decide +kernel))) <|
    xcn (rO (s_iconst (n := (-1)) (by decide +kernel) (by decide))) <|
    xcn (rR (s_ret1 (by decide +kernel))) <|
    xcn (rO (s_iload_n (k := 2) (by decide +kernel))) <|
    xcn (rO (s_iconst (n := 5) (by decide +kernel) (by decide))) <|
    xcn (rJ (s_ic_ge (off := 12) (by decide +kernel) (by decide +kernel) (by decide +kernel))) <|
    xcn (rO (s_aload_n (k := 0) (by decide +kernel))) <|
    xcn (rO (s_get (T := TX2) (N := 3) (index := 9) x_iw2 rfl (by decide) wf_X2_9 rfl (by decide +kernel))) <|
    xcn (rO (s_iload_n (k := 2) (by decide +kernel))) <|
    xcn (rO (s_iald (by decide +kernel))) <|
    xcn (rJ (s_goto (off := 4) (by decide +kernel) (by decide +kernel))) <|
    xcn (rO (s_iconst (n := (-1)) (by decide +kernel) (by decide))) <|
    xcn (rR (s_ret1 (by decide +kernel))) <| xnl
theorem xv_28 : xMd (xw_28, xp_28, yX2_withdrawn, cX2_withdrawn, 3, some .int) := ⟨by decide +kernel, rfl, by decide +kernel, by decide +kernel, xa_28⟩
set_option maxRecDepth 100000 in
theorem xa_29 : xAR (xRow RX2 cX2_withdraws 6 (some .boolean) xp_29) xw_29 := by
  unfold xw_29
  exact xcn (rO (s_iload_n (k := 2) (by decide +kernel))) <|
    xcn (rO (s_iload_n (k := 1) (by decide +kernel))) <|
    xcn (rJ (s_ic_ne (off := 5) (by decide +kernel) (by decide +kernel) (by decide +kernel))) <|
    xcn (rO (s_iconst (n := 1) (by decide +kernel) (by decide))) <|
    xcn (rR (s_ret2 (by decide +kernel))) <|
    xcn (rO (s_iload_n (k := 3) (by decide +kernel))) <|
    xcn (rO (s_iconst (n := 5) (by decide +kernel) (by decide))) <|
    xcn (rJ (s_ic_lt (off := 5) (by decide +kernel) (by decide +kernel) (by decide +kernel))) <|
    xcn (rO (s_iconst (n := 0) (by decide +kernel) (by decide))) <|
    xcn (rR (s_ret2 (by decide +kernel))) <|
    xcn (rO (s_iconst (n := 0) (by decide +kernel) (by decide))) <|
    xcn (rO (s_istore (k := 4) (by decide) (by decide +kernel))) <|
    xcn (rO s_fgt) <|
    xcn (rO (s_iload (k := 4) (by decide +kernel))) <|
    xcn (rO (s_aload_n (k := 0) (by decide +kernel))) <|
    xcn (rO (s_get (T := TX2) (N := 3) (index := 15) x_iw2 rfl (by decide) wf_X2_15 rfl (by decide +kernel))) <|
    xcn (rO (s_get (T := TX9) (N := 7) (index := 23) x_iw9 rfl (by decide) wf_X2_23 rfl (by decide +kernel))) <|
    xcn (rO (s_get (T := TX8) (N := 7) (index := 61) x_iw8 rfl (by decide) wf_X2_61 rfl (by decide +kernel))) <|
    xcn (rJ (s_ic_ge (off := 65) (by decide +kernel) (by decide +kernel) (by decide +kernel))) <|
    xcn (rO (s_iload_n (k := 2) (by decide +kernel))) <|
    xcn (rO (s_iconst (n := 1) (by decide +kernel) (by decide))) <|
    xcn (rO (s_iload (k := 4) (by decide +kernel))) <|
    xcn (rO (s_ishl (by decide +kernel))) <|
    xcn (rO (s_ior (by decide +kernel))) <|
    xcn (rO (s_istore (k := 5) (by decide) (by decide +kernel))) <|
    xcn (rO (s_iload_n (k := 1) (by decide +kernel))) <|
    xcn (rO (s_iload_n (k := 2) (by decide +kernel))) <|
    xcn (rO (s_iconst (n := (-1)) (by decide +kernel) (by decide))) <|
    xcn (rO (s_ixor (by decide +kernel))) <|
    xcn (rO (s_iand (by decide +kernel))) <|
    xcn (rO (s_iload (k := 4) (by decide +kernel))) <|
    xcn (rC (s_cS (index := 65) wb_45 wm_X2_65 (by decide +kernel))) <|
    xcn (rJ (s_if_eq (off := 38) (by decide +kernel) (by decide +kernel) (by decide +kernel))) <|
    xcn (rO (s_aload_n (k := 0) (by decide +kernel))) <|
    xcn (rO (s_iload (k := 5) (by decide +kernel))) <|
    xcn (rC (s_cV (index := 34) wb_27 wm_X2_34 (by decide +kernel))) <|
    xcn (rJ (s_if_ne (off := 6) (by decide +kernel) (by decide +kernel) (by decide +kernel))) <|
    xcn (rJ (s_goto (off := 26) (by decide +kernel) (by decide +kernel))) <|
    xcn (rO (s_aload_n (k := 0) (by decide +kernel))) <|
    xcn (rO (s_get (T := TX2) (N := 3) (index := 9) x_iw2 rfl (by decide) wf_X2_9 rfl (by decide +kernel))) <|
    xcn (rO (s_iload_n (k := 3) (by decide +kernel))) <|
    xcn (rO (s_iload (k := 4) (by decide +kernel))) <|
    xcn (rO (s_iast (by decide +kernel))) <|
    xcn (rO (s_aload_n (k := 0) (by decide +kernel))) <|
    xcn (rO (s_iload_n (k := 1) (by decide +kernel))) <|
    xcn (rO (s_iload (k := 5) (by decide +kernel))) <|
    xcn (rO (s_iload_n (k := 3) (by decide +kernel))) <|
    xcn (rO (s_iconst (n := 1) (by decide +kernel) (by decide))) <|
    xcn (rO (s_iadd (by decide +kernel))) <|
    xcn (rC (s_cV (index := 57) wb_29 wm_X2_57 (by decide +kernel))) <|
    xcn (rJ (s_if_eq (off := 5) (by decide +kernel) (by decide +kernel) (by decide +kernel))) <|
    xcn (rO s_fgt) <|
    xcn (rO (s_iconst (n := 1) (by decide +kernel) (by decide))) <|
    xcn (rR (s_ret2 (by decide +kernel))) <|
    xcn (rO (s_iinc (k := 4) (n := 1) (by decide) (by decide) (by decide +kernel))) <|
    xcn (rJ (s_goto (off := (-74)) (by decide +kernel) (by decide +kernel))) <|
    xcn (rO s_fgt) <|
    xcn (rO (s_iconst (n := 0) (by decide +kernel) (by decide))) <|
    xcn (rR (s_ret2 (by decide +kernel))) <| xnl
theorem xv_29 : xMd (xw_29, xp_29, yX2_withdraws, cX2_withdraws, 6, some .boolean) := ⟨by decide +kernel, rfl, by decide +kernel, by decide +kernel, xa_29⟩
set_option maxRecDepth 100000 in
theorem xa_30 : xAR (xRow RX2 cX2_worstSet 7 (some .int) xp_30) xw_30 := by
  unfold xw_30
  exact xcn (rO (s_aload_n (k := 0) (by decide +kernel))) <|
    xcn (rO (s_get (T := TX2) (N := 3) (index := 15) x_iw2 rfl (by decide) wf_X2_15 rfl (by decide +kernel))) <|
    xcn (rO (s_get (T := TX9) (N := 7) (index := 23) x_iw9 rfl (by decide) wf_X2_23 rfl (by decide +kernel))) <|
    xcn (rC (s_cV (index := 38) wb_70 wm_X2_38 (by decide +kernel))) <|
    xcn (rO (s_istore_n (k := 2) (by decide) (by decide +kernel))) <|
    xcn (rO (s_iconst (n := (-1)) (by decide +kernel) (by decide))) <|
    xcn (rO (s_istore_n (k := 3) (by decide) (by decide +kernel))) <|
    xcn (rO (s_iconst (n := (-1)) (by decide +kernel) (by decide))) <|
    xcn (rO (s_istore (k := 4) (by decide) (by decide +kernel))) <|
    xcn (rO (s_iconst (n := 1) (by decide +kernel) (by decide))) <|
    xcn (rO (s_istore (k := 5) (by decide) (by decide +kernel))) <|
    xcn (rO s_fgt) <|
    xcn (rO (s_iload (k := 5) (by decide +kernel))) <|
    xcn (rO (s_iload_n (k := 2) (by decide +kernel))) <|
    xcn (rJ (s_ic_gt (off := 52) (by decide +kernel) (by decide +kernel) (by decide +kernel))) <|
    xcn (rO (s_iload (k := 5) (by decide +kernel))) <|
    xcn (rO (s_iload_n (k := 2) (by decide +kernel))) <|
    xcn (rO (s_iconst (n := (-1)) (by decide +kernel) (by decide))) <|
    xcn (rO (s_ixor (by decide +kernel))) <|
    xcn (rO (s_iand (by decide +kernel))) <|
    xcn (rJ (s_if_ne (off := 37) (by decide +kernel) (by decide +kernel) (by decide +kernel))) <|
    xcn (rO (s_iload (k := 5) (by decide +kernel))) <|
    xcn (rC (s_cS (index := 51) wb_211 wm_X2_51 (by decide +kernel))) <|
    xcn (rO (s_iload_n (k := 1) (by decide +kernel))) <|
    xcn (rJ (s_ic_eq (off := 6) (by decide +kernel) (by decide +kernel) (by decide +kernel))) <|
    xcn (rJ (s_goto (off := 25) (by decide +kernel) (by decide +kernel))) <|
    xcn (rO (s_aload_n (k := 0) (by decide +kernel))) <|
    xcn (rO (s_iload (k := 5) (by decide +kernel))) <|
    xcn (rC (s_cV (index := 69) wb_31 wm_X2_69 (by decide +kernel))) <|
    xcn (rO (s_istore (k := 6) (by decide) (by decide +kernel))) <|
    xcn (rO (s_iload (k := 6) (by decide +kernel))) <|
    xcn (rO (s_iload (k := 4) (by decide +kernel))) <|
    xcn (rJ (s_ic_le (off := 10) (by decide +kernel) (by decide +kernel) (by decide +kernel))) <|
    xcn (rO (s_iload (k := 6) (by decide +kernel))) <|
    xcn (rO (s_istore (k := 4) (by decide) (by decide +kernel))) <|
    xcn (rO (s_iload (k := 5) (by decide +kernel))) <|
    xcn (rO (s_istore_n (k := 3) (by decide) (by decide +kernel))) <|
    xcn (rO (s_iinc (k := 5) (n := 1) (by decide) (by decide) (by decide +kernel))) <|
    xcn (rJ (s_goto (off := (-52)) (by decide +kernel) (by decide +kernel))) <|
    xcn (rO s_fgt) <|
    xcn (rO (s_iload_n (k := 3) (by decide +kernel))) <|
    xcn (rR (s_ret1 (by decide +kernel))) <| xnl
theorem xv_30 : xMd (xw_30, xp_30, yX2_worstSet, cX2_worstSet, 7, some .int) := ⟨by decide +kernel, rfl, by decide +kernel, by decide +kernel, xa_30⟩
set_option maxRecDepth 100000 in
theorem xa_31 : xAR (xRow RX2 cX2_excess 5 (some .int) xp_31) xw_31 := by
  unfold xw_31
  exact xcn (rO (s_aload_n (k := 0) (by decide +kernel))) <|
    xcn (rO (s_get (T := TX2) (N := 3) (index := 15) x_iw2 rfl (by decide) wf_X2_15 rfl (by decide +kernel))) <|
    xcn (rO (s_get (T := TX9) (N := 7) (index := 23) x_iw9 rfl (by decide) wf_X2_23 rfl (by decide +kernel))) <|
    xcn (rC (s_cV (index := 38) wb_70 wm_X2_38 (by decide +kernel))) <|
    xcn (rO (s_iload_n (k := 1) (by decide +kernel))) <|
    xcn (rO (s_iconst (n := (-1)) (by decide +kernel) (by decide))) <|
    xcn (rO (s_ixor (by decide +kernel))) <|
    xcn (rO (s_iand (by decide +kernel))) <|
    xcn (rO (s_istore_n (k := 2) (by decide) (by decide +kernel))) <|
    xcn (rO (s_aload_n (k := 0) (by decide +kernel))) <|
    xcn (rO (s_get (T := TX2) (N := 3) (index := 19) x_iw2 rfl (by decide) wf_X2_19 rfl (by decide +kernel))) <|
    xcn (rO (s_iload_n (k := 2) (by decide +kernel))) <|
    xcn (rO (s_aload_n (k := 0) (by decide +kernel))) <|
    xcn (rO (s_get (T := TX2) (N := 3) (index := 15) x_iw2 rfl (by decide) wf_X2_15 rfl (by decide +kernel))) <|
    xcn (rO (s_get (T := TX9) (N := 7) (index := 23) x_iw9 rfl (by decide) wf_X2_23 rfl (by decide +kernel))) <|
    xcn (rO (s_get (T := TX8) (N := 7) (index := 42) x_iw8 rfl (by decide) wf_X2_42 rfl (by decide +kernel))) <|
    xcn (rC (s_cV (index := 45) wb_37 wm_X2_45 (by decide +kernel))) <|
    xcn (rO (s_pop (by decide +kernel))) <|
    xcn (rO (s_iconst (n := 0) (by decide +kernel) (by decide))) <|
    xcn (rO (s_istore_n (k := 3) (by decide) (by decide +kernel))) <|
    xcn (rO (s_iconst (n := 0) (by decide +kernel) (by decide))) <|
    xcn (rO (s_istore (k := 4) (by decide) (by decide +kernel))) <|
    xcn (rO s_fgt) <|
    xcn (rO (s_iload (k := 4) (by decide +kernel))) <|
    xcn (rO (s_aload_n (k := 0) (by decide +kernel))) <|
    xcn (rO (s_get (T := TX2) (N := 3) (index := 15) x_iw2 rfl (by decide) wf_X2_15 rfl (by decide +kernel))) <|
    xcn (rO (s_get (T := TX9) (N := 7) (index := 23) x_iw9 rfl (by decide) wf_X2_23 rfl (by decide +kernel))) <|
    xcn (rO (s_get (T := TX8) (N := 7) (index := 61) x_iw8 rfl (by decide) wf_X2_61 rfl (by decide +kernel))) <|
    xcn (rJ (s_ic_ge (off := 49) (by decide +kernel) (by decide +kernel) (by decide +kernel))) <|
    xcn (rO (s_iload_n (k := 2) (by decide +kernel))) <|
    xcn (rO (s_iload (k := 4) (by decide +kernel))) <|
    xcn (rC (s_cS (index := 65) wb_45 wm_X2_65 (by decide +kernel))) <|
    xcn (rJ (s_if_eq (off := 34) (by decide +kernel) (by decide +kernel) (by decide +kernel))) <|
    xcn (rO (s_iload_n (k := 3) (by decide +kernel))) <|
    xcn (rO (s_iconst (n := 0) (by decide +kernel) (by decide))) <|
    xcn (rO (s_aload_n (k := 0) (by decide +kernel))) <|
    xcn (rO (s_get (T := TX2) (N := 3) (index := 19) x_iw2 rfl (by decide) wf_X2_19 rfl (by decide +kernel))) <|
    xcn (rO (s_get (T := TX4) (N := 3) (index := 72) x_iw4 rfl (by decide) wf_X2_72 rfl (by decide +kernel))) <|
    xcn (rO (s_iload (k := 4) (by decide +kernel))) <|
    xcn (rO (s_iald (by decide +kernel))) <|
    xcn (rO (s_aload_n (k := 0) (by decide +kernel))) <|
    xcn (rO (s_get (T := TX2) (N := 3) (index := 15) x_iw2 rfl (by decide) wf_X2_15 rfl (by decide +kernel))) <|
    xcn (rO (s_get (T := TX9) (N := 7) (index := 23) x_iw9 rfl (by decide) wf_X2_23 rfl (by decide +kernel))) <|
    xcn (rO (s_get (T := TX8) (N := 7) (index := 75) x_iw8 rfl (by decide) wf_X2_75 rfl (by decide +kernel))) <|
    xcn (rO (s_iload (k := 4) (by decide +kernel))) <|
    xcn (rO (s_iald (by decide +kernel))) <|
    xcn (rO (s_isub (by decide +kernel))) <|
    xcn (rO (s_mmax (index := 78) (x_mt (w := Cond.methodLink RX2 78 Lib.Math.max.name) 779 (by decide +kernel) rfl) (x_mt (w := Cond.static Lib.Math.max.name) 736 (by decide +kernel) rfl) (x_mt (w := Cond.initialized "java/lang/Math") 14 (by decide +kernel) rfl) (x_mt (w := Cond.code Lib.Math.max.name Lib.Math.max.code 2 (some .int)) 737 (by decide +kernel) rfl) (by decide +kernel))) <|
    xcn (rO (s_iadd (by decide +kernel))) <|
    xcn (rO (s_istore_n (k := 3) (by decide) (by decide +kernel))) <|
    xcn (rO (s_iinc (k := 4) (n := 1) (by decide) (by decide) (by decide +kernel))) <|
    xcn (rJ (s_goto (off := (-58)) (by decide +kernel) (by decide +kernel))) <|
    xcn (rO s_fgt) <|
    xcn (rO (s_iload_n (k := 3) (by decide +kernel))) <|
    xcn (rR (s_ret1 (by decide +kernel))) <| xnl
theorem xv_31 : xMd (xw_31, xp_31, yX2_excess, cX2_excess, 5, some .int) := ⟨by decide +kernel, rfl, by decide +kernel, by decide +kernel, xa_31⟩
set_option maxRecDepth 100000 in
theorem xa_32 : xAR (xRow RX3 cX3_markState 2 (none) xp_32) xw_32 := by
  unfold xw_32
  exact xcn (rO (s_aload_n (k := 0) (by decide +kernel))) <|
    xcn (rO (s_get (T := TX3) (N := 3) (index := 13) x_iw3 rfl (by decide) wf_X3_13 rfl (by decide +kernel))) <|
    xcn (rO (s_aload_n (k := 0) (by decide +kernel))) <|
    xcn (rO (s_get (T := TX3) (N := 3) (index := 18) x_iw3 rfl (by decide) wf_X3_18 rfl (by decide +kernel))) <|
    xcn (rO (s_aald (by decide +kernel))) <|
    xcn (rO (s_aload_n (k := 1) (by decide +kernel))) <|
    xcn (rC (s_cV (index := 22) wb_77 wm_X3_22 (by decide +kernel))) <|
    xcn (rR (s_ret0 (by decide +kernel))) <| xnl
theorem xv_32 : xMd (xw_32, xp_32, yX3_markState, cX3_markState, 2, none) := ⟨by decide +kernel, rfl, by decide +kernel, by decide +kernel, xa_32⟩
set_option maxRecDepth 100000 in
theorem xa_33 : xAR (xRow RX3 cX3_keepMarked 1 (none) xp_33) xw_33 := by
  unfold xw_33
  exact xcn (rO (s_aload_n (k := 0) (by decide +kernel))) <|
    xcn (rO (s_aload_n (k := 0) (by decide +kernel))) <|
    xcn (rO (s_get (T := TX3) (N := 3) (index := 18) x_iw3 rfl (by decide) wf_X3_18 rfl (by decide +kernel))) <|
    xcn (rO (s_iconst (n := 1) (by decide +kernel) (by decide))) <|
    xcn (rO (s_iadd (by decide +kernel))) <|
    xcn (rO (s_bipush (n := 6) (by decide +kernel) (by decide))) <|
    xcn (rJ (s_ic_ge (off := 12) (by decide +kernel) (by decide +kernel) (by decide +kernel))) <|
    xcn (rO (s_aload_n (k := 0) (by decide +kernel))) <|
    xcn (rO (s_get (T := TX3) (N := 3) (index := 18) x_iw3 rfl (by decide) wf_X3_18 rfl (by decide +kernel))) <|
    xcn (rO (s_iconst (n := 1) (by decide +kernel) (by decide))) <|
    xcn (rO (s_iadd (by decide +kernel))) <|
    xcn (rJ (s_goto (off := 4) (by decide +kernel) (by decide +kernel))) <|
    xcn (rO (s_iconst (n := 0) (by decide +kernel) (by decide))) <|
    xcn (rO (s_put (T := TX3) (N := 3) (index := 18) (ty0 := tyX3) (z := false) x_iw3 tyX3_ok nmX3 rfl (by decide) wf_X3_18 rfl rfl rfl (by decide +kernel))) <|
    xcn (rO (s_aload_n (k := 0) (by decide +kernel))) <|
    xcn (rO (s_aload_n (k := 0) (by decide +kernel))) <|
    xcn (rO (s_get (T := TX3) (N := 3) (index := 26) x_iw3 rfl (by decide) wf_X3_26 rfl (by decide +kernel))) <|
    xcn (rO (s_iconst (n := 1) (by decide +kernel) (by decide))) <|
    xcn (rO (s_iadd (by decide +kernel))) <|
    xcn (rO (s_iconst (n := 5) (by decide +kernel) (by decide))) <|
    xcn (rO (s_mmin (index := 29) (x_mt (w := Cond.methodLink RX3 29 Lib.Math.min.name) 426 (by decide +kernel) rfl) (x_mt (w := Cond.static Lib.Math.min.name) 427 (by decide +kernel) rfl) (x_mt (w := Cond.initialized "java/lang/Math") 14 (by decide +kernel) rfl) (x_mt (w := Cond.code Lib.Math.min.name Lib.Math.min.code 2 (some .int)) 428 (by decide +kernel) rfl) (by decide +kernel))) <|
    xcn (rO (s_put (T := TX3) (N := 3) (index := 26) (ty0 := tyX3) (z := false) x_iw3 tyX3_ok nmX3 rfl (by decide) wf_X3_26 rfl rfl rfl (by decide +kernel))) <|
    xcn (rR (s_ret0 (by decide +kernel))) <| xnl
theorem xv_33 : xMd (xw_33, xp_33, yX3_keepMarked, cX3_keepMarked, 1, none) := ⟨by decide +kernel, rfl, by decide +kernel, by decide +kernel, xa_33⟩
set_option maxRecDepth 100000 in
theorem xa_34 : xAR (xRow RX3 cX3_restoreMarked 2 (none) xp_34) xw_34 := by
  unfold xw_34
  exact xcn (rO (s_aload_n (k := 1) (by decide +kernel))) <|
    xcn (rO (s_aload_n (k := 0) (by decide +kernel))) <|
    xcn (rO (s_get (T := TX3) (N := 3) (index := 13) x_iw3 rfl (by decide) wf_X3_13 rfl (by decide +kernel))) <|
    xcn (rO (s_aload_n (k := 0) (by decide +kernel))) <|
    xcn (rO (s_get (T := TX3) (N := 3) (index := 18) x_iw3 rfl (by decide) wf_X3_18 rfl (by decide +kernel))) <|
    xcn (rO (s_aald (by decide +kernel))) <|
    xcn (rC (s_cV (index := 22) wb_77 wm_X3_22 (by decide +kernel))) <|
    xcn (rR (s_ret0 (by decide +kernel))) <| xnl
theorem xv_34 : xMd (xw_34, xp_34, yX3_restoreMarked, cX3_restoreMarked, 2, none) := ⟨by decide +kernel, rfl, by decide +kernel, by decide +kernel, xa_34⟩
set_option maxRecDepth 100000 in
theorem xa_35 : xAR (xRow RX3 cX3_restoreLatest 2 (none) xp_35) xw_35 := by
  unfold xw_35
  exact xcn (rO (s_aload_n (k := 0) (by decide +kernel))) <|
    xcn (rO (s_aload_n (k := 0) (by decide +kernel))) <|
    xcn (rO (s_get (T := TX3) (N := 3) (index := 18) x_iw3 rfl (by decide) wf_X3_18 rfl (by decide +kernel))) <|
    xcn (rJ (s_if_le (off := 12) (by decide +kernel) (by decide +kernel) (by decide +kernel))) <|
    xcn (rO (s_aload_n (k := 0) (by decide +kernel))) <|
    xcn (rO (s_get (T := TX3) (N := 3) (index := 18) x_iw3 rfl (by decide) wf_X3_18 rfl (by decide +kernel))) <|
    xcn (rO (s_iconst (n := 1) (by decide +kernel) (by decide))) <|
    xcn (rO (s_isub (by decide +kernel))) <|
    xcn (rJ (s_goto (off := 4) (by decide +kernel) (by decide +kernel))) <|
    xcn (rO (s_iconst (n := 5) (by decide +kernel) (by decide))) <|
    xcn (rO (s_put (T := TX3) (N := 3) (index := 18) (ty0 := tyX3) (z := false) x_iw3 tyX3_ok nmX3 rfl (by decide) wf_X3_18 rfl rfl rfl (by decide +kernel))) <|
    xcn (rO (s_aload_n (k := 0) (by decide +kernel))) <|
    xcn (rO (s_dup (by decide +kernel))) <|
    xcn (rO (s_get (T := TX3) (N := 3) (index := 26) x_iw3 rfl (by decide) wf_X3_26 rfl (by decide +kernel))) <|
    xcn (rO (s_iconst (n := 1) (by decide +kernel) (by decide))) <|
    xcn (rO (s_isub (by decide +kernel))) <|
    xcn (rO (s_put (T := TX3) (N := 3) (index := 26) (ty0 := tyX3) (z := false) x_iw3 tyX3_ok nmX3 rfl (by decide) wf_X3_26 rfl rfl rfl (by decide +kernel))) <|
    xcn (rO (s_aload_n (k := 0) (by decide +kernel))) <|
    xcn (rO (s_aload_n (k := 1) (by decide +kernel))) <|
    xcn (rC (s_cV (index := 35) wb_34 wm_X3_35 (by decide +kernel))) <|
    xcn (rR (s_ret0 (by decide +kernel))) <| xnl
theorem xv_35 : xMd (xw_35, xp_35, yX3_restoreLatest, cX3_restoreLatest, 2, none) := ⟨by decide +kernel, rfl, by decide +kernel, by decide +kernel, xa_35⟩
set_option maxRecDepth 100000 in
theorem xa_36 : xAR (xRow RX4 cX4_lookAtPresent 1 (some .int) xp_36) xw_36 := by
  unfold xw_36
  exact xcn (rO (s_aload_n (k := 0) (by decide +kernel))) <|
    xcn (rO (s_aload_n (k := 0) (by decide +kernel))) <|
    xcn (rO (s_get (T := TX4) (N := 3) (index := 18) x_iw4 rfl (by decide) wf_X4_18 rfl (by decide +kernel))) <|
    xcn (rO (s_get (T := TX9) (N := 7) (index := 22) x_iw9 rfl (by decide) wf_X4_22 rfl (by decide +kernel))) <|
    xcn (rC (s_cV (index := 28) wb_70 wm_X4_28 (by decide +kernel))) <|
    xcn (rO (s_aload_n (k := 0) (by decide +kernel))) <|
    xcn (rO (s_get (T := TX4) (N := 3) (index := 18) x_iw4 rfl (by decide) wf_X4_18 rfl (by decide +kernel))) <|
    xcn (rO (s_get (T := TX9) (N := 7) (index := 22) x_iw9 rfl (by decide) wf_X4_22 rfl (by decide +kernel))) <|
    xcn (rO (s_get (T := TX8) (N := 7) (index := 34) x_iw8 rfl (by decide) wf_X4_34 rfl (by decide +kernel))) <|
    xcn (rC (s_cV (index := 37) wb_37 wm_X4_37 (by decide +kernel))) <|
    xcn (rR (s_ret1 (by decide +kernel))) <| xnl
theorem xv_36 : xMd (xw_36, xp_36, yX4_lookAtPresent, cX4_lookAtPresent, 1, some .int) := ⟨by decide +kernel, rfl, by decide +kernel, by decide +kernel, xa_36⟩
set_option maxRecDepth 100000 in
theorem xa_37 : xAR (xRow RX4 cX4_look 6 (some .int) xp_37) xw_37 := by
  unfold xw_37
  exact xcn (rO (s_aload_n (k := 0) (by decide +kernel))) <|
    xcn (rO (s_get (T := TX4) (N := 3) (index := 18) x_iw4 rfl (by decide) wf_X4_18 rfl (by decide +kernel))) <|
    xcn (rO (s_get (T := TX9) (N := 7) (index := 22) x_iw9 rfl (by decide) wf_X4_22 rfl (by decide +kernel))) <|
    xcn (rO (s_astore_n (k := 3) (by decide) (by decide +kernel))) <|
    xcn (rO (s_iconst (n := 0) (by decide +kernel) (by decide))) <|
    xcn (rO (s_istore (k := 4) (by decide) (by decide +kernel))) <|
    xcn (rO s_fgt) <|
    xcn (rO (s_iload (k := 4) (by decide +kernel))) <|
    xcn (rO (s_aload_n (k := 3) (by decide +kernel))) <|
    xcn (rO (s_get (T := TX8) (N := 7) (index := 41) x_iw8 rfl (by decide) wf_X4_41 rfl (by decide +kernel))) <|
    xcn (rJ (s_ic_ge (off := 17) (by decide +kernel) (by decide +kernel) (by decide +kernel))) <|
    xcn (rO (s_aload_n (k := 0) (by decide +kernel))) <|
    xcn (rO (s_get (T := TX4) (N := 3) (index := 15) x_iw4 rfl (by decide) wf_X4_15 rfl (by decide +kernel))) <|
    xcn (rO (s_iload (k := 4) (by decide +kernel))) <|
    xcn (rO (s_iconst (n := 0) (by decide +kernel) (by decide))) <|
    xcn (rO (s_iast (by decide +kernel))) <|
    xcn (rO (s_iinc (k := 4) (n := 1) (by decide) (by decide) (by decide +kernel))) <|
    xcn (rJ (s_goto (off := (-20)) (by decide +kernel) (by decide +kernel))) <|
    xcn (rO s_fgt) <|
    xcn (rO (s_iconst (n := 0) (by decide +kernel) (by decide))) <|
    xcn (rO (s_istore (k := 4) (by decide) (by decide +kernel))) <|
    xcn (rO s_fgt) <|
    xcn (rO (s_iload (k := 4) (by decide +kernel))) <|
    xcn (rO (s_aload_n (k := 0) (by decide +kernel))) <|
    xcn (rO (s_get (T := TX4) (N := 3) (index := 18) x_iw4 rfl (by decide) wf_X4_18 rfl (by decide +kernel))) <|
    xcn (rO (s_get (T := TX9) (N := 7) (index := 45) x_iw9 rfl (by decide) wf_X4_45 rfl (by decide +kernel))) <|
    xcn (rO (s_get (T := TX1) (N := 6) (index := 49) x_iw1 rfl (by decide) wf_X4_49 rfl (by decide +kernel))) <|
    xcn (rJ (s_ic_ge (off := 57) (by decide +kernel) (by decide +kernel) (by decide +kernel))) <|
    xcn (rO (s_aload_n (k := 0) (by decide +kernel))) <|
    xcn (rO (s_iload (k := 4) (by decide +kernel))) <|
    xcn (rO (s_iload_n (k := 1) (by decide +kernel))) <|
    xcn (rO (s_aload_n (k := 2) (by decide +kernel))) <|
    xcn (rC (s_cV (index := 52) wb_40 wm_X4_52 (by decide +kernel))) <|
    xcn (rO (s_istore (k := 5) (by decide) (by decide +kernel))) <|
    xcn (rO (s_aload_n (k := 0) (by decide +kernel))) <|
    xcn (rO (s_get (T := TX4) (N := 3) (index := 9) x_iw4 rfl (by decide) wf_X4_9 rfl (by decide +kernel))) <|
    xcn (rO (s_iload (k := 4) (by decide +kernel))) <|
    xcn (rO (s_iload (k := 5) (by decide +kernel))) <|
    xcn (rO (s_iast (by decide +kernel))) <|
    xcn (rO (s_iload (k := 5) (by decide +kernel))) <|
    xcn (rO (s_iconst (n := (-1)) (by decide +kernel) (by decide))) <|
    xcn (rJ (s_ic_eq (off := 26) (by decide +kernel) (by decide +kernel) (by decide +kernel))) <|
    xcn (rO (s_aload_n (k := 0) (by decide +kernel))) <|
    xcn (rO (s_get (T := TX4) (N := 3) (index := 15) x_iw4 rfl (by decide) wf_X4_15 rfl (by decide +kernel))) <|
    xcn (rO (s_iload (k := 5) (by decide +kernel))) <|
    xcn (rO (s_dup2 (by decide +kernel))) <|
    xcn (rO (s_iald (by decide +kernel))) <|
    xcn (rO (s_aload_n (k := 0) (by decide +kernel))) <|
    xcn (rO (s_get (T := TX4) (N := 3) (index := 18) x_iw4 rfl (by decide) wf_X4_18 rfl (by decide +kernel))) <|
    xcn (rO (s_get (T := TX9) (N := 7) (index := 45) x_iw9 rfl (by decide) wf_X4_45 rfl (by decide +kernel))) <|
    xcn (rO (s_get (T := TX1) (N := 6) (index := 56) x_iw1 rfl (by decide) wf_X4_56 rfl (by decide +kernel))) <|
    xcn (rO (s_iload (k := 4) (by decide +kernel))) <|
    xcn (rO (s_iald (by decide +kernel))) <|
    xcn (rO (s_iadd (by decide +kernel))) <|
    xcn (rO (s_iast (by decide +kernel))) <|
    xcn (rO (s_iinc (k := 4) (n := 1) (by decide) (by decide) (by decide +kernel))) <|
    xcn (rJ (s_goto (off := (-66)) (by decide +kernel) (by decide +kernel))) <|
    xcn (rO s_fgt) <|
    xcn (rO (s_aload_n (k := 0) (by decide +kernel))) <|
    xcn (rC (s_cV (index := 59) wb_38 wm_X4_59 (by decide +kernel))) <|
    xcn (rO (s_iconst (n := 0) (by decide +kernel) (by decide))) <|
    xcn (rO (s_istore (k := 4) (by decide) (by decide +kernel))) <|
    xcn (rO (s_iconst (n := 0) (by decide +kernel) (by decide))) <|
    xcn (rO (s_istore (k := 5) (by decide) (by decide +kernel))) <|
    xcn (rO s_fgt) <|
    xcn (rO (s_iload (k := 5) (by decide +kernel))) <|
    xcn (rO (s_aload_n (k := 3) (by decide +kernel))) <|
    xcn (rO (s_get (T := TX8) (N := 7) (index := 41) x_iw8 rfl (by decide) wf_X4_41 rfl (by decide +kernel))) <|
    xcn (rJ (s_ic_ge (off := 44) (by decide +kernel) (by decide +kernel) (by decide +kernel))) <|
    xcn (rO (s_iload_n (k := 1) (by decide +kernel))) <|
    xcn (rO (s_iload (k := 5) (by decide +kernel))) <|
    xcn (rC (s_cS (index := 62) wb_45 wm_X4_62 (by decide +kernel))) <|
    xcn (rJ (s_if_eq (off := 29) (by decide +kernel) (by decide +kernel) (by decide +kernel))) <|
    xcn (rO (s_aload_n (k := 0) (by decide +kernel))) <|
    xcn (rO (s_get (T := TX4) (N := 3) (index := 15) x_iw4 rfl (by decide) wf_X4_15 rfl (by decide +kernel))) <|
    xcn (rO (s_iload (k := 5) (by decide +kernel))) <|
    xcn (rO (s_iald (by decide +kernel))) <|
    xcn (rO (s_aload_n (k := 3) (by decide +kernel))) <|
    xcn (rO (s_get (T := TX8) (N := 7) (index := 66) x_iw8 rfl (by decide) wf_X4_66 rfl (by decide +kernel))) <|
    xcn (rO (s_iload (k := 5) (by decide +kernel))) <|
    xcn (rO (s_iald (by decide +kernel))) <|
    xcn (rJ (s_ic_le (off := 12) (by decide +kernel) (by decide +kernel) (by decide +kernel))) <|
    xcn (rO (s_iload (k := 4) (by decide +kernel))) <|
    xcn (rO (s_iconst (n := 1) (by decide +kernel) (by decide))) <|
    xcn (rO (s_iload (k := 5) (by decide +kernel))) <|
    xcn (rO (s_ishl (by decide +kernel))) <|
    xcn (rO (s_ior (by decide +kernel))) <|
    xcn (rO (s_istore (k := 4) (by decide) (by decide +kernel))) <|
    xcn (rO (s_iinc (k := 5) (n := 1) (by decide) (by decide) (by decide +kernel))) <|
    xcn (rJ (s_goto (off := (-47)) (by decide +kernel) (by decide +kernel))) <|
    xcn (rO s_fgt) <|
    xcn (rO (s_iload (k := 4) (by decide +kernel))) <|
    xcn (rR (s_ret1 (by decide +kernel))) <| xnl
theorem xv_37 : xMd (xw_37, xp_37, yX4_look, cX4_look, 6, some .int) := ⟨by decide +kernel, rfl, by decide +kernel, by decide +kernel, xa_37⟩
set_option maxRecDepth 100000 in
theorem xa_38 : xAR (xRow RX4 cX4_addCarried 4 (none) xp_38) xw_38 := by
  unfold xw_38
  exact xcn (rO (s_aload_n (k := 0) (by decide +kernel))) <|
    xcn (rO (s_get (T := TX4) (N := 3) (index := 18) x_iw4 rfl (by decide) wf_X4_18 rfl (by decide +kernel))) <|
    xcn (rO (s_get (T := TX9) (N := 7) (index := 69) x_iw9 rfl (by decide) wf_X4_69 rfl (by decide +kernel))) <|
    xcn (rO (s_astore_n (k := 1) (by decide) (by decide +kernel))) <|
    xcn (rO (s_iconst (n := 0) (by decide +kernel) (by decide))) <|
    xcn (rO (s_istore_n (k := 2) (by decide) (by decide +kernel))) <|
    xcn (rO s_fgt) <|
    xcn (rO (s_iload_n (k := 2) (by decide +kernel))) <|
    xcn (rO (s_aload_n (k := 1) (by decide +kernel))) <|
    xcn (rO (s_get (T := TX7) (N := 5) (index := 73) x_iw7 rfl (by decide) wf_X4_73 rfl (by decide +kernel))) <|
    xcn (rJ (s_ic_ge (off := 46) (by decide +kernel) (by decide +kernel) (by decide +kernel))) <|
    xcn (rO (s_aload_n (k := 1) (by decide +kernel))) <|
    xcn (rO (s_get (T := TX7) (N := 5) (index := 76) x_iw7 rfl (by decide) wf_X4_76 rfl (by decide +kernel))) <|
    xcn (rO (s_iload_n (k := 2) (by decide +kernel))) <|
    xcn (rO (s_iald (by decide +kernel))) <|
    xcn (rO (s_istore_n (k := 3) (by decide) (by decide +kernel))) <|
    xcn (rO (s_aload_n (k := 0) (by decide +kernel))) <|
    xcn (rO (s_get (T := TX4) (N := 3) (index := 9) x_iw4 rfl (by decide) wf_X4_9 rfl (by decide +kernel))) <|
    xcn (rO (s_aload_n (k := 1) (by decide +kernel))) <|
    xcn (rO (s_get (T := TX7) (N := 5) (index := 79) x_iw7 rfl (by decide) wf_X4_79 rfl (by decide +kernel))) <|
    xcn (rO (s_iload_n (k := 2) (by decide +kernel))) <|
    xcn (rO (s_iald (by decide +kernel))) <|
    xcn (rO (s_iald (by decide +kernel))) <|
    xcn (rO (s_iload_n (k := 3) (by decide +kernel))) <|
    xcn (rJ (s_ic_eq (off := 18) (by decide +kernel) (by decide +kernel) (by decide +kernel))) <|
    xcn (rO (s_aload_n (k := 0) (by decide +kernel))) <|
    xcn (rO (s_get (T := TX4) (N := 3) (index := 15) x_iw4 rfl (by decide) wf_X4_15 rfl (by decide +kernel))) <|
    xcn (rO (s_iload_n (k := 3) (by decide +kernel))) <|
    xcn (rO (s_dup2 (by decide +kernel))) <|
    xcn (rO (s_iald (by decide +kernel))) <|
    xcn (rO (s_aload_n (k := 1) (by decide +kernel))) <|
    xcn (rO (s_get (T := TX7) (N := 5) (index := 82) x_iw7 rfl (by decide) wf_X4_82 rfl (by decide +kernel))) <|
    xcn (rO (s_iload_n (k := 2) (by decide +kernel))) <|
    xcn (rO (s_iald (by decide +kernel))) <|
    xcn (rO (s_iadd (by decide +kernel))) <|
    xcn (rO (s_iast (by decide +kernel))) <|
    xcn (rO (s_iinc (k := 2) (n := 1) (by decide) (by decide) (by decide +kernel))) <|
    xcn (rJ (s_goto (off := (-48)) (by decide +kernel) (by decide +kernel))) <|
    xcn (rO s_fgt) <|
    xcn (rR (s_ret0 (by decide +kernel))) <| xnl
theorem xv_38 : xMd (xw_38, xp_38, yX4_addCarried, cX4_addCarried, 4, none) := ⟨by decide +kernel, rfl, by decide +kernel, by decide +kernel, xa_38⟩
set_option maxRecDepth 100000 in
theorem xa_39 : xAR (xRow RX4 cX4_presentCatch 2 (some .int) xp_39) xw_39 := by
  unfold xw_39
  exact xcn (rO (s_aload_n (k := 0) (by decide +kernel))) <|
    xcn (rO (s_iload_n (k := 1) (by decide +kernel))) <|
    xcn (rO (s_aload_n (k := 0) (by decide +kernel))) <|
    xcn (rO (s_get (T := TX4) (N := 3) (index := 18) x_iw4 rfl (by decide) wf_X4_18 rfl (by decide +kernel))) <|
    xcn (rO (s_get (T := TX9) (N := 7) (index := 22) x_iw9 rfl (by decide) wf_X4_22 rfl (by decide +kernel))) <|
    xcn (rC (s_cV (index := 28) wb_70 wm_X4_28 (by decide +kernel))) <|
    xcn (rO (s_aload_n (k := 0) (by decide +kernel))) <|
    xcn (rO (s_get (T := TX4) (N := 3) (index := 18) x_iw4 rfl (by decide) wf_X4_18 rfl (by decide +kernel))) <|
    xcn (rO (s_get (T := TX9) (N := 7) (index := 22) x_iw9 rfl (by decide) wf_X4_22 rfl (by decide +kernel))) <|
    xcn (rO (s_get (T := TX8) (N := 7) (index := 34) x_iw8 rfl (by decide) wf_X4_34 rfl (by decide +kernel))) <|
    xcn (rC (s_cV (index := 52) wb_40 wm_X4_52 (by decide +kernel))) <|
    xcn (rR (s_ret1 (by decide +kernel))) <| xnl
theorem xv_39 : xMd (xw_39, xp_39, yX4_presentCatch, cX4_presentCatch, 2, some .int) := ⟨by decide +kernel, rfl, by decide +kernel, by decide +kernel, xa_39⟩
set_option maxRecDepth 100000 in
theorem xa_40 : xAR (xRow RX4 cX4_catchOf 13 (some .int) xp_40) xw_40 := by
  unfold xw_40
  exact xcn (rO (s_aload_n (k := 0) (by decide +kernel))) <|
    xcn (rO (s_get (T := TX4) (N := 3) (index := 18) x_iw4 rfl (by decide) wf_X4_18 rfl (by decide +kernel))) <|
    xcn (rO (s_get (T := TX9) (N := 7) (index := 22) x_iw9 rfl (by decide) wf_X4_22 rfl (by decide +kernel))) <|
    xcn (rO (s_astore (k := 4) (by decide) (by decide +kernel))) <|
    xcn (rO (s_aload_n (k := 0) (by decide +kernel))) <|
    xcn (rO (s_get (T := TX4) (N := 3) (index := 18) x_iw4 rfl (by decide) wf_X4_18 rfl (by decide +kernel))) <|
    xcn (rO (s_get (T := TX9) (N := 7) (index := 45) x_iw9 rfl (by decide) wf_X4_45 rfl (by decide +kernel))) <|
    xcn (rO (s_get (T := TX1) (N := 6) (index := 85) x_iw1 rfl (by decide) wf_X4_85 rfl (by decide +kernel))) <|
    xcn (rO (s_astore (k := 5) (by decide) (by decide +kernel))) <|
    xcn (rO (s_iload_n (k := 1) (by decide +kernel))) <|
    xcn (rO (s_bipush (n := 8) (by decide +kernel) (by decide))) <|
    xcn (rO (s_imul (by decide +kernel))) <|
    xcn (rO (s_istore (k := 6) (by decide) (by decide +kernel))) <|
    xcn (rO (s_aload_n (k := 0) (by decide +kernel))) <|
    xcn (rO (s_get (T := TX4) (N := 3) (index := 18) x_iw4 rfl (by decide) wf_X4_18 rfl (by decide +kernel))) <|
    xcn (rO (s_get (T := TX9) (N := 7) (index := 45) x_iw9 rfl (by decide) wf_X4_45 rfl (by decide +kernel))) <|
    xcn (rO (s_get (T := TX1) (N := 6) (index := 88) x_iw1 rfl (by decide) wf_X4_88 rfl (by decide +kernel))) <|
    xcn (rO (s_iload_n (k := 1) (by decide +kernel))) <|
    xcn (rO (s_iald (by decide +kernel))) <|
    xcn (rO (s_istore (k := 7) (by decide) (by decide +kernel))) <|
    xcn (rO (s_aload_n (k := 0) (by decide +kernel))) <|
    xcn (rO (s_get (T := TX4) (N := 3) (index := 18) x_iw4 rfl (by decide) wf_X4_18 rfl (by decide +kernel))) <|
    xcn (rO (s_get (T := TX9) (N := 7) (index := 45) x_iw9 rfl (by decide) wf_X4_45 rfl (by decide +kernel))) <|
    xcn (rO (s_get (T := TX1) (N := 6) (index := 91) x_iw1 rfl (by decide) wf_X4_91 rfl (by decide +kernel))) <|
    xcn (rO (s_iload_n (k := 1) (by decide +kernel))) <|
    xcn (rO (s_iald (by decide +kernel))) <|
    xcn (rO (s_iconst (n := 2) (by decide +kernel) (by decide))) <|
    xcn (rJ (s_ic_ne (off := 39) (by decide +kernel) (by decide +kernel) (by decide +kernel))) <|
    xcn (rO (s_iload (k := 7) (by decide +kernel))) <|
    xcn (rO (s_iconst (n := (-1)) (by decide +kernel) (by decide))) <|
    xcn (rJ (s_ic_eq (off := 33) (by decide +kernel) (by decide +kernel) (by decide +kernel))) <|
    xcn (rO (s_iload_n (k := 2) (by decide +kernel))) <|
    xcn (rO (s_iload (k := 7) (by decide +kernel))) <|
    xcn (rC (s_cS (index := 62) wb_45 wm_X4_62 (by decide +kernel))) <|
    xcn (rJ (s_if_eq (off := 24) (by decide +kernel) (by decide +kernel) (by decide +kernel))) <|
    xcn (rO (s_aload (k := 5) (by decide +kernel))) <|
    xcn (rO (s_iload (k := 6) (by decide +kernel))) <|
    xcn (rO (s_aload (k := 4) (by decide +kernel))) <|
    xcn (rO (s_get (T := TX8) (N := 7) (index := 94) x_iw8 rfl (by decide) wf_X4_94 rfl (by decide +kernel))) <|
    xcn (rO (s_iload (k := 7) (by decide +kernel))) <|
    xcn (rO (s_iald (by decide +kernel))) <|
    xcn (rO (s_iadd (by decide +kernel))) <|
    xcn (rO (s_iald (by decide +kernel))) <|
    xcn (rO (s_iconst (n := (-1)) (by decide +kernel) (by decide))) <|
    xcn (rJ (s_ic_eq (off := 6) (by decide +kernel) (by decide +kernel) (by decide +kernel))) <|
    xcn (rO (s_iload (k := 7) (by decide +kernel))) <|
    xcn (rR (s_ret1 (by decide +kernel))) <|
    xcn (rO (s_aload_n (k := 0) (by decide +kernel))) <|
    xcn (rO (s_iload_n (k := 1) (by decide +kernel))) <|
    xcn (rC (s_cV (index := 97) wb_41 wm_X4_97 (by decide +kernel))) <|
    xcn (rO (s_istore (k := 8) (by decide) (by decide +kernel))) <|
    xcn (rO (s_iconst (n := (-1)) (by decide +kernel) (by decide))) <|
    xcn (rO (s_istore (k := 9) (by decide) (by decide +kernel))) <|
    xcn (rO (s_iconst (n := 0) (by decide +kernel) (by decide))) <|
    xcn (rO (s_istore (k := 10) (by decide) (by decide +kernel))) <|
    xcn (rO (s_iconst (n := 0) (by decide +kernel) (by decide))) <|
    xcn (rO (s_istore (k := 11) (by decide) (by decide +kernel))) <|
    xcn (rO s_fgt) <|
    xcn (rO (s_iload (k := 11) (by decide +kernel))) <|
    xcn (rO (s_aload (k := 4) (by decide +kernel))) <|
    xcn (rO (s_get (T := TX8) (N := 7) (index := 41) x_iw8 rfl (by decide) wf_X4_41 rfl (by decide +kernel))) <|
    xcn (rJ (s_ic_ge (off := 94) (by decide +kernel) (by decide +kernel) (by decide +kernel))) <|
    xcn (rO (s_aload (k := 5) (by decide +kernel))) <|
    xcn (rO (s_iload (k := 6) (by decide +kernel))) <|
    xcn (rO (s_aload (k := 4) (by decide +kernel))) <|
    xcn (rO (s_get (T := TX8) (N := 7) (index := 94) x_iw8 rfl (by decide) wf_X4_94 rfl (by decide +kernel))) <|
    xcn (rO (s_iload (k := 11) (by decide +kernel))) <|
    xcn (rO (s_iald (by decide +kernel))) <|
    xcn (rO (s_iadd (by decide +kernel))) <|
    xcn (rO (s_iald (by decide +kernel))) <|
    xcn (rO (s_istore (k := 12) (by decide) (by decide +kernel))) <|
    xcn (rO (s_iload (k := 12) (by decide +kernel))) <|
    xcn (rO (s_iconst (n := (-1)) (by decide +kernel) (by decide))) <|
    xcn (rJ (s_ic_eq (off := 66) (by decide +kernel) (by decide +kernel) (by decide +kernel))) <|
    xcn (rO (s_iload_n (k := 2) (by decide +kernel))) <|
    xcn (rO (s_iload (k := 11) (by decide +kernel))) <|
    xcn (rC (s_cS (index := 62) wb_45 wm_X4_62 (by decide +kernel))) <|
    xcn (rJ (s_if_ne (off := 6) (by decide +kernel) (by decide +kernel) (by decide +kernel))) <|
    xcn (rJ (s_goto (off := 54) (by decide +kernel) (by decide +kernel))) <|
    xcn (rO (s_iload (k := 12) (by decide +kernel))) <|
    xcn (rO (s_iload (k := 8) (by decide +kernel))) <|
    xcn (rO (s_aload_n (k := 3) (by decide +kernel))) <|
    xcn (rO (s_iload (k := 11) (by decide +kernel))) <|
    xcn (rO (s_iald (by decide +kernel))) <|
    xcn (rO (s_imul (by decide +kernel))) <|
    xcn (rO (s_iadd (by decide +kernel))) <|
    xcn (rO (s_istore (k := 12) (by decide) (by decide +kernel))) <|
    xcn (rO (s_iload (k := 9) (by decide +kernel))) <|
    xcn (rO (s_iconst (n := (-1)) (by decide +kernel) (by decide))) <|
    xcn (rJ (s_ic_eq (off := 28) (by decide +kernel) (by decide +kernel) (by decide +kernel))) <|
    xcn (rO (s_iload (k := 12) (by decide +kernel))) <|
    xcn (rO (s_iload (k := 10) (by decide +kernel))) <|
    xcn (rJ (s_ic_lt (off := 21) (by decide +kernel) (by decide +kernel) (by decide +kernel))) <|
    xcn (rO (s_iload (k := 12) (by decide +kernel))) <|
    xcn (rO (s_iload (k := 10) (by decide +kernel))) <|
    xcn (rJ (s_ic_ne (off := 22) (by decide +kernel) (by decide +kernel) (by decide +kernel))) <|
    xcn (rO (s_aload_n (k := 3) (by decide +kernel))) <|
    xcn (rO (s_iload (k := 11) (by decide +kernel))) <|
    xcn (rO (s_iald (by decide +kernel))) <|
    xcn (rO (s_aload_n (k := 3) (by decide +kernel))) <|
    xcn (rO (s_iload (k := 9) (by decide +kernel))) <|
    xcn (rO (s_iald (by decide +kernel))) <|
    xcn (rJ (s_ic_ge (off := 11) (by decide +kernel) (by decide +kernel) (by decide +kernel))) <|
    xcn (rO (s_iload (k := 11) (by decide +kernel))) <|
    xcn (rO (s_istore (k := 9) (by decide) (by decide +kernel))) <|
    xcn (rO (s_iload (k := 12) (by decide +kernel))) <|
    xcn (rO (s_istore (k := 10) (by decide) (by decide +kernel))) <|
    xcn (rO (s_iinc (k := 11) (n := 1) (by decide) (by decide) (by decide +kernel))) <|
    xcn (rJ (s_goto (off := (-98)) (by decide +kernel) (by decide +kernel))) <|
    xcn (rO s_fgt) <|
    xcn (rO (s_iload (k := 9) (by decide +kernel))) <|
    xcn (rR (s_ret1 (by decide +kernel))) <| xnl
theorem xv_40 : xMd (xw_40, xp_40, yX4_catchOf, cX4_catchOf, 13, some .int) := ⟨by decide +kernel, rfl, by decide +kernel, by decide +kernel, xa_40⟩
set_option maxRecDepth 100000 in
theorem xa_41 : xAR (xRow RX4 cX4_stepLengthFrom 2 (some .int) xp_41) xw_41 := by
  unfold xw_41
  exact xcn (rO (s_aload_n (k := 0) (by decide +kernel))) <|
    xcn (rO (s_get (T := TX4) (N := 3) (index := 18) x_iw4 rfl (by decide) wf_X4_18 rfl (by decide +kernel))) <|
    xcn (rO (s_get (T := TX9) (N := 7) (index := 45) x_iw9 rfl (by decide) wf_X4_45 rfl (by decide +kernel))) <|
    xcn (rO (s_get (T := TX1) (N := 6) (index := 91) x_iw1 rfl (by decide) wf_X4_91 rfl (by decide +kernel))) <|
    xcn (rO (s_iload_n (k := 1) (by decide +kernel))) <|
    xcn (rO (s_iald (by decide +kernel))) <|
    xcn (rO (s_iconst (n := 1) (by decide +kernel) (by decide))) <|
    xcn (rJ (s_ic_ne (off := 7) (by decide +kernel) (by decide +kernel) (by decide +kernel))) <|
    xcn (rO (s_iconst (n := 0) (by decide +kernel) (by decide))) <|
    xcn (rJ (s_goto (off := 4) (by decide +kernel) (by decide +kernel))) <|
    xcn (rO (s_iconst (n := 3) (by decide +kernel) (by decide))) <|
    xcn (rR (s_ret1 (by decide +kernel))) <| xnl
theorem xv_41 : xMd (xw_41, xp_41, yX4_stepLengthFrom, cX4_stepLengthFrom, 2, some .int) := ⟨by decide +kernel, rfl, by decide +kernel, by decide +kernel, xa_41⟩
set_option maxRecDepth 100000 in
theorem xa_42 : xAR (xRow RX4 cX4_presentApparent 4 (some .int) xp_42) xw_42 := by
  unfold xw_42
  exact xcn (rO (s_aload_n (k := 0) (by decide +kernel))) <|
    xcn (rO (s_get (T := TX4) (N := 3) (index := 18) x_iw4 rfl (by decide) wf_X4_18 rfl (by decide +kernel))) <|
    xcn (rO (s_get (T := TX9) (N := 7) (index := 45) x_iw9 rfl (by decide) wf_X4_45 rfl (by decide +kernel))) <|
    xcn (rO (s_iload_n (k := 1) (by decide +kernel))) <|
    xcn (rO (s_aload_n (k := 0) (by decide +kernel))) <|
    xcn (rO (s_get (T := TX4) (N := 3) (index := 18) x_iw4 rfl (by decide) wf_X4_18 rfl (by decide +kernel))) <|
    xcn (rO (s_get (T := TX9) (N := 7) (index := 22) x_iw9 rfl (by decide) wf_X4_22 rfl (by decide +kernel))) <|
    xcn (rO (s_get (T := TX8) (N := 7) (index := 94) x_iw8 rfl (by decide) wf_X4_94 rfl (by decide +kernel))) <|
    xcn (rO (s_iload_n (k := 2) (by decide +kernel))) <|
    xcn (rO (s_iald (by decide +kernel))) <|
    xcn (rC (s_cV (index := 101) wb_21 wm_X4_101 (by decide +kernel))) <|
    xcn (rO (s_istore_n (k := 3) (by decide) (by decide +kernel))) <|
    xcn (rO (s_iload_n (k := 3) (by decide +kernel))) <|
    xcn (rO (s_iconst (n := (-1)) (by decide +kernel) (by decide))) <|
    xcn (rJ (s_ic_eq (off := 19) (by decide +kernel) (by decide +kernel) (by decide +kernel))) <|
    xcn (rO (s_aload_n (k := 0) (by decide +kernel))) <|
    xcn (rO (s_get (T := TX4) (N := 3) (index := 18) x_iw4 rfl (by decide) wf_X4_18 rfl (by decide +kernel))) <|
    xcn (rO (s_get (T := TX9) (N := 7) (index := 22) x_iw9 rfl (by decide) wf_X4_22 rfl (by decide +kernel))) <|
    xcn (rO (s_get (T := TX8) (N := 7) (index := 105) x_iw8 rfl (by decide) wf_X4_105 rfl (by decide +kernel))) <|
    xcn (rO (s_iload_n (k := 2) (by decide +kernel))) <|
    xcn (rO (s_iald (by decide +kernel))) <|
    xcn (rO (s_iconst (n := 2) (by decide +kernel) (by decide))) <|
    xcn (rJ (s_ic_ne (off := 5) (by decide +kernel) (by decide +kernel) (by decide +kernel))) <|
    xcn (rO (s_iconst (n := (-1)) (by decide +kernel) (by decide))) <|
    xcn (rR (s_ret1 (by decide +kernel))) <|
    xcn (rO (s_iload_n (k := 3) (by decide +kernel))) <|
    xcn (rO (s_aload_n (k := 0) (by decide +kernel))) <|
    xcn (rO (s_iload_n (k := 1) (by decide +kernel))) <|
    xcn (rC (s_cV (index := 97) wb_41 wm_X4_97 (by decide +kernel))) <|
    xcn (rO (s_aload_n (k := 0) (by decide +kernel))) <|
    xcn (rO (s_get (T := TX4) (N := 3) (index := 18) x_iw4 rfl (by decide) wf_X4_18 rfl (by decide +kernel))) <|
    xcn (rO (s_get (T := TX9) (N := 7) (index := 22) x_iw9 rfl (by decide) wf_X4_22 rfl (by decide +kernel))) <|
    xcn (rO (s_get (T := TX8) (N := 7) (index := 34) x_iw8 rfl (by decide) wf_X4_34 rfl (by decide +kernel))) <|
    xcn (rO (s_iload_n (k := 2) (by decide +kernel))) <|
    xcn (rO (s_iald (by decide +kernel))) <|
    xcn (rO (s_imul (by decide +kernel))) <|
    xcn (rO (s_iadd (by decide +kernel))) <|
    xcn (rR (s_ret1 (by decide +kernel))) <| xnl
theorem xv_42 : xMd (xw_42, xp_42, yX4_presentApparent, cX4_presentApparent, 4, some .int) := ⟨by decide +kernel, rfl, by decide +kernel, by decide +kernel, xa_42⟩
set_option maxRecDepth 100000 in
theorem xa_43 : xAR (xRow RX4 cX4_sitesInReach 4 (some .int) xp_43) xw_43 := by
  unfold xw_43
  exact xcn (rO (s_iconst (n := 0) (by decide +kernel) (by decide))) <|
    xcn (rO (s_istore_n (k := 2) (by decide) (by decide +kernel))) <|
    xcn (rO (s_iconst (n := 0) (by decide +kernel) (by decide))) <|
    xcn (rO (s_istore_n (k := 3) (by decide) (by decide +kernel))) <|
    xcn (rO s_fgt) <|
    xcn (rO (s_iload_n (k := 3) (by decide +kernel))) <|
    xcn (rO (s_aload_n (k := 0) (by decide +kernel))) <|
    xcn (rO (s_get (T := TX4) (N := 3) (index := 18) x_iw4 rfl (by decide) wf_X4_18 rfl (by decide +kernel))) <|
    xcn (rO (s_get (T := TX9) (N := 7) (index := 22) x_iw9 rfl (by decide) wf_X4_22 rfl (by decide +kernel))) <|
    xcn (rO (s_get (T := TX8) (N := 7) (index := 41) x_iw8 rfl (by decide) wf_X4_41 rfl (by decide +kernel))) <|
    xcn (rJ (s_ic_ge (off := 22) (by decide +kernel) (by decide +kernel) (by decide +kernel))) <|
    xcn (rO (s_aload_n (k := 0) (by decide +kernel))) <|
    xcn (rO (s_iload_n (k := 1) (by decide +kernel))) <|
    xcn (rO (s_iload_n (k := 3) (by decide +kernel))) <|
    xcn (rC (s_cV (index := 108) wb_42 wm_X4_108 (by decide +kernel))) <|
    xcn (rO (s_iconst (n := (-1)) (by decide +kernel) (by decide))) <|
    xcn (rJ (s_ic_eq (off := 6) (by decide +kernel) (by decide +kernel) (by decide +kernel))) <|
    xcn (rO (s_iinc (k := 2) (n := 1) (by decide) (by decide) (by decide +kernel))) <|
    xcn (rO (s_iinc (k := 3) (n := 1) (by decide) (by decide) (by decide +kernel))) <|
    xcn (rJ (s_goto (off := (-30)) (by decide +kernel) (by decide +kernel))) <|
    xcn (rO s_fgt) <|
    xcn (rO (s_iload_n (k := 2) (by decide +kernel))) <|
    xcn (rR (s_ret1 (by decide +kernel))) <| xnl
theorem xv_43 : xMd (xw_43, xp_43, yX4_sitesInReach, cX4_sitesInReach, 4, some .int) := ⟨by decide +kernel, rfl, by decide +kernel, by decide +kernel, xa_43⟩
set_option maxRecDepth 100000 in
theorem xa_44 : xAR (xRow RX4 cX4_caughtBy 4 (some .int) xp_44) xw_44 := by
  unfold xw_44
  exact xcn (rO (s_iconst (n := 0) (by decide +kernel) (by decide))) <|
    xcn (rO (s_istore_n (k := 2) (by decide) (by decide +kernel))) <|
    xcn (rO (s_iconst (n := 0) (by decide +kernel) (by decide))) <|
    xcn (rO (s_istore_n (k := 3) (by decide) (by decide +kernel))) <|
    xcn (rO s_fgt) <|
    xcn (rO (s_iload_n (k := 3) (by decide +kernel))) <|
    xcn (rO (s_aload_n (k := 0) (by decide +kernel))) <|
    xcn (rO (s_get (T := TX4) (N := 3) (index := 18) x_iw4 rfl (by decide) wf_X4_18 rfl (by decide +kernel))) <|
    xcn (rO (s_get (T := TX9) (N := 7) (index := 45) x_iw9 rfl (by decide) wf_X4_45 rfl (by decide +kernel))) <|
    xcn (rO (s_get (T := TX1) (N := 6) (index := 49) x_iw1 rfl (by decide) wf_X4_49 rfl (by decide +kernel))) <|
    xcn (rJ (s_ic_ge (off := 25) (by decide +kernel) (by decide +kernel) (by decide +kernel))) <|
    xcn (rO (s_aload_n (k := 0) (by decide +kernel))) <|
    xcn (rO (s_get (T := TX4) (N := 3) (index := 9) x_iw4 rfl (by decide) wf_X4_9 rfl (by decide +kernel))) <|
    xcn (rO (s_iload_n (k := 3) (by decide +kernel))) <|
    xcn (rO (s_iald (by decide +kernel))) <|
    xcn (rO (s_iload_n (k := 1) (by decide +kernel))) <|
    xcn (rJ (s_ic_ne (off := 9) (by decide +kernel) (by decide +kernel) (by decide +kernel))) <|
    xcn (rO (s_iload_n (k := 2) (by decide +kernel))) <|
    xcn (rO (s_iconst (n := 1) (by decide +kernel) (by decide))) <|
    xcn (rO (s_iload_n (k := 3) (by decide +kernel))) <|
    xcn (rO (s_ishl (by decide +kernel))) <|
    xcn (rO (s_ior (by decide +kernel))) <|
    xcn (rO (s_istore_n (k := 2) (by decide) (by decide +kernel))) <|
    xcn (rO (s_iinc (k := 3) (n := 1) (by decide) (by decide) (by decide +kernel))) <|
    xcn (rJ (s_goto (off := (-33)) (by decide +kernel) (by decide +kernel))) <|
    xcn (rO s_fgt) <|
    xcn (rO (s_iload_n (k := 2) (by decide +kernel))) <|
    xcn (rR (s_ret1 (by decide +kernel))) <| xnl
theorem xv_44 : xMd (xw_44, xp_44, yX4_caughtBy, cX4_caughtBy, 4, some .int) := ⟨by decide +kernel, rfl, by decide +kernel, by decide +kernel, xa_44⟩
set_option maxRecDepth 100000 in
theorem xa_45 : xAR (xRow RX4 cX4_contains 2 (some .boolean) xp_45) xw_45 := by
  unfold xw_45
  exact xcn (rO (s_iload_n (k := 0) (by decide +kernel))) <|
    xcn (rO (s_iload_n (k := 1) (by decide +kernel))) <|
    xcn (rO (s_ishr (by decide +kernel))) <|
    xcn (rO (s_iconst (n := 1) (by decide +kernel) (by decide))) <|
    xcn (rO (s_iand (by decide +kernel))) <|
    xcn (rJ (s_if_eq (off := 7) (by decide +kernel) (by decide +kernel) (by decide +kernel))) <|
    xcn (rO (s_iconst (n := 1) (by decide +kernel) (by decide))) <|
    xcn (rJ (s_goto (off := 4) (by decide +kernel) (by decide +kernel))) <|
    xcn (rO (s_iconst (n := 0) (by decide +kernel) (by decide))) <|
    xcn (rR (s_ret2 (by decide +kernel))) <| xnl
theorem xv_45 : xMd (xw_45, xp_45, yX4_contains, cX4_contains, 2, some .boolean) := ⟨by decide +kernel, rfl, by decide +kernel, by decide +kernel, xa_45⟩
set_option maxRecDepth 100000 in
theorem xa_46 : xAR (xRow RX5 cX5_forget 1 (none) xp_46) xw_46 := by
  unfold xw_46
  exact xcn (rO (s_aload_n (k := 0) (by decide +kernel))) <|
    xcn (rO (s_iconst (n := 0) (by decide +kernel) (by decide))) <|
    xcn (rO (s_put (T := TX5) (N := 5) (index := 23) (ty0 := tyX5) (z := true) x_iw5 tyX5_ok nmX5 rfl (by decide) wf_X5_23 rfl rfl rfl (by decide +kernel))) <|
    xcn (rR (s_ret0 (by decide +kernel))) <| xnl
theorem xv_46 : xMd (xw_46, xp_46, yX5_forget, cX5_forget, 1, none) := ⟨by decide +kernel, rfl, by decide +kernel, by decide +kernel, xa_46⟩
set_option maxRecDepth 100000 in
theorem xa_47 : xAR (xRow RX5 cX5_bestSum 4 (some .int) xp_47) xw_47 := by
  unfold xw_47
  exact xcn (rO (s_aload_n (k := 0) (by decide +kernel))) <|
    xcn (rO (s_get (T := TX5) (N := 5) (index := 23) x_iw5 rfl (by decide) wf_X5_23 rfl (by decide +kernel))) <|
    xcn (rJ (s_if_eq (off := 8) (by decide +kernel) (by decide +kernel) (by decide +kernel))) <|
    xcn (rO (s_aload_n (k := 0) (by decide +kernel))) <|
    xcn (rO (s_get (T := TX5) (N := 5) (index := 27) x_iw5 rfl (by decide) wf_X5_27 rfl (by decide +kernel))) <|
    xcn (rR (s_ret1 (by decide +kernel))) <|
    xcn (rO (s_aload_n (k := 0) (by decide +kernel))) <|
    xcn (rO (s_iconst (n := 1) (by decide +kernel) (by decide))) <|
    xcn (rO (s_put (T := TX5) (N := 5) (index := 23) (ty0 := tyX5) (z := true) x_iw5 tyX5_ok nmX5 rfl (by decide) wf_X5_23 rfl rfl rfl (by decide +kernel))) <|
    xcn (rO (s_aload_n (k := 0) (by decide +kernel))) <|
    xcn (rO (s_iconst (n := (-1)) (by decide +kernel) (by decide))) <|
    xcn (rO (s_put (T := TX5) (N := 5) (index := 27) (ty0 := tyX5) (z := false) x_iw5 tyX5_ok nmX5 rfl (by decide) wf_X5_27 rfl rfl rfl (by decide +kernel))) <|
    xcn (rO (s_aload_n (k := 0) (by decide +kernel))) <|
    xcn (rO (s_get (T := TX5) (N := 5) (index := 15) x_iw5 rfl (by decide) wf_X5_15 rfl (by decide +kernel))) <|
    xcn (rO (s_get (T := TX9) (N := 7) (index := 31) x_iw9 rfl (by decide) wf_X5_31 rfl (by decide +kernel))) <|
    xcn (rC (s_cV (index := 37) wb_70 wm_X5_37 (by decide +kernel))) <|
    xcn (rO (s_istore_n (k := 1) (by decide) (by decide +kernel))) <|
    xcn (rO (s_aload_n (k := 0) (by decide +kernel))) <|
    xcn (rO (s_iload_n (k := 1) (by decide +kernel))) <|
    xcn (rC (s_cV (index := 43) wb_49 wm_X5_43 (by decide +kernel))) <|
    xcn (rJ (s_if_eq (off := 7) (by decide +kernel) (by decide +kernel) (by decide +kernel))) <|
    xcn (rO (s_iconst (n := (-1)) (by decide +kernel) (by decide))) <|
    xcn (rJ (s_goto (off := 9) (by decide +kernel) (by decide +kernel))) <|
    xcn (rO (s_iconst (n := 4) (by decide +kernel) (by decide))) <|
    xcn (rO (s_iload_n (k := 1) (by decide +kernel))) <|
    xcn (rC (s_cS (index := 47) wb_211 wm_X5_47 (by decide +kernel))) <|
    xcn (rO (s_imul (by decide +kernel))) <|
    xcn (rO (s_istore_n (k := 2) (by decide) (by decide +kernel))) <|
    xcn (rO (s_iconst (n := 0) (by decide +kernel) (by decide))) <|
    xcn (rO (s_istore_n (k := 3) (by decide) (by decide +kernel))) <|
    xcn (rO s_fgt) <|
    xcn (rO (s_iload_n (k := 3) (by decide +kernel))) <|
    xcn (rO (s_iload_n (k := 2) (by decide +kernel))) <|
    xcn (rJ (s_ic_gt (off := 32) (by decide +kernel) (by decide +kernel) (by decide +kernel))) <|
    xcn (rO (s_aload_n (k := 0) (by decide +kernel))) <|
    xcn (rO (s_get (T := TX5) (N := 5) (index := 27) x_iw5 rfl (by decide) wf_X5_27 rfl (by decide +kernel))) <|
    xcn (rO (s_iconst (n := (-1)) (by decide +kernel) (by decide))) <|
    xcn (rJ (s_ic_ne (off := 24) (by decide +kernel) (by decide +kernel) (by decide +kernel))) <|
    xcn (rO (s_aload_n (k := 0) (by decide +kernel))) <|
    xcn (rO (s_iconst (n := 0) (by decide +kernel) (by decide))) <|
    xcn (rO (s_iload_n (k := 3) (by decide +kernel))) <|
    xcn (rO (s_iload_n (k := 1) (by decide +kernel))) <|
    xcn (rC (s_cV (index := 53) wb_52 wm_X5_53 (by decide +kernel))) <|
    xcn (rJ (s_if_eq (off := 8) (by decide +kernel) (by decide +kernel) (by decide +kernel))) <|
    xcn (rO (s_aload_n (k := 0) (by decide +kernel))) <|
    xcn (rO (s_iload_n (k := 3) (by decide +kernel))) <|
    xcn (rO (s_put (T := TX5) (N := 5) (index := 27) (ty0 := tyX5) (z := false) x_iw5 tyX5_ok nmX5 rfl (by decide) wf_X5_27 rfl rfl rfl (by decide +kernel))) <|
    xcn (rO (s_iinc (k := 3) (n := 1) (by decide) (by decide) (by decide +kernel))) <|
    xcn (rJ (s_goto (off := (-31)) (by decide +kernel) (by decide +kernel))) <|
    xcn (rO s_fgt) <|
    xcn (rO (s_aload_n (k := 0) (by decide +kernel))) <|
    xcn (rO (s_get (T := TX5) (N := 5) (index := 27) x_iw5 rfl (by decide) wf_X5_27 rfl (by decide +kernel))) <|
    xcn (rR (s_ret1 (by decide +kernel))) <| xnl
theorem xv_47 : xMd (xw_47, xp_47, yX5_bestSum, cX5_bestSum, 4, some .int) := ⟨by decide +kernel, rfl, by decide +kernel, by decide +kernel, xa_47⟩
set_option maxRecDepth 100000 in
theorem xa_48 : xAR (xRow RX5 cX5_stepOf 2 (some .int) xp_48) xw_48 := by
  unfold xw_48
  exact xcn (rO (s_aload_n (k := 0) (by decide +kernel))) <|
    xcn (rO (s_get (T := TX5) (N := 5) (index := 9) x_iw5 rfl (by decide) wf_X5_9 rfl (by decide +kernel))) <|
    xcn (rO (s_iload_n (k := 1) (by decide +kernel))) <|
    xcn (rO (s_iald (by decide +kernel))) <|
    xcn (rR (s_ret1 (by decide +kernel))) <| xnl
theorem xv_48 : xMd (xw_48, xp_48, yX5_stepOf, cX5_stepOf, 2, some .int) := ⟨by decide +kernel, rfl, by decide +kernel, by decide +kernel, xa_48⟩
set_option maxRecDepth 100000 in
theorem xa_49 : xAR (xRow RX5 cX5_hasTooLittleRoom 4 (some .boolean) xp_49) xw_49 := by
  unfold xw_49
  exact xcn (rO (s_iconst (n := 0) (by decide +kernel) (by decide))) <|
    xcn (rO (s_istore_n (k := 2) (by decide) (by decide +kernel))) <|
    xcn (rO s_fgt) <|
    xcn (rO (s_iload_n (k := 2) (by decide +kernel))) <|
    xcn (rO (s_aload_n (k := 0) (by decide +kernel))) <|
    xcn (rO (s_get (T := TX5) (N := 5) (index := 15) x_iw5 rfl (by decide) wf_X5_15 rfl (by decide +kernel))) <|
    xcn (rO (s_get (T := TX9) (N := 7) (index := 31) x_iw9 rfl (by decide) wf_X5_31 rfl (by decide +kernel))) <|
    xcn (rO (s_get (T := TX8) (N := 7) (index := 57) x_iw8 rfl (by decide) wf_X5_57 rfl (by decide +kernel))) <|
    xcn (rJ (s_ic_ge (off := 46) (by decide +kernel) (by decide +kernel) (by decide +kernel))) <|
    xcn (rO (s_aload_n (k := 0) (by decide +kernel))) <|
    xcn (rO (s_get (T := TX5) (N := 5) (index := 15) x_iw5 rfl (by decide) wf_X5_15 rfl (by decide +kernel))) <|
    xcn (rO (s_get (T := TX9) (N := 7) (index := 31) x_iw9 rfl (by decide) wf_X5_31 rfl (by decide +kernel))) <|
    xcn (rO (s_get (T := TX8) (N := 7) (index := 60) x_iw8 rfl (by decide) wf_X5_60 rfl (by decide +kernel))) <|
    xcn (rO (s_iload_n (k := 2) (by decide +kernel))) <|
    xcn (rO (s_iald (by decide +kernel))) <|
    xcn (rO (s_istore_n (k := 3) (by decide) (by decide +kernel))) <|
    xcn (rO (s_iload_n (k := 1) (by decide +kernel))) <|
    xcn (rO (s_iload_n (k := 2) (by decide +kernel))) <|
    xcn (rC (s_cS (index := 63) wb_45 wm_X5_63 (by decide +kernel))) <|
    xcn (rJ (s_if_eq (off := 19) (by decide +kernel) (by decide +kernel) (by decide +kernel))) <|
    xcn (rO (s_aload_n (k := 0) (by decide +kernel))) <|
    xcn (rO (s_iload_n (k := 3) (by decide +kernel))) <|
    xcn (rO (s_iload_n (k := 1) (by decide +kernel))) <|
    xcn (rC (s_cV (index := 69) wb_50 wm_X5_69 (by decide +kernel))) <|
    xcn (rO (s_aload_n (k := 0) (by decide +kernel))) <|
    xcn (rO (s_iload_n (k := 3) (by decide +kernel))) <|
    xcn (rC (s_cV (index := 73) wb_51 wm_X5_73 (by decide +kernel))) <|
    xcn (rJ (s_ic_ge (off := 5) (by decide +kernel) (by decide +kernel) (by decide +kernel))) <|
    xcn (rO s_fgt) <|
    xcn (rO (s_iconst (n := 1) (by decide +kernel) (by decide))) <|
    xcn (rR (s_ret2 (by decide +kernel))) <|
    xcn (rO (s_iinc (k := 2) (n := 1) (by decide) (by decide) (by decide +kernel))) <|
    xcn (rJ (s_goto (off := (-54)) (by decide +kernel) (by decide +kernel))) <|
    xcn (rO s_fgt) <|
    xcn (rO (s_iconst (n := 0) (by decide +kernel) (by decide))) <|
    xcn (rR (s_ret2 (by decide +kernel))) <| xnl
theorem xv_49 : xMd (xw_49, xp_49, yX5_hasTooLittleRoom, cX5_hasTooLittleRoom, 4, some .boolean) := ⟨by decide +kernel, rfl, by decide +kernel, by decide +kernel, xa_49⟩
set_option maxRecDepth 100000 in
theorem xa_50 : xAR (xRow RX5 cX5_roomAround 5 (some .int) xp_50) xw_50 := by
  unfold xw_50
  exact xcn (rO (s_iconst (n := 0) (by decide +kernel) (by decide))) <|
    xcn (rO (s_istore_n (k := 3) (by decide) (by decide +kernel))) <|
    xcn (rO (s_iconst (n := 0) (by decide +kernel) (by decide))) <|
    xcn (rO (s_istore (k := 4) (by decide) (by decide +kernel))) <|
    xcn (rO s_fgt) <|
    xcn (rO (s_iload (k := 4) (by decide +kernel))) <|
    xcn (rO (s_aload_n (k := 0) (by decide +kernel))) <|
    xcn (rO (s_get (T := TX5) (N := 5) (index := 15) x_iw5 rfl (by decide) wf_X5_15 rfl (by decide +kernel))) <|
    xcn (rO (s_get (T := TX9) (N := 7) (index := 31) x_iw9 rfl (by decide) wf_X5_31 rfl (by decide +kernel))) <|
    xcn (rO (s_get (T := TX8) (N := 7) (index := 57) x_iw8 rfl (by decide) wf_X5_57 rfl (by decide +kernel))) <|
    xcn (rJ (s_ic_ge (off := 62) (by decide +kernel) (by decide +kernel) (by decide +kernel))) <|
    xcn (rO (s_iload_n (k := 2) (by decide +kernel))) <|
    xcn (rO (s_iload (k := 4) (by decide +kernel))) <|
    xcn (rC (s_cS (index := 63) wb_45 wm_X5_63 (by decide +kernel))) <|
    xcn (rJ (s_if_eq (off := 47) (by decide +kernel) (by decide +kernel) (by decide +kernel))) <|
    xcn (rO (s_aload_n (k := 0) (by decide +kernel))) <|
    xcn (rO (s_get (T := TX5) (N := 5) (index := 15) x_iw5 rfl (by decide) wf_X5_15 rfl (by decide +kernel))) <|
    xcn (rO (s_get (T := TX9) (N := 7) (index := 76) x_iw9 rfl (by decide) wf_X5_76 rfl (by decide +kernel))) <|
    xcn (rO (s_iload_n (k := 1) (by decide +kernel))) <|
    xcn (rO (s_aload_n (k := 0) (by decide +kernel))) <|
    xcn (rO (s_get (T := TX5) (N := 5) (index := 15) x_iw5 rfl (by decide) wf_X5_15 rfl (by decide +kernel))) <|
    xcn (rO (s_get (T := TX9) (N := 7) (index := 31) x_iw9 rfl (by decide) wf_X5_31 rfl (by decide +kernel))) <|
    xcn (rO (s_get (T := TX8) (N := 7) (index := 60) x_iw8 rfl (by decide) wf_X5_60 rfl (by decide +kernel))) <|
    xcn (rO (s_iload (k := 4) (by decide +kernel))) <|
    xcn (rO (s_iald (by decide +kernel))) <|
    xcn (rC (s_cV (index := 80) wb_21 wm_X5_80 (by decide +kernel))) <|
    xcn (rO (s_iconst (n := (-1)) (by decide +kernel) (by decide))) <|
    xcn (rJ (s_ic_eq (off := 19) (by decide +kernel) (by decide +kernel) (by decide +kernel))) <|
    xcn (rO (s_iload_n (k := 3) (by decide +kernel))) <|
    xcn (rO (s_aload_n (k := 0) (by decide +kernel))) <|
    xcn (rO (s_get (T := TX5) (N := 5) (index := 15) x_iw5 rfl (by decide) wf_X5_15 rfl (by decide +kernel))) <|
    xcn (rO (s_get (T := TX9) (N := 7) (index := 31) x_iw9 rfl (by decide) wf_X5_31 rfl (by decide +kernel))) <|
    xcn (rO (s_get (T := TX8) (N := 7) (index := 85) x_iw8 rfl (by decide) wf_X5_85 rfl (by decide +kernel))) <|
    xcn (rO (s_iload (k := 4) (by decide +kernel))) <|
    xcn (rO (s_iald (by decide +kernel))) <|
    xcn (rO (s_iadd (by decide +kernel))) <|
    xcn (rO (s_istore_n (k := 3) (by decide) (by decide +kernel))) <|
    xcn (rO (s_iinc (k := 4) (n := 1) (by decide) (by decide) (by decide +kernel))) <|
    xcn (rJ (s_goto (off := (-71)) (by decide +kernel) (by decide +kernel))) <|
    xcn (rO s_fgt) <|
    xcn (rO (s_iload_n (k := 3) (by decide +kernel))) <|
    xcn (rR (s_ret1 (by decide +kernel))) <| xnl
theorem xv_50 : xMd (xw_50, xp_50, yX5_roomAround, cX5_roomAround, 5, some .int) := ⟨by decide +kernel, rfl, by decide +kernel, by decide +kernel, xa_50⟩
set_option maxRecDepth 100000 in
theorem xa_51 : xAR (xRow RX5 cX5_demandAround 4 (some .int) xp_51) xw_51 := by
  unfold xw_51
  exact xcn (rO (s_iconst (n := 0) (by decide +kernel) (by decide))) <|
    xcn (rO (s_istore_n (k := 2) (by decide) (by decide +kernel))) <|
    xcn (rO (s_iconst (n := 0) (by decide +kernel) (by decide))) <|
    xcn (rO (s_istore_n (k := 3) (by decide) (by decide +kernel))) <|
    xcn (rO s_fgt) <|
    xcn (rO (s_iload_n (k := 3) (by decide +kernel))) <|
    xcn (rO (s_aload_n (k := 0) (by decide +kernel))) <|
    xcn (rO (s_get (T := TX5) (N := 5) (index := 15) x_iw5 rfl (by decide) wf_X5_15 rfl (by decide +kernel))) <|
    xcn (rO (s_get (T := TX9) (N := 7) (index := 76) x_iw9 rfl (by decide) wf_X5_76 rfl (by decide +kernel))) <|
    xcn (rO (s_get (T := TX1) (N := 6) (index := 88) x_iw1 rfl (by decide) wf_X5_88 rfl (by decide +kernel))) <|
    xcn (rJ (s_ic_ge (off := 40) (by decide +kernel) (by decide +kernel) (by decide +kernel))) <|
    xcn (rO (s_aload_n (k := 0) (by decide +kernel))) <|
    xcn (rO (s_get (T := TX5) (N := 5) (index := 15) x_iw5 rfl (by decide) wf_X5_15 rfl (by decide +kernel))) <|
    xcn (rO (s_get (T := TX9) (N := 7) (index := 76) x_iw9 rfl (by decide) wf_X5_76 rfl (by decide +kernel))) <|
    xcn (rO (s_iload_n (k := 1) (by decide +kernel))) <|
    xcn (rO (s_iload_n (k := 3) (by decide +kernel))) <|
    xcn (rC (s_cV (index := 80) wb_21 wm_X5_80 (by decide +kernel))) <|
    xcn (rO (s_iconst (n := (-1)) (by decide +kernel) (by decide))) <|
    xcn (rJ (s_ic_eq (off := 18) (by decide +kernel) (by decide +kernel) (by decide +kernel))) <|
    xcn (rO (s_iload_n (k := 2) (by decide +kernel))) <|
    xcn (rO (s_aload_n (k := 0) (by decide +kernel))) <|
    xcn (rO (s_get (T := TX5) (N := 5) (index := 15) x_iw5 rfl (by decide) wf_X5_15 rfl (by decide +kernel))) <|
    xcn (rO (s_get (T := TX9) (N := 7) (index := 76) x_iw9 rfl (by decide) wf_X5_76 rfl (by decide +kernel))) <|
    xcn (rO (s_get (T := TX1) (N := 6) (index := 89) x_iw1 rfl (by decide) wf_X5_89 rfl (by decide +kernel))) <|
    xcn (rO (s_iload_n (k := 3) (by decide +kernel))) <|
    xcn (rO (s_iald (by decide +kernel))) <|
    xcn (rO (s_iadd (by decide +kernel))) <|
    xcn (rO (s_istore_n (k := 2) (by decide) (by decide +kernel))) <|
    xcn (rO (s_iinc (k := 3) (n := 1) (by decide) (by decide) (by decide +kernel))) <|
    xcn (rJ (s_goto (off := (-48)) (by decide +kernel) (by decide +kernel))) <|
    xcn (rO s_fgt) <|
    xcn (rO (s_iload_n (k := 2) (by decide +kernel))) <|
    xcn (rR (s_ret1 (by decide +kernel))) <| xnl
theorem xv_51 : xMd (xw_51, xp_51, yX5_demandAround, cX5_demandAround, 4, some .int) := ⟨by decide +kernel, rfl, by decide +kernel, by decide +kernel, xa_51⟩
set_option maxRecDepth 100000 in
theorem xa_52 : xAR (xRow RX5 cX5_spreads 7 (some .boolean) xp_52) xw_52 := by
  unfold xw_52
  exact xcn (rO (s_iload_n (k := 1) (by decide +kernel))) <|
    xcn (rO (s_aload_n (k := 0) (by decide +kernel))) <|
    xcn (rO (s_get (T := TX5) (N := 5) (index := 15) x_iw5 rfl (by decide) wf_X5_15 rfl (by decide +kernel))) <|
    xcn (rO (s_get (T := TX9) (N := 7) (index := 31) x_iw9 rfl (by decide) wf_X5_31 rfl (by decide +kernel))) <|
    xcn (rO (s_get (T := TX8) (N := 7) (index := 57) x_iw8 rfl (by decide) wf_X5_57 rfl (by decide +kernel))) <|
    xcn (rJ (s_ic_lt (off := 28) (by decide +kernel) (by decide +kernel) (by decide +kernel))) <|
    xcn (rO (s_iload_n (k := 2) (by decide +kernel))) <|
    xcn (rJ (s_if_ne (off := 22) (by decide +kernel) (by decide +kernel) (by decide +kernel))) <|
    xcn (rO (s_aload_n (k := 0) (by decide +kernel))) <|
    xcn (rO (s_get (T := TX5) (N := 5) (index := 19) x_iw5 rfl (by decide) wf_X5_19 rfl (by decide +kernel))) <|
    xcn (rO (s_iload_n (k := 3) (by decide +kernel))) <|
    xcn (rO (s_aload_n (k := 0) (by decide +kernel))) <|
    xcn (rO (s_get (T := TX5) (N := 5) (index := 9) x_iw5 rfl (by decide) wf_X5_9 rfl (by decide +kernel))) <|
    xcn (rC (s_cV (index := 92) wb_37 wm_X5_92 (by decide +kernel))) <|
    xcn (rJ (s_if_ne (off := 7) (by decide +kernel) (by decide +kernel) (by decide +kernel))) <|
    xcn (rO (s_iconst (n := 1) (by decide +kernel) (by decide))) <|
    xcn (rJ (s_goto (off := 4) (by decide +kernel) (by decide +kernel))) <|
    xcn (rO (s_iconst (n := 0) (by decide +kernel) (by decide))) <|
    xcn (rR (s_ret2 (by decide +kernel))) <|
    xcn (rO (s_iload_n (k := 3) (by decide +kernel))) <|
    xcn (rO (s_iload_n (k := 1) (by decide +kernel))) <|
    xcn (rC (s_cS (index := 63) wb_45 wm_X5_63 (by decide +kernel))) <|
    xcn (rJ (s_if_ne (off := 31) (by decide +kernel) (by decide +kernel) (by decide +kernel))) <|
    xcn (rO (s_aload_n (k := 0) (by decide +kernel))) <|
    xcn (rO (s_get (T := TX5) (N := 5) (index := 9) x_iw5 rfl (by decide) wf_X5_9 rfl (by decide +kernel))) <|
    xcn (rO (s_iload_n (k := 1) (by decide +kernel))) <|
    xcn (rO (s_aload_n (k := 0) (by decide +kernel))) <|
    xcn (rO (s_get (T := TX5) (N := 5) (index := 15) x_iw5 rfl (by decide) wf_X5_15 rfl (by decide +kernel))) <|
    xcn (rO (s_get (T := TX9) (N := 7) (index := 31) x_iw9 rfl (by decide) wf_X5_31 rfl (by decide +kernel))) <|
    xcn (rO (s_get (T := TX8) (N := 7) (index := 96) x_iw8 rfl (by decide) wf_X5_96 rfl (by decide +kernel))) <|
    xcn (rO (s_iload_n (k := 1) (by decide +kernel))) <|
    xcn (rO (s_iald (by decide +kernel))) <|
    xcn (rO (s_iast (by decide +kernel))) <|
    xcn (rO (s_aload_n (k := 0) (by decide +kernel))) <|
    xcn (rO (s_iload_n (k := 1) (by decide +kernel))) <|
    xcn (rO (s_iconst (n := 1) (by decide +kernel) (by decide))) <|
    xcn (rO (s_iadd (by decide +kernel))) <|
    xcn (rO (s_iload_n (k := 2) (by decide +kernel))) <|
    xcn (rO (s_iload_n (k := 3) (by decide +kernel))) <|
    xcn (rC (s_cV (index := 53) wb_52 wm_X5_53 (by decide +kernel))) <|
    xcn (rR (s_ret2 (by decide +kernel))) <|
    xcn (rO (s_iconst (n := 4) (by decide +kernel) (by decide))) <|
    xcn (rO (s_iload_n (k := 3) (by decide +kernel))) <|
    xcn (rO (s_iload_n (k := 1) (by decide +kernel))) <|
    xcn (rO (s_iconst (n := 1) (by decide +kernel) (by decide))) <|
    xcn (rO (s_iadd (by decide +kernel))) <|
    xcn (rO (s_ishr (by decide +kernel))) <|
    xcn (rC (s_cS (index := 47) wb_211 wm_X5_47 (by decide +kernel))) <|
    xcn (rO (s_imul (by decide +kernel))) <|
    xcn (rO (s_istore (k := 4) (by decide) (by decide +kernel))) <|
    xcn (rO (s_iconst (n := 4) (by decide +kernel) (by decide))) <|
    xcn (rO (s_iload_n (k := 2) (by decide +kernel))) <|
    xcn (rO (s_mmin (index := 99) (x_mt (w := Cond.methodLink RX5 99 Lib.Math.min.name) 734 (by decide +kernel) rfl) (x_mt (w := Cond.static Lib.Math.min.name) 427 (by decide +kernel) rfl) (x_mt (w := Cond.initialized "java/lang/Math") 14 (by decide +kernel) rfl) (x_mt (w := Cond.code Lib.Math.min.name Lib.Math.min.code 2 (some .int)) 428 (by decide +kernel) rfl) (by decide +kernel))) <|
    xcn (rO (s_istore (k := 5) (by decide) (by decide +kernel))) <|
    xcn (rO (s_iconst (n := 0) (by decide +kernel) (by decide))) <|
    xcn (rO (s_iload_n (k := 2) (by decide +kernel))) <|
    xcn (rO (s_iload (k := 4) (by decide +kernel))) <|
    xcn (rO (s_isub (by decide +kernel))) <|
    xcn (rO (s_mmax (index := 104) (x_mt (w := Cond.methodLink RX5 104 Lib.Math.max.name) 735 (by decide +kernel) rfl) (x_mt (w := Cond.static Lib.Math.max.name) 736 (by decide +kernel) rfl) (x_mt (w := Cond.initialized "java/lang/Math") 14 (by decide +kernel) rfl) (x_mt (w := Cond.code Lib.Math.max.name Lib.Math.max.code 2 (some .int)) 737 (by decide +kernel) rfl) (by decide +kernel))) <|
    xcn (rO (s_istore (k := 6) (by decide) (by decide +kernel))) <|
    xcn (rO s_fgt) <|
    xcn (rO (s_iload (k := 6) (by decide +kernel))) <|
    xcn (rO (s_iload (k := 5) (by decide +kernel))) <|
    xcn (rJ (s_ic_gt (off := 34) (by decide +kernel) (by decide +kernel) (by decide +kernel))) <|
    xcn (rO (s_aload_n (k := 0) (by decide +kernel))) <|
    xcn (rO (s_get (T := TX5) (N := 5) (index := 9) x_iw5 rfl (by decide) wf_X5_9 rfl (by decide +kernel))) <|
    xcn (rO (s_iload_n (k := 1) (by decide +kernel))) <|
    xcn (rO (s_iload (k := 6) (by decide +kernel))) <|
    xcn (rO (s_iast (by decide +kernel))) <|
    xcn (rO (s_aload_n (k := 0) (by decide +kernel))) <|
    xcn (rO (s_iload_n (k := 1) (by decide +kernel))) <|
    xcn (rO (s_iconst (n := 1) (by decide +kernel) (by decide))) <|
    xcn (rO (s_iadd (by decide +kernel))) <|
    xcn (rO (s_iload_n (k := 2) (by decide +kernel))) <|
    xcn (rO (s_iload (k := 6) (by decide +kernel))) <|
    xcn (rO (s_isub (by decide +kernel))) <|
    xcn (rO (s_iload_n (k := 3) (by decide +kernel))) <|
    xcn (rC (s_cV (index := 53) wb_52 wm_X5_53 (by decide +kernel))) <|
    xcn (rJ (s_if_eq (off := 5) (by decide +kernel) (by decide +kernel) (by decide +kernel))) <|
    xcn (rO s_fgt) <|
    xcn (rO (s_iconst (n := 1) (by decide +kernel) (by decide))) <|
    xcn (rR (s_ret2 (by decide +kernel))) <|
    xcn (rO (s_iinc (k := 6) (n := 1) (by decide) (by decide) (by decide +kernel))) <|
    xcn (rJ (s_goto (off := (-35)) (by decide +kernel) (by decide +kernel))) <|
    xcn (rO s_fgt) <|
    xcn (rO (s_iconst (n := 0) (by decide +kernel) (by decide))) <|
    xcn (rR (s_ret2 (by decide +kernel))) <| xnl
theorem xv_52 : xMd (xw_52, xp_52, yX5_spreads, cX5_spreads, 7, some .boolean) := ⟨by decide +kernel, rfl, by decide +kernel, by decide +kernel, xa_52⟩
