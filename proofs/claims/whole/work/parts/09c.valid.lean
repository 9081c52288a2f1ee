set_option maxRecDepth 100000 in
theorem xa_53 : xAR (xRow RX6 cX6_append 2 (some .int) xp_53) xw_53 := by
  unfold xw_53
  exact xcn (rO (s_aload_n (k := 0) (by decide +kernel))) <|
    xcn (rO (s_get (T := TX6) (N := 7) (index := 21) x_iw6 rfl (by decide) wf_X6_21 rfl (by decide +kernel))) <|
    xcn (rO (s_bipush (n := 120) (by decide +kernel) (by decide))) <|
    xcn (rJ (s_ic_lt (off := 6) (by decide +kernel) (by decide +kernel) (by decide +kernel))) <|
    xcn (rO (s_bipush (n := (-4)) (by decide +kernel) (by decide))) <|
    xcn (rR (s_ret1 (by decide +kernel))) <|
    xcn (rO (s_aload_n (k := 0) (by decide +kernel))) <|
    xcn (rO (s_get (T := TX6) (N := 7) (index := 9) x_iw6 rfl (by decide) wf_X6_9 rfl (by decide +kernel))) <|
    xcn (rO (s_aload_n (k := 0) (by decide +kernel))) <|
    xcn (rO (s_get (T := TX6) (N := 7) (index := 21) x_iw6 rfl (by decide) wf_X6_21 rfl (by decide +kernel))) <|
    xcn (rO (s_iload_n (k := 1) (by decide +kernel))) <|
    xcn (rO (s_iast (by decide +kernel))) <|
    xcn (rO (s_aload_n (k := 0) (by decide +kernel))) <|
    xcn (rO (s_dup (by decide +kernel))) <|
    xcn (rO (s_get (T := TX6) (N := 7) (index := 21) x_iw6 rfl (by decide) wf_X6_21 rfl (by decide +kernel))) <|
    xcn (rO (s_iconst (n := 1) (by decide +kernel) (by decide))) <|
    xcn (rO (s_iadd (by decide +kernel))) <|
    xcn (rO (s_put (T := TX6) (N := 7) (index := 21) (ty0 := tyX6) (z := false) x_iw6 tyX6_ok nmX6 rfl (by decide) wf_X6_21 rfl rfl rfl (by decide +kernel))) <|
    xcn (rO (s_aload_n (k := 0) (by decide +kernel))) <|
    xcn (rO (s_get (T := TX6) (N := 7) (index := 21) x_iw6 rfl (by decide) wf_X6_21 rfl (by decide +kernel))) <|
    xcn (rR (s_ret1 (by decide +kernel))) <| xnl
theorem xv_53 : xMd (xw_53, xp_53, yX6_append, cX6_append, 2, some .int) := ⟨by decide +kernel, rfl, by decide +kernel, by decide +kernel, xa_53⟩
set_option maxRecDepth 100000 in
theorem xa_54 : xAR (xRow RX6 cX6_emptied 2 (some .int) xp_54) xw_54 := by
  unfold xw_54
  exact xcn (rO (s_aload_n (k := 0) (by decide +kernel))) <|
    xcn (rO (s_get (T := TX6) (N := 7) (index := 21) x_iw6 rfl (by decide) wf_X6_21 rfl (by decide +kernel))) <|
    xcn (rO (s_istore_n (k := 1) (by decide) (by decide +kernel))) <|
    xcn (rO (s_aload_n (k := 0) (by decide +kernel))) <|
    xcn (rO (s_iconst (n := 0) (by decide +kernel) (by decide))) <|
    xcn (rO (s_put (T := TX6) (N := 7) (index := 21) (ty0 := tyX6) (z := false) x_iw6 tyX6_ok nmX6 rfl (by decide) wf_X6_21 rfl rfl rfl (by decide +kernel))) <|
    xcn (rO (s_iload_n (k := 1) (by decide +kernel))) <|
    xcn (rR (s_ret1 (by decide +kernel))) <| xnl
theorem xv_54 : xMd (xw_54, xp_54, yX6_emptied, cX6_emptied, 2, some .int) := ⟨by decide +kernel, rfl, by decide +kernel, by decide +kernel, xa_54⟩
set_option maxRecDepth 100000 in
theorem xa_55 : xAR (xRow RX6 cX6_letter 2 (some .int) xp_55) xw_55 := by
  unfold xw_55
  exact xcn (rO (s_aload_n (k := 0) (by decide +kernel))) <|
    xcn (rO (s_get (T := TX6) (N := 7) (index := 15) x_iw6 rfl (by decide) wf_X6_15 rfl (by decide +kernel))) <|
    xcn (rO (s_iload_n (k := 1) (by decide +kernel))) <|
    xcn (rO (s_iald (by decide +kernel))) <|
    xcn (rR (s_ret1 (by decide +kernel))) <| xnl
theorem xv_55 : xMd (xw_55, xp_55, yX6_letter, cX6_letter, 2, some .int) := ⟨by decide +kernel, rfl, by decide +kernel, by decide +kernel, xa_55⟩
set_option maxRecDepth 100000 in
theorem xa_56 : xAR (xRow RX6 cX6_number 3 (some .int) xp_56) xw_56 := by
  unfold xw_56
  exact xcn (rO (s_aload_n (k := 0) (by decide +kernel))) <|
    xcn (rO (s_get (T := TX6) (N := 7) (index := 18) x_iw6 rfl (by decide) wf_X6_18 rfl (by decide +kernel))) <|
    xcn (rO (s_iload_n (k := 1) (by decide +kernel))) <|
    xcn (rO (s_iconst (n := 3) (by decide +kernel) (by decide))) <|
    xcn (rO (s_imul (by decide +kernel))) <|
    xcn (rO (s_iload_n (k := 2) (by decide +kernel))) <|
    xcn (rO (s_iadd (by decide +kernel))) <|
    xcn (rO (s_iald (by decide +kernel))) <|
    xcn (rR (s_ret1 (by decide +kernel))) <| xnl
theorem xv_56 : xMd (xw_56, xp_56, yX6_number, cX6_number, 3, some .int) := ⟨by decide +kernel, rfl, by decide +kernel, by decide +kernel, xa_56⟩
set_option maxRecDepth 100000 in
theorem xa_57 : xAR (xRow RX6 cX6_parse 4 (some .int) xp_57) xw_57 := by
  unfold xw_57
  exact xcn (rO (s_aload_n (k := 0) (by decide +kernel))) <|
    xcn (rO (s_iconst (n := 0) (by decide +kernel) (by decide))) <|
    xcn (rO (s_put (T := TX6) (N := 7) (index := 25) (ty0 := tyX6) (z := false) x_iw6 tyX6_ok nmX6 rfl (by decide) wf_X6_25 rfl rfl rfl (by decide +kernel))) <|
    xcn (rO (s_iconst (n := 0) (by decide +kernel) (by decide))) <|
    xcn (rO (s_istore_n (k := 1) (by decide) (by decide +kernel))) <|
    xcn (rO (s_iconst (n := 0) (by decide +kernel) (by decide))) <|
    xcn (rO (s_istore_n (k := 2) (by decide) (by decide +kernel))) <|
    xcn (rO s_fgt) <|
    xcn (rO (s_iload_n (k := 2) (by decide +kernel))) <|
    xcn (rO (s_aload_n (k := 0) (by decide +kernel))) <|
    xcn (rO (s_get (T := TX6) (N := 7) (index := 21) x_iw6 rfl (by decide) wf_X6_21 rfl (by decide +kernel))) <|
    xcn (rJ (s_ic_ge (off := 93) (by decide +kernel) (by decide +kernel) (by decide +kernel))) <|
    xcn (rO (s_aload_n (k := 0) (by decide +kernel))) <|
    xcn (rO (s_get (T := TX6) (N := 7) (index := 9) x_iw6 rfl (by decide) wf_X6_9 rfl (by decide +kernel))) <|
    xcn (rO (s_iload_n (k := 2) (by decide +kernel))) <|
    xcn (rO (s_iald (by decide +kernel))) <|
    xcn (rO (s_istore_n (k := 3) (by decide) (by decide +kernel))) <|
    xcn (rO (s_iload_n (k := 3) (by decide +kernel))) <|
    xcn (rO (s_bipush (n := 32) (by decide +kernel) (by decide))) <|
    xcn (rJ (s_ic_ne (off := 11) (by decide +kernel) (by decide +kernel) (by decide +kernel))) <|
    xcn (rO (s_aload_n (k := 0) (by decide +kernel))) <|
    xcn (rO (s_iconst (n := 0) (by decide +kernel) (by decide))) <|
    xcn (rO (s_put (T := TX6) (N := 7) (index := 28) (ty0 := tyX6) (z := false) x_iw6 tyX6_ok nmX6 rfl (by decide) wf_X6_28 rfl rfl rfl (by decide +kernel))) <|
    xcn (rJ (s_goto (off := 66) (by decide +kernel) (by decide +kernel))) <|
    xcn (rO (s_iload_n (k := 1) (by decide +kernel))) <|
    xcn (rJ (s_if_ne (off := 22) (by decide +kernel) (by decide +kernel) (by decide +kernel))) <|
    xcn (rO (s_iload_n (k := 3) (by decide +kernel))) <|
    xcn (rC (s_cS (index := 31) wb_60 wm_X6_31 (by decide +kernel))) <|
    xcn (rO (s_istore_n (k := 1) (by decide) (by decide +kernel))) <|
    xcn (rO (s_iload_n (k := 1) (by decide +kernel))) <|
    xcn (rJ (s_if_ne (off := 5) (by decide +kernel) (by decide +kernel) (by decide +kernel))) <|
    xcn (rO s_fgt) <|
    xcn (rO (s_iload_n (k := 2) (by decide +kernel))) <|
    xcn (rR (s_ret1 (by decide +kernel))) <|
    xcn (rO (s_aload_n (k := 0) (by decide +kernel))) <|
    xcn (rO (s_iload_n (k := 3) (by decide +kernel))) <|
    xcn (rC (s_cV (index := 35) wb_58 wm_X6_35 (by decide +kernel))) <|
    xcn (rJ (s_goto (off := 43) (by decide +kernel) (by decide +kernel))) <|
    xcn (rO (s_iload_n (k := 3) (by decide +kernel))) <|
    xcn (rO (s_bipush (n := 59) (by decide +kernel) (by decide))) <|
    xcn (rJ (s_ic_ne (off := 26) (by decide +kernel) (by decide +kernel) (by decide +kernel))) <|
    xcn (rO (s_aload_n (k := 0) (by decide +kernel))) <|
    xcn (rO (s_get (T := TX6) (N := 7) (index := 39) x_iw6 rfl (by decide) wf_X6_39 rfl (by decide +kernel))) <|
    xcn (rO (s_iload_n (k := 1) (by decide +kernel))) <|
    xcn (rJ (s_ic_ne (off := 18) (by decide +kernel) (by decide +kernel) (by decide +kernel))) <|
    xcn (rO (s_aload_n (k := 0) (by decide +kernel))) <|
    xcn (rO (s_dup (by decide +kernel))) <|
    xcn (rO (s_get (T := TX6) (N := 7) (index := 25) x_iw6 rfl (by decide) wf_X6_25 rfl (by decide +kernel))) <|
    xcn (rO (s_iconst (n := 1) (by decide +kernel) (by decide))) <|
    xcn (rO (s_iadd (by decide +kernel))) <|
    xcn (rO (s_put (T := TX6) (N := 7) (index := 25) (ty0 := tyX6) (z := false) x_iw6 tyX6_ok nmX6 rfl (by decide) wf_X6_25 rfl rfl rfl (by decide +kernel))) <|
    xcn (rO (s_iconst (n := 0) (by decide +kernel) (by decide))) <|
    xcn (rO (s_istore_n (k := 1) (by decide) (by decide +kernel))) <|
    xcn (rJ (s_goto (off := 14) (by decide +kernel) (by decide +kernel))) <|
    xcn (rO (s_aload_n (k := 0) (by decide +kernel))) <|
    xcn (rO (s_iload_n (k := 3) (by decide +kernel))) <|
    xcn (rO (s_iload_n (k := 1) (by decide +kernel))) <|
    xcn (rC (s_cV (index := 42) wb_59 wm_X6_42 (by decide +kernel))) <|
    xcn (rJ (s_if_ne (off := 5) (by decide +kernel) (by decide +kernel) (by decide +kernel))) <|
    xcn (rO s_fgt) <|
    xcn (rO (s_iload_n (k := 2) (by decide +kernel))) <|
    xcn (rR (s_ret1 (by decide +kernel))) <|
    xcn (rO (s_iinc (k := 2) (n := 1) (by decide) (by decide) (by decide +kernel))) <|
    xcn (rJ (s_goto (off := (-95)) (by decide +kernel) (by decide +kernel))) <|
    xcn (rO s_fgt) <|
    xcn (rO (s_iload_n (k := 1) (by decide +kernel))) <|
    xcn (rJ (s_if_gt (off := 10) (by decide +kernel) (by decide +kernel) (by decide +kernel))) <|
    xcn (rO (s_aload_n (k := 0) (by decide +kernel))) <|
    xcn (rO (s_get (T := TX6) (N := 7) (index := 25) x_iw6 rfl (by decide) wf_X6_25 rfl (by decide +kernel))) <|
    xcn (rJ (s_if_ne (off := 10) (by decide +kernel) (by decide +kernel) (by decide +kernel))) <|
    xcn (rO (s_aload_n (k := 0) (by decide +kernel))) <|
    xcn (rO (s_get (T := TX6) (N := 7) (index := 21) x_iw6 rfl (by decide) wf_X6_21 rfl (by decide +kernel))) <|
    xcn (rJ (s_goto (off := 4) (by decide +kernel) (by decide +kernel))) <|
    xcn (rO (s_iconst (n := (-1)) (by decide +kernel) (by decide))) <|
    xcn (rR (s_ret1 (by decide +kernel))) <| xnl
theorem xv_57 : xMd (xw_57, xp_57, yX6_parse, cX6_parse, 4, some .int) := ⟨by decide +kernel, rfl, by decide +kernel, by decide +kernel, xa_57⟩
set_option maxRecDepth 100000 in
theorem xa_58 : xAR (xRow RX6 cX6_begin 2 (none) xp_58) xw_58 := by
  unfold xw_58
  exact xcn (rO (s_aload_n (k := 0) (by decide +kernel))) <|
    xcn (rO (s_get (T := TX6) (N := 7) (index := 15) x_iw6 rfl (by decide) wf_X6_15 rfl (by decide +kernel))) <|
    xcn (rO (s_aload_n (k := 0) (by decide +kernel))) <|
    xcn (rO (s_get (T := TX6) (N := 7) (index := 25) x_iw6 rfl (by decide) wf_X6_25 rfl (by decide +kernel))) <|
    xcn (rO (s_iload_n (k := 1) (by decide +kernel))) <|
    xcn (rO (s_iast (by decide +kernel))) <|
    xcn (rO (s_aload_n (k := 0) (by decide +kernel))) <|
    xcn (rO (s_iconst (n := 0) (by decide +kernel) (by decide))) <|
    xcn (rO (s_put (T := TX6) (N := 7) (index := 39) (ty0 := tyX6) (z := false) x_iw6 tyX6_ok nmX6 rfl (by decide) wf_X6_39 rfl rfl rfl (by decide +kernel))) <|
    xcn (rO (s_aload_n (k := 0) (by decide +kernel))) <|
    xcn (rO (s_iconst (n := 0) (by decide +kernel) (by decide))) <|
    xcn (rO (s_put (T := TX6) (N := 7) (index := 28) (ty0 := tyX6) (z := false) x_iw6 tyX6_ok nmX6 rfl (by decide) wf_X6_28 rfl rfl rfl (by decide +kernel))) <|
    xcn (rR (s_ret0 (by decide +kernel))) <| xnl
theorem xv_58 : xMd (xw_58, xp_58, yX6_begin, cX6_begin, 2, none) := ⟨by decide +kernel, rfl, by decide +kernel, by decide +kernel, xa_58⟩
set_option maxRecDepth 100000 in
theorem xa_59 : xAR (xRow RX6 cX6_takesDigit 4 (some .boolean) xp_59) xw_59 := by
  unfold xw_59
  exact xcn (rO (s_iload_n (k := 1) (by decide +kernel))) <|
    xcn (rO (s_bipush (n := 48) (by decide +kernel) (by decide))) <|
    xcn (rO (s_bipush (n := 57) (by decide +kernel) (by decide))) <|
    xcn (rC (s_cN (index := 46) wb_114 (by decide +kernel) (by decide +kernel))) <|
    xcn (rJ (s_if_eq (off := 11) (by decide +kernel) (by decide +kernel) (by decide +kernel))) <|
    xcn (rO (s_aload_n (k := 0) (by decide +kernel))) <|
    xcn (rO (s_get (T := TX6) (N := 7) (index := 28) x_iw6 rfl (by decide) wf_X6_28 rfl (by decide +kernel))) <|
    xcn (rO (s_iconst (n := 3) (by decide +kernel) (by decide))) <|
    xcn (rJ (s_ic_lt (off := 5) (by decide +kernel) (by decide +kernel) (by decide +kernel))) <|
    xcn (rO (s_iconst (n := 0) (by decide +kernel) (by decide))) <|
    xcn (rR (s_ret2 (by decide +kernel))) <|
    xcn (rO (s_aload_n (k := 0) (by decide +kernel))) <|
    xcn (rO (s_get (T := TX6) (N := 7) (index := 28) x_iw6 rfl (by decide) wf_X6_28 rfl (by decide +kernel))) <|
    xcn (rJ (s_if_ne (off := 40) (by decide +kernel) (by decide +kernel) (by decide +kernel))) <|
    xcn (rO (s_aload_n (k := 0) (by decide +kernel))) <|
    xcn (rO (s_get (T := TX6) (N := 7) (index := 39) x_iw6 rfl (by decide) wf_X6_39 rfl (by decide +kernel))) <|
    xcn (rO (s_iload_n (k := 2) (by decide +kernel))) <|
    xcn (rJ (s_ic_lt (off := 5) (by decide +kernel) (by decide +kernel) (by decide +kernel))) <|
    xcn (rO (s_iconst (n := 0) (by decide +kernel) (by decide))) <|
    xcn (rR (s_ret2 (by decide +kernel))) <|
    xcn (rO (s_aload_n (k := 0) (by decide +kernel))) <|
    xcn (rO (s_get (T := TX6) (N := 7) (index := 18) x_iw6 rfl (by decide) wf_X6_18 rfl (by decide +kernel))) <|
    xcn (rO (s_aload_n (k := 0) (by decide +kernel))) <|
    xcn (rO (s_get (T := TX6) (N := 7) (index := 25) x_iw6 rfl (by decide) wf_X6_25 rfl (by decide +kernel))) <|
    xcn (rO (s_iconst (n := 3) (by decide +kernel) (by decide))) <|
    xcn (rO (s_imul (by decide +kernel))) <|
    xcn (rO (s_aload_n (k := 0) (by decide +kernel))) <|
    xcn (rO (s_get (T := TX6) (N := 7) (index := 39) x_iw6 rfl (by decide) wf_X6_39 rfl (by decide +kernel))) <|
    xcn (rO (s_iadd (by decide +kernel))) <|
    xcn (rO (s_iconst (n := 0) (by decide +kernel) (by decide))) <|
    xcn (rO (s_iast (by decide +kernel))) <|
    xcn (rO (s_aload_n (k := 0) (by decide +kernel))) <|
    xcn (rO (s_dup (by decide +kernel))) <|
    xcn (rO (s_get (T := TX6) (N := 7) (index := 39) x_iw6 rfl (by decide) wf_X6_39 rfl (by decide +kernel))) <|
    xcn (rO (s_iconst (n := 1) (by decide +kernel) (by decide))) <|
    xcn (rO (s_iadd (by decide +kernel))) <|
    xcn (rO (s_put (T := TX6) (N := 7) (index := 39) (ty0 := tyX6) (z := false) x_iw6 tyX6_ok nmX6 rfl (by decide) wf_X6_39 rfl rfl rfl (by decide +kernel))) <|
    xcn (rO (s_aload_n (k := 0) (by decide +kernel))) <|
    xcn (rO (s_get (T := TX6) (N := 7) (index := 25) x_iw6 rfl (by decide) wf_X6_25 rfl (by decide +kernel))) <|
    xcn (rO (s_iconst (n := 3) (by decide +kernel) (by decide))) <|
    xcn (rO (s_imul (by decide +kernel))) <|
    xcn (rO (s_aload_n (k := 0) (by decide +kernel))) <|
    xcn (rO (s_get (T := TX6) (N := 7) (index := 39) x_iw6 rfl (by decide) wf_X6_39 rfl (by decide +kernel))) <|
    xcn (rO (s_iadd (by decide +kernel))) <|
    xcn (rO (s_iconst (n := 1) (by decide +kernel) (by decide))) <|
    xcn (rO (s_isub (by decide +kernel))) <|
    xcn (rO (s_istore_n (k := 3) (by decide) (by decide +kernel))) <|
    xcn (rO (s_aload_n (k := 0) (by decide +kernel))) <|
    xcn (rO (s_get (T := TX6) (N := 7) (index := 18) x_iw6 rfl (by decide) wf_X6_18 rfl (by decide +kernel))) <|
    xcn (rO (s_iload_n (k := 3) (by decide +kernel))) <|
    xcn (rO (s_bipush (n := 10) (by decide +kernel) (by decide))) <|
    xcn (rO (s_aload_n (k := 0) (by decide +kernel))) <|
    xcn (rO (s_get (T := TX6) (N := 7) (index := 18) x_iw6 rfl (by decide) wf_X6_18 rfl (by decide +kernel))) <|
    xcn (rO (s_iload_n (k := 3) (by decide +kernel))) <|
    xcn (rO (s_iald (by decide +kernel))) <|
    xcn (rO (s_imul (by decide +kernel))) <|
    xcn (rO (s_iload_n (k := 1) (by decide +kernel))) <|
    xcn (rO (s_iadd (by decide +kernel))) <|
    xcn (rO (s_bipush (n := 48) (by decide +kernel) (by decide))) <|
    xcn (rO (s_isub (by decide +kernel))) <|
    xcn (rO (s_iast (by decide +kernel))) <|
    xcn (rO (s_aload_n (k := 0) (by decide +kernel))) <|
    xcn (rO (s_dup (by decide +kernel))) <|
    xcn (rO (s_get (T := TX6) (N := 7) (index := 28) x_iw6 rfl (by decide) wf_X6_28 rfl (by decide +kernel))) <|
    xcn (rO (s_iconst (n := 1) (by decide +kernel) (by decide))) <|
    xcn (rO (s_iadd (by decide +kernel))) <|
    xcn (rO (s_put (T := TX6) (N := 7) (index := 28) (ty0 := tyX6) (z := false) x_iw6 tyX6_ok nmX6 rfl (by decide) wf_X6_28 rfl rfl rfl (by decide +kernel))) <|
    xcn (rO (s_iconst (n := 1) (by decide +kernel) (by decide))) <|
    xcn (rR (s_ret2 (by decide +kernel))) <| xnl
theorem xv_59 : xMd (xw_59, xp_59, yX6_takesDigit, cX6_takesDigit, 4, some .boolean) := ⟨by decide +kernel, rfl, by decide +kernel, by decide +kernel, xa_59⟩
set_option maxRecDepth 100000 in
theorem xa_60 : xAR (xRow RX6 cX6_numbersBehind 1 (some .int) xp_60) xw_60 := by
  unfold xw_60
  exact xcn (rO (s_iload_n (k := 0) (by decide +kernel))) <|
    xcn (rJ (s_tsw (dflt := 117) (hi := 120) (offs := #[111, 117, 117, 111, 117, 117, 117, 117, 117, 117, 117, 115, 113, 117, 115, 113, 117, 117, 113, 111, 117, 117, 117, 111]) (len := 111) (by decide +kernel) (by decide) (by decide +kernel) (by decide +kernel))) <|
    xcn (rO (s_iconst (n := 1) (by decide +kernel) (by decide))) <|
    xcn (rR (s_ret1 (by decide +kernel))) <|
    xcn (rO (s_iconst (n := 2) (by decide +kernel) (by decide))) <|
    xcn (rR (s_ret1 (by decide +kernel))) <|
    xcn (rO (s_iconst (n := 3) (by decide +kernel) (by decide))) <|
    xcn (rR (s_ret1 (by decide +kernel))) <|
    xcn (rO (s_iconst (n := 0) (by decide +kernel) (by decide))) <|
    xcn (rR (s_ret1 (by decide +kernel))) <| xnl
theorem xv_60 : xMd (xw_60, xp_60, yX6_numbersBehind, cX6_numbersBehind, 1, some .int) := ⟨by decide +kernel, rfl, by decide +kernel, by decide +kernel, xa_60⟩
set_option maxRecDepth 100000 in
theorem xa_61 : xAR (xRow RX7 cX7_has 2 (some .boolean) xp_61) xw_61 := by
  unfold xw_61
  exact xcn (rO (s_iload_n (k := 1) (by decide +kernel))) <|
    xcn (rO (s_iconst (n := 0) (by decide +kernel) (by decide))) <|
    xcn (rO (s_aload_n (k := 0) (by decide +kernel))) <|
    xcn (rO (s_get (T := TX7) (N := 5) (index := 24) x_iw7 rfl (by decide) wf_X7_24 rfl (by decide +kernel))) <|
    xcn (rO (s_iconst (n := 1) (by decide +kernel) (by decide))) <|
    xcn (rO (s_isub (by decide +kernel))) <|
    xcn (rC (s_cN (index := 28) wb_114 (by decide +kernel) (by decide +kernel))) <|
    xcn (rR (s_ret2 (by decide +kernel))) <| xnl
theorem xv_61 : xMd (xw_61, xp_61, yX7_has, cX7_has, 2, some .boolean) := ⟨by decide +kernel, rfl, by decide +kernel, by decide +kernel, xa_61⟩
set_option maxRecDepth 100000 in
theorem xa_62 : xAR (xRow RX7 cX7_add 5 (some .int) xp_62) xw_62 := by
  unfold xw_62
  exact xcn (rO (s_aload_n (k := 0) (by decide +kernel))) <|
    xcn (rO (s_get (T := TX7) (N := 5) (index := 9) x_iw7 rfl (by decide) wf_X7_9 rfl (by decide +kernel))) <|
    xcn (rO (s_aload_n (k := 0) (by decide +kernel))) <|
    xcn (rO (s_get (T := TX7) (N := 5) (index := 24) x_iw7 rfl (by decide) wf_X7_24 rfl (by decide +kernel))) <|
    xcn (rO (s_iload_n (k := 1) (by decide +kernel))) <|
    xcn (rO (s_iast (by decide +kernel))) <|
    xcn (rO (s_aload_n (k := 0) (by decide +kernel))) <|
    xcn (rO (s_get (T := TX7) (N := 5) (index := 15) x_iw7 rfl (by decide) wf_X7_15 rfl (by decide +kernel))) <|
    xcn (rO (s_aload_n (k := 0) (by decide +kernel))) <|
    xcn (rO (s_get (T := TX7) (N := 5) (index := 24) x_iw7 rfl (by decide) wf_X7_24 rfl (by decide +kernel))) <|
    xcn (rO (s_iload_n (k := 2) (by decide +kernel))) <|
    xcn (rO (s_iast (by decide +kernel))) <|
    xcn (rO (s_aload_n (k := 0) (by decide +kernel))) <|
    xcn (rO (s_get (T := TX7) (N := 5) (index := 18) x_iw7 rfl (by decide) wf_X7_18 rfl (by decide +kernel))) <|
    xcn (rO (s_aload_n (k := 0) (by decide +kernel))) <|
    xcn (rO (s_get (T := TX7) (N := 5) (index := 24) x_iw7 rfl (by decide) wf_X7_24 rfl (by decide +kernel))) <|
    xcn (rO (s_iload_n (k := 3) (by decide +kernel))) <|
    xcn (rO (s_iast (by decide +kernel))) <|
    xcn (rO (s_aload_n (k := 0) (by decide +kernel))) <|
    xcn (rO (s_get (T := TX7) (N := 5) (index := 21) x_iw7 rfl (by decide) wf_X7_21 rfl (by decide +kernel))) <|
    xcn (rO (s_aload_n (k := 0) (by decide +kernel))) <|
    xcn (rO (s_get (T := TX7) (N := 5) (index := 24) x_iw7 rfl (by decide) wf_X7_24 rfl (by decide +kernel))) <|
    xcn (rO (s_iload (k := 4) (by decide +kernel))) <|
    xcn (rO (s_iast (by decide +kernel))) <|
    xcn (rO (s_aload_n (k := 0) (by decide +kernel))) <|
    xcn (rO (s_dup (by decide +kernel))) <|
    xcn (rO (s_get (T := TX7) (N := 5) (index := 24) x_iw7 rfl (by decide) wf_X7_24 rfl (by decide +kernel))) <|
    xcn (rO (s_iconst (n := 1) (by decide +kernel) (by decide))) <|
    xcn (rO (s_iadd (by decide +kernel))) <|
    xcn (rO (s_put (T := TX7) (N := 5) (index := 24) (ty0 := tyX7) (z := false) x_iw7 tyX7_ok nmX7 rfl (by decide) wf_X7_24 rfl rfl rfl (by decide +kernel))) <|
    xcn (rO (s_aload_n (k := 0) (by decide +kernel))) <|
    xcn (rO (s_get (T := TX7) (N := 5) (index := 24) x_iw7 rfl (by decide) wf_X7_24 rfl (by decide +kernel))) <|
    xcn (rR (s_ret1 (by decide +kernel))) <| xnl
theorem xv_62 : xMd (xw_62, xp_62, yX7_add, cX7_add, 5, some .int) := ⟨by decide +kernel, rfl, by decide +kernel, by decide +kernel, xa_62⟩
set_option maxRecDepth 100000 in
theorem xa_63 : xAR (xRow RX7 cX7_remove 3 (none) xp_63) xw_63 := by
  unfold xw_63
  exact xcn (rO (s_iload_n (k := 1) (by decide +kernel))) <|
    xcn (rO (s_iconst (n := 1) (by decide +kernel) (by decide))) <|
    xcn (rO (s_iadd (by decide +kernel))) <|
    xcn (rO (s_istore_n (k := 2) (by decide) (by decide +kernel))) <|
    xcn (rO s_fgt) <|
    xcn (rO (s_iload_n (k := 2) (by decide +kernel))) <|
    xcn (rO (s_aload_n (k := 0) (by decide +kernel))) <|
    xcn (rO (s_get (T := TX7) (N := 5) (index := 24) x_iw7 rfl (by decide) wf_X7_24 rfl (by decide +kernel))) <|
    xcn (rJ (s_ic_ge (off := 17) (by decide +kernel) (by decide +kernel) (by decide +kernel))) <|
    xcn (rO (s_aload_n (k := 0) (by decide +kernel))) <|
    xcn (rO (s_iload_n (k := 2) (by decide +kernel))) <|
    xcn (rO (s_iload_n (k := 2) (by decide +kernel))) <|
    xcn (rO (s_iconst (n := 1) (by decide +kernel) (by decide))) <|
    xcn (rO (s_isub (by decide +kernel))) <|
    xcn (rC (s_cV (index := 32) wb_64 wm_X7_32 (by decide +kernel))) <|
    xcn (rO (s_iinc (k := 2) (n := 1) (by decide) (by decide) (by decide +kernel))) <|
    xcn (rJ (s_goto (off := (-19)) (by decide +kernel) (by decide +kernel))) <|
    xcn (rO s_fgt) <|
    xcn (rO (s_aload_n (k := 0) (by decide +kernel))) <|
    xcn (rO (s_dup (by decide +kernel))) <|
    xcn (rO (s_get (T := TX7) (N := 5) (index := 24) x_iw7 rfl (by decide) wf_X7_24 rfl (by decide +kernel))) <|
    xcn (rO (s_iconst (n := 1) (by decide +kernel) (by decide))) <|
    xcn (rO (s_isub (by decide +kernel))) <|
    xcn (rO (s_put (T := TX7) (N := 5) (index := 24) (ty0 := tyX7) (z := false) x_iw7 tyX7_ok nmX7 rfl (by decide) wf_X7_24 rfl rfl rfl (by decide +kernel))) <|
    xcn (rR (s_ret0 (by decide +kernel))) <| xnl
theorem xv_63 : xMd (xw_63, xp_63, yX7_remove, cX7_remove, 3, none) := ⟨by decide +kernel, rfl, by decide +kernel, by decide +kernel, xa_63⟩
set_option maxRecDepth 100000 in
theorem xa_64 : xAR (xRow RX7 cX7_move 3 (none) xp_64) xw_64 := by
  unfold xw_64
  exact xcn (rO (s_aload_n (k := 0) (by decide +kernel))) <|
    xcn (rO (s_get (T := TX7) (N := 5) (index := 9) x_iw7 rfl (by decide) wf_X7_9 rfl (by decide +kernel))) <|
    xcn (rO (s_iload_n (k := 2) (by decide +kernel))) <|
    xcn (rO (s_aload_n (k := 0) (by decide +kernel))) <|
    xcn (rO (s_get (T := TX7) (N := 5) (index := 9) x_iw7 rfl (by decide) wf_X7_9 rfl (by decide +kernel))) <|
    xcn (rO (s_iload_n (k := 1) (by decide +kernel))) <|
    xcn (rO (s_iald (by decide +kernel))) <|
    xcn (rO (s_iast (by decide +kernel))) <|
    xcn (rO (s_aload_n (k := 0) (by decide +kernel))) <|
    xcn (rO (s_get (T := TX7) (N := 5) (index := 15) x_iw7 rfl (by decide) wf_X7_15 rfl (by decide +kernel))) <|
    xcn (rO (s_iload_n (k := 2) (by decide +kernel))) <|
    xcn (rO (s_aload_n (k := 0) (by decide +kernel))) <|
    xcn (rO (s_get (T := TX7) (N := 5) (index := 15) x_iw7 rfl (by decide) wf_X7_15 rfl (by decide +kernel))) <|
    xcn (rO (s_iload_n (k := 1) (by decide +kernel))) <|
    xcn (rO (s_iald (by decide +kernel))) <|
    xcn (rO (s_iast (by decide +kernel))) <|
    xcn (rO (s_aload_n (k := 0) (by decide +kernel))) <|
    xcn (rO (s_get (T := TX7) (N := 5) (index := 18) x_iw7 rfl (by decide) wf_X7_18 rfl (by decide +kernel))) <|
    xcn (rO (s_iload_n (k := 2) (by decide +kernel))) <|
    xcn (rO (s_aload_n (k := 0) (by decide +kernel))) <|
    xcn (rO (s_get (T := TX7) (N := 5) (index := 18) x_iw7 rfl (by decide) wf_X7_18 rfl (by decide +kernel))) <|
    xcn (rO (s_iload_n (k := 1) (by decide +kernel))) <|
    xcn (rO (s_iald (by decide +kernel))) <|
    xcn (rO (s_iast (by decide +kernel))) <|
    xcn (rO (s_aload_n (k := 0) (by decide +kernel))) <|
    xcn (rO (s_get (T := TX7) (N := 5) (index := 21) x_iw7 rfl (by decide) wf_X7_21 rfl (by decide +kernel))) <|
    xcn (rO (s_iload_n (k := 2) (by decide +kernel))) <|
    xcn (rO (s_aload_n (k := 0) (by decide +kernel))) <|
    xcn (rO (s_get (T := TX7) (N := 5) (index := 21) x_iw7 rfl (by decide) wf_X7_21 rfl (by decide +kernel))) <|
    xcn (rO (s_iload_n (k := 1) (by decide +kernel))) <|
    xcn (rO (s_iald (by decide +kernel))) <|
    xcn (rO (s_iast (by decide +kernel))) <|
    xcn (rR (s_ret0 (by decide +kernel))) <| xnl
theorem xv_64 : xMd (xw_64, xp_64, yX7_move, cX7_move, 3, none) := ⟨by decide +kernel, rfl, by decide +kernel, by decide +kernel, xa_64⟩
set_option maxRecDepth 100000 in
theorem xa_65 : xAR (xRow RX7 cX7_countOfArea 4 (some .int) xp_65) xw_65 := by
  unfold xw_65
  exact xcn (rO (s_iconst (n := 0) (by decide +kernel) (by decide))) <|
    xcn (rO (s_istore_n (k := 2) (by decide) (by decide +kernel))) <|
    xcn (rO (s_iconst (n := 0) (by decide +kernel) (by decide))) <|
    xcn (rO (s_istore_n (k := 3) (by decide) (by decide +kernel))) <|
    xcn (rO s_fgt) <|
    xcn (rO (s_iload_n (k := 3) (by decide +kernel))) <|
    xcn (rO (s_aload_n (k := 0) (by decide +kernel))) <|
    xcn (rO (s_get (T := TX7) (N := 5) (index := 24) x_iw7 rfl (by decide) wf_X7_24 rfl (by decide +kernel))) <|
    xcn (rJ (s_ic_ge (off := 22) (by decide +kernel) (by decide +kernel) (by decide +kernel))) <|
    xcn (rO (s_aload_n (k := 0) (by decide +kernel))) <|
    xcn (rO (s_get (T := TX7) (N := 5) (index := 9) x_iw7 rfl (by decide) wf_X7_9 rfl (by decide +kernel))) <|
    xcn (rO (s_iload_n (k := 3) (by decide +kernel))) <|
    xcn (rO (s_iald (by decide +kernel))) <|
    xcn (rO (s_iload_n (k := 1) (by decide +kernel))) <|
    xcn (rJ (s_ic_ne (off := 6) (by decide +kernel) (by decide +kernel) (by decide +kernel))) <|
    xcn (rO (s_iinc (k := 2) (n := 1) (by decide) (by decide) (by decide +kernel))) <|
    xcn (rO (s_iinc (k := 3) (n := 1) (by decide) (by decide) (by decide +kernel))) <|
    xcn (rJ (s_goto (off := (-24)) (by decide +kernel) (by decide +kernel))) <|
    xcn (rO s_fgt) <|
    xcn (rO (s_iload_n (k := 2) (by decide +kernel))) <|
    xcn (rR (s_ret1 (by decide +kernel))) <| xnl
theorem xv_65 : xMd (xw_65, xp_65, yX7_countOfArea, cX7_countOfArea, 4, some .int) := ⟨by decide +kernel, rfl, by decide +kernel, by decide +kernel, xa_65⟩
set_option maxRecDepth 100000 in
theorem xa_66 : xAR (xRow RX7 cX7_countAtSite 4 (some .int) xp_66) xw_66 := by
  unfold xw_66
  exact xcn (rO (s_iconst (n := 0) (by decide +kernel) (by decide))) <|
    xcn (rO (s_istore_n (k := 2) (by decide) (by decide +kernel))) <|
    xcn (rO (s_iconst (n := 0) (by decide +kernel) (by decide))) <|
    xcn (rO (s_istore_n (k := 3) (by decide) (by decide +kernel))) <|
    xcn (rO s_fgt) <|
    xcn (rO (s_iload_n (k := 3) (by decide +kernel))) <|
    xcn (rO (s_aload_n (k := 0) (by decide +kernel))) <|
    xcn (rO (s_get (T := TX7) (N := 5) (index := 24) x_iw7 rfl (by decide) wf_X7_24 rfl (by decide +kernel))) <|
    xcn (rJ (s_ic_ge (off := 22) (by decide +kernel) (by decide +kernel) (by decide +kernel))) <|
    xcn (rO (s_aload_n (k := 0) (by decide +kernel))) <|
    xcn (rO (s_get (T := TX7) (N := 5) (index := 15) x_iw7 rfl (by decide) wf_X7_15 rfl (by decide +kernel))) <|
    xcn (rO (s_iload_n (k := 3) (by decide +kernel))) <|
    xcn (rO (s_iald (by decide +kernel))) <|
    xcn (rO (s_iload_n (k := 1) (by decide +kernel))) <|
    xcn (rJ (s_ic_ne (off := 6) (by decide +kernel) (by decide +kernel) (by decide +kernel))) <|
    xcn (rO (s_iinc (k := 2) (n := 1) (by decide) (by decide) (by decide +kernel))) <|
    xcn (rO (s_iinc (k := 3) (n := 1) (by decide) (by decide) (by decide +kernel))) <|
    xcn (rJ (s_goto (off := (-24)) (by decide +kernel) (by decide +kernel))) <|
    xcn (rO s_fgt) <|
    xcn (rO (s_iload_n (k := 2) (by decide +kernel))) <|
    xcn (rR (s_ret1 (by decide +kernel))) <| xnl
theorem xv_66 : xMd (xw_66, xp_66, yX7_countAtSite, cX7_countAtSite, 4, some .int) := ⟨by decide +kernel, rfl, by decide +kernel, by decide +kernel, xa_66⟩
set_option maxRecDepth 100000 in
theorem xa_67 : xAR (xRow RX7 cX7_copyFrom 2 (none) xp_67) xw_67 := by
  unfold xw_67
  exact xcn (rO (s_aload_n (k := 0) (by decide +kernel))) <|
    xcn (rO (s_aload_n (k := 1) (by decide +kernel))) <|
    xcn (rO (s_get (T := TX7) (N := 5) (index := 24) x_iw7 rfl (by decide) wf_X7_24 rfl (by decide +kernel))) <|
    xcn (rO (s_put (T := TX7) (N := 5) (index := 24) (ty0 := tyX7) (z := false) x_iw7 tyX7_ok nmX7 rfl (by decide) wf_X7_24 rfl rfl rfl (by decide +kernel))) <|
    xcn (rO (s_aload_n (k := 1) (by decide +kernel))) <|
    xcn (rO (s_get (T := TX7) (N := 5) (index := 9) x_iw7 rfl (by decide) wf_X7_9 rfl (by decide +kernel))) <|
    xcn (rO (s_iconst (n := 0) (by decide +kernel) (by decide))) <|
    xcn (rO (s_aload_n (k := 0) (by decide +kernel))) <|
    xcn (rO (s_get (T := TX7) (N := 5) (index := 9) x_iw7 rfl (by decide) wf_X7_9 rfl (by decide +kernel))) <|
    xcn (rO (s_iconst (n := 0) (by decide +kernel) (by decide))) <|
    xcn (rO (s_bipush (n := 12) (by decide +kernel) (by decide))) <|
    xcn (rO (s_copy (index := 36) (x_mt 386 (by decide +kernel) rfl) (x_mt 376 (by decide +kernel) rfl) (x_mt 375 (by decide +kernel) rfl) (x_mt 13 (by decide +kernel) rfl) (by decide +kernel))) <|
    xcn (rO (s_aload_n (k := 1) (by decide +kernel))) <|
    xcn (rO (s_get (T := TX7) (N := 5) (index := 15) x_iw7 rfl (by decide) wf_X7_15 rfl (by decide +kernel))) <|
    xcn (rO (s_iconst (n := 0) (by decide +kernel) (by decide))) <|
    xcn (rO (s_aload_n (k := 0) (by decide +kernel))) <|
    xcn (rO (s_get (T := TX7) (N := 5) (index := 15) x_iw7 rfl (by decide) wf_X7_15 rfl (by decide +kernel))) <|
    xcn (rO (s_iconst (n := 0) (by decide +kernel) (by decide))) <|
    xcn (rO (s_bipush (n := 12) (by decide +kernel) (by decide))) <|
    xcn (rO (s_copy (index := 36) (x_mt 386 (by decide +kernel) rfl) (x_mt 376 (by decide +kernel) rfl) (x_mt 375 (by decide +kernel) rfl) (x_mt 13 (by decide +kernel) rfl) (by decide +kernel))) <|
    xcn (rO (s_aload_n (k := 1) (by decide +kernel))) <|
    xcn (rO (s_get (T := TX7) (N := 5) (index := 18) x_iw7 rfl (by decide) wf_X7_18 rfl (by decide +kernel))) <|
    xcn (rO (s_iconst (n := 0) (by decide +kernel) (by decide))) <|
    xcn (rO (s_aload_n (k := 0) (by decide +kernel))) <|
    xcn (rO (s_get (T := TX7) (N := 5) (index := 18) x_iw7 rfl (by decide) wf_X7_18 rfl (by decide +kernel))) <|
    xcn (rO (s_iconst (n := 0) (by decide +kernel) (by decide))) <|
    xcn (rO (s_bipush (n := 12) (by decide +kernel) (by decide))) <|
    xcn (rO (s_copy (index := 36) (x_mt 386 (by decide +kernel) rfl) (x_mt 376 (by decide +kernel) rfl) (x_mt 375 (by decide +kernel) rfl) (x_mt 13 (by decide +kernel) rfl) (by decide +kernel))) <|
    xcn (rO (s_aload_n (k := 1) (by decide +kernel))) <|
    xcn (rO (s_get (T := TX7) (N := 5) (index := 21) x_iw7 rfl (by decide) wf_X7_21 rfl (by decide +kernel))) <|
    xcn (rO (s_iconst (n := 0) (by decide +kernel) (by decide))) <|
    xcn (rO (s_aload_n (k := 0) (by decide +kernel))) <|
    xcn (rO (s_get (T := TX7) (N := 5) (index := 21) x_iw7 rfl (by decide) wf_X7_21 rfl (by decide +kernel))) <|
    xcn (rO (s_iconst (n := 0) (by decide +kernel) (by decide))) <|
    xcn (rO (s_bipush (n := 12) (by decide +kernel) (by decide))) <|
    xcn (rO (s_copy (index := 36) (x_mt 386 (by decide +kernel) rfl) (x_mt 376 (by decide +kernel) rfl) (x_mt 375 (by decide +kernel) rfl) (x_mt 13 (by decide +kernel) rfl) (by decide +kernel))) <|
    xcn (rR (s_ret0 (by decide +kernel))) <| xnl
theorem xv_67 : xMd (xw_67, xp_67, yX7_copyFrom, cX7_copyFrom, 2, none) := ⟨by decide +kernel, rfl, by decide +kernel, by decide +kernel, xa_67⟩
set_option maxRecDepth 100000 in
theorem xa_68 : xAR (xRow RX8 cX8_has 2 (some .boolean) xp_68) xw_68 := by
  unfold xw_68
  exact xcn (rO (s_iload_n (k := 1) (by decide +kernel))) <|
    xcn (rO (s_iconst (n := 0) (by decide +kernel) (by decide))) <|
    xcn (rO (s_aload_n (k := 0) (by decide +kernel))) <|
    xcn (rO (s_get (T := TX8) (N := 7) (index := 27) x_iw8 rfl (by decide) wf_X8_27 rfl (by decide +kernel))) <|
    xcn (rO (s_iconst (n := 1) (by decide +kernel) (by decide))) <|
    xcn (rO (s_isub (by decide +kernel))) <|
    xcn (rC (s_cN (index := 31) wb_114 (by decide +kernel) (by decide +kernel))) <|
    xcn (rR (s_ret2 (by decide +kernel))) <| xnl
theorem xv_68 : xMd (xw_68, xp_68, yX8_has, cX8_has, 2, some .boolean) := ⟨by decide +kernel, rfl, by decide +kernel, by decide +kernel, xa_68⟩
set_option maxRecDepth 100000 in
theorem xa_69 : xAR (xRow RX8 cX8_add 4 (some .int) xp_69) xw_69 := by
  unfold xw_69
  exact xcn (rO (s_aload_n (k := 0) (by decide +kernel))) <|
    xcn (rO (s_get (T := TX8) (N := 7) (index := 27) x_iw8 rfl (by decide) wf_X8_27 rfl (by decide +kernel))) <|
    xcn (rO (s_istore_n (k := 3) (by decide) (by decide +kernel))) <|
    xcn (rO (s_aload_n (k := 0) (by decide +kernel))) <|
    xcn (rO (s_get (T := TX8) (N := 7) (index := 9) x_iw8 rfl (by decide) wf_X8_9 rfl (by decide +kernel))) <|
    xcn (rO (s_iload_n (k := 3) (by decide +kernel))) <|
    xcn (rO (s_iload_n (k := 1) (by decide +kernel))) <|
    xcn (rO (s_iast (by decide +kernel))) <|
    xcn (rO (s_aload_n (k := 0) (by decide +kernel))) <|
    xcn (rO (s_get (T := TX8) (N := 7) (index := 15) x_iw8 rfl (by decide) wf_X8_15 rfl (by decide +kernel))) <|
    xcn (rO (s_iload_n (k := 3) (by decide +kernel))) <|
    xcn (rO (s_iload_n (k := 2) (by decide +kernel))) <|
    xcn (rO (s_iast (by decide +kernel))) <|
    xcn (rO (s_aload_n (k := 0) (by decide +kernel))) <|
    xcn (rO (s_get (T := TX8) (N := 7) (index := 18) x_iw8 rfl (by decide) wf_X8_18 rfl (by decide +kernel))) <|
    xcn (rO (s_iload_n (k := 3) (by decide +kernel))) <|
    xcn (rO (s_iconst (n := 0) (by decide +kernel) (by decide))) <|
    xcn (rO (s_iast (by decide +kernel))) <|
    xcn (rO (s_aload_n (k := 0) (by decide +kernel))) <|
    xcn (rO (s_get (T := TX8) (N := 7) (index := 21) x_iw8 rfl (by decide) wf_X8_21 rfl (by decide +kernel))) <|
    xcn (rO (s_iload_n (k := 3) (by decide +kernel))) <|
    xcn (rO (s_iconst (n := 0) (by decide +kernel) (by decide))) <|
    xcn (rO (s_iast (by decide +kernel))) <|
    xcn (rO (s_aload_n (k := 0) (by decide +kernel))) <|
    xcn (rO (s_dup (by decide +kernel))) <|
    xcn (rO (s_get (T := TX8) (N := 7) (index := 27) x_iw8 rfl (by decide) wf_X8_27 rfl (by decide +kernel))) <|
    xcn (rO (s_iconst (n := 1) (by decide +kernel) (by decide))) <|
    xcn (rO (s_iadd (by decide +kernel))) <|
    xcn (rO (s_put (T := TX8) (N := 7) (index := 27) (ty0 := tyX8) (z := false) x_iw8 tyX8_ok nmX8 rfl (by decide) wf_X8_27 rfl rfl rfl (by decide +kernel))) <|
    xcn (rO (s_iload_n (k := 3) (by decide +kernel))) <|
    xcn (rR (s_ret1 (by decide +kernel))) <| xnl
theorem xv_69 : xMd (xw_69, xp_69, yX8_add, cX8_add, 4, some .int) := ⟨by decide +kernel, rfl, by decide +kernel, by decide +kernel, xa_69⟩
set_option maxRecDepth 100000 in
theorem xa_70 : xAR (xRow RX8 cX8_notOff 3 (some .int) xp_70) xw_70 := by
  unfold xw_70
  exact xcn (rO (s_iconst (n := 0) (by decide +kernel) (by decide))) <|
    xcn (rO (s_istore_n (k := 1) (by decide) (by decide +kernel))) <|
    xcn (rO (s_iconst (n := 0) (by decide +kernel) (by decide))) <|
    xcn (rO (s_istore_n (k := 2) (by decide) (by decide +kernel))) <|
    xcn (rO s_fgt) <|
    xcn (rO (s_iload_n (k := 2) (by decide +kernel))) <|
    xcn (rO (s_aload_n (k := 0) (by decide +kernel))) <|
    xcn (rO (s_get (T := TX8) (N := 7) (index := 27) x_iw8 rfl (by decide) wf_X8_27 rfl (by decide +kernel))) <|
    xcn (rJ (s_ic_ge (off := 25) (by decide +kernel) (by decide +kernel) (by decide +kernel))) <|
    xcn (rO (s_aload_n (k := 0) (by decide +kernel))) <|
    xcn (rO (s_get (T := TX8) (N := 7) (index := 21) x_iw8 rfl (by decide) wf_X8_21 rfl (by decide +kernel))) <|
    xcn (rO (s_iload_n (k := 2) (by decide +kernel))) <|
    xcn (rO (s_iald (by decide +kernel))) <|
    xcn (rO (s_iconst (n := 2) (by decide +kernel) (by decide))) <|
    xcn (rJ (s_ic_eq (off := 9) (by decide +kernel) (by decide +kernel) (by decide +kernel))) <|
    xcn (rO (s_iload_n (k := 1) (by decide +kernel))) <|
    xcn (rO (s_iconst (n := 1) (by decide +kernel) (by decide))) <|
    xcn (rO (s_iload_n (k := 2) (by decide +kernel))) <|
    xcn (rO (s_ishl (by decide +kernel))) <|
    xcn (rO (s_ior (by decide +kernel))) <|
    xcn (rO (s_istore_n (k := 1) (by decide) (by decide +kernel))) <|
    xcn (rO (s_iinc (k := 2) (n := 1) (by decide) (by decide) (by decide +kernel))) <|
    xcn (rJ (s_goto (off := (-27)) (by decide +kernel) (by decide +kernel))) <|
    xcn (rO s_fgt) <|
    xcn (rO (s_iload_n (k := 1) (by decide +kernel))) <|
    xcn (rR (s_ret1 (by decide +kernel))) <| xnl
theorem xv_70 : xMd (xw_70, xp_70, yX8_notOff, cX8_notOff, 3, some .int) := ⟨by decide +kernel, rfl, by decide +kernel, by decide +kernel, xa_70⟩
set_option maxRecDepth 100000 in
theorem xa_71 : xAR (xRow RX8 cX8_placeInQueue 3 (some .int) xp_71) xw_71 := by
  unfold xw_71
  exact xcn (rO (s_iconst (n := 0) (by decide +kernel) (by decide))) <|
    xcn (rO (s_istore_n (k := 2) (by decide) (by decide +kernel))) <|
    xcn (rO s_fgt) <|
    xcn (rO (s_iload_n (k := 2) (by decide +kernel))) <|
    xcn (rO (s_aload_n (k := 0) (by decide +kernel))) <|
    xcn (rO (s_get (T := TX8) (N := 7) (index := 35) x_iw8 rfl (by decide) wf_X8_35 rfl (by decide +kernel))) <|
    xcn (rJ (s_ic_ge (off := 21) (by decide +kernel) (by decide +kernel) (by decide +kernel))) <|
    xcn (rO (s_aload_n (k := 0) (by decide +kernel))) <|
    xcn (rO (s_get (T := TX8) (N := 7) (index := 24) x_iw8 rfl (by decide) wf_X8_24 rfl (by decide +kernel))) <|
    xcn (rO (s_iload_n (k := 2) (by decide +kernel))) <|
    xcn (rO (s_iald (by decide +kernel))) <|
    xcn (rO (s_iload_n (k := 1) (by decide +kernel))) <|
    xcn (rJ (s_ic_ne (off := 5) (by decide +kernel) (by decide +kernel) (by decide +kernel))) <|
    xcn (rO s_fgt) <|
    xcn (rO (s_iload_n (k := 2) (by decide +kernel))) <|
    xcn (rR (s_ret1 (by decide +kernel))) <|
    xcn (rO (s_iinc (k := 2) (n := 1) (by decide) (by decide) (by decide +kernel))) <|
    xcn (rJ (s_goto (off := (-23)) (by decide +kernel) (by decide +kernel))) <|
    xcn (rO s_fgt) <|
    xcn (rO (s_iconst (n := (-1)) (by decide +kernel) (by decide))) <|
    xcn (rR (s_ret1 (by decide +kernel))) <| xnl
theorem xv_71 : xMd (xw_71, xp_71, yX8_placeInQueue, cX8_placeInQueue, 3, some .int) := ⟨by decide +kernel, rfl, by decide +kernel, by decide +kernel, xa_71⟩
set_option maxRecDepth 100000 in
theorem xa_72 : xAR (xRow RX8 cX8_startDraining 2 (none) xp_72) xw_72 := by
  unfold xw_72
  exact xcn (rO (s_aload_n (k := 0) (by decide +kernel))) <|
    xcn (rO (s_get (T := TX8) (N := 7) (index := 35) x_iw8 rfl (by decide) wf_X8_35 rfl (by decide +kernel))) <|
    xcn (rO (s_iconst (n := 5) (by decide +kernel) (by decide))) <|
    xcn (rJ (s_ic_ge (off := 30) (by decide +kernel) (by decide +kernel) (by decide +kernel))) <|
    xcn (rO (s_aload_n (k := 0) (by decide +kernel))) <|
    xcn (rO (s_get (T := TX8) (N := 7) (index := 21) x_iw8 rfl (by decide) wf_X8_21 rfl (by decide +kernel))) <|
    xcn (rO (s_iload_n (k := 1) (by decide +kernel))) <|
    xcn (rO (s_iconst (n := 1) (by decide +kernel) (by decide))) <|
    xcn (rO (s_iast (by decide +kernel))) <|
    xcn (rO (s_aload_n (k := 0) (by decide +kernel))) <|
    xcn (rO (s_get (T := TX8) (N := 7) (index := 24) x_iw8 rfl (by decide) wf_X8_24 rfl (by decide +kernel))) <|
    xcn (rO (s_aload_n (k := 0) (by decide +kernel))) <|
    xcn (rO (s_get (T := TX8) (N := 7) (index := 35) x_iw8 rfl (by decide) wf_X8_35 rfl (by decide +kernel))) <|
    xcn (rO (s_iload_n (k := 1) (by decide +kernel))) <|
    xcn (rO (s_iast (by decide +kernel))) <|
    xcn (rO (s_aload_n (k := 0) (by decide +kernel))) <|
    xcn (rO (s_dup (by decide +kernel))) <|
    xcn (rO (s_get (T := TX8) (N := 7) (index := 35) x_iw8 rfl (by decide) wf_X8_35 rfl (by decide +kernel))) <|
    xcn (rO (s_iconst (n := 1) (by decide +kernel) (by decide))) <|
    xcn (rO (s_iadd (by decide +kernel))) <|
    xcn (rO (s_put (T := TX8) (N := 7) (index := 35) (ty0 := tyX8) (z := false) x_iw8 tyX8_ok nmX8 rfl (by decide) wf_X8_35 rfl rfl rfl (by decide +kernel))) <|
    xcn (rR (s_ret0 (by decide +kernel))) <| xnl
theorem xv_72 : xMd (xw_72, xp_72, yX8_startDraining, cX8_startDraining, 2, none) := ⟨by decide +kernel, rfl, by decide +kernel, by decide +kernel, xa_72⟩
set_option maxRecDepth 100000 in
theorem xa_73 : xAR (xRow RX8 cX8_turnOn 2 (none) xp_73) xw_73 := by
  unfold xw_73
  exact xcn (rO (s_aload_n (k := 0) (by decide +kernel))) <|
    xcn (rO (s_get (T := TX8) (N := 7) (index := 21) x_iw8 rfl (by decide) wf_X8_21 rfl (by decide +kernel))) <|
    xcn (rO (s_iload_n (k := 1) (by decide +kernel))) <|
    xcn (rO (s_iconst (n := 0) (by decide +kernel) (by decide))) <|
    xcn (rO (s_iast (by decide +kernel))) <|
    xcn (rO (s_aload_n (k := 0) (by decide +kernel))) <|
    xcn (rO (s_get (T := TX8) (N := 7) (index := 18) x_iw8 rfl (by decide) wf_X8_18 rfl (by decide +kernel))) <|
    xcn (rO (s_iload_n (k := 1) (by decide +kernel))) <|
    xcn (rO (s_iconst (n := 0) (by decide +kernel) (by decide))) <|
    xcn (rO (s_iast (by decide +kernel))) <|
    xcn (rR (s_ret0 (by decide +kernel))) <| xnl
theorem xv_73 : xMd (xw_73, xp_73, yX8_turnOn, cX8_turnOn, 2, none) := ⟨by decide +kernel, rfl, by decide +kernel, by decide +kernel, xa_73⟩
set_option maxRecDepth 100000 in
theorem xa_74 : xAR (xRow RX8 cX8_turnOff 2 (none) xp_74) xw_74 := by
  unfold xw_74
  exact xcn (rO (s_aload_n (k := 0) (by decide +kernel))) <|
    xcn (rO (s_get (T := TX8) (N := 7) (index := 21) x_iw8 rfl (by decide) wf_X8_21 rfl (by decide +kernel))) <|
    xcn (rO (s_iload_n (k := 1) (by decide +kernel))) <|
    xcn (rO (s_iconst (n := 2) (by decide +kernel) (by decide))) <|
    xcn (rO (s_iast (by decide +kernel))) <|
    xcn (rO (s_aload_n (k := 0) (by decide +kernel))) <|
    xcn (rO (s_get (T := TX8) (N := 7) (index := 18) x_iw8 rfl (by decide) wf_X8_18 rfl (by decide +kernel))) <|
    xcn (rO (s_iload_n (k := 1) (by decide +kernel))) <|
    xcn (rO (s_iconst (n := 0) (by decide +kernel) (by decide))) <|
    xcn (rO (s_iast (by decide +kernel))) <|
    xcn (rO (s_aload_n (k := 0) (by decide +kernel))) <|
    xcn (rO (s_iload_n (k := 1) (by decide +kernel))) <|
    xcn (rC (s_cV (index := 38) wb_75 wm_X8_38 (by decide +kernel))) <|
    xcn (rR (s_ret0 (by decide +kernel))) <| xnl
theorem xv_74 : xMd (xw_74, xp_74, yX8_turnOff, cX8_turnOff, 2, none) := ⟨by decide +kernel, rfl, by decide +kernel, by decide +kernel, xa_74⟩
set_option maxRecDepth 100000 in
theorem xa_75 : xAR (xRow RX8 cX8_leaveQueue 4 (none) xp_75) xw_75 := by
  unfold xw_75
  exact xcn (rO (s_iconst (n := 0) (by decide +kernel) (by decide))) <|
    xcn (rO (s_istore_n (k := 2) (by decide) (by decide +kernel))) <|
    xcn (rO (s_iconst (n := 0) (by decide +kernel) (by decide))) <|
    xcn (rO (s_istore_n (k := 3) (by decide) (by decide +kernel))) <|
    xcn (rO s_fgt) <|
    xcn (rO (s_iload_n (k := 3) (by decide +kernel))) <|
    xcn (rO (s_aload_n (k := 0) (by decide +kernel))) <|
    xcn (rO (s_get (T := TX8) (N := 7) (index := 35) x_iw8 rfl (by decide) wf_X8_35 rfl (by decide +kernel))) <|
    xcn (rJ (s_ic_ge (off := 34) (by decide +kernel) (by decide +kernel) (by decide +kernel))) <|
    xcn (rO (s_aload_n (k := 0) (by decide +kernel))) <|
    xcn (rO (s_get (T := TX8) (N := 7) (index := 24) x_iw8 rfl (by decide) wf_X8_24 rfl (by decide +kernel))) <|
    xcn (rO (s_iload_n (k := 3) (by decide +kernel))) <|
    xcn (rO (s_iald (by decide +kernel))) <|
    xcn (rO (s_iload_n (k := 1) (by decide +kernel))) <|
    xcn (rJ (s_ic_eq (off := 18) (by decide +kernel) (by decide +kernel) (by decide +kernel))) <|
    xcn (rO (s_aload_n (k := 0) (by decide +kernel))) <|
    xcn (rO (s_get (T := TX8) (N := 7) (index := 24) x_iw8 rfl (by decide) wf_X8_24 rfl (by decide +kernel))) <|
    xcn (rO (s_iload_n (k := 2) (by decide +kernel))) <|
    xcn (rO (s_aload_n (k := 0) (by decide +kernel))) <|
    xcn (rO (s_get (T := TX8) (N := 7) (index := 24) x_iw8 rfl (by decide) wf_X8_24 rfl (by decide +kernel))) <|
    xcn (rO (s_iload_n (k := 3) (by decide +kernel))) <|
    xcn (rO (s_iald (by decide +kernel))) <|
    xcn (rO (s_iast (by decide +kernel))) <|
    xcn (rO (s_iinc (k := 2) (n := 1) (by decide) (by decide) (by decide +kernel))) <|
    xcn (rO (s_iinc (k := 3) (n := 1) (by decide) (by decide) (by decide +kernel))) <|
    xcn (rJ (s_goto (off := (-36)) (by decide +kernel) (by decide +kernel))) <|
    xcn (rO s_fgt) <|
    xcn (rO (s_aload_n (k := 0) (by decide +kernel))) <|
    xcn (rO (s_iload_n (k := 2) (by decide +kernel))) <|
    xcn (rO (s_put (T := TX8) (N := 7) (index := 35) (ty0 := tyX8) (z := false) x_iw8 tyX8_ok nmX8 rfl (by decide) wf_X8_35 rfl rfl rfl (by decide +kernel))) <|
    xcn (rR (s_ret0 (by decide +kernel))) <| xnl
theorem xv_75 : xMd (xw_75, xp_75, yX8_leaveQueue, cX8_leaveQueue, 4, none) := ⟨by decide +kernel, rfl, by decide +kernel, by decide +kernel, xa_75⟩
set_option maxRecDepth 100000 in
theorem xa_76 : xAR (xRow RX8 cX8_copyFrom 2 (none) xp_76) xw_76 := by
  unfold xw_76
  exact xcn (rO (s_aload_n (k := 0) (by decide +kernel))) <|
    xcn (rO (s_aload_n (k := 1) (by decide +kernel))) <|
    xcn (rO (s_get (T := TX8) (N := 7) (index := 27) x_iw8 rfl (by decide) wf_X8_27 rfl (by decide +kernel))) <|
    xcn (rO (s_put (T := TX8) (N := 7) (index := 27) (ty0 := tyX8) (z := false) x_iw8 tyX8_ok nmX8 rfl (by decide) wf_X8_27 rfl rfl rfl (by decide +kernel))) <|
    xcn (rO (s_aload_n (k := 0) (by decide +kernel))) <|
    xcn (rO (s_aload_n (k := 1) (by decide +kernel))) <|
    xcn (rO (s_get (T := TX8) (N := 7) (index := 35) x_iw8 rfl (by decide) wf_X8_35 rfl (by decide +kernel))) <|
    xcn (rO (s_put (T := TX8) (N := 7) (index := 35) (ty0 := tyX8) (z := false) x_iw8 tyX8_ok nmX8 rfl (by decide) wf_X8_35 rfl rfl rfl (by decide +kernel))) <|
    xcn (rO (s_aload_n (k := 1) (by decide +kernel))) <|
    xcn (rO (s_get (T := TX8) (N := 7) (index := 9) x_iw8 rfl (by decide) wf_X8_9 rfl (by decide +kernel))) <|
    xcn (rO (s_iconst (n := 0) (by decide +kernel) (by decide))) <|
    xcn (rO (s_aload_n (k := 0) (by decide +kernel))) <|
    xcn (rO (s_get (T := TX8) (N := 7) (index := 9) x_iw8 rfl (by decide) wf_X8_9 rfl (by decide +kernel))) <|
    xcn (rO (s_iconst (n := 0) (by decide +kernel) (by decide))) <|
    xcn (rO (s_iconst (n := 5) (by decide +kernel) (by decide))) <|
    xcn (rO (s_copy (index := 42) (x_mt 381 (by decide +kernel) rfl) (x_mt 376 (by decide +kernel) rfl) (x_mt 375 (by decide +kernel) rfl) (x_mt 13 (by decide +kernel) rfl) (by decide +kernel))) <|
    xcn (rO (s_aload_n (k := 1) (by decide +kernel))) <|
    xcn (rO (s_get (T := TX8) (N := 7) (index := 15) x_iw8 rfl (by decide) wf_X8_15 rfl (by decide +kernel))) <|
    xcn (rO (s_iconst (n := 0) (by decide +kernel) (by decide))) <|
    xcn (rO (s_aload_n (k := 0) (by decide +kernel))) <|
    xcn (rO (s_get (T := TX8) (N := 7) (index := 15) x_iw8 rfl (by decide) wf_X8_15 rfl (by decide +kernel))) <|
    xcn (rO (s_iconst (n := 0) (by decide +kernel) (by decide))) <|
    xcn (rO (s_iconst (n := 5) (by decide +kernel) (by decide))) <|
    xcn (rO (s_copy (index := 42) (x_mt 381 (by decide +kernel) rfl) (x_mt 376 (by decide +kernel) rfl) (x_mt 375 (by decide +kernel) rfl) (x_mt 13 (by decide +kernel) rfl) (by decide +kernel))) <|
    xcn (rO (s_aload_n (k := 1) (by decide +kernel))) <|
    xcn (rO (s_get (T := TX8) (N := 7) (index := 18) x_iw8 rfl (by decide) wf_X8_18 rfl (by decide +kernel))) <|
    xcn (rO (s_iconst (n := 0) (by decide +kernel) (by decide))) <|
    xcn (rO (s_aload_n (k := 0) (by decide +kernel))) <|
    xcn (rO (s_get (T := TX8) (N := 7) (index := 18) x_iw8 rfl (by decide) wf_X8_18 rfl (by decide +kernel))) <|
    xcn (rO (s_iconst (n := 0) (by decide +kernel) (by decide))) <|
    xcn (rO (s_iconst (n := 5) (by decide +kernel) (by decide))) <|
    xcn (rO (s_copy (index := 42) (x_mt 381 (by decide +kernel) rfl) (x_mt 376 (by decide +kernel) rfl) (x_mt 375 (by decide +kernel) rfl) (x_mt 13 (by decide +kernel) rfl) (by decide +kernel))) <|
    xcn (rO (s_aload_n (k := 1) (by decide +kernel))) <|
    xcn (rO (s_get (T := TX8) (N := 7) (index := 21) x_iw8 rfl (by decide) wf_X8_21 rfl (by decide +kernel))) <|
    xcn (rO (s_iconst (n := 0) (by decide +kernel) (by decide))) <|
    xcn (rO (s_aload_n (k := 0) (by decide +kernel))) <|
    xcn (rO (s_get (T := TX8) (N := 7) (index := 21) x_iw8 rfl (by decide) wf_X8_21 rfl (by decide +kernel))) <|
    xcn (rO (s_iconst (n := 0) (by decide +kernel) (by decide))) <|
    xcn (rO (s_iconst (n := 5) (by decide +kernel) (by decide))) <|
    xcn (rO (s_copy (index := 42) (x_mt 381 (by decide +kernel) rfl) (x_mt 376 (by decide +kernel) rfl) (x_mt 375 (by decide +kernel) rfl) (x_mt 13 (by decide +kernel) rfl) (by decide +kernel))) <|
    xcn (rO (s_aload_n (k := 1) (by decide +kernel))) <|
    xcn (rO (s_get (T := TX8) (N := 7) (index := 24) x_iw8 rfl (by decide) wf_X8_24 rfl (by decide +kernel))) <|
    xcn (rO (s_iconst (n := 0) (by decide +kernel) (by decide))) <|
    xcn (rO (s_aload_n (k := 0) (by decide +kernel))) <|
    xcn (rO (s_get (T := TX8) (N := 7) (index := 24) x_iw8 rfl (by decide) wf_X8_24 rfl (by decide +kernel))) <|
    xcn (rO (s_iconst (n := 0) (by decide +kernel) (by decide))) <|
    xcn (rO (s_iconst (n := 5) (by decide +kernel) (by decide))) <|
    xcn (rO (s_copy (index := 42) (x_mt 381 (by decide +kernel) rfl) (x_mt 376 (by decide +kernel) rfl) (x_mt 375 (by decide +kernel) rfl) (x_mt 13 (by decide +kernel) rfl) (by decide +kernel))) <|
    xcn (rR (s_ret0 (by decide +kernel))) <| xnl
theorem xv_76 : xMd (xw_76, xp_76, yX8_copyFrom, cX8_copyFrom, 2, none) := ⟨by decide +kernel, rfl, by decide +kernel, by decide +kernel, xa_76⟩
set_option maxRecDepth 100000 in
theorem xa_77 : xAR (xRow RX9 cX9_copyFrom 2 (none) xp_77) xw_77 := by
  unfold xw_77
  exact xcn (rO (s_aload_n (k := 0) (by decide +kernel))) <|
    xcn (rO (s_get (T := TX9) (N := 7) (index := 10) x_iw9 rfl (by decide) wf_X9_10 rfl (by decide +kernel))) <|
    xcn (rO (s_aload_n (k := 1) (by decide +kernel))) <|
    xcn (rO (s_get (T := TX9) (N := 7) (index := 10) x_iw9 rfl (by decide) wf_X9_10 rfl (by decide +kernel))) <|
    xcn (rC (s_cV (index := 30) wb_25 wm_X9_30 (by decide +kernel))) <|
    xcn (rO (s_aload_n (k := 0) (by decide +kernel))) <|
    xcn (rO (s_get (T := TX9) (N := 7) (index := 19) x_iw9 rfl (by decide) wf_X9_19 rfl (by decide +kernel))) <|
    xcn (rO (s_aload_n (k := 1) (by decide +kernel))) <|
    xcn (rO (s_get (T := TX9) (N := 7) (index := 19) x_iw9 rfl (by decide) wf_X9_19 rfl (by decide +kernel))) <|
    xcn (rC (s_cV (index := 34) wb_76 wm_X9_34 (by decide +kernel))) <|
    xcn (rO (s_aload_n (k := 0) (by decide +kernel))) <|
    xcn (rO (s_get (T := TX9) (N := 7) (index := 26) x_iw9 rfl (by decide) wf_X9_26 rfl (by decide +kernel))) <|
    xcn (rO (s_aload_n (k := 1) (by decide +kernel))) <|
    xcn (rO (s_get (T := TX9) (N := 7) (index := 26) x_iw9 rfl (by decide) wf_X9_26 rfl (by decide +kernel))) <|
    xcn (rC (s_cV (index := 37) wb_67 wm_X9_37 (by decide +kernel))) <|
    xcn (rO (s_aload_n (k := 0) (by decide +kernel))) <|
    xcn (rO (s_aload_n (k := 1) (by decide +kernel))) <|
    xcn (rO (s_get (T := TX9) (N := 7) (index := 40) x_iw9 rfl (by decide) wf_X9_40 rfl (by decide +kernel))) <|
    xcn (rO (s_put (T := TX9) (N := 7) (index := 40) (ty0 := tyX9) (z := false) x_iw9 tyX9_ok nmX9 rfl (by decide) wf_X9_40 rfl rfl rfl (by decide +kernel))) <|
    xcn (rO (s_aload_n (k := 0) (by decide +kernel))) <|
    xcn (rO (s_aload_n (k := 1) (by decide +kernel))) <|
    xcn (rO (s_get (T := TX9) (N := 7) (index := 44) x_iw9 rfl (by decide) wf_X9_44 rfl (by decide +kernel))) <|
    xcn (rO (s_put (T := TX9) (N := 7) (index := 44) (ty0 := tyX9) (z := false) x_iw9 tyX9_ok nmX9 rfl (by decide) wf_X9_44 rfl rfl rfl (by decide +kernel))) <|
    xcn (rO (s_aload_n (k := 0) (by decide +kernel))) <|
    xcn (rO (s_aload_n (k := 1) (by decide +kernel))) <|
    xcn (rO (s_get (T := TX9) (N := 7) (index := 47) x_iw9 rfl (by decide) wf_X9_47 rfl (by decide +kernel))) <|
    xcn (rO (s_put (T := TX9) (N := 7) (index := 47) (ty0 := tyX9) (z := false) x_iw9 tyX9_ok nmX9 rfl (by decide) wf_X9_47 rfl rfl rfl (by decide +kernel))) <|
    xcn (rO (s_aload_n (k := 0) (by decide +kernel))) <|
    xcn (rO (s_aload_n (k := 1) (by decide +kernel))) <|
    xcn (rO (s_get (T := TX9) (N := 7) (index := 50) x_iw9 rfl (by decide) wf_X9_50 rfl (by decide +kernel))) <|
    xcn (rO (s_put (T := TX9) (N := 7) (index := 50) (ty0 := tyX9) (z := false) x_iw9 tyX9_ok nmX9 rfl (by decide) wf_X9_50 rfl rfl rfl (by decide +kernel))) <|
    xcn (rR (s_ret0 (by decide +kernel))) <| xnl
theorem xv_77 : xMd (xw_77, xp_77, yX9_copyFrom, cX9_copyFrom, 2, none) := ⟨by decide +kernel, rfl, by decide +kernel, by decide +kernel, xa_77⟩
set_option maxRecDepth 100000 in
theorem xa_78 : xAR (xRow RX10 cX10_area 2 (some .int) xp_78) xw_78 := by
  unfold xw_78
  exact xcn (rO (s_aload_n (k := 0) (by decide +kernel))) <|
    xcn (rC (s_cV (index := 64) wb_111 wm_X10_64 (by decide +kernel))) <|
    xcn (rO (s_aload_n (k := 0) (by decide +kernel))) <|
    xcn (rO (s_aload_n (k := 0) (by decide +kernel))) <|
    xcn (rO (s_get (T := TX10) (N := 10) (index := 53) x_iw10 rfl (by decide) wf_X10_53 rfl (by decide +kernel))) <|
    xcn (rO (s_iload_n (k := 1) (by decide +kernel))) <|
    xcn (rC (s_cV (index := 67) wb_1 wm_X10_67 (by decide +kernel))) <|
    xcn (rC (s_cV (index := 71) wb_112 wm_X10_71 (by decide +kernel))) <|
    xcn (rR (s_ret1 (by decide +kernel))) <| xnl
theorem xv_78 : xMd (xw_78, xp_78, yX10_area, cX10_area, 2, some .int) := ⟨by decide +kernel, rfl, by decide +kernel, by decide +kernel, xa_78⟩
set_option maxRecDepth 100000 in
theorem xa_79 : xAR (xRow RX10 cX10_wants 3 (some .int) xp_79) xw_79 := by
  unfold xw_79
  exact xcn (rO (s_aload_n (k := 0) (by decide +kernel))) <|
    xcn (rC (s_cV (index := 64) wb_111 wm_X10_64 (by decide +kernel))) <|
    xcn (rO (s_aload_n (k := 0) (by decide +kernel))) <|
    xcn (rO (s_aload_n (k := 0) (by decide +kernel))) <|
    xcn (rO (s_get (T := TX10) (N := 10) (index := 53) x_iw10 rfl (by decide) wf_X10_53 rfl (by decide +kernel))) <|
    xcn (rO (s_iload_n (k := 1) (by decide +kernel))) <|
    xcn (rO (s_iload_n (k := 2) (by decide +kernel))) <|
    xcn (rC (s_cV (index := 74) wb_2 wm_X10_74 (by decide +kernel))) <|
    xcn (rC (s_cV (index := 71) wb_112 wm_X10_71 (by decide +kernel))) <|
    xcn (rR (s_ret1 (by decide +kernel))) <| xnl
theorem xv_79 : xMd (xw_79, xp_79, yX10_wants, cX10_wants, 3, some .int) := ⟨by decide +kernel, rfl, by decide +kernel, by decide +kernel, xa_79⟩
set_option maxRecDepth 100000 in
theorem xa_80 : xAR (xRow RX10 cX10_line 4 (some .int) xp_80) xw_80 := by
  unfold xw_80
  exact xcn (rO (s_aload_n (k := 0) (by decide +kernel))) <|
    xcn (rC (s_cV (index := 64) wb_111 wm_X10_64 (by decide +kernel))) <|
    xcn (rO (s_aload_n (k := 0) (by decide +kernel))) <|
    xcn (rO (s_aload_n (k := 0) (by decide +kernel))) <|
    xcn (rO (s_get (T := TX10) (N := 10) (index := 53) x_iw10 rfl (by decide) wf_X10_53 rfl (by decide +kernel))) <|
    xcn (rO (s_iload_n (k := 1) (by decide +kernel))) <|
    xcn (rO (s_iload_n (k := 2) (by decide +kernel))) <|
    xcn (rO (s_iload_n (k := 3) (by decide +kernel))) <|
    xcn (rC (s_cV (index := 78) wb_3 wm_X10_78 (by decide +kernel))) <|
    xcn (rC (s_cV (index := 71) wb_112 wm_X10_71 (by decide +kernel))) <|
    xcn (rR (s_ret1 (by decide +kernel))) <| xnl
theorem xv_80 : xMd (xw_80, xp_80, yX10_line, cX10_line, 4, some .int) := ⟨by decide +kernel, rfl, by decide +kernel, by decide +kernel, xa_80⟩
set_option maxRecDepth 100000 in
theorem xa_81 : xAR (xRow RX10 cX10_mood 3 (some .int) xp_81) xw_81 := by
  unfold xw_81
  exact xcn (rO (s_aload_n (k := 0) (by decide +kernel))) <|
    xcn (rC (s_cV (index := 64) wb_111 wm_X10_64 (by decide +kernel))) <|
    xcn (rO (s_aload_n (k := 0) (by decide +kernel))) <|
    xcn (rO (s_aload_n (k := 0) (by decide +kernel))) <|
    xcn (rO (s_get (T := TX10) (N := 10) (index := 53) x_iw10 rfl (by decide) wf_X10_53 rfl (by decide +kernel))) <|
    xcn (rO (s_iload_n (k := 1) (by decide +kernel))) <|
    xcn (rO (s_iload_n (k := 2) (by decide +kernel))) <|
    xcn (rC (s_cV (index := 82) wb_4 wm_X10_82 (by decide +kernel))) <|
    xcn (rC (s_cV (index := 71) wb_112 wm_X10_71 (by decide +kernel))) <|
    xcn (rR (s_ret1 (by decide +kernel))) <| xnl
theorem xv_81 : xMd (xw_81, xp_81, yX10_mood, cX10_mood, 3, some .int) := ⟨by decide +kernel, rfl, by decide +kernel, by decide +kernel, xa_81⟩
set_option maxRecDepth 100000 in
theorem xa_82 : xAR (xRow RX10 cX10_site 3 (some .int) xp_82) xw_82 := by
  unfold xw_82
  exact xcn (rO (s_aload_n (k := 0) (by decide +kernel))) <|
    xcn (rC (s_cV (index := 64) wb_111 wm_X10_64 (by decide +kernel))) <|
    xcn (rO (s_aload_n (k := 0) (by decide +kernel))) <|
    xcn (rO (s_aload_n (k := 0) (by decide +kernel))) <|
    xcn (rO (s_get (T := TX10) (N := 10) (index := 53) x_iw10 rfl (by decide) wf_X10_53 rfl (by decide +kernel))) <|
    xcn (rO (s_iload_n (k := 1) (by decide +kernel))) <|
    xcn (rO (s_iload_n (k := 2) (by decide +kernel))) <|
    xcn (rC (s_cV (index := 85) wb_5 wm_X10_85 (by decide +kernel))) <|
    xcn (rC (s_cV (index := 71) wb_112 wm_X10_71 (by decide +kernel))) <|
    xcn (rR (s_ret1 (by decide +kernel))) <| xnl
theorem xv_82 : xMd (xw_82, xp_82, yX10_site, cX10_site, 3, some .int) := ⟨by decide +kernel, rfl, by decide +kernel, by decide +kernel, xa_82⟩
set_option maxRecDepth 100000 in
theorem xa_83 : xAR (xRow RX10 cX10_rooms 3 (some .int) xp_83) xw_83 := by
  unfold xw_83
  exact xcn (rO (s_aload_n (k := 0) (by decide +kernel))) <|
    xcn (rC (s_cV (index := 64) wb_111 wm_X10_64 (by decide +kernel))) <|
    xcn (rO (s_aload_n (k := 0) (by decide +kernel))) <|
    xcn (rO (s_aload_n (k := 0) (by decide +kernel))) <|
    xcn (rO (s_get (T := TX10) (N := 10) (index := 53) x_iw10 rfl (by decide) wf_X10_53 rfl (by decide +kernel))) <|
    xcn (rO (s_iload_n (k := 1) (by decide +kernel))) <|
    xcn (rO (s_iload_n (k := 2) (by decide +kernel))) <|
    xcn (rC (s_cV (index := 88) wb_6 wm_X10_88 (by decide +kernel))) <|
    xcn (rC (s_cV (index := 71) wb_112 wm_X10_71 (by decide +kernel))) <|
    xcn (rR (s_ret1 (by decide +kernel))) <| xnl
theorem xv_83 : xMd (xw_83, xp_83, yX10_rooms, cX10_rooms, 3, some .int) := ⟨by decide +kernel, rfl, by decide +kernel, by decide +kernel, xa_83⟩
set_option maxRecDepth 100000 in
theorem xa_84 : xAR (xRow RX10 cX10_steps 3 (some .int) xp_84) xw_84 := by
  unfold xw_84
  exact xcn (rO (s_aload_n (k := 0) (by decide +kernel))) <|
    xcn (rC (s_cV (index := 64) wb_111 wm_X10_64 (by decide +kernel))) <|
    xcn (rO (s_aload_n (k := 0) (by decide +kernel))) <|
    xcn (rO (s_aload_n (k := 0) (by decide +kernel))) <|
    xcn (rO (s_get (T := TX10) (N := 10) (index := 53) x_iw10 rfl (by decide) wf_X10_53 rfl (by decide +kernel))) <|
    xcn (rO (s_iload_n (k := 1) (by decide +kernel))) <|
    xcn (rO (s_iload_n (k := 2) (by decide +kernel))) <|
    xcn (rC (s_cV (index := 91) wb_7 wm_X10_91 (by decide +kernel))) <|
    xcn (rC (s_cV (index := 71) wb_112 wm_X10_71 (by decide +kernel))) <|
    xcn (rR (s_ret1 (by decide +kernel))) <| xnl
theorem xv_84 : xMd (xw_84, xp_84, yX10_steps, cX10_steps, 3, some .int) := ⟨by decide +kernel, rfl, by decide +kernel, by decide +kernel, xa_84⟩
set_option maxRecDepth 100000 in
theorem xa_85 : xAR (xRow RX10 cX10_drains 2 (some .int) xp_85) xw_85 := by
  unfold xw_85
  exact xcn (rO (s_aload_n (k := 0) (by decide +kernel))) <|
    xcn (rC (s_cV (index := 64) wb_111 wm_X10_64 (by decide +kernel))) <|
    xcn (rO (s_aload_n (k := 0) (by decide +kernel))) <|
    xcn (rO (s_aload_n (k := 0) (by decide +kernel))) <|
    xcn (rO (s_get (T := TX10) (N := 10) (index := 53) x_iw10 rfl (by decide) wf_X10_53 rfl (by decide +kernel))) <|
    xcn (rO (s_iload_n (k := 1) (by decide +kernel))) <|
    xcn (rC (s_cV (index := 94) wb_8 wm_X10_94 (by decide +kernel))) <|
    xcn (rC (s_cV (index := 71) wb_112 wm_X10_71 (by decide +kernel))) <|
    xcn (rR (s_ret1 (by decide +kernel))) <| xnl
theorem xv_85 : xMd (xw_85, xp_85, yX10_drains, cX10_drains, 2, some .int) := ⟨by decide +kernel, rfl, by decide +kernel, by decide +kernel, xa_85⟩
set_option maxRecDepth 100000 in
theorem xa_86 : xAR (xRow RX10 cX10_cuts 2 (some .int) xp_86) xw_86 := by
  unfold xw_86
  exact xcn (rO (s_aload_n (k := 0) (by decide +kernel))) <|
    xcn (rC (s_cV (index := 64) wb_111 wm_X10_64 (by decide +kernel))) <|
    xcn (rO (s_aload_n (k := 0) (by decide +kernel))) <|
    xcn (rO (s_aload_n (k := 0) (by decide +kernel))) <|
    xcn (rO (s_get (T := TX10) (N := 10) (index := 53) x_iw10 rfl (by decide) wf_X10_53 rfl (by decide +kernel))) <|
    xcn (rO (s_iload_n (k := 1) (by decide +kernel))) <|
    xcn (rC (s_cV (index := 97) wb_9 wm_X10_97 (by decide +kernel))) <|
    xcn (rC (s_cV (index := 71) wb_112 wm_X10_71 (by decide +kernel))) <|
    xcn (rR (s_ret1 (by decide +kernel))) <| xnl
theorem xv_86 : xMd (xw_86, xp_86, yX10_cuts, cX10_cuts, 2, some .int) := ⟨by decide +kernel, rfl, by decide +kernel, by decide +kernel, xa_86⟩
set_option maxRecDepth 100000 in
theorem xa_87 : xAR (xRow RX10 cX10_far 3 (some .int) xp_87) xw_87 := by
  unfold xw_87
  exact xcn (rO (s_aload_n (k := 0) (by decide +kernel))) <|
    xcn (rO (s_get (T := TX10) (N := 10) (index := 10) x_iw10 rfl (by decide) wf_X10_10 rfl (by decide +kernel))) <|
    xcn (rO (s_get (T := TX9) (N := 7) (index := 100) x_iw9 rfl (by decide) wf_X10_100 rfl (by decide +kernel))) <|
    xcn (rO (s_iload_n (k := 1) (by decide +kernel))) <|
    xcn (rC (s_cV (index := 104) wb_18 wm_X10_104 (by decide +kernel))) <|
    xcn (rJ (s_if_eq (off := 17) (by decide +kernel) (by decide +kernel) (by decide +kernel))) <|
    xcn (rO (s_aload_n (k := 0) (by decide +kernel))) <|
    xcn (rO (s_get (T := TX10) (N := 10) (index := 10) x_iw10 rfl (by decide) wf_X10_10 rfl (by decide +kernel))) <|
    xcn (rO (s_get (T := TX9) (N := 7) (index := 100) x_iw9 rfl (by decide) wf_X10_100 rfl (by decide +kernel))) <|
    xcn (rO (s_iload_n (k := 2) (by decide +kernel))) <|
    xcn (rC (s_cV (index := 104) wb_18 wm_X10_104 (by decide +kernel))) <|
    xcn (rJ (s_if_ne (off := 10) (by decide +kernel) (by decide +kernel) (by decide +kernel))) <|
    xcn (rO (s_aload_n (k := 0) (by decide +kernel))) <|
    xcn (rO (s_bipush (n := (-2)) (by decide +kernel) (by decide))) <|
    xcn (rC (s_cV (index := 110) wb_113 wm_X10_110 (by decide +kernel))) <|
    xcn (rR (s_ret1 (by decide +kernel))) <|
    xcn (rO (s_aload_n (k := 0) (by decide +kernel))) <|
    xcn (rO (s_get (T := TX10) (N := 10) (index := 10) x_iw10 rfl (by decide) wf_X10_10 rfl (by decide +kernel))) <|
    xcn (rO (s_get (T := TX9) (N := 7) (index := 100) x_iw9 rfl (by decide) wf_X10_100 rfl (by decide +kernel))) <|
    xcn (rO (s_iload_n (k := 1) (by decide +kernel))) <|
    xcn (rO (s_iload_n (k := 2) (by decide +kernel))) <|
    xcn (rC (s_cV (index := 113) wb_21 wm_X10_113 (by decide +kernel))) <|
    xcn (rR (s_ret1 (by decide +kernel))) <| xnl
theorem xv_87 : xMd (xw_87, xp_87, yX10_far, cX10_far, 3, some .int) := ⟨by decide +kernel, rfl, by decide +kernel, by decide +kernel, xa_87⟩
set_option maxRecDepth 100000 in
theorem xa_88 : xAR (xRow RX10 cX10_of 3 (some .int) xp_88) xw_88 := by
  unfold xw_88
  exact xcn (rO (s_aload_n (k := 0) (by decide +kernel))) <|
    xcn (rO (s_get (T := TX10) (N := 10) (index := 10) x_iw10 rfl (by decide) wf_X10_10 rfl (by decide +kernel))) <|
    xcn (rO (s_get (T := TX9) (N := 7) (index := 100) x_iw9 rfl (by decide) wf_X10_100 rfl (by decide +kernel))) <|
    xcn (rO (s_iload_n (k := 1) (by decide +kernel))) <|
    xcn (rC (s_cV (index := 104) wb_18 wm_X10_104 (by decide +kernel))) <|
    xcn (rJ (s_if_eq (off := 12) (by decide +kernel) (by decide +kernel) (by decide +kernel))) <|
    xcn (rO (s_iload_n (k := 2) (by decide +kernel))) <|
    xcn (rO (s_iconst (n := 0) (by decide +kernel) (by decide))) <|
    xcn (rO (s_iconst (n := 5) (by decide +kernel) (by decide))) <|
    xcn (rC (s_cS (index := 116) wb_114 wm_X10_116 (by decide +kernel))) <|
    xcn (rJ (s_if_ne (off := 10) (by decide +kernel) (by decide +kernel) (by decide +kernel))) <|
    xcn (rO (s_aload_n (k := 0) (by decide +kernel))) <|
    xcn (rO (s_bipush (n := (-2)) (by decide +kernel) (by decide))) <|
    xcn (rC (s_cV (index := 110) wb_113 wm_X10_110 (by decide +kernel))) <|
    xcn (rR (s_ret1 (by decide +kernel))) <|
    xcn (rO (s_aload_n (k := 0) (by decide +kernel))) <|
    xcn (rO (s_iload_n (k := 1) (by decide +kernel))) <|
    xcn (rO (s_iload_n (k := 2) (by decide +kernel))) <|
    xcn (rC (s_cV (index := 120) wb_107 wm_X10_120 (by decide +kernel))) <|
    xcn (rR (s_ret1 (by decide +kernel))) <| xnl
theorem xv_88 : xMd (xw_88, xp_88, yX10_of, cX10_of, 3, some .int) := ⟨by decide +kernel, rfl, by decide +kernel, by decide +kernel, xa_88⟩
set_option maxRecDepth 100000 in
theorem xa_89 : xAR (xRow RX10 cX10_siteOf 3 (some .int) xp_89) xw_89 := by
  unfold xw_89
  exact xcn (rO (s_aload_n (k := 0) (by decide +kernel))) <|
    xcn (rO (s_get (T := TX10) (N := 10) (index := 10) x_iw10 rfl (by decide) wf_X10_10 rfl (by decide +kernel))) <|
    xcn (rO (s_get (T := TX9) (N := 7) (index := 123) x_iw9 rfl (by decide) wf_X10_123 rfl (by decide +kernel))) <|
    xcn (rO (s_iload_n (k := 1) (by decide +kernel))) <|
    xcn (rC (s_cV (index := 127) wb_68 wm_X10_127 (by decide +kernel))) <|
    xcn (rJ (s_if_eq (off := 13) (by decide +kernel) (by decide +kernel) (by decide +kernel))) <|
    xcn (rO (s_iload_n (k := 2) (by decide +kernel))) <|
    xcn (rO (s_iconst (n := 0) (by decide +kernel) (by decide))) <|
    xcn (rO (s_bipush (n := 9) (by decide +kernel) (by decide))) <|
    xcn (rC (s_cS (index := 116) wb_114 wm_X10_116 (by decide +kernel))) <|
    xcn (rJ (s_if_ne (off := 10) (by decide +kernel) (by decide +kernel) (by decide +kernel))) <|
    xcn (rO (s_aload_n (k := 0) (by decide +kernel))) <|
    xcn (rO (s_bipush (n := (-2)) (by decide +kernel) (by decide))) <|
    xcn (rC (s_cV (index := 110) wb_113 wm_X10_110 (by decide +kernel))) <|
    xcn (rR (s_ret1 (by decide +kernel))) <|
    xcn (rO (s_aload_n (k := 0) (by decide +kernel))) <|
    xcn (rO (s_iload_n (k := 1) (by decide +kernel))) <|
    xcn (rO (s_iload_n (k := 2) (by decide +kernel))) <|
    xcn (rC (s_cV (index := 130) wb_108 wm_X10_130 (by decide +kernel))) <|
    xcn (rR (s_ret1 (by decide +kernel))) <| xnl
theorem xv_89 : xMd (xw_89, xp_89, yX10_siteOf, cX10_siteOf, 3, some .int) := ⟨by decide +kernel, rfl, by decide +kernel, by decide +kernel, xa_89⟩
set_option maxRecDepth 100000 in
theorem xa_90 : xAR (xRow RX10 cX10_seems 3 (some .int) xp_90) xw_90 := by
  unfold xw_90
  exact xcn (rO (s_aload_n (k := 0) (by decide +kernel))) <|
    xcn (rO (s_get (T := TX10) (N := 10) (index := 10) x_iw10 rfl (by decide) wf_X10_10 rfl (by decide +kernel))) <|
    xcn (rO (s_get (T := TX9) (N := 7) (index := 100) x_iw9 rfl (by decide) wf_X10_100 rfl (by decide +kernel))) <|
    xcn (rO (s_iload_n (k := 1) (by decide +kernel))) <|
    xcn (rC (s_cV (index := 104) wb_18 wm_X10_104 (by decide +kernel))) <|
    xcn (rJ (s_if_eq (off := 17) (by decide +kernel) (by decide +kernel) (by decide +kernel))) <|
    xcn (rO (s_aload_n (k := 0) (by decide +kernel))) <|
    xcn (rO (s_get (T := TX10) (N := 10) (index := 10) x_iw10 rfl (by decide) wf_X10_10 rfl (by decide +kernel))) <|
    xcn (rO (s_get (T := TX9) (N := 7) (index := 123) x_iw9 rfl (by decide) wf_X10_123 rfl (by decide +kernel))) <|
    xcn (rO (s_iload_n (k := 2) (by decide +kernel))) <|
    xcn (rC (s_cV (index := 127) wb_68 wm_X10_127 (by decide +kernel))) <|
    xcn (rJ (s_if_ne (off := 10) (by decide +kernel) (by decide +kernel) (by decide +kernel))) <|
    xcn (rO (s_aload_n (k := 0) (by decide +kernel))) <|
    xcn (rO (s_bipush (n := (-2)) (by decide +kernel) (by decide))) <|
    xcn (rC (s_cV (index := 110) wb_113 wm_X10_110 (by decide +kernel))) <|
    xcn (rR (s_ret1 (by decide +kernel))) <|
    xcn (rO (s_aload_n (k := 0) (by decide +kernel))) <|
    xcn (rO (s_get (T := TX10) (N := 10) (index := 28) x_iw10 rfl (by decide) wf_X10_28 rfl (by decide +kernel))) <|
    xcn (rO (s_iload_n (k := 1) (by decide +kernel))) <|
    xcn (rO (s_iload_n (k := 2) (by decide +kernel))) <|
    xcn (rC (s_cV (index := 133) wb_42 wm_X10_133 (by decide +kernel))) <|
    xcn (rR (s_ret1 (by decide +kernel))) <| xnl
theorem xv_90 : xMd (xw_90, xp_90, yX10_seems, cX10_seems, 3, some .int) := ⟨by decide +kernel, rfl, by decide +kernel, by decide +kernel, xa_90⟩
set_option maxRecDepth 100000 in
theorem xa_91 : xAR (xRow RX10 cX10_opens 4 (some .int) xp_91) xw_91 := by
  unfold xw_91
  exact xcn (rO (s_aload_n (k := 0) (by decide +kernel))) <|
    xcn (rC (s_cV (index := 64) wb_111 wm_X10_64 (by decide +kernel))) <|
    xcn (rO (s_aload_n (k := 0) (by decide +kernel))) <|
    xcn (rO (s_aload_n (k := 0) (by decide +kernel))) <|
    xcn (rO (s_get (T := TX10) (N := 10) (index := 53) x_iw10 rfl (by decide) wf_X10_53 rfl (by decide +kernel))) <|
    xcn (rO (s_iload_n (k := 1) (by decide +kernel))) <|
    xcn (rO (s_iload_n (k := 2) (by decide +kernel))) <|
    xcn (rO (s_iload_n (k := 3) (by decide +kernel))) <|
    xcn (rC (s_cV (index := 136) wb_10 wm_X10_136 (by decide +kernel))) <|
    xcn (rC (s_cV (index := 71) wb_112 wm_X10_71 (by decide +kernel))) <|
    xcn (rR (s_ret1 (by decide +kernel))) <| xnl
theorem xv_91 : xMd (xw_91, xp_91, yX10_opens, cX10_opens, 4, some .int) := ⟨by decide +kernel, rfl, by decide +kernel, by decide +kernel, xa_91⟩
set_option maxRecDepth 100000 in
theorem xa_92 : xAR (xRow RX10 cX10_session 3 (some .int) xp_92) xw_92 := by
  unfold xw_92
  exact xcn (rO (s_iload_n (k := 1) (by decide +kernel))) <|
    xcn (rJ (s_if_lt (off := 12) (by decide +kernel) (by decide +kernel) (by decide +kernel))) <|
    xcn (rO (s_iload_n (k := 2) (by decide +kernel))) <|
    xcn (rO (s_iconst (n := 0) (by decide +kernel) (by decide))) <|
    xcn (rO (s_iconst (n := 4) (by decide +kernel) (by decide))) <|
    xcn (rC (s_cS (index := 116) wb_114 wm_X10_116 (by decide +kernel))) <|
    xcn (rJ (s_if_ne (off := 10) (by decide +kernel) (by decide +kernel) (by decide +kernel))) <|
    xcn (rO (s_aload_n (k := 0) (by decide +kernel))) <|
    xcn (rO (s_bipush (n := (-2)) (by decide +kernel) (by decide))) <|
    xcn (rC (s_cV (index := 110) wb_113 wm_X10_110 (by decide +kernel))) <|
    xcn (rR (s_ret1 (by decide +kernel))) <|
    xcn (rO (s_aload_n (k := 0) (by decide +kernel))) <|
    xcn (rO (s_get (T := TX10) (N := 10) (index := 10) x_iw10 rfl (by decide) wf_X10_10 rfl (by decide +kernel))) <|
    xcn (rO (s_get (T := TX9) (N := 7) (index := 139) x_iw9 rfl (by decide) wf_X10_139 rfl (by decide +kernel))) <|
    xcn (rO (s_iload_n (k := 1) (by decide +kernel))) <|
    xcn (rC (s_cV (index := 143) wb_61 wm_X10_143 (by decide +kernel))) <|
    xcn (rJ (s_if_eq (off := 12) (by decide +kernel) (by decide +kernel) (by decide +kernel))) <|
    xcn (rO (s_aload_n (k := 0) (by decide +kernel))) <|
    xcn (rO (s_iload_n (k := 1) (by decide +kernel))) <|
    xcn (rO (s_iload_n (k := 2) (by decide +kernel))) <|
    xcn (rC (s_cV (index := 146) wb_109 wm_X10_146 (by decide +kernel))) <|
    xcn (rJ (s_goto (off := 4) (by decide +kernel) (by decide +kernel))) <|
    xcn (rO (s_iconst (n := (-1)) (by decide +kernel) (by decide))) <|
    xcn (rR (s_ret1 (by decide +kernel))) <| xnl
theorem xv_92 : xMd (xw_92, xp_92, yX10_session, cX10_session, 3, some .int) := ⟨by decide +kernel, rfl, by decide +kernel, by decide +kernel, xa_92⟩
set_option maxRecDepth 100000 in
theorem xa_93 : xAR (xRow RX10 cX10_ends 2 (some .int) xp_93) xw_93 := by
  unfold xw_93
  exact xcn (rO (s_aload_n (k := 0) (by decide +kernel))) <|
    xcn (rC (s_cV (index := 64) wb_111 wm_X10_64 (by decide +kernel))) <|
    xcn (rO (s_aload_n (k := 0) (by decide +kernel))) <|
    xcn (rO (s_aload_n (k := 0) (by decide +kernel))) <|
    xcn (rO (s_get (T := TX10) (N := 10) (index := 53) x_iw10 rfl (by decide) wf_X10_53 rfl (by decide +kernel))) <|
    xcn (rO (s_iload_n (k := 1) (by decide +kernel))) <|
    xcn (rC (s_cV (index := 149) wb_11 wm_X10_149 (by decide +kernel))) <|
    xcn (rC (s_cV (index := 71) wb_112 wm_X10_71 (by decide +kernel))) <|
    xcn (rR (s_ret1 (by decide +kernel))) <| xnl
theorem xv_93 : xMd (xw_93, xp_93, yX10_ends, cX10_ends, 2, some .int) := ⟨by decide +kernel, rfl, by decide +kernel, by decide +kernel, xa_93⟩
set_option maxRecDepth 100000 in
theorem xa_94 : xAR (xRow RX10 cX10_ticks 2 (some .int) xp_94) xw_94 := by
  unfold xw_94
  exact xcn (rO (s_aload_n (k := 0) (by decide +kernel))) <|
    xcn (rC (s_cV (index := 64) wb_111 wm_X10_64 (by decide +kernel))) <|
    xcn (rO (s_aload_n (k := 0) (by decide +kernel))) <|
    xcn (rO (s_aload_n (k := 0) (by decide +kernel))) <|
    xcn (rO (s_get (T := TX10) (N := 10) (index := 53) x_iw10 rfl (by decide) wf_X10_53 rfl (by decide +kernel))) <|
    xcn (rO (s_iload_n (k := 1) (by decide +kernel))) <|
    xcn (rC (s_cV (index := 152) wb_13 wm_X10_152 (by decide +kernel))) <|
    xcn (rC (s_cV (index := 71) wb_112 wm_X10_71 (by decide +kernel))) <|
    xcn (rR (s_ret1 (by decide +kernel))) <| xnl
theorem xv_94 : xMd (xw_94, xp_94, yX10_ticks, cX10_ticks, 2, some .int) := ⟨by decide +kernel, rfl, by decide +kernel, by decide +kernel, xa_94⟩
set_option maxRecDepth 100000 in
theorem xa_95 : xAR (xRow RX10 cX10_plan 3 (some .int) xp_95) xw_95 := by
  unfold xw_95
  exact xcn (rO (s_iload_n (k := 1) (by decide +kernel))) <|
    xcn (rO (s_iconst (n := (-1)) (by decide +kernel) (by decide))) <|
    xcn (rJ (s_ic_eq (off := 24) (by decide +kernel) (by decide +kernel) (by decide +kernel))) <|
    xcn (rO (s_aload_n (k := 0) (by decide +kernel))) <|
    xcn (rO (s_get (T := TX10) (N := 10) (index := 10) x_iw10 rfl (by decide) wf_X10_10 rfl (by decide +kernel))) <|
    xcn (rO (s_get (T := TX9) (N := 7) (index := 123) x_iw9 rfl (by decide) wf_X10_123 rfl (by decide +kernel))) <|
    xcn (rO (s_iload_n (k := 1) (by decide +kernel))) <|
    xcn (rC (s_cV (index := 127) wb_68 wm_X10_127 (by decide +kernel))) <|
    xcn (rJ (s_if_ne (off := 10) (by decide +kernel) (by decide +kernel) (by decide +kernel))) <|
    xcn (rO (s_aload_n (k := 0) (by decide +kernel))) <|
    xcn (rO (s_bipush (n := (-2)) (by decide +kernel) (by decide))) <|
    xcn (rC (s_cV (index := 110) wb_113 wm_X10_110 (by decide +kernel))) <|
    xcn (rR (s_ret1 (by decide +kernel))) <|
    xcn (rO (s_aload_n (k := 0) (by decide +kernel))) <|
    xcn (rO (s_get (T := TX10) (N := 10) (index := 37) x_iw10 rfl (by decide) wf_X10_37 rfl (by decide +kernel))) <|
    xcn (rC (s_cV (index := 155) wb_47 wm_X10_155 (by decide +kernel))) <|
    xcn (rO (s_istore_n (k := 2) (by decide) (by decide +kernel))) <|
    xcn (rO (s_iload_n (k := 2) (by decide +kernel))) <|
    xcn (rO (s_iconst (n := (-1)) (by decide +kernel) (by decide))) <|
    xcn (rJ (s_ic_eq (off := 8) (by decide +kernel) (by decide +kernel) (by decide +kernel))) <|
    xcn (rO (s_iload_n (k := 1) (by decide +kernel))) <|
    xcn (rO (s_iconst (n := (-1)) (by decide +kernel) (by decide))) <|
    xcn (rJ (s_ic_ne (off := 7) (by decide +kernel) (by decide +kernel) (by decide +kernel))) <|
    xcn (rO (s_iload_n (k := 2) (by decide +kernel))) <|
    xcn (rJ (s_goto (off := 11) (by decide +kernel) (by decide +kernel))) <|
    xcn (rO (s_aload_n (k := 0) (by decide +kernel))) <|
    xcn (rO (s_get (T := TX10) (N := 10) (index := 37) x_iw10 rfl (by decide) wf_X10_37 rfl (by decide +kernel))) <|
    xcn (rO (s_iload_n (k := 1) (by decide +kernel))) <|
    xcn (rC (s_cV (index := 159) wb_48 wm_X10_159 (by decide +kernel))) <|
    xcn (rR (s_ret1 (by decide +kernel))) <| xnl
theorem xv_95 : xMd (xw_95, xp_95, yX10_plan, cX10_plan, 3, some .int) := ⟨by decide +kernel, rfl, by decide +kernel, by decide +kernel, xa_95⟩
set_option maxRecDepth 100000 in
theorem xa_96 : xAR (xRow RX10 cX10_lays 1 (some .int) xp_96) xw_96 := by
  unfold xw_96
  exact xcn (rO (s_aload_n (k := 0) (by decide +kernel))) <|
    xcn (rC (s_cV (index := 64) wb_111 wm_X10_64 (by decide +kernel))) <|
    xcn (rO (s_aload_n (k := 0) (by decide +kernel))) <|
    xcn (rO (s_aload_n (k := 0) (by decide +kernel))) <|
    xcn (rO (s_get (T := TX10) (N := 10) (index := 53) x_iw10 rfl (by decide) wf_X10_53 rfl (by decide +kernel))) <|
    xcn (rC (s_cV (index := 162) wb_12 wm_X10_162 (by decide +kernel))) <|
    xcn (rC (s_cV (index := 71) wb_112 wm_X10_71 (by decide +kernel))) <|
    xcn (rR (s_ret1 (by decide +kernel))) <| xnl
theorem xv_96 : xMd (xw_96, xp_96, yX10_lays, cX10_lays, 1, some .int) := ⟨by decide +kernel, rfl, by decide +kernel, by decide +kernel, xa_96⟩
set_option maxRecDepth 100000 in
theorem xa_97 : xAR (xRow RX10 cX10_order 3 (some .int) xp_97) xw_97 := by
  unfold xw_97
  exact xcn (rO (s_iload_n (k := 1) (by decide +kernel))) <|
    xcn (rJ (s_if_le (off := 22) (by decide +kernel) (by decide +kernel) (by decide +kernel))) <|
    xcn (rO (s_iload_n (k := 1) (by decide +kernel))) <|
    xcn (rO (s_aload_n (k := 0) (by decide +kernel))) <|
    xcn (rO (s_get (T := TX10) (N := 10) (index := 10) x_iw10 rfl (by decide) wf_X10_10 rfl (by decide +kernel))) <|
    xcn (rO (s_get (T := TX9) (N := 7) (index := 123) x_iw9 rfl (by decide) wf_X10_123 rfl (by decide +kernel))) <|
    xcn (rO (s_get (T := TX8) (N := 7) (index := 165) x_iw8 rfl (by decide) wf_X10_165 rfl (by decide +kernel))) <|
    xcn (rO (s_ishr (by decide +kernel))) <|
    xcn (rJ (s_if_ne (off := 7) (by decide +kernel) (by decide +kernel) (by decide +kernel))) <|
    xcn (rO (s_iload_n (k := 2) (by decide +kernel))) <|
    xcn (rJ (s_if_ge (off := 10) (by decide +kernel) (by decide +kernel) (by decide +kernel))) <|
    xcn (rO (s_aload_n (k := 0) (by decide +kernel))) <|
    xcn (rO (s_bipush (n := (-2)) (by decide +kernel) (by decide))) <|
    xcn (rC (s_cV (index := 110) wb_113 wm_X10_110 (by decide +kernel))) <|
    xcn (rR (s_ret1 (by decide +kernel))) <|
    xcn (rO (s_iload_n (k := 1) (by decide +kernel))) <|
    xcn (rO (s_aload_n (k := 0) (by decide +kernel))) <|
    xcn (rO (s_get (T := TX10) (N := 10) (index := 10) x_iw10 rfl (by decide) wf_X10_10 rfl (by decide +kernel))) <|
    xcn (rO (s_get (T := TX9) (N := 7) (index := 123) x_iw9 rfl (by decide) wf_X10_123 rfl (by decide +kernel))) <|
    xcn (rC (s_cV (index := 169) wb_70 wm_X10_169 (by decide +kernel))) <|
    xcn (rO (s_iconst (n := (-1)) (by decide +kernel) (by decide))) <|
    xcn (rO (s_ixor (by decide +kernel))) <|
    xcn (rO (s_iand (by decide +kernel))) <|
    xcn (rJ (s_if_eq (off := 10) (by decide +kernel) (by decide +kernel) (by decide +kernel))) <|
    xcn (rO (s_aload_n (k := 0) (by decide +kernel))) <|
    xcn (rO (s_bipush (n := (-3)) (by decide +kernel) (by decide))) <|
    xcn (rC (s_cV (index := 110) wb_113 wm_X10_110 (by decide +kernel))) <|
    xcn (rR (s_ret1 (by decide +kernel))) <|
    xcn (rO (s_aload_n (k := 0) (by decide +kernel))) <|
    xcn (rO (s_get (T := TX10) (N := 10) (index := 44) x_iw10 rfl (by decide) wf_X10_44 rfl (by decide +kernel))) <|
    xcn (rO (s_iload_n (k := 1) (by decide +kernel))) <|
    xcn (rO (s_iload_n (k := 2) (by decide +kernel))) <|
    xcn (rC (s_cV (index := 172) wb_28 wm_X10_172 (by decide +kernel))) <|
    xcn (rR (s_ret1 (by decide +kernel))) <| xnl
theorem xv_97 : xMd (xw_97, xp_97, yX10_order, cX10_order, 3, some .int) := ⟨by decide +kernel, rfl, by decide +kernel, by decide +kernel, xa_97⟩
