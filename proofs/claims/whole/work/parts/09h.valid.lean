set_option maxRecDepth 100000 in
theorem xa_207 : xAR (xRow RX11 cX11_back 2 (some .int) xp_207) xw_207 := by
  unfold xw_207
  exact xcn (rO (s_aload_n (k := 0) (by decide +kernel))) <|
    xcn (rO (s_get (T := TX11) (N := 17) (index := 49) x_iw11 rfl (by decide) wf_X11_49 rfl (by decide +kernel))) <|
    xcn (rJ (s_if_ne (off := 10) (by decide +kernel) (by decide +kernel) (by decide +kernel))) <|
    xcn (rO (s_aload_n (k := 0) (by decide +kernel))) <|
    xcn (rO (s_bipush (n := (-3)) (by decide +kernel) (by decide))) <|
    xcn (rC (s_cV (index := 101) wb_116 wm_X11_101 (by decide +kernel))) <|
    xcn (rR (s_ret1 (by decide +kernel))) <|
    xcn (rO (s_aload_n (k := 0) (by decide +kernel))) <|
    xcn (rO (s_dup (by decide +kernel))) <|
    xcn (rO (s_get (T := TX11) (N := 17) (index := 49) x_iw11 rfl (by decide) wf_X11_49 rfl (by decide +kernel))) <|
    xcn (rO (s_iconst (n := 1) (by decide +kernel) (by decide))) <|
    xcn (rO (s_isub (by decide +kernel))) <|
    xcn (rO (s_put (T := TX11) (N := 17) (index := 49) (ty0 := tyX11) (z := false) x_iw11 tyX11_ok nmX11 rfl (by decide) wf_X11_49 rfl rfl rfl (by decide +kernel))) <|
    xcn (rO (s_iconst (n := 0) (by decide +kernel) (by decide))) <|
    xcn (rO (s_istore_n (k := 1) (by decide) (by decide +kernel))) <|
    xcn (rO s_fgt) <|
    xcn (rO (s_iload_n (k := 1) (by decide +kernel))) <|
    xcn (rO (s_sipush (n := 169) (by decide +kernel) (by decide))) <|
    xcn (rJ (s_ic_ge (off := 30) (by decide +kernel) (by decide +kernel) (by decide +kernel))) <|
    xcn (rO (s_aload_n (k := 0) (by decide +kernel))) <|
    xcn (rO (s_get (T := TX11) (N := 17) (index := 7) x_iw11 rfl (by decide) wf_X11_7 rfl (by decide +kernel))) <|
    xcn (rO (s_iload_n (k := 1) (by decide +kernel))) <|
    xcn (rO (s_aload_n (k := 0) (by decide +kernel))) <|
    xcn (rO (s_get (T := TX11) (N := 17) (index := 13) x_iw11 rfl (by decide) wf_X11_13 rfl (by decide +kernel))) <|
    xcn (rO (s_sipush (n := 169) (by decide +kernel) (by decide))) <|
    xcn (rO (s_aload_n (k := 0) (by decide +kernel))) <|
    xcn (rO (s_get (T := TX11) (N := 17) (index := 49) x_iw11 rfl (by decide) wf_X11_49 rfl (by decide +kernel))) <|
    xcn (rO (s_imul (by decide +kernel))) <|
    xcn (rO (s_iload_n (k := 1) (by decide +kernel))) <|
    xcn (rO (s_iadd (by decide +kernel))) <|
    xcn (rO (s_iald (by decide +kernel))) <|
    xcn (rO (s_iast (by decide +kernel))) <|
    xcn (rO (s_iinc (k := 1) (n := 1) (by decide) (by decide) (by decide +kernel))) <|
    xcn (rJ (s_goto (off := (-31)) (by decide +kernel) (by decide +kernel))) <|
    xcn (rO s_fgt) <|
    xcn (rO (s_aload_n (k := 0) (by decide +kernel))) <|
    xcn (rO (s_get (T := TX11) (N := 17) (index := 49) x_iw11 rfl (by decide) wf_X11_49 rfl (by decide +kernel))) <|
    xcn (rR (s_ret1 (by decide +kernel))) <| xnl
theorem xv_207 : xMd (xw_207, xp_207, yX11_back, cX11_back, 2, some .int) := ⟨by decide +kernel, rfl, by decide +kernel, by decide +kernel, xa_207⟩
set_option maxRecDepth 100000 in
theorem xa_208 : xAR (xRow RX11 cX11_toldOf 2 (some .int) xp_208) xw_208 := by
  unfold xw_208
  exact xcn (rO (s_iload_n (k := 1) (by decide +kernel))) <|
    xcn (rJ (s_tsw (dflt := 94) (hi := 12) (offs := #[55, 60, 67, 74, 94, 94, 94, 94, 81, 89]) (len := 55) (by decide +kernel) (by decide) (by decide +kernel) (by decide +kernel))) <|
    xcn (rO (s_aload_n (k := 0) (by decide +kernel))) <|
    xcn (rO (s_get (T := TX11) (N := 17) (index := 258) x_iw11 rfl (by decide) wf_X11_258 rfl (by decide +kernel))) <|
    xcn (rR (s_ret1 (by decide +kernel))) <|
    xcn (rO (s_aload_n (k := 0) (by decide +kernel))) <|
    xcn (rO (s_get (T := TX11) (N := 17) (index := 7) x_iw11 rfl (by decide) wf_X11_7 rfl (by decide +kernel))) <|
    xcn (rO (s_iconst (n := 0) (by decide +kernel) (by decide))) <|
    xcn (rO (s_iald (by decide +kernel))) <|
    xcn (rR (s_ret1 (by decide +kernel))) <|
    xcn (rO (s_aload_n (k := 0) (by decide +kernel))) <|
    xcn (rO (s_get (T := TX11) (N := 17) (index := 7) x_iw11 rfl (by decide) wf_X11_7 rfl (by decide +kernel))) <|
    xcn (rO (s_iconst (n := 1) (by decide +kernel) (by decide))) <|
    xcn (rO (s_iald (by decide +kernel))) <|
    xcn (rR (s_ret1 (by decide +kernel))) <|
    xcn (rO (s_aload_n (k := 0) (by decide +kernel))) <|
    xcn (rO (s_get (T := TX11) (N := 17) (index := 7) x_iw11 rfl (by decide) wf_X11_7 rfl (by decide +kernel))) <|
    xcn (rO (s_iconst (n := 2) (by decide +kernel) (by decide))) <|
    xcn (rO (s_iald (by decide +kernel))) <|
    xcn (rR (s_ret1 (by decide +kernel))) <|
    xcn (rO (s_aload_n (k := 0) (by decide +kernel))) <|
    xcn (rO (s_get (T := TX11) (N := 17) (index := 7) x_iw11 rfl (by decide) wf_X11_7 rfl (by decide +kernel))) <|
    xcn (rO (s_bipush (n := 7) (by decide +kernel) (by decide))) <|
    xcn (rO (s_iald (by decide +kernel))) <|
    xcn (rR (s_ret1 (by decide +kernel))) <|
    xcn (rO (s_aload_n (k := 0) (by decide +kernel))) <|
    xcn (rO (s_get (T := TX11) (N := 17) (index := 49) x_iw11 rfl (by decide) wf_X11_49 rfl (by decide +kernel))) <|
    xcn (rR (s_ret1 (by decide +kernel))) <|
    xcn (rO (s_iload_n (k := 1) (by decide +kernel))) <|
    xcn (rO (s_iconst (n := 3) (by decide +kernel) (by decide))) <|
    xcn (rJ (s_ic_ge (off := 12) (by decide +kernel) (by decide +kernel) (by decide +kernel))) <|
    xcn (rO (s_aload_n (k := 0) (by decide +kernel))) <|
    xcn (rO (s_get (T := TX11) (N := 17) (index := 19) x_iw11 rfl (by decide) wf_X11_19 rfl (by decide +kernel))) <|
    xcn (rO (s_iload_n (k := 1) (by decide +kernel))) <|
    xcn (rO (s_iald (by decide +kernel))) <|
    xcn (rJ (s_goto (off := 14) (by decide +kernel) (by decide +kernel))) <|
    xcn (rO (s_aload_n (k := 0) (by decide +kernel))) <|
    xcn (rO (s_get (T := TX11) (N := 17) (index := 7) x_iw11 rfl (by decide) wf_X11_7 rfl (by decide +kernel))) <|
    xcn (rO (s_iconst (n := 3) (by decide +kernel) (by decide))) <|
    xcn (rO (s_iload_n (k := 1) (by decide +kernel))) <|
    xcn (rO (s_iadd (by decide +kernel))) <|
    xcn (rO (s_bipush (n := 7) (by decide +kernel) (by decide))) <|
    xcn (rO (s_isub (by decide +kernel))) <|
    xcn (rO (s_iald (by decide +kernel))) <|
    xcn (rR (s_ret1 (by decide +kernel))) <| xnl
theorem xv_208 : xMd (xw_208, xp_208, yX11_toldOf, cX11_toldOf, 2, some .int) := ⟨by decide +kernel, rfl, by decide +kernel, by decide +kernel, xa_208⟩
set_option maxRecDepth 100000 in
theorem xa_209 : xAR (xRow RX11 cX11_told 2 (some .int) xp_209) xw_209 := by
  unfold xw_209
  exact xcn (rO (s_iload_n (k := 1) (by decide +kernel))) <|
    xcn (rO (s_i2l (by decide +kernel))) <|
    xcn (rO (s_lconst (n := 0) (by decide +kernel) (by decide))) <|
    xcn (rO (s_ldc2 (n := 296) (x_mt 1314 (by decide +kernel) rfl) (by decide +kernel))) <|
    xcn (rC (s_cS (index := 53) wb_115 wm_X11_53 (by decide +kernel))) <|
    xcn (rJ (s_if_eq (off := 11) (by decide +kernel) (by decide +kernel) (by decide +kernel))) <|
    xcn (rO (s_aload_n (k := 0) (by decide +kernel))) <|
    xcn (rO (s_iload_n (k := 1) (by decide +kernel))) <|
    xcn (rC (s_cV (index := 298) wb_208 wm_X11_298 (by decide +kernel))) <|
    xcn (rJ (s_goto (off := 9) (by decide +kernel) (by decide +kernel))) <|
    xcn (rO (s_aload_n (k := 0) (by decide +kernel))) <|
    xcn (rO (s_bipush (n := (-2)) (by decide +kernel) (by decide))) <|
    xcn (rC (s_cV (index := 101) wb_116 wm_X11_101 (by decide +kernel))) <|
    xcn (rR (s_ret1 (by decide +kernel))) <| xnl
theorem xv_209 : xMd (xw_209, xp_209, yX11_told, cX11_told, 2, some .int) := ⟨by decide +kernel, rfl, by decide +kernel, by decide +kernel, xa_209⟩
set_option maxRecDepth 100000 in
theorem xa_210 : xAR (xRow RX11 cX11_digest 5 (some .long) xp_210) xw_210 := by
  unfold xw_210
  exact xcn (rO (s_ldc2 (n := 301) (x_mt 1323 (by decide +kernel) rfl) (by decide +kernel))) <|
    xcn (rO (s_lstore_n (k := 1) (by decide) (by decide +kernel))) <|
    xcn (rO (s_iconst (n := 0) (by decide +kernel) (by decide))) <|
    xcn (rO (s_istore_n (k := 3) (by decide) (by decide +kernel))) <|
    xcn (rO s_fgt) <|
    xcn (rO (s_iload_n (k := 3) (by decide +kernel))) <|
    xcn (rO (s_bipush (n := 13) (by decide +kernel) (by decide))) <|
    xcn (rJ (s_ic_ge (off := 22) (by decide +kernel) (by decide +kernel) (by decide +kernel))) <|
    xcn (rO (s_ldc2 (n := 303) (x_mt 1324 (by decide +kernel) rfl) (by decide +kernel))) <|
    xcn (rO (s_lload_n (k := 1) (by decide +kernel))) <|
    xcn (rO (s_lmul (by decide +kernel))) <|
    xcn (rO (s_aload_n (k := 0) (by decide +kernel))) <|
    xcn (rO (s_iload_n (k := 3) (by decide +kernel))) <|
    xcn (rC (s_cV (index := 298) wb_208 wm_X11_298 (by decide +kernel))) <|
    xcn (rO (s_i2l (by decide +kernel))) <|
    xcn (rO (s_ladd (by decide +kernel))) <|
    xcn (rO (s_lstore_n (k := 1) (by decide) (by decide +kernel))) <|
    xcn (rO (s_iinc (k := 3) (n := 1) (by decide) (by decide) (by decide +kernel))) <|
    xcn (rJ (s_goto (off := (-22)) (by decide +kernel) (by decide +kernel))) <|
    xcn (rO s_fgt) <|
    xcn (rO (s_iconst (n := 0) (by decide +kernel) (by decide))) <|
    xcn (rO (s_istore_n (k := 3) (by decide) (by decide +kernel))) <|
    xcn (rO s_fgt) <|
    xcn (rO (s_iload_n (k := 3) (by decide +kernel))) <|
    xcn (rO (s_bipush (n := 6) (by decide +kernel) (by decide))) <|
    xcn (rO (s_aload_n (k := 0) (by decide +kernel))) <|
    xcn (rO (s_get (T := TX11) (N := 17) (index := 7) x_iw11 rfl (by decide) wf_X11_7 rfl (by decide +kernel))) <|
    xcn (rO (s_iconst (n := 0) (by decide +kernel) (by decide))) <|
    xcn (rO (s_iald (by decide +kernel))) <|
    xcn (rO (s_imul (by decide +kernel))) <|
    xcn (rJ (s_ic_ge (off := 29) (by decide +kernel) (by decide +kernel) (by decide +kernel))) <|
    xcn (rO (s_ldc2 (n := 303) (x_mt 1324 (by decide +kernel) rfl) (by decide +kernel))) <|
    xcn (rO (s_lload_n (k := 1) (by decide +kernel))) <|
    xcn (rO (s_lmul (by decide +kernel))) <|
    xcn (rO (s_aload_n (k := 0) (by decide +kernel))) <|
    xcn (rO (s_iload_n (k := 3) (by decide +kernel))) <|
    xcn (rO (s_bipush (n := 6) (by decide +kernel) (by decide))) <|
    xcn (rO (s_idiv (by decide +kernel))) <|
    xcn (rO (s_iload_n (k := 3) (by decide +kernel))) <|
    xcn (rO (s_bipush (n := 6) (by decide +kernel) (by decide))) <|
    xcn (rO (s_irem (by decide +kernel))) <|
    xcn (rC (s_cV (index := 180) wb_162 wm_X11_180 (by decide +kernel))) <|
    xcn (rO (s_i2l (by decide +kernel))) <|
    xcn (rO (s_ladd (by decide +kernel))) <|
    xcn (rO (s_lstore_n (k := 1) (by decide) (by decide +kernel))) <|
    xcn (rO (s_iinc (k := 3) (n := 1) (by decide) (by decide) (by decide +kernel))) <|
    xcn (rJ (s_goto (off := (-36)) (by decide +kernel) (by decide +kernel))) <|
    xcn (rO s_fgt) <|
    xcn (rO (s_iconst (n := 1) (by decide +kernel) (by decide))) <|
    xcn (rO (s_istore_n (k := 3) (by decide) (by decide +kernel))) <|
    xcn (rO s_fgt) <|
    xcn (rO (s_iload_n (k := 3) (by decide +kernel))) <|
    xcn (rO (s_aload_n (k := 0) (by decide +kernel))) <|
    xcn (rO (s_get (T := TX11) (N := 17) (index := 7) x_iw11 rfl (by decide) wf_X11_7 rfl (by decide +kernel))) <|
    xcn (rO (s_iconst (n := 0) (by decide +kernel) (by decide))) <|
    xcn (rO (s_iald (by decide +kernel))) <|
    xcn (rJ (s_ic_ge (off := 60) (by decide +kernel) (by decide +kernel) (by decide +kernel))) <|
    xcn (rO (s_iconst (n := 0) (by decide +kernel) (by decide))) <|
    xcn (rO (s_istore (k := 4) (by decide) (by decide +kernel))) <|
    xcn (rO s_fgt) <|
    xcn (rO (s_iload (k := 4) (by decide +kernel))) <|
    xcn (rO (s_iload_n (k := 3) (by decide +kernel))) <|
    xcn (rJ (s_ic_ge (off := 45) (by decide +kernel) (by decide +kernel) (by decide +kernel))) <|
    xcn (rO (s_ldc2 (n := 303) (x_mt 1324 (by decide +kernel) rfl) (by decide +kernel))) <|
    xcn (rO (s_ldc2 (n := 303) (x_mt 1324 (by decide +kernel) rfl) (by decide +kernel))) <|
    xcn (rO (s_lload_n (k := 1) (by decide +kernel))) <|
    xcn (rO (s_lmul (by decide +kernel))) <|
    xcn (rO (s_aload_n (k := 0) (by decide +kernel))) <|
    xcn (rO (s_get (T := TX11) (N := 17) (index := 7) x_iw11 rfl (by decide) wf_X11_7 rfl (by decide +kernel))) <|
    xcn (rO (s_bipush (n := 37) (by decide +kernel) (by decide))) <|
    xcn (rO (s_bipush (n := 8) (by decide +kernel) (by decide))) <|
    xcn (rO (s_iload (k := 4) (by decide +kernel))) <|
    xcn (rO (s_imul (by decide +kernel))) <|
    xcn (rO (s_iadd (by decide +kernel))) <|
    xcn (rO (s_iload_n (k := 3) (by decide +kernel))) <|
    xcn (rO (s_iadd (by decide +kernel))) <|
    xcn (rO (s_iald (by decide +kernel))) <|
    xcn (rO (s_i2l (by decide +kernel))) <|
    xcn (rO (s_ladd (by decide +kernel))) <|
    xcn (rO (s_lmul (by decide +kernel))) <|
    xcn (rO (s_aload_n (k := 0) (by decide +kernel))) <|
    xcn (rO (s_iload (k := 4) (by decide +kernel))) <|
    xcn (rO (s_iload_n (k := 3) (by decide +kernel))) <|
    xcn (rC (s_cV (index := 61) wb_127 wm_X11_61 (by decide +kernel))) <|
    xcn (rO (s_i2l (by decide +kernel))) <|
    xcn (rO (s_ladd (by decide +kernel))) <|
    xcn (rO (s_lstore_n (k := 1) (by decide) (by decide +kernel))) <|
    xcn (rO (s_iinc (k := 4) (n := 1) (by decide) (by decide) (by decide +kernel))) <|
    xcn (rJ (s_goto (off := (-45)) (by decide +kernel) (by decide +kernel))) <|
    xcn (rO s_fgt) <|
    xcn (rO (s_iinc (k := 3) (n := 1) (by decide) (by decide) (by decide +kernel))) <|
    xcn (rJ (s_goto (off := (-64)) (by decide +kernel) (by decide +kernel))) <|
    xcn (rO s_fgt) <|
    xcn (rO (s_iconst (n := 0) (by decide +kernel) (by decide))) <|
    xcn (rO (s_istore_n (k := 3) (by decide) (by decide +kernel))) <|
    xcn (rO s_fgt) <|
    xcn (rO (s_iload_n (k := 3) (by decide +kernel))) <|
    xcn (rO (s_bipush (n := 10) (by decide +kernel) (by decide))) <|
    xcn (rO (s_aload_n (k := 0) (by decide +kernel))) <|
    xcn (rO (s_get (T := TX11) (N := 17) (index := 7) x_iw11 rfl (by decide) wf_X11_7 rfl (by decide +kernel))) <|
    xcn (rO (s_iconst (n := 1) (by decide +kernel) (by decide))) <|
    xcn (rO (s_iald (by decide +kernel))) <|
    xcn (rO (s_imul (by decide +kernel))) <|
    xcn (rJ (s_ic_ge (off := 29) (by decide +kernel) (by decide +kernel) (by decide +kernel))) <|
    xcn (rO (s_ldc2 (n := 303) (x_mt 1324 (by decide +kernel) rfl) (by decide +kernel))) <|
    xcn (rO (s_lload_n (k := 1) (by decide +kernel))) <|
    xcn (rO (s_lmul (by decide +kernel))) <|
    xcn (rO (s_aload_n (k := 0) (by decide +kernel))) <|
    xcn (rO (s_iload_n (k := 3) (by decide +kernel))) <|
    xcn (rO (s_bipush (n := 10) (by decide +kernel) (by decide))) <|
    xcn (rO (s_idiv (by decide +kernel))) <|
    xcn (rO (s_iload_n (k := 3) (by decide +kernel))) <|
    xcn (rO (s_bipush (n := 10) (by decide +kernel) (by decide))) <|
    xcn (rO (s_irem (by decide +kernel))) <|
    xcn (rC (s_cV (index := 196) wb_167 wm_X11_196 (by decide +kernel))) <|
    xcn (rO (s_i2l (by decide +kernel))) <|
    xcn (rO (s_ladd (by decide +kernel))) <|
    xcn (rO (s_lstore_n (k := 1) (by decide) (by decide +kernel))) <|
    xcn (rO (s_iinc (k := 3) (n := 1) (by decide) (by decide) (by decide +kernel))) <|
    xcn (rJ (s_goto (off := (-36)) (by decide +kernel) (by decide +kernel))) <|
    xcn (rO s_fgt) <|
    xcn (rO (s_iconst (n := 0) (by decide +kernel) (by decide))) <|
    xcn (rO (s_istore_n (k := 3) (by decide) (by decide +kernel))) <|
    xcn (rO s_fgt) <|
    xcn (rO (s_iload_n (k := 3) (by decide +kernel))) <|
    xcn (rO (s_iconst (n := 5) (by decide +kernel) (by decide))) <|
    xcn (rO (s_aload_n (k := 0) (by decide +kernel))) <|
    xcn (rO (s_get (T := TX11) (N := 17) (index := 7) x_iw11 rfl (by decide) wf_X11_7 rfl (by decide +kernel))) <|
    xcn (rO (s_iconst (n := 2) (by decide +kernel) (by decide))) <|
    xcn (rO (s_iald (by decide +kernel))) <|
    xcn (rO (s_imul (by decide +kernel))) <|
    xcn (rJ (s_ic_ge (off := 27) (by decide +kernel) (by decide +kernel) (by decide +kernel))) <|
    xcn (rO (s_ldc2 (n := 303) (x_mt 1324 (by decide +kernel) rfl) (by decide +kernel))) <|
    xcn (rO (s_lload_n (k := 1) (by decide +kernel))) <|
    xcn (rO (s_lmul (by decide +kernel))) <|
    xcn (rO (s_aload_n (k := 0) (by decide +kernel))) <|
    xcn (rO (s_iload_n (k := 3) (by decide +kernel))) <|
    xcn (rO (s_iconst (n := 5) (by decide +kernel) (by decide))) <|
    xcn (rO (s_idiv (by decide +kernel))) <|
    xcn (rO (s_iload_n (k := 3) (by decide +kernel))) <|
    xcn (rO (s_iconst (n := 5) (by decide +kernel) (by decide))) <|
    xcn (rO (s_irem (by decide +kernel))) <|
    xcn (rC (s_cV (index := 207) wb_173 wm_X11_207 (by decide +kernel))) <|
    xcn (rO (s_i2l (by decide +kernel))) <|
    xcn (rO (s_ladd (by decide +kernel))) <|
    xcn (rO (s_lstore_n (k := 1) (by decide) (by decide +kernel))) <|
    xcn (rO (s_iinc (k := 3) (n := 1) (by decide) (by decide) (by decide +kernel))) <|
    xcn (rJ (s_goto (off := (-33)) (by decide +kernel) (by decide +kernel))) <|
    xcn (rO s_fgt) <|
    xcn (rO (s_lload_n (k := 1) (by decide +kernel))) <|
    xcn (rR (s_ret3 (by decide +kernel))) <| xnl
theorem xv_210 : xMd (xw_210, xp_210, yX11_digest, cX11_digest, 5, some .long) := ⟨by decide +kernel, rfl, by decide +kernel, by decide +kernel, xa_210⟩
set_option maxRecDepth 100000 in
theorem xa_211 : xAR (xRow "java/lang/Integer" cJ_bitCount 1 (some .int) xp_211) xw_211 := by
  unfold xw_211
  exact xcn (rO (s_iload_n (k := 0) (by decide +kernel))) <|
    xcn (rO (s_iload_n (k := 0) (by decide +kernel))) <|
    xcn (rO (s_iconst (n := 1) (by decide +kernel) (by decide))) <|
    xcn (rO (s_iushr (by decide +kernel))) <|
    xcn (rO (s_ldcw (n := 265) (x_mt 726 (by decide +kernel) rfl) (by decide +kernel))) <|
    xcn (rO (s_iand (by decide +kernel))) <|
    xcn (rO (s_isub (by decide +kernel))) <|
    xcn (rO (s_istore_n (k := 0) (by decide) (by decide +kernel))) <|
    xcn (rO (s_iload_n (k := 0) (by decide +kernel))) <|
    xcn (rO (s_ldcw (n := 266) (x_mt 727 (by decide +kernel) rfl) (by decide +kernel))) <|
    xcn (rO (s_iand (by decide +kernel))) <|
    xcn (rO (s_iload_n (k := 0) (by decide +kernel))) <|
    xcn (rO (s_iconst (n := 2) (by decide +kernel) (by decide))) <|
    xcn (rO (s_iushr (by decide +kernel))) <|
    xcn (rO (s_ldcw (n := 266) (x_mt 727 (by decide +kernel) rfl) (by decide +kernel))) <|
    xcn (rO (s_iand (by decide +kernel))) <|
    xcn (rO (s_iadd (by decide +kernel))) <|
    xcn (rO (s_istore_n (k := 0) (by decide) (by decide +kernel))) <|
    xcn (rO (s_iload_n (k := 0) (by decide +kernel))) <|
    xcn (rO (s_iload_n (k := 0) (by decide +kernel))) <|
    xcn (rO (s_iconst (n := 4) (by decide +kernel) (by decide))) <|
    xcn (rO (s_iushr (by decide +kernel))) <|
    xcn (rO (s_iadd (by decide +kernel))) <|
    xcn (rO (s_ldcw (n := 267) (x_mt 728 (by decide +kernel) rfl) (by decide +kernel))) <|
    xcn (rO (s_iand (by decide +kernel))) <|
    xcn (rO (s_istore_n (k := 0) (by decide) (by decide +kernel))) <|
    xcn (rO (s_iload_n (k := 0) (by decide +kernel))) <|
    xcn (rO (s_iload_n (k := 0) (by decide +kernel))) <|
    xcn (rO (s_bipush (n := 8) (by decide +kernel) (by decide))) <|
    xcn (rO (s_iushr (by decide +kernel))) <|
    xcn (rO (s_iadd (by decide +kernel))) <|
    xcn (rO (s_istore_n (k := 0) (by decide) (by decide +kernel))) <|
    xcn (rO (s_iload_n (k := 0) (by decide +kernel))) <|
    xcn (rO (s_iload_n (k := 0) (by decide +kernel))) <|
    xcn (rO (s_bipush (n := 16) (by decide +kernel) (by decide))) <|
    xcn (rO (s_iushr (by decide +kernel))) <|
    xcn (rO (s_iadd (by decide +kernel))) <|
    xcn (rO (s_istore_n (k := 0) (by decide) (by decide +kernel))) <|
    xcn (rO (s_iload_n (k := 0) (by decide +kernel))) <|
    xcn (rO (s_bipush (n := 63) (by decide +kernel) (by decide))) <|
    xcn (rO (s_iand (by decide +kernel))) <|
    xcn (rR (s_ret1 (by decide +kernel))) <| xnl
theorem xv_211 : xMd (xw_211, xp_211, yJ_bitCount, cJ_bitCount, 1, some .int) := ⟨by decide +kernel, rfl, by decide +kernel, by decide +kernel, xa_211⟩
