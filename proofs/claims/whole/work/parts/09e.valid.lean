set_option maxRecDepth 100000 in
theorem xa_129 : xAR (xRow RX11 cX11_catchOf 8 (some .int) xp_129) xw_129 := by
  unfold xw_129
  exact xcn (rO (s_aload_n (k := 0) (by decide +kernel))) <|
    xcn (rO (s_get (T := TX11) (N := 17) (index := 7) x_iw11 rfl (by decide) wf_X11_7 rfl (by decide +kernel))) <|
    xcn (rO (s_bipush (n := 29) (by decide +kernel) (by decide))) <|
    xcn (rO (s_iload_n (k := 1) (by decide +kernel))) <|
    xcn (rO (s_iadd (by decide +kernel))) <|
    xcn (rO (s_iald (by decide +kernel))) <|
    xcn (rO (s_istore_n (k := 2) (by decide) (by decide +kernel))) <|
    xcn (rO (s_aload_n (k := 0) (by decide +kernel))) <|
    xcn (rO (s_get (T := TX11) (N := 17) (index := 7) x_iw11 rfl (by decide) wf_X11_7 rfl (by decide +kernel))) <|
    xcn (rO (s_bipush (n := 21) (by decide +kernel) (by decide))) <|
    xcn (rO (s_iload_n (k := 1) (by decide +kernel))) <|
    xcn (rO (s_iadd (by decide +kernel))) <|
    xcn (rO (s_iald (by decide +kernel))) <|
    xcn (rO (s_iconst (n := 2) (by decide +kernel) (by decide))) <|
    xcn (rJ (s_ic_ne (off := 20) (by decide +kernel) (by decide +kernel) (by decide +kernel))) <|
    xcn (rO (s_iload_n (k := 2) (by decide +kernel))) <|
    xcn (rO (s_iconst (n := (-1)) (by decide +kernel) (by decide))) <|
    xcn (rJ (s_ic_eq (off := 15) (by decide +kernel) (by decide +kernel) (by decide +kernel))) <|
    xcn (rO (s_aload_n (k := 0) (by decide +kernel))) <|
    xcn (rO (s_iload_n (k := 1) (by decide +kernel))) <|
    xcn (rO (s_iload_n (k := 2) (by decide +kernel))) <|
    xcn (rC (s_cV (index := 71) wb_128 wm_X11_71 (by decide +kernel))) <|
    xcn (rO (s_iconst (n := (-1)) (by decide +kernel) (by decide))) <|
    xcn (rJ (s_ic_eq (off := 5) (by decide +kernel) (by decide +kernel) (by decide +kernel))) <|
    xcn (rO (s_iload_n (k := 2) (by decide +kernel))) <|
    xcn (rR (s_ret1 (by decide +kernel))) <|
    xcn (rO (s_iconst (n := (-1)) (by decide +kernel) (by decide))) <|
    xcn (rO (s_istore_n (k := 3) (by decide) (by decide +kernel))) <|
    xcn (rO (s_iconst (n := 0) (by decide +kernel) (by decide))) <|
    xcn (rO (s_istore (k := 4) (by decide) (by decide +kernel))) <|
    xcn (rO s_fgt) <|
    xcn (rO (s_iload (k := 4) (by decide +kernel))) <|
    xcn (rO (s_aload_n (k := 0) (by decide +kernel))) <|
    xcn (rO (s_get (T := TX11) (N := 17) (index := 7) x_iw11 rfl (by decide) wf_X11_7 rfl (by decide +kernel))) <|
    xcn (rO (s_iconst (n := 1) (by decide +kernel) (by decide))) <|
    xcn (rO (s_iald (by decide +kernel))) <|
    xcn (rJ (s_ic_ge (off := 93) (by decide +kernel) (by decide +kernel) (by decide +kernel))) <|
    xcn (rO (s_aload_n (k := 0) (by decide +kernel))) <|
    xcn (rO (s_iload_n (k := 1) (by decide +kernel))) <|
    xcn (rO (s_iload (k := 4) (by decide +kernel))) <|
    xcn (rC (s_cV (index := 71) wb_128 wm_X11_71 (by decide +kernel))) <|
    xcn (rO (s_istore (k := 5) (by decide) (by decide +kernel))) <|
    xcn (rO (s_iload_n (k := 3) (by decide +kernel))) <|
    xcn (rO (s_iconst (n := (-1)) (by decide +kernel) (by decide))) <|
    xcn (rJ (s_ic_ne (off := 7) (by decide +kernel) (by decide +kernel) (by decide +kernel))) <|
    xcn (rO (s_iconst (n := 0) (by decide +kernel) (by decide))) <|
    xcn (rJ (s_goto (off := 9) (by decide +kernel) (by decide +kernel))) <|
    xcn (rO (s_aload_n (k := 0) (by decide +kernel))) <|
    xcn (rO (s_iload_n (k := 1) (by decide +kernel))) <|
    xcn (rO (s_iload_n (k := 3) (by decide +kernel))) <|
    xcn (rC (s_cV (index := 71) wb_128 wm_X11_71 (by decide +kernel))) <|
    xcn (rO (s_istore (k := 6) (by decide) (by decide +kernel))) <|
    xcn (rO (s_iload_n (k := 3) (by decide +kernel))) <|
    xcn (rO (s_iconst (n := (-1)) (by decide +kernel) (by decide))) <|
    xcn (rJ (s_ic_eq (off := 31) (by decide +kernel) (by decide +kernel) (by decide +kernel))) <|
    xcn (rO (s_iload (k := 5) (by decide +kernel))) <|
    xcn (rO (s_iload (k := 6) (by decide +kernel))) <|
    xcn (rJ (s_ic_lt (off := 24) (by decide +kernel) (by decide +kernel) (by decide +kernel))) <|
    xcn (rO (s_iload (k := 5) (by decide +kernel))) <|
    xcn (rO (s_iload (k := 6) (by decide +kernel))) <|
    xcn (rJ (s_ic_ne (off := 21) (by decide +kernel) (by decide +kernel) (by decide +kernel))) <|
    xcn (rO (s_aload_n (k := 0) (by decide +kernel))) <|
    xcn (rO (s_iload (k := 4) (by decide +kernel))) <|
    xcn (rC (s_cV (index := 68) wb_121 wm_X11_68 (by decide +kernel))) <|
    xcn (rO (s_aload_n (k := 0) (by decide +kernel))) <|
    xcn (rO (s_iload_n (k := 3) (by decide +kernel))) <|
    xcn (rC (s_cV (index := 68) wb_121 wm_X11_68 (by decide +kernel))) <|
    xcn (rJ (s_ic_ge (off := 7) (by decide +kernel) (by decide +kernel) (by decide +kernel))) <|
    xcn (rO (s_iconst (n := 1) (by decide +kernel) (by decide))) <|
    xcn (rJ (s_goto (off := 4) (by decide +kernel) (by decide +kernel))) <|
    xcn (rO (s_iconst (n := 0) (by decide +kernel) (by decide))) <|
    xcn (rO (s_istore (k := 7) (by decide) (by decide +kernel))) <|
    xcn (rO (s_iload (k := 5) (by decide +kernel))) <|
    xcn (rO (s_iconst (n := (-1)) (by decide +kernel) (by decide))) <|
    xcn (rJ (s_ic_eq (off := 13) (by decide +kernel) (by decide +kernel) (by decide +kernel))) <|
    xcn (rO (s_iload (k := 7) (by decide +kernel))) <|
    xcn (rJ (s_if_eq (off := 8) (by decide +kernel) (by decide +kernel) (by decide +kernel))) <|
    xcn (rO (s_iload (k := 4) (by decide +kernel))) <|
    xcn (rJ (s_goto (off := 4) (by decide +kernel) (by decide +kernel))) <|
    xcn (rO (s_iload_n (k := 3) (by decide +kernel))) <|
    xcn (rO (s_istore_n (k := 3) (by decide) (by decide +kernel))) <|
    xcn (rO (s_iinc (k := 4) (n := 1) (by decide) (by decide) (by decide +kernel))) <|
    xcn (rJ (s_goto (off := (-98)) (by decide +kernel) (by decide +kernel))) <|
    xcn (rO s_fgt) <|
    xcn (rO (s_iload_n (k := 3) (by decide +kernel))) <|
    xcn (rR (s_ret1 (by decide +kernel))) <| xnl
theorem xv_129 : xMd (xw_129, xp_129, yX11_catchOf, cX11_catchOf, 8, some .int) := ⟨by decide +kernel, rfl, by decide +kernel, by decide +kernel, xa_129⟩
set_option maxRecDepth 100000 in
theorem xa_130 : xAR (xRow RX11 cX11_laysCatches 2 (none) xp_130) xw_130 := by
  unfold xw_130
  exact xcn (rO (s_iconst (n := 0) (by decide +kernel) (by decide))) <|
    xcn (rO (s_istore_n (k := 1) (by decide) (by decide +kernel))) <|
    xcn (rO s_fgt) <|
    xcn (rO (s_iload_n (k := 1) (by decide +kernel))) <|
    xcn (rO (s_aload_n (k := 0) (by decide +kernel))) <|
    xcn (rO (s_get (T := TX11) (N := 17) (index := 7) x_iw11 rfl (by decide) wf_X11_7 rfl (by decide +kernel))) <|
    xcn (rO (s_iconst (n := 0) (by decide +kernel) (by decide))) <|
    xcn (rO (s_iald (by decide +kernel))) <|
    xcn (rJ (s_ic_ge (off := 20) (by decide +kernel) (by decide +kernel) (by decide +kernel))) <|
    xcn (rO (s_aload_n (k := 0) (by decide +kernel))) <|
    xcn (rO (s_get (T := TX11) (N := 17) (index := 25) x_iw11 rfl (by decide) wf_X11_25 rfl (by decide +kernel))) <|
    xcn (rO (s_iload_n (k := 1) (by decide +kernel))) <|
    xcn (rO (s_aload_n (k := 0) (by decide +kernel))) <|
    xcn (rO (s_iload_n (k := 1) (by decide +kernel))) <|
    xcn (rC (s_cV (index := 74) wb_129 wm_X11_74 (by decide +kernel))) <|
    xcn (rO (s_iast (by decide +kernel))) <|
    xcn (rO (s_iinc (k := 1) (n := 1) (by decide) (by decide) (by decide +kernel))) <|
    xcn (rJ (s_goto (off := (-24)) (by decide +kernel) (by decide +kernel))) <|
    xcn (rO s_fgt) <|
    xcn (rR (s_ret0 (by decide +kernel))) <| xnl
theorem xv_130 : xMd (xw_130, xp_130, yX11_laysCatches, cX11_laysCatches, 2, none) := ⟨by decide +kernel, rfl, by decide +kernel, by decide +kernel, xa_130⟩
set_option maxRecDepth 100000 in
theorem xa_131 : xAR (xRow RX11 cX11_laysAll 1 (none) xp_131) xw_131 := by
  unfold xw_131
  exact xcn (rO (s_aload_n (k := 0) (by decide +kernel))) <|
    xcn (rC (s_cV (index := 77) wb_126 wm_X11_77 (by decide +kernel))) <|
    xcn (rO (s_aload_n (k := 0) (by decide +kernel))) <|
    xcn (rC (s_cV (index := 80) wb_130 wm_X11_80 (by decide +kernel))) <|
    xcn (rR (s_ret0 (by decide +kernel))) <| xnl
theorem xv_131 : xMd (xw_131, xp_131, yX11_laysAll, cX11_laysAll, 1, none) := ⟨by decide +kernel, rfl, by decide +kernel, by decide +kernel, xa_131⟩
set_option maxRecDepth 100000 in
theorem xa_132 : xAR (xRow RX11 cX11_isCarried 2 (some .boolean) xp_132) xw_132 := by
  unfold xw_132
  exact xcn (rO (s_aload_n (k := 0) (by decide +kernel))) <|
    xcn (rO (s_get (T := TX11) (N := 17) (index := 25) x_iw11 rfl (by decide) wf_X11_25 rfl (by decide +kernel))) <|
    xcn (rO (s_aload_n (k := 0) (by decide +kernel))) <|
    xcn (rO (s_iload_n (k := 1) (by decide +kernel))) <|
    xcn (rO (s_iconst (n := 0) (by decide +kernel) (by decide))) <|
    xcn (rC (s_cV (index := 83) wb_125 wm_X11_83 (by decide +kernel))) <|
    xcn (rO (s_iald (by decide +kernel))) <|
    xcn (rO (s_aload_n (k := 0) (by decide +kernel))) <|
    xcn (rO (s_iload_n (k := 1) (by decide +kernel))) <|
    xcn (rO (s_iconst (n := 1) (by decide +kernel) (by decide))) <|
    xcn (rC (s_cV (index := 83) wb_125 wm_X11_83 (by decide +kernel))) <|
    xcn (rJ (s_ic_eq (off := 7) (by decide +kernel) (by decide +kernel) (by decide +kernel))) <|
    xcn (rO (s_iconst (n := 1) (by decide +kernel) (by decide))) <|
    xcn (rJ (s_goto (off := 4) (by decide +kernel) (by decide +kernel))) <|
    xcn (rO (s_iconst (n := 0) (by decide +kernel) (by decide))) <|
    xcn (rR (s_ret2 (by decide +kernel))) <| xnl
theorem xv_132 : xMd (xw_132, xp_132, yX11_isCarried, cX11_isCarried, 2, some .boolean) := ⟨by decide +kernel, rfl, by decide +kernel, by decide +kernel, xa_132⟩
set_option maxRecDepth 100000 in
theorem xa_133 : xAR (xRow RX11 cX11_load 4 (some .int) xp_133) xw_133 := by
  unfold xw_133
  exact xcn (rO (s_iconst (n := 0) (by decide +kernel) (by decide))) <|
    xcn (rO (s_istore_n (k := 2) (by decide) (by decide +kernel))) <|
    xcn (rO (s_iconst (n := 0) (by decide +kernel) (by decide))) <|
    xcn (rO (s_istore_n (k := 3) (by decide) (by decide +kernel))) <|
    xcn (rO s_fgt) <|
    xcn (rO (s_iload_n (k := 3) (by decide +kernel))) <|
    xcn (rO (s_aload_n (k := 0) (by decide +kernel))) <|
    xcn (rO (s_get (T := TX11) (N := 17) (index := 7) x_iw11 rfl (by decide) wf_X11_7 rfl (by decide +kernel))) <|
    xcn (rO (s_iconst (n := 0) (by decide +kernel) (by decide))) <|
    xcn (rO (s_iald (by decide +kernel))) <|
    xcn (rJ (s_ic_ge (off := 35) (by decide +kernel) (by decide +kernel) (by decide +kernel))) <|
    xcn (rO (s_iload_n (k := 2) (by decide +kernel))) <|
    xcn (rO (s_aload_n (k := 0) (by decide +kernel))) <|
    xcn (rO (s_get (T := TX11) (N := 17) (index := 25) x_iw11 rfl (by decide) wf_X11_25 rfl (by decide +kernel))) <|
    xcn (rO (s_iload_n (k := 3) (by decide +kernel))) <|
    xcn (rO (s_iald (by decide +kernel))) <|
    xcn (rO (s_iload_n (k := 1) (by decide +kernel))) <|
    xcn (rJ (s_ic_ne (off := 15) (by decide +kernel) (by decide +kernel) (by decide +kernel))) <|
    xcn (rO (s_aload_n (k := 0) (by decide +kernel))) <|
    xcn (rO (s_get (T := TX11) (N := 17) (index := 7) x_iw11 rfl (by decide) wf_X11_7 rfl (by decide +kernel))) <|
    xcn (rO (s_bipush (n := 13) (by decide +kernel) (by decide))) <|
    xcn (rO (s_iload_n (k := 3) (by decide +kernel))) <|
    xcn (rO (s_iadd (by decide +kernel))) <|
    xcn (rO (s_iald (by decide +kernel))) <|
    xcn (rJ (s_goto (off := 4) (by decide +kernel) (by decide +kernel))) <|
    xcn (rO (s_iconst (n := 0) (by decide +kernel) (by decide))) <|
    xcn (rO (s_iadd (by decide +kernel))) <|
    xcn (rO (s_istore_n (k := 2) (by decide) (by decide +kernel))) <|
    xcn (rO (s_iinc (k := 3) (n := 1) (by decide) (by decide) (by decide +kernel))) <|
    xcn (rJ (s_goto (off := (-39)) (by decide +kernel) (by decide +kernel))) <|
    xcn (rO s_fgt) <|
    xcn (rO (s_iconst (n := 0) (by decide +kernel) (by decide))) <|
    xcn (rO (s_istore_n (k := 3) (by decide) (by decide +kernel))) <|
    xcn (rO s_fgt) <|
    xcn (rO (s_iload_n (k := 3) (by decide +kernel))) <|
    xcn (rO (s_aload_n (k := 0) (by decide +kernel))) <|
    xcn (rO (s_get (T := TX11) (N := 17) (index := 7) x_iw11 rfl (by decide) wf_X11_7 rfl (by decide +kernel))) <|
    xcn (rO (s_iconst (n := 2) (by decide +kernel) (by decide))) <|
    xcn (rO (s_iald (by decide +kernel))) <|
    xcn (rJ (s_ic_ge (off := 40) (by decide +kernel) (by decide +kernel) (by decide +kernel))) <|
    xcn (rO (s_iload_n (k := 2) (by decide +kernel))) <|
    xcn (rO (s_aload_n (k := 0) (by decide +kernel))) <|
    xcn (rO (s_iload_n (k := 3) (by decide +kernel))) <|
    xcn (rO (s_iconst (n := 1) (by decide +kernel) (by decide))) <|
    xcn (rC (s_cV (index := 83) wb_125 wm_X11_83 (by decide +kernel))) <|
    xcn (rO (s_iload_n (k := 1) (by decide +kernel))) <|
    xcn (rJ (s_ic_ne (off := 20) (by decide +kernel) (by decide +kernel) (by decide +kernel))) <|
    xcn (rO (s_aload_n (k := 0) (by decide +kernel))) <|
    xcn (rO (s_iload_n (k := 3) (by decide +kernel))) <|
    xcn (rC (s_cV (index := 86) wb_132 wm_X11_86 (by decide +kernel))) <|
    xcn (rJ (s_if_eq (off := 12) (by decide +kernel) (by decide +kernel) (by decide +kernel))) <|
    xcn (rO (s_aload_n (k := 0) (by decide +kernel))) <|
    xcn (rO (s_iload_n (k := 3) (by decide +kernel))) <|
    xcn (rO (s_iconst (n := 2) (by decide +kernel) (by decide))) <|
    xcn (rC (s_cV (index := 83) wb_125 wm_X11_83 (by decide +kernel))) <|
    xcn (rJ (s_goto (off := 4) (by decide +kernel) (by decide +kernel))) <|
    xcn (rO (s_iconst (n := 0) (by decide +kernel) (by decide))) <|
    xcn (rO (s_iadd (by decide +kernel))) <|
    xcn (rO (s_istore_n (k := 2) (by decide) (by decide +kernel))) <|
    xcn (rO (s_iinc (k := 3) (n := 1) (by decide) (by decide) (by decide +kernel))) <|
    xcn (rJ (s_goto (off := (-44)) (by decide +kernel) (by decide +kernel))) <|
    xcn (rO s_fgt) <|
    xcn (rO (s_iload_n (k := 2) (by decide +kernel))) <|
    xcn (rR (s_ret1 (by decide +kernel))) <| xnl
theorem xv_133 : xMd (xw_133, xp_133, yX11_load, cX11_load, 4, some .int) := ⟨by decide +kernel, rfl, by decide +kernel, by decide +kernel, xa_133⟩
set_option maxRecDepth 100000 in
theorem xa_134 : xAR (xRow RX11 cX11_isOver 2 (some .boolean) xp_134) xw_134 := by
  unfold xw_134
  exact xcn (rO (s_aload_n (k := 0) (by decide +kernel))) <|
    xcn (rO (s_iload_n (k := 1) (by decide +kernel))) <|
    xcn (rC (s_cV (index := 64) wb_122 wm_X11_64 (by decide +kernel))) <|
    xcn (rO (s_iconst (n := 2) (by decide +kernel) (by decide))) <|
    xcn (rJ (s_ic_eq (off := 21) (by decide +kernel) (by decide +kernel) (by decide +kernel))) <|
    xcn (rO (s_aload_n (k := 0) (by decide +kernel))) <|
    xcn (rO (s_iload_n (k := 1) (by decide +kernel))) <|
    xcn (rC (s_cV (index := 90) wb_133 wm_X11_90 (by decide +kernel))) <|
    xcn (rO (s_aload_n (k := 0) (by decide +kernel))) <|
    xcn (rO (s_iload_n (k := 1) (by decide +kernel))) <|
    xcn (rO (s_iconst (n := 1) (by decide +kernel) (by decide))) <|
    xcn (rC (s_cV (index := 57) wb_120 wm_X11_57 (by decide +kernel))) <|
    xcn (rJ (s_ic_le (off := 7) (by decide +kernel) (by decide +kernel) (by decide +kernel))) <|
    xcn (rO (s_iconst (n := 1) (by decide +kernel) (by decide))) <|
    xcn (rJ (s_goto (off := 4) (by decide +kernel) (by decide +kernel))) <|
    xcn (rO (s_iconst (n := 0) (by decide +kernel) (by decide))) <|
    xcn (rR (s_ret2 (by decide +kernel))) <| xnl
theorem xv_134 : xMd (xw_134, xp_134, yX11_isOver, cX11_isOver, 2, some .boolean) := ⟨by decide +kernel, rfl, by decide +kernel, by decide +kernel, xa_134⟩
set_option maxRecDepth 100000 in
theorem xa_135 : xAR (xRow RX11 cX11_over 3 (some .int) xp_135) xw_135 := by
  unfold xw_135
  exact xcn (rO (s_iconst (n := 0) (by decide +kernel) (by decide))) <|
    xcn (rO (s_istore_n (k := 1) (by decide) (by decide +kernel))) <|
    xcn (rO (s_aload_n (k := 0) (by decide +kernel))) <|
    xcn (rC (s_cV (index := 80) wb_130 wm_X11_80 (by decide +kernel))) <|
    xcn (rO (s_iconst (n := 0) (by decide +kernel) (by decide))) <|
    xcn (rO (s_istore_n (k := 2) (by decide) (by decide +kernel))) <|
    xcn (rO s_fgt) <|
    xcn (rO (s_iload_n (k := 2) (by decide +kernel))) <|
    xcn (rO (s_aload_n (k := 0) (by decide +kernel))) <|
    xcn (rO (s_get (T := TX11) (N := 17) (index := 7) x_iw11 rfl (by decide) wf_X11_7 rfl (by decide +kernel))) <|
    xcn (rO (s_iconst (n := 1) (by decide +kernel) (by decide))) <|
    xcn (rO (s_iald (by decide +kernel))) <|
    xcn (rJ (s_ic_ge (off := 27) (by decide +kernel) (by decide +kernel) (by decide +kernel))) <|
    xcn (rO (s_iload_n (k := 1) (by decide +kernel))) <|
    xcn (rO (s_aload_n (k := 0) (by decide +kernel))) <|
    xcn (rO (s_iload_n (k := 2) (by decide +kernel))) <|
    xcn (rC (s_cV (index := 93) wb_134 wm_X11_93 (by decide +kernel))) <|
    xcn (rJ (s_if_eq (off := 9) (by decide +kernel) (by decide +kernel) (by decide +kernel))) <|
    xcn (rO (s_iconst (n := 1) (by decide +kernel) (by decide))) <|
    xcn (rO (s_iload_n (k := 2) (by decide +kernel))) <|
    xcn (rO (s_ishl (by decide +kernel))) <|
    xcn (rJ (s_goto (off := 4) (by decide +kernel) (by decide +kernel))) <|
    xcn (rO (s_iconst (n := 0) (by decide +kernel) (by decide))) <|
    xcn (rO (s_ior (by decide +kernel))) <|
    xcn (rO (s_istore_n (k := 1) (by decide) (by decide +kernel))) <|
    xcn (rO (s_iinc (k := 2) (n := 1) (by decide) (by decide) (by decide +kernel))) <|
    xcn (rJ (s_goto (off := (-31)) (by decide +kernel) (by decide +kernel))) <|
    xcn (rO s_fgt) <|
    xcn (rO (s_iload_n (k := 1) (by decide +kernel))) <|
    xcn (rR (s_ret1 (by decide +kernel))) <| xnl
theorem xv_135 : xMd (xw_135, xp_135, yX11_over, cX11_over, 3, some .int) := ⟨by decide +kernel, rfl, by decide +kernel, by decide +kernel, xa_135⟩
set_option maxRecDepth 100000 in
theorem xa_136 : xAR (xRow RX11 cX11_canArea 2 (some .int) xp_136) xw_136 := by
  unfold xw_136
  exact xcn (rO (s_iload_n (k := 1) (by decide +kernel))) <|
    xcn (rO (s_i2l (by decide +kernel))) <|
    xcn (rO (s_lconst (n := 0) (by decide +kernel) (by decide))) <|
    xcn (rO (s_ldc2 (n := 96) (x_mt 939 (by decide +kernel) rfl) (by decide +kernel))) <|
    xcn (rC (s_cS (index := 53) wb_115 wm_X11_53 (by decide +kernel))) <|
    xcn (rJ (s_if_ne (off := 8) (by decide +kernel) (by decide +kernel) (by decide +kernel))) <|
    xcn (rO (s_bipush (n := (-2)) (by decide +kernel) (by decide))) <|
    xcn (rJ (s_goto (off := 20) (by decide +kernel) (by decide +kernel))) <|
    xcn (rO (s_aload_n (k := 0) (by decide +kernel))) <|
    xcn (rO (s_get (T := TX11) (N := 17) (index := 7) x_iw11 rfl (by decide) wf_X11_7 rfl (by decide +kernel))) <|
    xcn (rO (s_iconst (n := 0) (by decide +kernel) (by decide))) <|
    xcn (rO (s_iald (by decide +kernel))) <|
    xcn (rO (s_bipush (n := 8) (by decide +kernel) (by decide))) <|
    xcn (rJ (s_ic_ne (off := 8) (by decide +kernel) (by decide +kernel) (by decide +kernel))) <|
    xcn (rO (s_bipush (n := (-4)) (by decide +kernel) (by decide))) <|
    xcn (rJ (s_goto (off := 4) (by decide +kernel) (by decide +kernel))) <|
    xcn (rO (s_iconst (n := 0) (by decide +kernel) (by decide))) <|
    xcn (rR (s_ret1 (by decide +kernel))) <| xnl
theorem xv_136 : xMd (xw_136, xp_136, yX11_canArea, cX11_canArea, 2, some .int) := ⟨by decide +kernel, rfl, by decide +kernel, by decide +kernel, xa_136⟩
set_option maxRecDepth 100000 in
theorem xa_137 : xAR (xRow RX11 cX11_areaNow 3 (some .int) xp_137) xw_137 := by
  unfold xw_137
  exact xcn (rO (s_aload_n (k := 0) (by decide +kernel))) <|
    xcn (rO (s_get (T := TX11) (N := 17) (index := 7) x_iw11 rfl (by decide) wf_X11_7 rfl (by decide +kernel))) <|
    xcn (rO (s_iconst (n := 0) (by decide +kernel) (by decide))) <|
    xcn (rO (s_iald (by decide +kernel))) <|
    xcn (rO (s_istore_n (k := 2) (by decide) (by decide +kernel))) <|
    xcn (rO (s_aload_n (k := 0) (by decide +kernel))) <|
    xcn (rO (s_get (T := TX11) (N := 17) (index := 7) x_iw11 rfl (by decide) wf_X11_7 rfl (by decide +kernel))) <|
    xcn (rO (s_bipush (n := 13) (by decide +kernel) (by decide))) <|
    xcn (rO (s_iload_n (k := 2) (by decide +kernel))) <|
    xcn (rO (s_iadd (by decide +kernel))) <|
    xcn (rO (s_iload_n (k := 1) (by decide +kernel))) <|
    xcn (rO (s_iast (by decide +kernel))) <|
    xcn (rO (s_aload_n (k := 0) (by decide +kernel))) <|
    xcn (rO (s_get (T := TX11) (N := 17) (index := 7) x_iw11 rfl (by decide) wf_X11_7 rfl (by decide +kernel))) <|
    xcn (rO (s_bipush (n := 21) (by decide +kernel) (by decide))) <|
    xcn (rO (s_iload_n (k := 2) (by decide +kernel))) <|
    xcn (rO (s_iadd (by decide +kernel))) <|
    xcn (rO (s_iconst (n := 0) (by decide +kernel) (by decide))) <|
    xcn (rO (s_iast (by decide +kernel))) <|
    xcn (rO (s_aload_n (k := 0) (by decide +kernel))) <|
    xcn (rO (s_get (T := TX11) (N := 17) (index := 7) x_iw11 rfl (by decide) wf_X11_7 rfl (by decide +kernel))) <|
    xcn (rO (s_bipush (n := 29) (by decide +kernel) (by decide))) <|
    xcn (rO (s_iload_n (k := 2) (by decide +kernel))) <|
    xcn (rO (s_iadd (by decide +kernel))) <|
    xcn (rO (s_iconst (n := (-1)) (by decide +kernel) (by decide))) <|
    xcn (rO (s_iast (by decide +kernel))) <|
    xcn (rO (s_aload_n (k := 0) (by decide +kernel))) <|
    xcn (rO (s_get (T := TX11) (N := 17) (index := 7) x_iw11 rfl (by decide) wf_X11_7 rfl (by decide +kernel))) <|
    xcn (rO (s_iconst (n := 0) (by decide +kernel) (by decide))) <|
    xcn (rO (s_dup2 (by decide +kernel))) <|
    xcn (rO (s_iald (by decide +kernel))) <|
    xcn (rO (s_iconst (n := 1) (by decide +kernel) (by decide))) <|
    xcn (rO (s_iadd (by decide +kernel))) <|
    xcn (rO (s_iast (by decide +kernel))) <|
    xcn (rO (s_iload_n (k := 2) (by decide +kernel))) <|
    xcn (rR (s_ret1 (by decide +kernel))) <| xnl
theorem xv_137 : xMd (xw_137, xp_137, yX11_areaNow, cX11_areaNow, 3, some .int) := ⟨by decide +kernel, rfl, by decide +kernel, by decide +kernel, xa_137⟩
set_option maxRecDepth 100000 in
theorem xa_138 : xAR (xRow RX11 cX11_area 3 (some .int) xp_138) xw_138 := by
  unfold xw_138
  exact xcn (rO (s_aload_n (k := 0) (by decide +kernel))) <|
    xcn (rO (s_iload_n (k := 1) (by decide +kernel))) <|
    xcn (rC (s_cV (index := 98) wb_136 wm_X11_98 (by decide +kernel))) <|
    xcn (rO (s_istore_n (k := 2) (by decide) (by decide +kernel))) <|
    xcn (rO (s_iload_n (k := 2) (by decide +kernel))) <|
    xcn (rJ (s_if_ge (off := 9) (by decide +kernel) (by decide +kernel) (by decide +kernel))) <|
    xcn (rO (s_aload_n (k := 0) (by decide +kernel))) <|
    xcn (rO (s_iload_n (k := 2) (by decide +kernel))) <|
    xcn (rC (s_cV (index := 101) wb_116 wm_X11_101 (by decide +kernel))) <|
    xcn (rR (s_ret1 (by decide +kernel))) <|
    xcn (rO (s_aload_n (k := 0) (by decide +kernel))) <|
    xcn (rC (s_cV (index := 104) wb_117 wm_X11_104 (by decide +kernel))) <|
    xcn (rO (s_aload_n (k := 0) (by decide +kernel))) <|
    xcn (rO (s_iload_n (k := 1) (by decide +kernel))) <|
    xcn (rC (s_cV (index := 107) wb_137 wm_X11_107 (by decide +kernel))) <|
    xcn (rR (s_ret1 (by decide +kernel))) <| xnl
theorem xv_138 : xMd (xw_138, xp_138, yX11_area, cX11_area, 3, some .int) := ⟨by decide +kernel, rfl, by decide +kernel, by decide +kernel, xa_138⟩
set_option maxRecDepth 100000 in
theorem xa_139 : xAR (xRow RX11 cX11_wants 4 (some .int) xp_139) xw_139 := by
  unfold xw_139
  exact xcn (rO (s_aload_n (k := 0) (by decide +kernel))) <|
    xcn (rO (s_iload_n (k := 1) (by decide +kernel))) <|
    xcn (rC (s_cV (index := 110) wb_118 wm_X11_110 (by decide +kernel))) <|
    xcn (rJ (s_if_eq (off := 15) (by decide +kernel) (by decide +kernel) (by decide +kernel))) <|
    xcn (rO (s_iload_n (k := 2) (by decide +kernel))) <|
    xcn (rO (s_i2l (by decide +kernel))) <|
    xcn (rO (s_lconst (n := 0) (by decide +kernel) (by decide))) <|
    xcn (rO (s_ldc2 (n := 96) (x_mt 939 (by decide +kernel) rfl) (by decide +kernel))) <|
    xcn (rC (s_cS (index := 53) wb_115 wm_X11_53 (by decide +kernel))) <|
    xcn (rJ (s_if_ne (off := 10) (by decide +kernel) (by decide +kernel) (by decide +kernel))) <|
    xcn (rO (s_aload_n (k := 0) (by decide +kernel))) <|
    xcn (rO (s_bipush (n := (-2)) (by decide +kernel) (by decide))) <|
    xcn (rC (s_cV (index := 101) wb_116 wm_X11_101 (by decide +kernel))) <|
    xcn (rR (s_ret1 (by decide +kernel))) <|
    xcn (rO (s_aload_n (k := 0) (by decide +kernel))) <|
    xcn (rC (s_cV (index := 104) wb_117 wm_X11_104 (by decide +kernel))) <|
    xcn (rO (s_aload_n (k := 0) (by decide +kernel))) <|
    xcn (rO (s_get (T := TX11) (N := 17) (index := 7) x_iw11 rfl (by decide) wf_X11_7 rfl (by decide +kernel))) <|
    xcn (rO (s_bipush (n := 13) (by decide +kernel) (by decide))) <|
    xcn (rO (s_iload_n (k := 1) (by decide +kernel))) <|
    xcn (rO (s_iadd (by decide +kernel))) <|
    xcn (rO (s_iald (by decide +kernel))) <|
    xcn (rO (s_istore_n (k := 3) (by decide) (by decide +kernel))) <|
    xcn (rO (s_aload_n (k := 0) (by decide +kernel))) <|
    xcn (rO (s_get (T := TX11) (N := 17) (index := 7) x_iw11 rfl (by decide) wf_X11_7 rfl (by decide +kernel))) <|
    xcn (rO (s_bipush (n := 13) (by decide +kernel) (by decide))) <|
    xcn (rO (s_iload_n (k := 1) (by decide +kernel))) <|
    xcn (rO (s_iadd (by decide +kernel))) <|
    xcn (rO (s_iload_n (k := 2) (by decide +kernel))) <|
    xcn (rO (s_iast (by decide +kernel))) <|
    xcn (rO (s_iload_n (k := 3) (by decide +kernel))) <|
    xcn (rR (s_ret1 (by decide +kernel))) <| xnl
theorem xv_139 : xMd (xw_139, xp_139, yX11_wants, cX11_wants, 4, some .int) := ⟨by decide +kernel, rfl, by decide +kernel, by decide +kernel, xa_139⟩
set_option maxRecDepth 100000 in
theorem xa_140 : xAR (xRow RX11 cX11_canLine 4 (some .int) xp_140) xw_140 := by
  unfold xw_140
  exact xcn (rO (s_aload_n (k := 0) (by decide +kernel))) <|
    xcn (rO (s_iload_n (k := 1) (by decide +kernel))) <|
    xcn (rC (s_cV (index := 110) wb_118 wm_X11_110 (by decide +kernel))) <|
    xcn (rJ (s_if_eq (off := 32) (by decide +kernel) (by decide +kernel) (by decide +kernel))) <|
    xcn (rO (s_aload_n (k := 0) (by decide +kernel))) <|
    xcn (rO (s_iload_n (k := 2) (by decide +kernel))) <|
    xcn (rC (s_cV (index := 110) wb_118 wm_X11_110 (by decide +kernel))) <|
    xcn (rJ (s_if_eq (off := 24) (by decide +kernel) (by decide +kernel) (by decide +kernel))) <|
    xcn (rO (s_iload_n (k := 1) (by decide +kernel))) <|
    xcn (rO (s_iload_n (k := 2) (by decide +kernel))) <|
    xcn (rJ (s_ic_eq (off := 19) (by decide +kernel) (by decide +kernel) (by decide +kernel))) <|
    xcn (rO (s_iload_n (k := 3) (by decide +kernel))) <|
    xcn (rO (s_i2l (by decide +kernel))) <|
    xcn (rO (s_lconst (n := 0) (by decide +kernel) (by decide))) <|
    xcn (rO (s_ldc2 (n := 113) (x_mt 971 (by decide +kernel) rfl) (by decide +kernel))) <|
    xcn (rC (s_cS (index := 53) wb_115 wm_X11_53 (by decide +kernel))) <|
    xcn (rJ (s_if_eq (off := 7) (by decide +kernel) (by decide +kernel) (by decide +kernel))) <|
    xcn (rO (s_iconst (n := 0) (by decide +kernel) (by decide))) <|
    xcn (rJ (s_goto (off := 5) (by decide +kernel) (by decide +kernel))) <|
    xcn (rO (s_bipush (n := (-2)) (by decide +kernel) (by decide))) <|
    xcn (rR (s_ret1 (by decide +kernel))) <| xnl
theorem xv_140 : xMd (xw_140, xp_140, yX11_canLine, cX11_canLine, 4, some .int) := ⟨by decide +kernel, rfl, by decide +kernel, by decide +kernel, xa_140⟩
set_option maxRecDepth 100000 in
theorem xa_141 : xAR (xRow RX11 cX11_lineNow 5 (some .int) xp_141) xw_141 := by
  unfold xw_141
  exact xcn (rO (s_aload_n (k := 0) (by decide +kernel))) <|
    xcn (rO (s_get (T := TX11) (N := 17) (index := 7) x_iw11 rfl (by decide) wf_X11_7 rfl (by decide +kernel))) <|
    xcn (rO (s_bipush (n := 37) (by decide +kernel) (by decide))) <|
    xcn (rO (s_bipush (n := 8) (by decide +kernel) (by decide))) <|
    xcn (rO (s_iload_n (k := 1) (by decide +kernel))) <|
    xcn (rO (s_imul (by decide +kernel))) <|
    xcn (rO (s_iadd (by decide +kernel))) <|
    xcn (rO (s_iload_n (k := 2) (by decide +kernel))) <|
    xcn (rO (s_iadd (by decide +kernel))) <|
    xcn (rO (s_iald (by decide +kernel))) <|
    xcn (rO (s_istore (k := 4) (by decide) (by decide +kernel))) <|
    xcn (rO (s_aload_n (k := 0) (by decide +kernel))) <|
    xcn (rO (s_get (T := TX11) (N := 17) (index := 7) x_iw11 rfl (by decide) wf_X11_7 rfl (by decide +kernel))) <|
    xcn (rO (s_bipush (n := 37) (by decide +kernel) (by decide))) <|
    xcn (rO (s_bipush (n := 8) (by decide +kernel) (by decide))) <|
    xcn (rO (s_iload_n (k := 1) (by decide +kernel))) <|
    xcn (rO (s_imul (by decide +kernel))) <|
    xcn (rO (s_iadd (by decide +kernel))) <|
    xcn (rO (s_iload_n (k := 2) (by decide +kernel))) <|
    xcn (rO (s_iadd (by decide +kernel))) <|
    xcn (rO (s_iload_n (k := 3) (by decide +kernel))) <|
    xcn (rO (s_iast (by decide +kernel))) <|
    xcn (rO (s_aload_n (k := 0) (by decide +kernel))) <|
    xcn (rO (s_get (T := TX11) (N := 17) (index := 7) x_iw11 rfl (by decide) wf_X11_7 rfl (by decide +kernel))) <|
    xcn (rO (s_bipush (n := 37) (by decide +kernel) (by decide))) <|
    xcn (rO (s_bipush (n := 8) (by decide +kernel) (by decide))) <|
    xcn (rO (s_iload_n (k := 2) (by decide +kernel))) <|
    xcn (rO (s_imul (by decide +kernel))) <|
    xcn (rO (s_iadd (by decide +kernel))) <|
    xcn (rO (s_iload_n (k := 1) (by decide +kernel))) <|
    xcn (rO (s_iadd (by decide +kernel))) <|
    xcn (rO (s_iload_n (k := 3) (by decide +kernel))) <|
    xcn (rO (s_iast (by decide +kernel))) <|
    xcn (rO (s_iload (k := 4) (by decide +kernel))) <|
    xcn (rR (s_ret1 (by decide +kernel))) <| xnl
theorem xv_141 : xMd (xw_141, xp_141, yX11_lineNow, cX11_lineNow, 5, some .int) := ⟨by decide +kernel, rfl, by decide +kernel, by decide +kernel, xa_141⟩
set_option maxRecDepth 100000 in
theorem xa_142 : xAR (xRow RX11 cX11_line 5 (some .int) xp_142) xw_142 := by
  unfold xw_142
  exact xcn (rO (s_aload_n (k := 0) (by decide +kernel))) <|
    xcn (rO (s_iload_n (k := 1) (by decide +kernel))) <|
    xcn (rO (s_iload_n (k := 2) (by decide +kernel))) <|
    xcn (rO (s_iload_n (k := 3) (by decide +kernel))) <|
    xcn (rC (s_cV (index := 115) wb_140 wm_X11_115 (by decide +kernel))) <|
    xcn (rO (s_istore (k := 4) (by decide) (by decide +kernel))) <|
    xcn (rO (s_iload (k := 4) (by decide +kernel))) <|
    xcn (rJ (s_if_ge (off := 10) (by decide +kernel) (by decide +kernel) (by decide +kernel))) <|
    xcn (rO (s_aload_n (k := 0) (by decide +kernel))) <|
    xcn (rO (s_iload (k := 4) (by decide +kernel))) <|
    xcn (rC (s_cV (index := 101) wb_116 wm_X11_101 (by decide +kernel))) <|
    xcn (rR (s_ret1 (by decide +kernel))) <|
    xcn (rO (s_aload_n (k := 0) (by decide +kernel))) <|
    xcn (rC (s_cV (index := 104) wb_117 wm_X11_104 (by decide +kernel))) <|
    xcn (rO (s_aload_n (k := 0) (by decide +kernel))) <|
    xcn (rO (s_iload_n (k := 1) (by decide +kernel))) <|
    xcn (rO (s_iload_n (k := 2) (by decide +kernel))) <|
    xcn (rO (s_iload_n (k := 3) (by decide +kernel))) <|
    xcn (rC (s_cV (index := 119) wb_141 wm_X11_119 (by decide +kernel))) <|
    xcn (rR (s_ret1 (by decide +kernel))) <| xnl
theorem xv_142 : xMd (xw_142, xp_142, yX11_line, cX11_line, 5, some .int) := ⟨by decide +kernel, rfl, by decide +kernel, by decide +kernel, xa_142⟩
set_option maxRecDepth 100000 in
theorem xa_143 : xAR (xRow RX11 cX11_canMood 3 (some .int) xp_143) xw_143 := by
  unfold xw_143
  exact xcn (rO (s_aload_n (k := 0) (by decide +kernel))) <|
    xcn (rO (s_iload_n (k := 1) (by decide +kernel))) <|
    xcn (rC (s_cV (index := 110) wb_118 wm_X11_110 (by decide +kernel))) <|
    xcn (rJ (s_if_eq (off := 19) (by decide +kernel) (by decide +kernel) (by decide +kernel))) <|
    xcn (rO (s_iload_n (k := 2) (by decide +kernel))) <|
    xcn (rO (s_i2l (by decide +kernel))) <|
    xcn (rO (s_lconst (n := 0) (by decide +kernel) (by decide))) <|
    xcn (rO (s_ldc2 (n := 122) (x_mt 984 (by decide +kernel) rfl) (by decide +kernel))) <|
    xcn (rC (s_cS (index := 53) wb_115 wm_X11_53 (by decide +kernel))) <|
    xcn (rJ (s_if_eq (off := 7) (by decide +kernel) (by decide +kernel) (by decide +kernel))) <|
    xcn (rO (s_iconst (n := 0) (by decide +kernel) (by decide))) <|
    xcn (rJ (s_goto (off := 5) (by decide +kernel) (by decide +kernel))) <|
    xcn (rO (s_bipush (n := (-2)) (by decide +kernel) (by decide))) <|
    xcn (rR (s_ret1 (by decide +kernel))) <| xnl
theorem xv_143 : xMd (xw_143, xp_143, yX11_canMood, cX11_canMood, 3, some .int) := ⟨by decide +kernel, rfl, by decide +kernel, by decide +kernel, xa_143⟩
set_option maxRecDepth 100000 in
theorem xa_144 : xAR (xRow RX11 cX11_moodNow 4 (some .int) xp_144) xw_144 := by
  unfold xw_144
  exact xcn (rO (s_aload_n (k := 0) (by decide +kernel))) <|
    xcn (rO (s_get (T := TX11) (N := 17) (index := 7) x_iw11 rfl (by decide) wf_X11_7 rfl (by decide +kernel))) <|
    xcn (rO (s_bipush (n := 21) (by decide +kernel) (by decide))) <|
    xcn (rO (s_iload_n (k := 1) (by decide +kernel))) <|
    xcn (rO (s_iadd (by decide +kernel))) <|
    xcn (rO (s_iald (by decide +kernel))) <|
    xcn (rO (s_istore_n (k := 3) (by decide) (by decide +kernel))) <|
    xcn (rO (s_iload_n (k := 2) (by decide +kernel))) <|
    xcn (rO (s_iconst (n := 2) (by decide +kernel) (by decide))) <|
    xcn (rJ (s_ic_ne (off := 26) (by decide +kernel) (by decide +kernel) (by decide +kernel))) <|
    xcn (rO (s_iload_n (k := 3) (by decide +kernel))) <|
    xcn (rO (s_iconst (n := 2) (by decide +kernel) (by decide))) <|
    xcn (rJ (s_ic_eq (off := 21) (by decide +kernel) (by decide +kernel) (by decide +kernel))) <|
    xcn (rO (s_aload_n (k := 0) (by decide +kernel))) <|
    xcn (rC (s_cV (index := 77) wb_126 wm_X11_77 (by decide +kernel))) <|
    xcn (rO (s_aload_n (k := 0) (by decide +kernel))) <|
    xcn (rO (s_get (T := TX11) (N := 17) (index := 7) x_iw11 rfl (by decide) wf_X11_7 rfl (by decide +kernel))) <|
    xcn (rO (s_bipush (n := 29) (by decide +kernel) (by decide))) <|
    xcn (rO (s_iload_n (k := 1) (by decide +kernel))) <|
    xcn (rO (s_iadd (by decide +kernel))) <|
    xcn (rO (s_aload_n (k := 0) (by decide +kernel))) <|
    xcn (rO (s_iload_n (k := 1) (by decide +kernel))) <|
    xcn (rC (s_cV (index := 74) wb_129 wm_X11_74 (by decide +kernel))) <|
    xcn (rO (s_iast (by decide +kernel))) <|
    xcn (rO (s_aload_n (k := 0) (by decide +kernel))) <|
    xcn (rO (s_get (T := TX11) (N := 17) (index := 7) x_iw11 rfl (by decide) wf_X11_7 rfl (by decide +kernel))) <|
    xcn (rO (s_bipush (n := 21) (by decide +kernel) (by decide))) <|
    xcn (rO (s_iload_n (k := 1) (by decide +kernel))) <|
    xcn (rO (s_iadd (by decide +kernel))) <|
    xcn (rO (s_iload_n (k := 2) (by decide +kernel))) <|
    xcn (rO (s_iast (by decide +kernel))) <|
    xcn (rO (s_iload_n (k := 3) (by decide +kernel))) <|
    xcn (rR (s_ret1 (by decide +kernel))) <| xnl
theorem xv_144 : xMd (xw_144, xp_144, yX11_moodNow, cX11_moodNow, 4, some .int) := ⟨by decide +kernel, rfl, by decide +kernel, by decide +kernel, xa_144⟩
set_option maxRecDepth 100000 in
theorem xa_145 : xAR (xRow RX11 cX11_mood 4 (some .int) xp_145) xw_145 := by
  unfold xw_145
  exact xcn (rO (s_aload_n (k := 0) (by decide +kernel))) <|
    xcn (rO (s_iload_n (k := 1) (by decide +kernel))) <|
    xcn (rO (s_iload_n (k := 2) (by decide +kernel))) <|
    xcn (rC (s_cV (index := 124) wb_143 wm_X11_124 (by decide +kernel))) <|
    xcn (rO (s_istore_n (k := 3) (by decide) (by decide +kernel))) <|
    xcn (rO (s_iload_n (k := 3) (by decide +kernel))) <|
    xcn (rJ (s_if_ge (off := 9) (by decide +kernel) (by decide +kernel) (by decide +kernel))) <|
    xcn (rO (s_aload_n (k := 0) (by decide +kernel))) <|
    xcn (rO (s_iload_n (k := 3) (by decide +kernel))) <|
    xcn (rC (s_cV (index := 101) wb_116 wm_X11_101 (by decide +kernel))) <|
    xcn (rR (s_ret1 (by decide +kernel))) <|
    xcn (rO (s_aload_n (k := 0) (by decide +kernel))) <|
    xcn (rC (s_cV (index := 104) wb_117 wm_X11_104 (by decide +kernel))) <|
    xcn (rO (s_aload_n (k := 0) (by decide +kernel))) <|
    xcn (rO (s_iload_n (k := 1) (by decide +kernel))) <|
    xcn (rO (s_iload_n (k := 2) (by decide +kernel))) <|
    xcn (rC (s_cV (index := 127) wb_144 wm_X11_127 (by decide +kernel))) <|
    xcn (rR (s_ret1 (by decide +kernel))) <| xnl
theorem xv_145 : xMd (xw_145, xp_145, yX11_mood, cX11_mood, 4, some .int) := ⟨by decide +kernel, rfl, by decide +kernel, by decide +kernel, xa_145⟩
set_option maxRecDepth 100000 in
theorem xa_146 : xAR (xRow RX11 cX11_canSite 3 (some .int) xp_146) xw_146 := by
  unfold xw_146
  exact xcn (rO (s_aload_n (k := 0) (by decide +kernel))) <|
    xcn (rO (s_iload_n (k := 1) (by decide +kernel))) <|
    xcn (rC (s_cV (index := 110) wb_118 wm_X11_110 (by decide +kernel))) <|
    xcn (rJ (s_if_eq (off := 15) (by decide +kernel) (by decide +kernel) (by decide +kernel))) <|
    xcn (rO (s_iload_n (k := 2) (by decide +kernel))) <|
    xcn (rO (s_i2l (by decide +kernel))) <|
    xcn (rO (s_lconst (n := 0) (by decide +kernel) (by decide))) <|
    xcn (rO (s_ldc2 (n := 130) (x_mt 1025 (by decide +kernel) rfl) (by decide +kernel))) <|
    xcn (rC (s_cS (index := 53) wb_115 wm_X11_53 (by decide +kernel))) <|
    xcn (rJ (s_if_ne (off := 8) (by decide +kernel) (by decide +kernel) (by decide +kernel))) <|
    xcn (rO (s_bipush (n := (-2)) (by decide +kernel) (by decide))) <|
    xcn (rJ (s_goto (off := 19) (by decide +kernel) (by decide +kernel))) <|
    xcn (rO (s_aload_n (k := 0) (by decide +kernel))) <|
    xcn (rO (s_get (T := TX11) (N := 17) (index := 7) x_iw11 rfl (by decide) wf_X11_7 rfl (by decide +kernel))) <|
    xcn (rO (s_iconst (n := 1) (by decide +kernel) (by decide))) <|
    xcn (rO (s_iald (by decide +kernel))) <|
    xcn (rO (s_iconst (n := 5) (by decide +kernel) (by decide))) <|
    xcn (rJ (s_ic_ne (off := 8) (by decide +kernel) (by decide +kernel) (by decide +kernel))) <|
    xcn (rO (s_bipush (n := (-4)) (by decide +kernel) (by decide))) <|
    xcn (rJ (s_goto (off := 4) (by decide +kernel) (by decide +kernel))) <|
    xcn (rO (s_iconst (n := 0) (by decide +kernel) (by decide))) <|
    xcn (rR (s_ret1 (by decide +kernel))) <| xnl
theorem xv_146 : xMd (xw_146, xp_146, yX11_canSite, cX11_canSite, 3, some .int) := ⟨by decide +kernel, rfl, by decide +kernel, by decide +kernel, xa_146⟩
set_option maxRecDepth 100000 in
theorem xa_147 : xAR (xRow RX11 cX11_siteNow 4 (some .int) xp_147) xw_147 := by
  unfold xw_147
  exact xcn (rO (s_aload_n (k := 0) (by decide +kernel))) <|
    xcn (rO (s_get (T := TX11) (N := 17) (index := 7) x_iw11 rfl (by decide) wf_X11_7 rfl (by decide +kernel))) <|
    xcn (rO (s_iconst (n := 1) (by decide +kernel) (by decide))) <|
    xcn (rO (s_iald (by decide +kernel))) <|
    xcn (rO (s_istore_n (k := 3) (by decide) (by decide +kernel))) <|
    xcn (rO (s_aload_n (k := 0) (by decide +kernel))) <|
    xcn (rO (s_get (T := TX11) (N := 17) (index := 7) x_iw11 rfl (by decide) wf_X11_7 rfl (by decide +kernel))) <|
    xcn (rO (s_bipush (n := 101) (by decide +kernel) (by decide))) <|
    xcn (rO (s_iconst (n := 4) (by decide +kernel) (by decide))) <|
    xcn (rO (s_iload_n (k := 3) (by decide +kernel))) <|
    xcn (rO (s_imul (by decide +kernel))) <|
    xcn (rO (s_iadd (by decide +kernel))) <|
    xcn (rO (s_iload_n (k := 1) (by decide +kernel))) <|
    xcn (rO (s_iast (by decide +kernel))) <|
    xcn (rO (s_aload_n (k := 0) (by decide +kernel))) <|
    xcn (rO (s_get (T := TX11) (N := 17) (index := 7) x_iw11 rfl (by decide) wf_X11_7 rfl (by decide +kernel))) <|
    xcn (rO (s_bipush (n := 101) (by decide +kernel) (by decide))) <|
    xcn (rO (s_iconst (n := 4) (by decide +kernel) (by decide))) <|
    xcn (rO (s_iload_n (k := 3) (by decide +kernel))) <|
    xcn (rO (s_imul (by decide +kernel))) <|
    xcn (rO (s_iadd (by decide +kernel))) <|
    xcn (rO (s_iconst (n := 1) (by decide +kernel) (by decide))) <|
    xcn (rO (s_iadd (by decide +kernel))) <|
    xcn (rO (s_iload_n (k := 2) (by decide +kernel))) <|
    xcn (rO (s_iast (by decide +kernel))) <|
    xcn (rO (s_aload_n (k := 0) (by decide +kernel))) <|
    xcn (rO (s_iload_n (k := 3) (by decide +kernel))) <|
    xcn (rO (s_iconst (n := 0) (by decide +kernel) (by decide))) <|
    xcn (rC (s_cV (index := 132) wb_123 wm_X11_132 (by decide +kernel))) <|
    xcn (rO (s_aload_n (k := 0) (by decide +kernel))) <|
    xcn (rO (s_iload_n (k := 3) (by decide +kernel))) <|
    xcn (rO (s_iconst (n := 0) (by decide +kernel) (by decide))) <|
    xcn (rC (s_cV (index := 136) wb_124 wm_X11_136 (by decide +kernel))) <|
    xcn (rO (s_aload_n (k := 0) (by decide +kernel))) <|
    xcn (rO (s_get (T := TX11) (N := 17) (index := 7) x_iw11 rfl (by decide) wf_X11_7 rfl (by decide +kernel))) <|
    xcn (rO (s_iconst (n := 1) (by decide +kernel) (by decide))) <|
    xcn (rO (s_dup2 (by decide +kernel))) <|
    xcn (rO (s_iald (by decide +kernel))) <|
    xcn (rO (s_iconst (n := 1) (by decide +kernel) (by decide))) <|
    xcn (rO (s_iadd (by decide +kernel))) <|
    xcn (rO (s_iast (by decide +kernel))) <|
    xcn (rO (s_iload_n (k := 3) (by decide +kernel))) <|
    xcn (rR (s_ret1 (by decide +kernel))) <| xnl
theorem xv_147 : xMd (xw_147, xp_147, yX11_siteNow, cX11_siteNow, 4, some .int) := ⟨by decide +kernel, rfl, by decide +kernel, by decide +kernel, xa_147⟩
set_option maxRecDepth 100000 in
theorem xa_148 : xAR (xRow RX11 cX11_site 4 (some .int) xp_148) xw_148 := by
  unfold xw_148
  exact xcn (rO (s_aload_n (k := 0) (by decide +kernel))) <|
    xcn (rO (s_iload_n (k := 1) (by decide +kernel))) <|
    xcn (rO (s_iload_n (k := 2) (by decide +kernel))) <|
    xcn (rC (s_cV (index := 139) wb_146 wm_X11_139 (by decide +kernel))) <|
    xcn (rO (s_istore_n (k := 3) (by decide) (by decide +kernel))) <|
    xcn (rO (s_iload_n (k := 3) (by decide +kernel))) <|
    xcn (rJ (s_if_ge (off := 9) (by decide +kernel) (by decide +kernel) (by decide +kernel))) <|
    xcn (rO (s_aload_n (k := 0) (by decide +kernel))) <|
    xcn (rO (s_iload_n (k := 3) (by decide +kernel))) <|
    xcn (rC (s_cV (index := 101) wb_116 wm_X11_101 (by decide +kernel))) <|
    xcn (rR (s_ret1 (by decide +kernel))) <|
    xcn (rO (s_aload_n (k := 0) (by decide +kernel))) <|
    xcn (rC (s_cV (index := 104) wb_117 wm_X11_104 (by decide +kernel))) <|
    xcn (rO (s_aload_n (k := 0) (by decide +kernel))) <|
    xcn (rO (s_iload_n (k := 1) (by decide +kernel))) <|
    xcn (rO (s_iload_n (k := 2) (by decide +kernel))) <|
    xcn (rC (s_cV (index := 142) wb_147 wm_X11_142 (by decide +kernel))) <|
    xcn (rR (s_ret1 (by decide +kernel))) <| xnl
theorem xv_148 : xMd (xw_148, xp_148, yX11_site, cX11_site, 4, some .int) := ⟨by decide +kernel, rfl, by decide +kernel, by decide +kernel, xa_148⟩
set_option maxRecDepth 100000 in
theorem xa_149 : xAR (xRow RX11 cX11_rooms 4 (some .int) xp_149) xw_149 := by
  unfold xw_149
  exact xcn (rO (s_aload_n (k := 0) (by decide +kernel))) <|
    xcn (rO (s_iload_n (k := 1) (by decide +kernel))) <|
    xcn (rC (s_cV (index := 145) wb_119 wm_X11_145 (by decide +kernel))) <|
    xcn (rJ (s_if_eq (off := 15) (by decide +kernel) (by decide +kernel) (by decide +kernel))) <|
    xcn (rO (s_iload_n (k := 2) (by decide +kernel))) <|
    xcn (rO (s_i2l (by decide +kernel))) <|
    xcn (rO (s_lconst (n := 0) (by decide +kernel) (by decide))) <|
    xcn (rO (s_ldc2 (n := 130) (x_mt 1025 (by decide +kernel) rfl) (by decide +kernel))) <|
    xcn (rC (s_cS (index := 53) wb_115 wm_X11_53 (by decide +kernel))) <|
    xcn (rJ (s_if_ne (off := 10) (by decide +kernel) (by decide +kernel) (by decide +kernel))) <|
    xcn (rO (s_aload_n (k := 0) (by decide +kernel))) <|
    xcn (rO (s_bipush (n := (-2)) (by decide +kernel) (by decide))) <|
    xcn (rC (s_cV (index := 101) wb_116 wm_X11_101 (by decide +kernel))) <|
    xcn (rR (s_ret1 (by decide +kernel))) <|
    xcn (rO (s_aload_n (k := 0) (by decide +kernel))) <|
    xcn (rC (s_cV (index := 104) wb_117 wm_X11_104 (by decide +kernel))) <|
    xcn (rO (s_aload_n (k := 0) (by decide +kernel))) <|
    xcn (rO (s_iload_n (k := 1) (by decide +kernel))) <|
    xcn (rO (s_iconst (n := 1) (by decide +kernel) (by decide))) <|
    xcn (rC (s_cV (index := 57) wb_120 wm_X11_57 (by decide +kernel))) <|
    xcn (rO (s_istore_n (k := 3) (by decide) (by decide +kernel))) <|
    xcn (rO (s_aload_n (k := 0) (by decide +kernel))) <|
    xcn (rO (s_get (T := TX11) (N := 17) (index := 7) x_iw11 rfl (by decide) wf_X11_7 rfl (by decide +kernel))) <|
    xcn (rO (s_bipush (n := 101) (by decide +kernel) (by decide))) <|
    xcn (rO (s_iconst (n := 4) (by decide +kernel) (by decide))) <|
    xcn (rO (s_iload_n (k := 1) (by decide +kernel))) <|
    xcn (rO (s_imul (by decide +kernel))) <|
    xcn (rO (s_iadd (by decide +kernel))) <|
    xcn (rO (s_iconst (n := 1) (by decide +kernel) (by decide))) <|
    xcn (rO (s_iadd (by decide +kernel))) <|
    xcn (rO (s_iload_n (k := 2) (by decide +kernel))) <|
    xcn (rO (s_iast (by decide +kernel))) <|
    xcn (rO (s_iload_n (k := 3) (by decide +kernel))) <|
    xcn (rR (s_ret1 (by decide +kernel))) <| xnl
theorem xv_149 : xMd (xw_149, xp_149, yX11_rooms, cX11_rooms, 4, some .int) := ⟨by decide +kernel, rfl, by decide +kernel, by decide +kernel, xa_149⟩
set_option maxRecDepth 100000 in
theorem xa_150 : xAR (xRow RX11 cX11_canStep 3 (some .int) xp_150) xw_150 := by
  unfold xw_150
  exact xcn (rO (s_aload_n (k := 0) (by decide +kernel))) <|
    xcn (rO (s_iload_n (k := 1) (by decide +kernel))) <|
    xcn (rC (s_cV (index := 145) wb_119 wm_X11_145 (by decide +kernel))) <|
    xcn (rJ (s_if_eq (off := 15) (by decide +kernel) (by decide +kernel) (by decide +kernel))) <|
    xcn (rO (s_iload_n (k := 2) (by decide +kernel))) <|
    xcn (rO (s_i2l (by decide +kernel))) <|
    xcn (rO (s_lconst (n := 0) (by decide +kernel) (by decide))) <|
    xcn (rO (s_ldc2 (n := 148) (x_mt 1054 (by decide +kernel) rfl) (by decide +kernel))) <|
    xcn (rC (s_cS (index := 53) wb_115 wm_X11_53 (by decide +kernel))) <|
    xcn (rJ (s_if_ne (off := 8) (by decide +kernel) (by decide +kernel) (by decide +kernel))) <|
    xcn (rO (s_bipush (n := (-2)) (by decide +kernel) (by decide))) <|
    xcn (rJ (s_goto (off := 17) (by decide +kernel) (by decide +kernel))) <|
    xcn (rO (s_aload_n (k := 0) (by decide +kernel))) <|
    xcn (rO (s_iload_n (k := 1) (by decide +kernel))) <|
    xcn (rC (s_cV (index := 64) wb_122 wm_X11_64 (by decide +kernel))) <|
    xcn (rJ (s_if_ne (off := 7) (by decide +kernel) (by decide +kernel) (by decide +kernel))) <|
    xcn (rO (s_iconst (n := 0) (by decide +kernel) (by decide))) <|
    xcn (rJ (s_goto (off := 5) (by decide +kernel) (by decide +kernel))) <|
    xcn (rO (s_bipush (n := (-3)) (by decide +kernel) (by decide))) <|
    xcn (rR (s_ret1 (by decide +kernel))) <| xnl
theorem xv_150 : xMd (xw_150, xp_150, yX11_canStep, cX11_canStep, 3, some .int) := ⟨by decide +kernel, rfl, by decide +kernel, by decide +kernel, xa_150⟩
set_option maxRecDepth 100000 in
theorem xa_151 : xAR (xRow RX11 cX11_stepNow 4 (some .int) xp_151) xw_151 := by
  unfold xw_151
  exact xcn (rO (s_aload_n (k := 0) (by decide +kernel))) <|
    xcn (rO (s_iload_n (k := 1) (by decide +kernel))) <|
    xcn (rC (s_cV (index := 68) wb_121 wm_X11_68 (by decide +kernel))) <|
    xcn (rO (s_istore_n (k := 3) (by decide) (by decide +kernel))) <|
    xcn (rO (s_aload_n (k := 0) (by decide +kernel))) <|
    xcn (rO (s_iload_n (k := 1) (by decide +kernel))) <|
    xcn (rO (s_iload_n (k := 2) (by decide +kernel))) <|
    xcn (rC (s_cV (index := 132) wb_123 wm_X11_132 (by decide +kernel))) <|
    xcn (rO (s_iload_n (k := 3) (by decide +kernel))) <|
    xcn (rR (s_ret1 (by decide +kernel))) <| xnl
theorem xv_151 : xMd (xw_151, xp_151, yX11_stepNow, cX11_stepNow, 4, some .int) := ⟨by decide +kernel, rfl, by decide +kernel, by decide +kernel, xa_151⟩
set_option maxRecDepth 100000 in
theorem xa_152 : xAR (xRow RX11 cX11_steps 4 (some .int) xp_152) xw_152 := by
  unfold xw_152
  exact xcn (rO (s_aload_n (k := 0) (by decide +kernel))) <|
    xcn (rO (s_iload_n (k := 1) (by decide +kernel))) <|
    xcn (rO (s_iload_n (k := 2) (by decide +kernel))) <|
    xcn (rC (s_cV (index := 150) wb_150 wm_X11_150 (by decide +kernel))) <|
    xcn (rO (s_istore_n (k := 3) (by decide) (by decide +kernel))) <|
    xcn (rO (s_iload_n (k := 3) (by decide +kernel))) <|
    xcn (rJ (s_if_ge (off := 9) (by decide +kernel) (by decide +kernel) (by decide +kernel))) <|
    xcn (rO (s_aload_n (k := 0) (by decide +kernel))) <|
    xcn (rO (s_iload_n (k := 3) (by decide +kernel))) <|
    xcn (rC (s_cV (index := 101) wb_116 wm_X11_101 (by decide +kernel))) <|
    xcn (rR (s_ret1 (by decide +kernel))) <|
    xcn (rO (s_aload_n (k := 0) (by decide +kernel))) <|
    xcn (rC (s_cV (index := 104) wb_117 wm_X11_104 (by decide +kernel))) <|
    xcn (rO (s_aload_n (k := 0) (by decide +kernel))) <|
    xcn (rO (s_iload_n (k := 1) (by decide +kernel))) <|
    xcn (rO (s_iload_n (k := 2) (by decide +kernel))) <|
    xcn (rC (s_cV (index := 153) wb_151 wm_X11_153 (by decide +kernel))) <|
    xcn (rR (s_ret1 (by decide +kernel))) <| xnl
theorem xv_152 : xMd (xw_152, xp_152, yX11_steps, cX11_steps, 4, some .int) := ⟨by decide +kernel, rfl, by decide +kernel, by decide +kernel, xa_152⟩
set_option maxRecDepth 100000 in
theorem xa_153 : xAR (xRow RX11 cX11_canDrain 2 (some .int) xp_153) xw_153 := by
  unfold xw_153
  exact xcn (rO (s_aload_n (k := 0) (by decide +kernel))) <|
    xcn (rO (s_iload_n (k := 1) (by decide +kernel))) <|
    xcn (rC (s_cV (index := 145) wb_119 wm_X11_145 (by decide +kernel))) <|
    xcn (rJ (s_if_ne (off := 8) (by decide +kernel) (by decide +kernel) (by decide +kernel))) <|
    xcn (rO (s_bipush (n := (-2)) (by decide +kernel) (by decide))) <|
    xcn (rJ (s_goto (off := 17) (by decide +kernel) (by decide +kernel))) <|
    xcn (rO (s_aload_n (k := 0) (by decide +kernel))) <|
    xcn (rO (s_iload_n (k := 1) (by decide +kernel))) <|
    xcn (rC (s_cV (index := 64) wb_122 wm_X11_64 (by decide +kernel))) <|
    xcn (rJ (s_if_ne (off := 7) (by decide +kernel) (by decide +kernel) (by decide +kernel))) <|
    xcn (rO (s_iconst (n := 0) (by decide +kernel) (by decide))) <|
    xcn (rJ (s_goto (off := 5) (by decide +kernel) (by decide +kernel))) <|
    xcn (rO (s_bipush (n := (-3)) (by decide +kernel) (by decide))) <|
    xcn (rR (s_ret1 (by decide +kernel))) <| xnl
theorem xv_153 : xMd (xw_153, xp_153, yX11_canDrain, cX11_canDrain, 2, some .int) := ⟨by decide +kernel, rfl, by decide +kernel, by decide +kernel, xa_153⟩
set_option maxRecDepth 100000 in
theorem xa_154 : xAR (xRow RX11 cX11_drainNow 2 (some .int) xp_154) xw_154 := by
  unfold xw_154
  exact xcn (rO (s_aload_n (k := 0) (by decide +kernel))) <|
    xcn (rO (s_iload_n (k := 1) (by decide +kernel))) <|
    xcn (rO (s_iconst (n := 1) (by decide +kernel) (by decide))) <|
    xcn (rC (s_cV (index := 136) wb_124 wm_X11_136 (by decide +kernel))) <|
    xcn (rO (s_aload_n (k := 0) (by decide +kernel))) <|
    xcn (rO (s_get (T := TX11) (N := 17) (index := 7) x_iw11 rfl (by decide) wf_X11_7 rfl (by decide +kernel))) <|
    xcn (rO (s_bipush (n := 8) (by decide +kernel) (by decide))) <|
    xcn (rO (s_aload_n (k := 0) (by decide +kernel))) <|
    xcn (rO (s_get (T := TX11) (N := 17) (index := 7) x_iw11 rfl (by decide) wf_X11_7 rfl (by decide +kernel))) <|
    xcn (rO (s_bipush (n := 7) (by decide +kernel) (by decide))) <|
    xcn (rO (s_iald (by decide +kernel))) <|
    xcn (rO (s_iadd (by decide +kernel))) <|
    xcn (rO (s_iload_n (k := 1) (by decide +kernel))) <|
    xcn (rO (s_iast (by decide +kernel))) <|
    xcn (rO (s_aload_n (k := 0) (by decide +kernel))) <|
    xcn (rO (s_get (T := TX11) (N := 17) (index := 7) x_iw11 rfl (by decide) wf_X11_7 rfl (by decide +kernel))) <|
    xcn (rO (s_bipush (n := 7) (by decide +kernel) (by decide))) <|
    xcn (rO (s_dup2 (by decide +kernel))) <|
    xcn (rO (s_iald (by decide +kernel))) <|
    xcn (rO (s_iconst (n := 1) (by decide +kernel) (by decide))) <|
    xcn (rO (s_iadd (by decide +kernel))) <|
    xcn (rO (s_iast (by decide +kernel))) <|
    xcn (rO (s_aload_n (k := 0) (by decide +kernel))) <|
    xcn (rO (s_get (T := TX11) (N := 17) (index := 7) x_iw11 rfl (by decide) wf_X11_7 rfl (by decide +kernel))) <|
    xcn (rO (s_bipush (n := 7) (by decide +kernel) (by decide))) <|
    xcn (rO (s_iald (by decide +kernel))) <|
    xcn (rR (s_ret1 (by decide +kernel))) <| xnl
theorem xv_154 : xMd (xw_154, xp_154, yX11_drainNow, cX11_drainNow, 2, some .int) := ⟨by decide +kernel, rfl, by decide +kernel, by decide +kernel, xa_154⟩
set_option maxRecDepth 100000 in
theorem xa_155 : xAR (xRow RX11 cX11_drains 3 (some .int) xp_155) xw_155 := by
  unfold xw_155
  exact xcn (rO (s_aload_n (k := 0) (by decide +kernel))) <|
    xcn (rO (s_iload_n (k := 1) (by decide +kernel))) <|
    xcn (rC (s_cV (index := 156) wb_153 wm_X11_156 (by decide +kernel))) <|
    xcn (rO (s_istore_n (k := 2) (by decide) (by decide +kernel))) <|
    xcn (rO (s_iload_n (k := 2) (by decide +kernel))) <|
    xcn (rJ (s_if_ge (off := 9) (by decide +kernel) (by decide +kernel) (by decide +kernel))) <|
    xcn (rO (s_aload_n (k := 0) (by decide +kernel))) <|
    xcn (rO (s_iload_n (k := 2) (by decide +kernel))) <|
    xcn (rC (s_cV (index := 101) wb_116 wm_X11_101 (by decide +kernel))) <|
    xcn (rR (s_ret1 (by decide +kernel))) <|
    xcn (rO (s_aload_n (k := 0) (by decide +kernel))) <|
    xcn (rC (s_cV (index := 104) wb_117 wm_X11_104 (by decide +kernel))) <|
    xcn (rO (s_aload_n (k := 0) (by decide +kernel))) <|
    xcn (rO (s_iload_n (k := 1) (by decide +kernel))) <|
    xcn (rC (s_cV (index := 159) wb_154 wm_X11_159 (by decide +kernel))) <|
    xcn (rR (s_ret1 (by decide +kernel))) <| xnl
theorem xv_155 : xMd (xw_155, xp_155, yX11_drains, cX11_drains, 3, some .int) := ⟨by decide +kernel, rfl, by decide +kernel, by decide +kernel, xa_155⟩
set_option maxRecDepth 100000 in
theorem xa_156 : xAR (xRow RX11 cX11_placeOf 3 (some .int) xp_156) xw_156 := by
  unfold xw_156
  exact xcn (rO (s_iconst (n := 0) (by decide +kernel) (by decide))) <|
    xcn (rO (s_istore_n (k := 2) (by decide) (by decide +kernel))) <|
    xcn (rO s_fgt) <|
    xcn (rO (s_iload_n (k := 2) (by decide +kernel))) <|
    xcn (rO (s_aload_n (k := 0) (by decide +kernel))) <|
    xcn (rO (s_get (T := TX11) (N := 17) (index := 7) x_iw11 rfl (by decide) wf_X11_7 rfl (by decide +kernel))) <|
    xcn (rO (s_bipush (n := 7) (by decide +kernel) (by decide))) <|
    xcn (rO (s_iald (by decide +kernel))) <|
    xcn (rJ (s_ic_ge (off := 24) (by decide +kernel) (by decide +kernel) (by decide +kernel))) <|
    xcn (rO (s_aload_n (k := 0) (by decide +kernel))) <|
    xcn (rO (s_get (T := TX11) (N := 17) (index := 7) x_iw11 rfl (by decide) wf_X11_7 rfl (by decide +kernel))) <|
    xcn (rO (s_bipush (n := 8) (by decide +kernel) (by decide))) <|
    xcn (rO (s_iload_n (k := 2) (by decide +kernel))) <|
    xcn (rO (s_iadd (by decide +kernel))) <|
    xcn (rO (s_iald (by decide +kernel))) <|
    xcn (rO (s_iload_n (k := 1) (by decide +kernel))) <|
    xcn (rJ (s_ic_ne (off := 5) (by decide +kernel) (by decide +kernel) (by decide +kernel))) <|
    xcn (rO s_fgt) <|
    xcn (rO (s_iload_n (k := 2) (by decide +kernel))) <|
    xcn (rR (s_ret1 (by decide +kernel))) <|
    xcn (rO (s_iinc (k := 2) (n := 1) (by decide) (by decide) (by decide +kernel))) <|
    xcn (rJ (s_goto (off := (-29)) (by decide +kernel) (by decide +kernel))) <|
    xcn (rO s_fgt) <|
    xcn (rO (s_iconst (n := (-1)) (by decide +kernel) (by decide))) <|
    xcn (rR (s_ret1 (by decide +kernel))) <| xnl
theorem xv_156 : xMd (xw_156, xp_156, yX11_placeOf, cX11_placeOf, 3, some .int) := ⟨by decide +kernel, rfl, by decide +kernel, by decide +kernel, xa_156⟩
set_option maxRecDepth 100000 in
theorem xa_157 : xAR (xRow RX11 cX11_leavesQueue 4 (none) xp_157) xw_157 := by
  unfold xw_157
  exact xcn (rO (s_aload_n (k := 0) (by decide +kernel))) <|
    xcn (rO (s_iload_n (k := 1) (by decide +kernel))) <|
    xcn (rC (s_cV (index := 162) wb_156 wm_X11_162 (by decide +kernel))) <|
    xcn (rO (s_istore_n (k := 2) (by decide) (by decide +kernel))) <|
    xcn (rO (s_iload_n (k := 2) (by decide +kernel))) <|
    xcn (rO (s_iconst (n := (-1)) (by decide +kernel) (by decide))) <|
    xcn (rJ (s_ic_eq (off := 53) (by decide +kernel) (by decide +kernel) (by decide +kernel))) <|
    xcn (rO (s_aload_n (k := 0) (by decide +kernel))) <|
    xcn (rO (s_get (T := TX11) (N := 17) (index := 7) x_iw11 rfl (by decide) wf_X11_7 rfl (by decide +kernel))) <|
    xcn (rO (s_bipush (n := 7) (by decide +kernel) (by decide))) <|
    xcn (rO (s_dup2 (by decide +kernel))) <|
    xcn (rO (s_iald (by decide +kernel))) <|
    xcn (rO (s_iconst (n := 1) (by decide +kernel) (by decide))) <|
    xcn (rO (s_isub (by decide +kernel))) <|
    xcn (rO (s_iast (by decide +kernel))) <|
    xcn (rO (s_iload_n (k := 2) (by decide +kernel))) <|
    xcn (rO (s_istore_n (k := 3) (by decide) (by decide +kernel))) <|
    xcn (rO s_fgt) <|
    xcn (rO (s_iload_n (k := 3) (by decide +kernel))) <|
    xcn (rO (s_aload_n (k := 0) (by decide +kernel))) <|
    xcn (rO (s_get (T := TX11) (N := 17) (index := 7) x_iw11 rfl (by decide) wf_X11_7 rfl (by decide +kernel))) <|
    xcn (rO (s_bipush (n := 7) (by decide +kernel) (by decide))) <|
    xcn (rO (s_iald (by decide +kernel))) <|
    xcn (rJ (s_ic_ge (off := 29) (by decide +kernel) (by decide +kernel) (by decide +kernel))) <|
    xcn (rO (s_aload_n (k := 0) (by decide +kernel))) <|
    xcn (rO (s_get (T := TX11) (N := 17) (index := 7) x_iw11 rfl (by decide) wf_X11_7 rfl (by decide +kernel))) <|
    xcn (rO (s_bipush (n := 8) (by decide +kernel) (by decide))) <|
    xcn (rO (s_iload_n (k := 3) (by decide +kernel))) <|
    xcn (rO (s_iadd (by decide +kernel))) <|
    xcn (rO (s_aload_n (k := 0) (by decide +kernel))) <|
    xcn (rO (s_get (T := TX11) (N := 17) (index := 7) x_iw11 rfl (by decide) wf_X11_7 rfl (by decide +kernel))) <|
    xcn (rO (s_bipush (n := 8) (by decide +kernel) (by decide))) <|
    xcn (rO (s_iload_n (k := 3) (by decide +kernel))) <|
    xcn (rO (s_iadd (by decide +kernel))) <|
    xcn (rO (s_iconst (n := 1) (by decide +kernel) (by decide))) <|
    xcn (rO (s_iadd (by decide +kernel))) <|
    xcn (rO (s_iald (by decide +kernel))) <|
    xcn (rO (s_iast (by decide +kernel))) <|
    xcn (rO (s_iinc (k := 3) (n := 1) (by decide) (by decide) (by decide +kernel))) <|
    xcn (rJ (s_goto (off := (-34)) (by decide +kernel) (by decide +kernel))) <|
    xcn (rO s_fgt) <|
    xcn (rR (s_ret0 (by decide +kernel))) <| xnl
theorem xv_157 : xMd (xw_157, xp_157, yX11_leavesQueue, cX11_leavesQueue, 4, none) := ⟨by decide +kernel, rfl, by decide +kernel, by decide +kernel, xa_157⟩
set_option maxRecDepth 100000 in
theorem xa_158 : xAR (xRow RX11 cX11_goesOff 2 (none) xp_158) xw_158 := by
  unfold xw_158
  exact xcn (rO (s_aload_n (k := 0) (by decide +kernel))) <|
    xcn (rO (s_iload_n (k := 1) (by decide +kernel))) <|
    xcn (rO (s_iconst (n := 2) (by decide +kernel) (by decide))) <|
    xcn (rC (s_cV (index := 136) wb_124 wm_X11_136 (by decide +kernel))) <|
    xcn (rO (s_aload_n (k := 0) (by decide +kernel))) <|
    xcn (rO (s_iload_n (k := 1) (by decide +kernel))) <|
    xcn (rO (s_iconst (n := 0) (by decide +kernel) (by decide))) <|
    xcn (rC (s_cV (index := 132) wb_123 wm_X11_132 (by decide +kernel))) <|
    xcn (rO (s_aload_n (k := 0) (by decide +kernel))) <|
    xcn (rO (s_iload_n (k := 1) (by decide +kernel))) <|
    xcn (rC (s_cV (index := 165) wb_157 wm_X11_165 (by decide +kernel))) <|
    xcn (rR (s_ret0 (by decide +kernel))) <| xnl
theorem xv_158 : xMd (xw_158, xp_158, yX11_goesOff, cX11_goesOff, 2, none) := ⟨by decide +kernel, rfl, by decide +kernel, by decide +kernel, xa_158⟩
set_option maxRecDepth 100000 in
theorem xa_159 : xAR (xRow RX11 cX11_cutNow 2 (some .int) xp_159) xw_159 := by
  unfold xw_159
  exact xcn (rO (s_aload_n (k := 0) (by decide +kernel))) <|
    xcn (rO (s_iload_n (k := 1) (by decide +kernel))) <|
    xcn (rC (s_cV (index := 64) wb_122 wm_X11_64 (by decide +kernel))) <|
    xcn (rO (s_iconst (n := 2) (by decide +kernel) (by decide))) <|
    xcn (rJ (s_ic_ne (off := 18) (by decide +kernel) (by decide +kernel) (by decide +kernel))) <|
    xcn (rO (s_aload_n (k := 0) (by decide +kernel))) <|
    xcn (rO (s_iload_n (k := 1) (by decide +kernel))) <|
    xcn (rO (s_iconst (n := 0) (by decide +kernel) (by decide))) <|
    xcn (rC (s_cV (index := 136) wb_124 wm_X11_136 (by decide +kernel))) <|
    xcn (rO (s_aload_n (k := 0) (by decide +kernel))) <|
    xcn (rO (s_iload_n (k := 1) (by decide +kernel))) <|
    xcn (rO (s_iconst (n := 0) (by decide +kernel) (by decide))) <|
    xcn (rC (s_cV (index := 132) wb_123 wm_X11_132 (by decide +kernel))) <|
    xcn (rJ (s_goto (off := 8) (by decide +kernel) (by decide +kernel))) <|
    xcn (rO (s_aload_n (k := 0) (by decide +kernel))) <|
    xcn (rO (s_iload_n (k := 1) (by decide +kernel))) <|
    xcn (rC (s_cV (index := 169) wb_158 wm_X11_169 (by decide +kernel))) <|
    xcn (rO (s_aload_n (k := 0) (by decide +kernel))) <|
    xcn (rO (s_iload_n (k := 1) (by decide +kernel))) <|
    xcn (rC (s_cV (index := 64) wb_122 wm_X11_64 (by decide +kernel))) <|
    xcn (rR (s_ret1 (by decide +kernel))) <| xnl
theorem xv_159 : xMd (xw_159, xp_159, yX11_cutNow, cX11_cutNow, 2, some .int) := ⟨by decide +kernel, rfl, by decide +kernel, by decide +kernel, xa_159⟩
set_option maxRecDepth 100000 in
theorem xa_160 : xAR (xRow RX11 cX11_cuts 2 (some .int) xp_160) xw_160 := by
  unfold xw_160
  exact xcn (rO (s_aload_n (k := 0) (by decide +kernel))) <|
    xcn (rO (s_iload_n (k := 1) (by decide +kernel))) <|
    xcn (rC (s_cV (index := 145) wb_119 wm_X11_145 (by decide +kernel))) <|
    xcn (rJ (s_if_ne (off := 10) (by decide +kernel) (by decide +kernel) (by decide +kernel))) <|
    xcn (rO (s_aload_n (k := 0) (by decide +kernel))) <|
    xcn (rO (s_bipush (n := (-2)) (by decide +kernel) (by decide))) <|
    xcn (rC (s_cV (index := 101) wb_116 wm_X11_101 (by decide +kernel))) <|
    xcn (rR (s_ret1 (by decide +kernel))) <|
    xcn (rO (s_aload_n (k := 0) (by decide +kernel))) <|
    xcn (rC (s_cV (index := 104) wb_117 wm_X11_104 (by decide +kernel))) <|
    xcn (rO (s_aload_n (k := 0) (by decide +kernel))) <|
    xcn (rO (s_iload_n (k := 1) (by decide +kernel))) <|
    xcn (rC (s_cV (index := 172) wb_159 wm_X11_172 (by decide +kernel))) <|
    xcn (rR (s_ret1 (by decide +kernel))) <| xnl
theorem xv_160 : xMd (xw_160, xp_160, yX11_cuts, cX11_cuts, 2, some .int) := ⟨by decide +kernel, rfl, by decide +kernel, by decide +kernel, xa_160⟩
set_option maxRecDepth 100000 in
theorem xa_161 : xAR (xRow RX11 cX11_far 3 (some .int) xp_161) xw_161 := by
  unfold xw_161
  exact xcn (rO (s_aload_n (k := 0) (by decide +kernel))) <|
    xcn (rO (s_iload_n (k := 1) (by decide +kernel))) <|
    xcn (rC (s_cV (index := 110) wb_118 wm_X11_110 (by decide +kernel))) <|
    xcn (rJ (s_if_eq (off := 11) (by decide +kernel) (by decide +kernel) (by decide +kernel))) <|
    xcn (rO (s_aload_n (k := 0) (by decide +kernel))) <|
    xcn (rO (s_iload_n (k := 2) (by decide +kernel))) <|
    xcn (rC (s_cV (index := 110) wb_118 wm_X11_110 (by decide +kernel))) <|
    xcn (rJ (s_if_ne (off := 10) (by decide +kernel) (by decide +kernel) (by decide +kernel))) <|
    xcn (rO (s_aload_n (k := 0) (by decide +kernel))) <|
    xcn (rO (s_bipush (n := (-2)) (by decide +kernel) (by decide))) <|
    xcn (rC (s_cV (index := 101) wb_116 wm_X11_101 (by decide +kernel))) <|
    xcn (rR (s_ret1 (by decide +kernel))) <|
    xcn (rO (s_aload_n (k := 0) (by decide +kernel))) <|
    xcn (rC (s_cV (index := 77) wb_126 wm_X11_77 (by decide +kernel))) <|
    xcn (rO (s_aload_n (k := 0) (by decide +kernel))) <|
    xcn (rO (s_iload_n (k := 1) (by decide +kernel))) <|
    xcn (rO (s_iload_n (k := 2) (by decide +kernel))) <|
    xcn (rC (s_cV (index := 61) wb_127 wm_X11_61 (by decide +kernel))) <|
    xcn (rR (s_ret1 (by decide +kernel))) <| xnl
theorem xv_161 : xMd (xw_161, xp_161, yX11_far, cX11_far, 3, some .int) := ⟨by decide +kernel, rfl, by decide +kernel, by decide +kernel, xa_161⟩
set_option maxRecDepth 100000 in
theorem xa_162 : xAR (xRow RX11 cX11_ofNow 5 (some .int) xp_162) xw_162 := by
  unfold xw_162
  exact xcn (rO (s_aload_n (k := 0) (by decide +kernel))) <|
    xcn (rC (s_cV (index := 175) wb_131 wm_X11_175 (by decide +kernel))) <|
    xcn (rO (s_iconst (n := 0) (by decide +kernel) (by decide))) <|
    xcn (rO (s_istore_n (k := 3) (by decide) (by decide +kernel))) <|
    xcn (rO (s_iconst (n := 0) (by decide +kernel) (by decide))) <|
    xcn (rO (s_istore (k := 4) (by decide) (by decide +kernel))) <|
    xcn (rO s_fgt) <|
    xcn (rO (s_iload (k := 4) (by decide +kernel))) <|
    xcn (rO (s_aload_n (k := 0) (by decide +kernel))) <|
    xcn (rO (s_get (T := TX11) (N := 17) (index := 7) x_iw11 rfl (by decide) wf_X11_7 rfl (by decide +kernel))) <|
    xcn (rO (s_iconst (n := 1) (by decide +kernel) (by decide))) <|
    xcn (rO (s_iald (by decide +kernel))) <|
    xcn (rJ (s_ic_ge (off := 33) (by decide +kernel) (by decide +kernel) (by decide +kernel))) <|
    xcn (rO (s_iload_n (k := 2) (by decide +kernel))) <|
    xcn (rO (s_iconst (n := 4) (by decide +kernel) (by decide))) <|
    xcn (rJ (s_ic_ne (off := 28) (by decide +kernel) (by decide +kernel) (by decide +kernel))) <|
    xcn (rO (s_iload_n (k := 3) (by decide +kernel))) <|
    xcn (rO (s_aload_n (k := 0) (by decide +kernel))) <|
    xcn (rO (s_iload_n (k := 1) (by decide +kernel))) <|
    xcn (rO (s_iload (k := 4) (by decide +kernel))) <|
    xcn (rC (s_cV (index := 71) wb_128 wm_X11_71 (by decide +kernel))) <|
    xcn (rO (s_iconst (n := (-1)) (by decide +kernel) (by decide))) <|
    xcn (rJ (s_ic_ne (off := 7) (by decide +kernel) (by decide +kernel) (by decide +kernel))) <|
    xcn (rO (s_iconst (n := 0) (by decide +kernel) (by decide))) <|
    xcn (rJ (s_goto (off := 4) (by decide +kernel) (by decide +kernel))) <|
    xcn (rO (s_iconst (n := 1) (by decide +kernel) (by decide))) <|
    xcn (rO (s_iadd (by decide +kernel))) <|
    xcn (rO (s_istore_n (k := 3) (by decide) (by decide +kernel))) <|
    xcn (rO (s_iinc (k := 4) (n := 1) (by decide) (by decide) (by decide +kernel))) <|
    xcn (rJ (s_goto (off := (-38)) (by decide +kernel) (by decide +kernel))) <|
    xcn (rO s_fgt) <|
    xcn (rO (s_iconst (n := 0) (by decide +kernel) (by decide))) <|
    xcn (rO (s_istore (k := 4) (by decide) (by decide +kernel))) <|
    xcn (rO s_fgt) <|
    xcn (rO (s_iload (k := 4) (by decide +kernel))) <|
    xcn (rO (s_aload_n (k := 0) (by decide +kernel))) <|
    xcn (rO (s_get (T := TX11) (N := 17) (index := 7) x_iw11 rfl (by decide) wf_X11_7 rfl (by decide +kernel))) <|
    xcn (rO (s_iconst (n := 2) (by decide +kernel) (by decide))) <|
    xcn (rO (s_iald (by decide +kernel))) <|
    xcn (rJ (s_ic_ge (off := 33) (by decide +kernel) (by decide +kernel) (by decide +kernel))) <|
    xcn (rO (s_iload_n (k := 2) (by decide +kernel))) <|
    xcn (rO (s_iconst (n := 5) (by decide +kernel) (by decide))) <|
    xcn (rJ (s_ic_ne (off := 28) (by decide +kernel) (by decide +kernel) (by decide +kernel))) <|
    xcn (rO (s_iload_n (k := 3) (by decide +kernel))) <|
    xcn (rO (s_aload_n (k := 0) (by decide +kernel))) <|
    xcn (rO (s_iload (k := 4) (by decide +kernel))) <|
    xcn (rO (s_iconst (n := 0) (by decide +kernel) (by decide))) <|
    xcn (rC (s_cV (index := 83) wb_125 wm_X11_83 (by decide +kernel))) <|
    xcn (rO (s_iload_n (k := 1) (by decide +kernel))) <|
    xcn (rJ (s_ic_ne (off := 7) (by decide +kernel) (by decide +kernel) (by decide +kernel))) <|
    xcn (rO (s_iconst (n := 1) (by decide +kernel) (by decide))) <|
    xcn (rJ (s_goto (off := 4) (by decide +kernel) (by decide +kernel))) <|
    xcn (rO (s_iconst (n := 0) (by decide +kernel) (by decide))) <|
    xcn (rO (s_iadd (by decide +kernel))) <|
    xcn (rO (s_istore_n (k := 3) (by decide) (by decide +kernel))) <|
    xcn (rO (s_iinc (k := 4) (n := 1) (by decide) (by decide) (by decide +kernel))) <|
    xcn (rJ (s_goto (off := (-38)) (by decide +kernel) (by decide +kernel))) <|
    xcn (rO s_fgt) <|
    xcn (rO (s_iload_n (k := 2) (by decide +kernel))) <|
    xcn (rJ (s_if_ne (off := 15) (by decide +kernel) (by decide +kernel) (by decide +kernel))) <|
    xcn (rO (s_aload_n (k := 0) (by decide +kernel))) <|
    xcn (rO (s_get (T := TX11) (N := 17) (index := 7) x_iw11 rfl (by decide) wf_X11_7 rfl (by decide +kernel))) <|
    xcn (rO (s_bipush (n := 13) (by decide +kernel) (by decide))) <|
    xcn (rO (s_iload_n (k := 1) (by decide +kernel))) <|
    xcn (rO (s_iadd (by decide +kernel))) <|
    xcn (rO (s_iald (by decide +kernel))) <|
    xcn (rJ (s_goto (off := 52) (by decide +kernel) (by decide +kernel))) <|
    xcn (rO (s_iload_n (k := 2) (by decide +kernel))) <|
    xcn (rO (s_iconst (n := 1) (by decide +kernel) (by decide))) <|
    xcn (rJ (s_ic_ne (off := 15) (by decide +kernel) (by decide +kernel) (by decide +kernel))) <|
    xcn (rO (s_aload_n (k := 0) (by decide +kernel))) <|
    xcn (rO (s_get (T := TX11) (N := 17) (index := 7) x_iw11 rfl (by decide) wf_X11_7 rfl (by decide +kernel))) <|
    xcn (rO (s_bipush (n := 21) (by decide +kernel) (by decide))) <|
    xcn (rO (s_iload_n (k := 1) (by decide +kernel))) <|
    xcn (rO (s_iadd (by decide +kernel))) <|
    xcn (rO (s_iald (by decide +kernel))) <|
    xcn (rJ (s_goto (off := 35) (by decide +kernel) (by decide +kernel))) <|
    xcn (rO (s_iload_n (k := 2) (by decide +kernel))) <|
    xcn (rO (s_iconst (n := 2) (by decide +kernel) (by decide))) <|
    xcn (rJ (s_ic_ne (off := 12) (by decide +kernel) (by decide +kernel) (by decide +kernel))) <|
    xcn (rO (s_aload_n (k := 0) (by decide +kernel))) <|
    xcn (rO (s_get (T := TX11) (N := 17) (index := 25) x_iw11 rfl (by decide) wf_X11_25 rfl (by decide +kernel))) <|
    xcn (rO (s_iload_n (k := 1) (by decide +kernel))) <|
    xcn (rO (s_iald (by decide +kernel))) <|
    xcn (rJ (s_goto (off := 21) (by decide +kernel) (by decide +kernel))) <|
    xcn (rO (s_iload_n (k := 2) (by decide +kernel))) <|
    xcn (rO (s_iconst (n := 3) (by decide +kernel) (by decide))) <|
    xcn (rJ (s_ic_ne (off := 15) (by decide +kernel) (by decide +kernel) (by decide +kernel))) <|
    xcn (rO (s_aload_n (k := 0) (by decide +kernel))) <|
    xcn (rO (s_get (T := TX11) (N := 17) (index := 7) x_iw11 rfl (by decide) wf_X11_7 rfl (by decide +kernel))) <|
    xcn (rO (s_bipush (n := 29) (by decide +kernel) (by decide))) <|
    xcn (rO (s_iload_n (k := 1) (by decide +kernel))) <|
    xcn (rO (s_iadd (by decide +kernel))) <|
    xcn (rO (s_iald (by decide +kernel))) <|
    xcn (rJ (s_goto (off := 4) (by decide +kernel) (by decide +kernel))) <|
    xcn (rO (s_iload_n (k := 3) (by decide +kernel))) <|
    xcn (rR (s_ret1 (by decide +kernel))) <| xnl
theorem xv_162 : xMd (xw_162, xp_162, yX11_ofNow, cX11_ofNow, 5, some .int) := ⟨by decide +kernel, rfl, by decide +kernel, by decide +kernel, xa_162⟩
