set_option maxRecDepth 100000 in
theorem xa_188 : xAR (xRow RX11 cX11_laysOrder 10 (none) xp_188) xw_188 := by
  unfold xw_188
  exact xcn (rO (s_iload_n (k := 1) (by decide +kernel))) <|
    xcn (rO (s_istore_n (k := 3) (by decide) (by decide +kernel))) <|
    xcn (rO (s_iload_n (k := 2) (by decide +kernel))) <|
    xcn (rO (s_istore (k := 4) (by decide) (by decide +kernel))) <|
    xcn (rO (s_iconst (n := 1) (by decide +kernel) (by decide))) <|
    xcn (rO (s_istore (k := 5) (by decide) (by decide +kernel))) <|
    xcn (rO (s_iload_n (k := 1) (by decide +kernel))) <|
    xcn (rC (s_cS (index := 235) wb_187 wm_X11_235 (by decide +kernel))) <|
    xcn (rO (s_istore (k := 6) (by decide) (by decide +kernel))) <|
    xcn (rO (s_iconst (n := 1) (by decide +kernel) (by decide))) <|
    xcn (rO (s_istore (k := 7) (by decide) (by decide +kernel))) <|
    xcn (rO s_fgt) <|
    xcn (rO (s_iload (k := 7) (by decide +kernel))) <|
    xcn (rO (s_iload (k := 6) (by decide +kernel))) <|
    xcn (rJ (s_ic_ge (off := 16) (by decide +kernel) (by decide +kernel) (by decide +kernel))) <|
    xcn (rO (s_iload (k := 5) (by decide +kernel))) <|
    xcn (rO (s_iload (k := 7) (by decide +kernel))) <|
    xcn (rO (s_imul (by decide +kernel))) <|
    xcn (rO (s_istore (k := 5) (by decide) (by decide +kernel))) <|
    xcn (rO (s_iinc (k := 7) (n := 1) (by decide) (by decide) (by decide +kernel))) <|
    xcn (rJ (s_goto (off := (-17)) (by decide +kernel) (by decide +kernel))) <|
    xcn (rO s_fgt) <|
    xcn (rO (s_iconst (n := 0) (by decide +kernel) (by decide))) <|
    xcn (rO (s_istore (k := 7) (by decide) (by decide +kernel))) <|
    xcn (rO s_fgt) <|
    xcn (rO (s_iload (k := 7) (by decide +kernel))) <|
    xcn (rO (s_iload (k := 6) (by decide +kernel))) <|
    xcn (rJ (s_ic_ge (off := 101) (by decide +kernel) (by decide +kernel) (by decide +kernel))) <|
    xcn (rO (s_iload (k := 4) (by decide +kernel))) <|
    xcn (rO (s_iload (k := 5) (by decide +kernel))) <|
    xcn (rO (s_idiv (by decide +kernel))) <|
    xcn (rO (s_istore (k := 8) (by decide) (by decide +kernel))) <|
    xcn (rO (s_iload (k := 4) (by decide +kernel))) <|
    xcn (rO (s_iload (k := 5) (by decide +kernel))) <|
    xcn (rO (s_irem (by decide +kernel))) <|
    xcn (rO (s_istore (k := 4) (by decide) (by decide +kernel))) <|
    xcn (rO (s_iconst (n := 0) (by decide +kernel) (by decide))) <|
    xcn (rO (s_istore (k := 9) (by decide) (by decide +kernel))) <|
    xcn (rO s_fgt) <|
    xcn (rO (s_iload_n (k := 3) (by decide +kernel))) <|
    xcn (rO (s_iload (k := 9) (by decide +kernel))) <|
    xcn (rO (s_ishr (by decide +kernel))) <|
    xcn (rO (s_iconst (n := 1) (by decide +kernel) (by decide))) <|
    xcn (rO (s_iand (by decide +kernel))) <|
    xcn (rJ (s_if_eq (off := 8) (by decide +kernel) (by decide +kernel) (by decide +kernel))) <|
    xcn (rO (s_iload (k := 8) (by decide +kernel))) <|
    xcn (rJ (s_if_le (off := 20) (by decide +kernel) (by decide +kernel) (by decide +kernel))) <|
    xcn (rO (s_iload (k := 8) (by decide +kernel))) <|
    xcn (rO (s_iload_n (k := 3) (by decide +kernel))) <|
    xcn (rO (s_iload (k := 9) (by decide +kernel))) <|
    xcn (rO (s_ishr (by decide +kernel))) <|
    xcn (rO (s_iconst (n := 1) (by decide +kernel) (by decide))) <|
    xcn (rO (s_iand (by decide +kernel))) <|
    xcn (rO (s_isub (by decide +kernel))) <|
    xcn (rO (s_istore (k := 8) (by decide) (by decide +kernel))) <|
    xcn (rO (s_iinc (k := 9) (n := 1) (by decide) (by decide) (by decide +kernel))) <|
    xcn (rJ (s_goto (off := (-28)) (by decide +kernel) (by decide +kernel))) <|
    xcn (rO s_fgt) <|
    xcn (rO (s_aload_n (k := 0) (by decide +kernel))) <|
    xcn (rO (s_get (T := TX11) (N := 17) (index := 37) x_iw11 rfl (by decide) wf_X11_37 rfl (by decide +kernel))) <|
    xcn (rO (s_iload (k := 7) (by decide +kernel))) <|
    xcn (rO (s_iload (k := 9) (by decide +kernel))) <|
    xcn (rO (s_iast (by decide +kernel))) <|
    xcn (rO (s_iload_n (k := 3) (by decide +kernel))) <|
    xcn (rO (s_iconst (n := 1) (by decide +kernel) (by decide))) <|
    xcn (rO (s_iload (k := 9) (by decide +kernel))) <|
    xcn (rO (s_ishl (by decide +kernel))) <|
    xcn (rO (s_iconst (n := (-1)) (by decide +kernel) (by decide))) <|
    xcn (rO (s_ixor (by decide +kernel))) <|
    xcn (rO (s_iand (by decide +kernel))) <|
    xcn (rO (s_istore_n (k := 3) (by decide) (by decide +kernel))) <|
    xcn (rO (s_iload (k := 6) (by decide +kernel))) <|
    xcn (rO (s_iconst (n := 1) (by decide +kernel) (by decide))) <|
    xcn (rO (s_isub (by decide +kernel))) <|
    xcn (rO (s_iload (k := 7) (by decide +kernel))) <|
    xcn (rO (s_isub (by decide +kernel))) <|
    xcn (rJ (s_if_le (off := 16) (by decide +kernel) (by decide +kernel) (by decide +kernel))) <|
    xcn (rO (s_iload (k := 5) (by decide +kernel))) <|
    xcn (rO (s_iload (k := 6) (by decide +kernel))) <|
    xcn (rO (s_iconst (n := 1) (by decide +kernel) (by decide))) <|
    xcn (rO (s_isub (by decide +kernel))) <|
    xcn (rO (s_iload (k := 7) (by decide +kernel))) <|
    xcn (rO (s_isub (by decide +kernel))) <|
    xcn (rO (s_idiv (by decide +kernel))) <|
    xcn (rJ (s_goto (off := 4) (by decide +kernel) (by decide +kernel))) <|
    xcn (rO (s_iconst (n := 1) (by decide +kernel) (by decide))) <|
    xcn (rO (s_istore (k := 5) (by decide) (by decide +kernel))) <|
    xcn (rO (s_iinc (k := 7) (n := 1) (by decide) (by decide) (by decide +kernel))) <|
    xcn (rJ (s_goto (off := (-102)) (by decide +kernel) (by decide +kernel))) <|
    xcn (rO s_fgt) <|
    xcn (rR (s_ret0 (by decide +kernel))) <| xnl
theorem xv_188 : xMd (xw_188, xp_188, yX11_laysOrder, cX11_laysOrder, 10, none) := ⟨by decide +kernel, rfl, by decide +kernel, by decide +kernel, xa_188⟩
set_option maxRecDepth 100000 in
theorem xa_189 : xAR (xRow RX11 cX11_mayGo 4 (some .boolean) xp_189) xw_189 := by
  unfold xw_189
  exact xcn (rO (s_iconst (n := 1) (by decide +kernel) (by decide))) <|
    xcn (rO (s_istore_n (k := 2) (by decide) (by decide +kernel))) <|
    xcn (rO (s_iconst (n := 0) (by decide +kernel) (by decide))) <|
    xcn (rO (s_istore_n (k := 3) (by decide) (by decide +kernel))) <|
    xcn (rO s_fgt) <|
    xcn (rO (s_iload_n (k := 3) (by decide +kernel))) <|
    xcn (rO (s_iload_n (k := 1) (by decide +kernel))) <|
    xcn (rJ (s_ic_ge (off := 25) (by decide +kernel) (by decide +kernel) (by decide +kernel))) <|
    xcn (rO (s_aload_n (k := 0) (by decide +kernel))) <|
    xcn (rO (s_get (T := TX11) (N := 17) (index := 40) x_iw11 rfl (by decide) wf_X11_40 rfl (by decide +kernel))) <|
    xcn (rO (s_iload_n (k := 3) (by decide +kernel))) <|
    xcn (rO (s_aload_n (k := 0) (by decide +kernel))) <|
    xcn (rO (s_aload_n (k := 0) (by decide +kernel))) <|
    xcn (rO (s_get (T := TX11) (N := 17) (index := 37) x_iw11 rfl (by decide) wf_X11_37 rfl (by decide +kernel))) <|
    xcn (rO (s_iload_n (k := 3) (by decide +kernel))) <|
    xcn (rO (s_iald (by decide +kernel))) <|
    xcn (rC (s_cV (index := 64) wb_122 wm_X11_64 (by decide +kernel))) <|
    xcn (rO (s_iast (by decide +kernel))) <|
    xcn (rO (s_iinc (k := 3) (n := 1) (by decide) (by decide) (by decide +kernel))) <|
    xcn (rJ (s_goto (off := (-24)) (by decide +kernel) (by decide +kernel))) <|
    xcn (rO s_fgt) <|
    xcn (rO (s_iconst (n := 0) (by decide +kernel) (by decide))) <|
    xcn (rO (s_istore_n (k := 3) (by decide) (by decide +kernel))) <|
    xcn (rO s_fgt) <|
    xcn (rO (s_iload_n (k := 3) (by decide +kernel))) <|
    xcn (rO (s_iload_n (k := 1) (by decide +kernel))) <|
    xcn (rJ (s_ic_ge (off := 37) (by decide +kernel) (by decide +kernel) (by decide +kernel))) <|
    xcn (rO (s_iload_n (k := 2) (by decide +kernel))) <|
    xcn (rJ (s_if_eq (off := 33) (by decide +kernel) (by decide +kernel) (by decide +kernel))) <|
    xcn (rO (s_aload_n (k := 0) (by decide +kernel))) <|
    xcn (rO (s_aload_n (k := 0) (by decide +kernel))) <|
    xcn (rO (s_get (T := TX11) (N := 17) (index := 37) x_iw11 rfl (by decide) wf_X11_37 rfl (by decide +kernel))) <|
    xcn (rO (s_iload_n (k := 3) (by decide +kernel))) <|
    xcn (rO (s_iald (by decide +kernel))) <|
    xcn (rO (s_iconst (n := 2) (by decide +kernel) (by decide))) <|
    xcn (rC (s_cV (index := 136) wb_124 wm_X11_136 (by decide +kernel))) <|
    xcn (rO (s_aload_n (k := 0) (by decide +kernel))) <|
    xcn (rC (s_cV (index := 183) wb_135 wm_X11_183 (by decide +kernel))) <|
    xcn (rJ (s_if_ne (off := 7) (by decide +kernel) (by decide +kernel) (by decide +kernel))) <|
    xcn (rO (s_iconst (n := 1) (by decide +kernel) (by decide))) <|
    xcn (rJ (s_goto (off := 4) (by decide +kernel) (by decide +kernel))) <|
    xcn (rO (s_iconst (n := 0) (by decide +kernel) (by decide))) <|
    xcn (rO (s_istore_n (k := 2) (by decide) (by decide +kernel))) <|
    xcn (rO (s_iinc (k := 3) (n := 1) (by decide) (by decide) (by decide +kernel))) <|
    xcn (rJ (s_goto (off := (-36)) (by decide +kernel) (by decide +kernel))) <|
    xcn (rO s_fgt) <|
    xcn (rO (s_iconst (n := 0) (by decide +kernel) (by decide))) <|
    xcn (rO (s_istore_n (k := 3) (by decide) (by decide +kernel))) <|
    xcn (rO s_fgt) <|
    xcn (rO (s_iload_n (k := 3) (by decide +kernel))) <|
    xcn (rO (s_iload_n (k := 1) (by decide +kernel))) <|
    xcn (rJ (s_ic_ge (off := 25) (by decide +kernel) (by decide +kernel) (by decide +kernel))) <|
    xcn (rO (s_aload_n (k := 0) (by decide +kernel))) <|
    xcn (rO (s_aload_n (k := 0) (by decide +kernel))) <|
    xcn (rO (s_get (T := TX11) (N := 17) (index := 37) x_iw11 rfl (by decide) wf_X11_37 rfl (by decide +kernel))) <|
    xcn (rO (s_iload_n (k := 3) (by decide +kernel))) <|
    xcn (rO (s_iald (by decide +kernel))) <|
    xcn (rO (s_aload_n (k := 0) (by decide +kernel))) <|
    xcn (rO (s_get (T := TX11) (N := 17) (index := 40) x_iw11 rfl (by decide) wf_X11_40 rfl (by decide +kernel))) <|
    xcn (rO (s_iload_n (k := 3) (by decide +kernel))) <|
    xcn (rO (s_iald (by decide +kernel))) <|
    xcn (rC (s_cV (index := 136) wb_124 wm_X11_136 (by decide +kernel))) <|
    xcn (rO (s_iinc (k := 3) (n := 1) (by decide) (by decide) (by decide +kernel))) <|
    xcn (rJ (s_goto (off := (-24)) (by decide +kernel) (by decide +kernel))) <|
    xcn (rO s_fgt) <|
    xcn (rO (s_iload_n (k := 2) (by decide +kernel))) <|
    xcn (rR (s_ret2 (by decide +kernel))) <| xnl
theorem xv_189 : xMd (xw_189, xp_189, yX11_mayGo, cX11_mayGo, 4, some .boolean) := ⟨by decide +kernel, rfl, by decide +kernel, by decide +kernel, xa_189⟩
set_option maxRecDepth 100000 in
theorem xa_190 : xAR (xRow RX11 cX11_orderNow 6 (some .int) xp_190) xw_190 := by
  unfold xw_190
  exact xcn (rO (s_iload_n (k := 1) (by decide +kernel))) <|
    xcn (rC (s_cS (index := 235) wb_187 wm_X11_235 (by decide +kernel))) <|
    xcn (rO (s_istore_n (k := 3) (by decide) (by decide +kernel))) <|
    xcn (rO (s_iconst (n := 1) (by decide +kernel) (by decide))) <|
    xcn (rO (s_istore (k := 4) (by decide) (by decide +kernel))) <|
    xcn (rO (s_iconst (n := 2) (by decide +kernel) (by decide))) <|
    xcn (rO (s_istore (k := 5) (by decide) (by decide +kernel))) <|
    xcn (rO s_fgt) <|
    xcn (rO (s_iload (k := 5) (by decide +kernel))) <|
    xcn (rO (s_iload_n (k := 3) (by decide +kernel))) <|
    xcn (rJ (s_ic_gt (off := 16) (by decide +kernel) (by decide +kernel) (by decide +kernel))) <|
    xcn (rO (s_iload (k := 4) (by decide +kernel))) <|
    xcn (rO (s_iload (k := 5) (by decide +kernel))) <|
    xcn (rO (s_imul (by decide +kernel))) <|
    xcn (rO (s_istore (k := 4) (by decide) (by decide +kernel))) <|
    xcn (rO (s_iinc (k := 5) (n := 1) (by decide) (by decide) (by decide +kernel))) <|
    xcn (rJ (s_goto (off := (-16)) (by decide +kernel) (by decide +kernel))) <|
    xcn (rO s_fgt) <|
    xcn (rO (s_aload_n (k := 0) (by decide +kernel))) <|
    xcn (rC (s_cV (index := 77) wb_126 wm_X11_77 (by decide +kernel))) <|
    xcn (rO (s_iconst (n := 0) (by decide +kernel) (by decide))) <|
    xcn (rO (s_istore (k := 5) (by decide) (by decide +kernel))) <|
    xcn (rO s_fgt) <|
    xcn (rO (s_iload (k := 5) (by decide +kernel))) <|
    xcn (rO (s_iload (k := 4) (by decide +kernel))) <|
    xcn (rJ (s_ic_ge (off := 40) (by decide +kernel) (by decide +kernel) (by decide +kernel))) <|
    xcn (rO (s_aload_n (k := 0) (by decide +kernel))) <|
    xcn (rO (s_iload_n (k := 1) (by decide +kernel))) <|
    xcn (rO (s_iload (k := 5) (by decide +kernel))) <|
    xcn (rC (s_cV (index := 238) wb_188 wm_X11_238 (by decide +kernel))) <|
    xcn (rO (s_aload_n (k := 0) (by decide +kernel))) <|
    xcn (rO (s_iload_n (k := 3) (by decide +kernel))) <|
    xcn (rC (s_cV (index := 241) wb_189 wm_X11_241 (by decide +kernel))) <|
    xcn (rJ (s_if_eq (off := 19) (by decide +kernel) (by decide +kernel) (by decide +kernel))) <|
    xcn (rO s_fgt) <|
    xcn (rO (s_iload_n (k := 2) (by decide +kernel))) <|
    xcn (rO (s_iload_n (k := 3) (by decide +kernel))) <|
    xcn (rJ (s_ic_ge (off := 12) (by decide +kernel) (by decide +kernel) (by decide +kernel))) <|
    xcn (rO (s_aload_n (k := 0) (by decide +kernel))) <|
    xcn (rO (s_get (T := TX11) (N := 17) (index := 37) x_iw11 rfl (by decide) wf_X11_37 rfl (by decide +kernel))) <|
    xcn (rO (s_iload_n (k := 2) (by decide +kernel))) <|
    xcn (rO (s_iald (by decide +kernel))) <|
    xcn (rJ (s_goto (off := 4) (by decide +kernel) (by decide +kernel))) <|
    xcn (rO (s_iconst (n := (-1)) (by decide +kernel) (by decide))) <|
    xcn (rR (s_ret1 (by decide +kernel))) <|
    xcn (rO (s_iinc (k := 5) (n := 1) (by decide) (by decide) (by decide +kernel))) <|
    xcn (rJ (s_goto (off := (-41)) (by decide +kernel) (by decide +kernel))) <|
    xcn (rO s_fgt) <|
    xcn (rO (s_iconst (n := (-1)) (by decide +kernel) (by decide))) <|
    xcn (rR (s_ret1 (by decide +kernel))) <| xnl
theorem xv_190 : xMd (xw_190, xp_190, yX11_orderNow, cX11_orderNow, 6, some .int) := ⟨by decide +kernel, rfl, by decide +kernel, by decide +kernel, xa_190⟩
set_option maxRecDepth 100000 in
theorem xa_191 : xAR (xRow RX11 cX11_areOn 4 (some .boolean) xp_191) xw_191 := by
  unfold xw_191
  exact xcn (rO (s_iconst (n := 1) (by decide +kernel) (by decide))) <|
    xcn (rO (s_istore_n (k := 2) (by decide) (by decide +kernel))) <|
    xcn (rO (s_iconst (n := 0) (by decide +kernel) (by decide))) <|
    xcn (rO (s_istore_n (k := 3) (by decide) (by decide +kernel))) <|
    xcn (rO s_fgt) <|
    xcn (rO (s_iload_n (k := 3) (by decide +kernel))) <|
    xcn (rO (s_aload_n (k := 0) (by decide +kernel))) <|
    xcn (rO (s_get (T := TX11) (N := 17) (index := 7) x_iw11 rfl (by decide) wf_X11_7 rfl (by decide +kernel))) <|
    xcn (rO (s_iconst (n := 1) (by decide +kernel) (by decide))) <|
    xcn (rO (s_iald (by decide +kernel))) <|
    xcn (rJ (s_ic_ge (off := 36) (by decide +kernel) (by decide +kernel) (by decide +kernel))) <|
    xcn (rO (s_iload_n (k := 2) (by decide +kernel))) <|
    xcn (rJ (s_if_eq (off := 24) (by decide +kernel) (by decide +kernel) (by decide +kernel))) <|
    xcn (rO (s_iload_n (k := 1) (by decide +kernel))) <|
    xcn (rO (s_iload_n (k := 3) (by decide +kernel))) <|
    xcn (rO (s_ishr (by decide +kernel))) <|
    xcn (rO (s_iconst (n := 1) (by decide +kernel) (by decide))) <|
    xcn (rO (s_iand (by decide +kernel))) <|
    xcn (rJ (s_if_eq (off := 12) (by decide +kernel) (by decide +kernel) (by decide +kernel))) <|
    xcn (rO (s_aload_n (k := 0) (by decide +kernel))) <|
    xcn (rO (s_iload_n (k := 3) (by decide +kernel))) <|
    xcn (rC (s_cV (index := 64) wb_122 wm_X11_64 (by decide +kernel))) <|
    xcn (rO (s_iconst (n := 2) (by decide +kernel) (by decide))) <|
    xcn (rJ (s_ic_eq (off := 7) (by decide +kernel) (by decide +kernel) (by decide +kernel))) <|
    xcn (rO (s_iconst (n := 1) (by decide +kernel) (by decide))) <|
    xcn (rJ (s_goto (off := 4) (by decide +kernel) (by decide +kernel))) <|
    xcn (rO (s_iconst (n := 0) (by decide +kernel) (by decide))) <|
    xcn (rO (s_istore_n (k := 2) (by decide) (by decide +kernel))) <|
    xcn (rO (s_iinc (k := 3) (n := 1) (by decide) (by decide) (by decide +kernel))) <|
    xcn (rJ (s_goto (off := (-40)) (by decide +kernel) (by decide +kernel))) <|
    xcn (rO s_fgt) <|
    xcn (rO (s_iload_n (k := 2) (by decide +kernel))) <|
    xcn (rR (s_ret2 (by decide +kernel))) <| xnl
theorem xv_191 : xMd (xw_191, xp_191, yX11_areOn, cX11_areOn, 4, some .boolean) := ⟨by decide +kernel, rfl, by decide +kernel, by decide +kernel, xa_191⟩
set_option maxRecDepth 100000 in
theorem xa_192 : xAR (xRow RX11 cX11_order 3 (some .int) xp_192) xw_192 := by
  unfold xw_192
  exact xcn (rO (s_iload_n (k := 1) (by decide +kernel))) <|
    xcn (rO (s_i2l (by decide +kernel))) <|
    xcn (rO (s_lconst (n := 1) (by decide +kernel) (by decide))) <|
    xcn (rO (s_iconst (n := 1) (by decide +kernel) (by decide))) <|
    xcn (rO (s_aload_n (k := 0) (by decide +kernel))) <|
    xcn (rO (s_get (T := TX11) (N := 17) (index := 7) x_iw11 rfl (by decide) wf_X11_7 rfl (by decide +kernel))) <|
    xcn (rO (s_iconst (n := 1) (by decide +kernel) (by decide))) <|
    xcn (rO (s_iald (by decide +kernel))) <|
    xcn (rO (s_ishl (by decide +kernel))) <|
    xcn (rO (s_iconst (n := 1) (by decide +kernel) (by decide))) <|
    xcn (rO (s_isub (by decide +kernel))) <|
    xcn (rO (s_i2l (by decide +kernel))) <|
    xcn (rC (s_cS (index := 53) wb_115 wm_X11_53 (by decide +kernel))) <|
    xcn (rJ (s_if_eq (off := 7) (by decide +kernel) (by decide +kernel) (by decide +kernel))) <|
    xcn (rO (s_iload_n (k := 2) (by decide +kernel))) <|
    xcn (rJ (s_if_ge (off := 10) (by decide +kernel) (by decide +kernel) (by decide +kernel))) <|
    xcn (rO (s_aload_n (k := 0) (by decide +kernel))) <|
    xcn (rO (s_bipush (n := (-2)) (by decide +kernel) (by decide))) <|
    xcn (rC (s_cV (index := 101) wb_116 wm_X11_101 (by decide +kernel))) <|
    xcn (rR (s_ret1 (by decide +kernel))) <|
    xcn (rO (s_aload_n (k := 0) (by decide +kernel))) <|
    xcn (rO (s_iload_n (k := 1) (by decide +kernel))) <|
    xcn (rC (s_cV (index := 244) wb_191 wm_X11_244 (by decide +kernel))) <|
    xcn (rJ (s_if_eq (off := 12) (by decide +kernel) (by decide +kernel) (by decide +kernel))) <|
    xcn (rO (s_aload_n (k := 0) (by decide +kernel))) <|
    xcn (rO (s_iload_n (k := 1) (by decide +kernel))) <|
    xcn (rO (s_iload_n (k := 2) (by decide +kernel))) <|
    xcn (rC (s_cV (index := 247) wb_190 wm_X11_247 (by decide +kernel))) <|
    xcn (rJ (s_goto (off := 9) (by decide +kernel) (by decide +kernel))) <|
    xcn (rO (s_aload_n (k := 0) (by decide +kernel))) <|
    xcn (rO (s_bipush (n := (-3)) (by decide +kernel) (by decide))) <|
    xcn (rC (s_cV (index := 101) wb_116 wm_X11_101 (by decide +kernel))) <|
    xcn (rR (s_ret1 (by decide +kernel))) <| xnl
theorem xv_192 : xMd (xw_192, xp_192, yX11_order, cX11_order, 3, some .int) := ⟨by decide +kernel, rfl, by decide +kernel, by decide +kernel, xa_192⟩
set_option maxRecDepth 100000 in
theorem xa_193 : xAR (xRow RX11 cX11_excess 4 (some .int) xp_193) xw_193 := by
  unfold xw_193
  exact xcn (rO (s_iconst (n := 0) (by decide +kernel) (by decide))) <|
    xcn (rO (s_istore_n (k := 2) (by decide) (by decide +kernel))) <|
    xcn (rO (s_iconst (n := 0) (by decide +kernel) (by decide))) <|
    xcn (rO (s_istore_n (k := 3) (by decide) (by decide +kernel))) <|
    xcn (rO s_fgt) <|
    xcn (rO (s_iload_n (k := 3) (by decide +kernel))) <|
    xcn (rO (s_aload_n (k := 0) (by decide +kernel))) <|
    xcn (rO (s_get (T := TX11) (N := 17) (index := 7) x_iw11 rfl (by decide) wf_X11_7 rfl (by decide +kernel))) <|
    xcn (rO (s_iconst (n := 1) (by decide +kernel) (by decide))) <|
    xcn (rO (s_iald (by decide +kernel))) <|
    xcn (rJ (s_ic_ge (off := 43) (by decide +kernel) (by decide +kernel) (by decide +kernel))) <|
    xcn (rO (s_aload_n (k := 0) (by decide +kernel))) <|
    xcn (rO (s_get (T := TX11) (N := 17) (index := 40) x_iw11 rfl (by decide) wf_X11_40 rfl (by decide +kernel))) <|
    xcn (rO (s_iload_n (k := 3) (by decide +kernel))) <|
    xcn (rO (s_aload_n (k := 0) (by decide +kernel))) <|
    xcn (rO (s_iload_n (k := 3) (by decide +kernel))) <|
    xcn (rC (s_cV (index := 64) wb_122 wm_X11_64 (by decide +kernel))) <|
    xcn (rO (s_iast (by decide +kernel))) <|
    xcn (rO (s_aload_n (k := 0) (by decide +kernel))) <|
    xcn (rO (s_iload_n (k := 3) (by decide +kernel))) <|
    xcn (rO (s_iload_n (k := 1) (by decide +kernel))) <|
    xcn (rO (s_iload_n (k := 3) (by decide +kernel))) <|
    xcn (rO (s_ishr (by decide +kernel))) <|
    xcn (rO (s_iconst (n := 1) (by decide +kernel) (by decide))) <|
    xcn (rO (s_iand (by decide +kernel))) <|
    xcn (rO (s_iconst (n := 1) (by decide +kernel) (by decide))) <|
    xcn (rJ (s_ic_ne (off := 7) (by decide +kernel) (by decide +kernel) (by decide +kernel))) <|
    xcn (rO (s_iconst (n := 2) (by decide +kernel) (by decide))) <|
    xcn (rJ (s_goto (off := 8) (by decide +kernel) (by decide +kernel))) <|
    xcn (rO (s_aload_n (k := 0) (by decide +kernel))) <|
    xcn (rO (s_iload_n (k := 3) (by decide +kernel))) <|
    xcn (rC (s_cV (index := 64) wb_122 wm_X11_64 (by decide +kernel))) <|
    xcn (rC (s_cV (index := 136) wb_124 wm_X11_136 (by decide +kernel))) <|
    xcn (rO (s_iinc (k := 3) (n := 1) (by decide) (by decide) (by decide +kernel))) <|
    xcn (rJ (s_goto (off := (-47)) (by decide +kernel) (by decide +kernel))) <|
    xcn (rO s_fgt) <|
    xcn (rO (s_aload_n (k := 0) (by decide +kernel))) <|
    xcn (rC (s_cV (index := 80) wb_130 wm_X11_80 (by decide +kernel))) <|
    xcn (rO (s_iconst (n := 0) (by decide +kernel) (by decide))) <|
    xcn (rO (s_istore_n (k := 3) (by decide) (by decide +kernel))) <|
    xcn (rO s_fgt) <|
    xcn (rO (s_iload_n (k := 3) (by decide +kernel))) <|
    xcn (rO (s_aload_n (k := 0) (by decide +kernel))) <|
    xcn (rO (s_get (T := TX11) (N := 17) (index := 7) x_iw11 rfl (by decide) wf_X11_7 rfl (by decide +kernel))) <|
    xcn (rO (s_iconst (n := 1) (by decide +kernel) (by decide))) <|
    xcn (rO (s_iald (by decide +kernel))) <|
    xcn (rJ (s_ic_ge (off := 36) (by decide +kernel) (by decide +kernel) (by decide +kernel))) <|
    xcn (rO (s_iload_n (k := 2) (by decide +kernel))) <|
    xcn (rO (s_aload_n (k := 0) (by decide +kernel))) <|
    xcn (rO (s_iload_n (k := 3) (by decide +kernel))) <|
    xcn (rC (s_cV (index := 93) wb_134 wm_X11_93 (by decide +kernel))) <|
    xcn (rJ (s_if_eq (off := 18) (by decide +kernel) (by decide +kernel) (by decide +kernel))) <|
    xcn (rO (s_aload_n (k := 0) (by decide +kernel))) <|
    xcn (rO (s_iload_n (k := 3) (by decide +kernel))) <|
    xcn (rC (s_cV (index := 90) wb_133 wm_X11_90 (by decide +kernel))) <|
    xcn (rO (s_aload_n (k := 0) (by decide +kernel))) <|
    xcn (rO (s_iload_n (k := 3) (by decide +kernel))) <|
    xcn (rO (s_iconst (n := 1) (by decide +kernel) (by decide))) <|
    xcn (rC (s_cV (index := 57) wb_120 wm_X11_57 (by decide +kernel))) <|
    xcn (rO (s_isub (by decide +kernel))) <|
    xcn (rJ (s_goto (off := 4) (by decide +kernel) (by decide +kernel))) <|
    xcn (rO (s_iconst (n := 0) (by decide +kernel) (by decide))) <|
    xcn (rO (s_iadd (by decide +kernel))) <|
    xcn (rO (s_istore_n (k := 2) (by decide) (by decide +kernel))) <|
    xcn (rO (s_iinc (k := 3) (n := 1) (by decide) (by decide) (by decide +kernel))) <|
    xcn (rJ (s_goto (off := (-40)) (by decide +kernel) (by decide +kernel))) <|
    xcn (rO s_fgt) <|
    xcn (rO (s_iconst (n := 0) (by decide +kernel) (by decide))) <|
    xcn (rO (s_istore_n (k := 3) (by decide) (by decide +kernel))) <|
    xcn (rO s_fgt) <|
    xcn (rO (s_iload_n (k := 3) (by decide +kernel))) <|
    xcn (rO (s_aload_n (k := 0) (by decide +kernel))) <|
    xcn (rO (s_get (T := TX11) (N := 17) (index := 7) x_iw11 rfl (by decide) wf_X11_7 rfl (by decide +kernel))) <|
    xcn (rO (s_iconst (n := 1) (by decide +kernel) (by decide))) <|
    xcn (rO (s_iald (by decide +kernel))) <|
    xcn (rJ (s_ic_ge (off := 20) (by decide +kernel) (by decide +kernel) (by decide +kernel))) <|
    xcn (rO (s_aload_n (k := 0) (by decide +kernel))) <|
    xcn (rO (s_iload_n (k := 3) (by decide +kernel))) <|
    xcn (rO (s_aload_n (k := 0) (by decide +kernel))) <|
    xcn (rO (s_get (T := TX11) (N := 17) (index := 40) x_iw11 rfl (by decide) wf_X11_40 rfl (by decide +kernel))) <|
    xcn (rO (s_iload_n (k := 3) (by decide +kernel))) <|
    xcn (rO (s_iald (by decide +kernel))) <|
    xcn (rC (s_cV (index := 136) wb_124 wm_X11_136 (by decide +kernel))) <|
    xcn (rO (s_iinc (k := 3) (n := 1) (by decide) (by decide) (by decide +kernel))) <|
    xcn (rJ (s_goto (off := (-24)) (by decide +kernel) (by decide +kernel))) <|
    xcn (rO s_fgt) <|
    xcn (rO (s_iload_n (k := 2) (by decide +kernel))) <|
    xcn (rR (s_ret1 (by decide +kernel))) <| xnl
theorem xv_193 : xMd (xw_193, xp_193, yX11_excess, cX11_excess, 4, some .int) := ⟨by decide +kernel, rfl, by decide +kernel, by decide +kernel, xa_193⟩
set_option maxRecDepth 100000 in
theorem xa_194 : xAR (xRow RX11 cX11_worstNow 7 (some .int) xp_194) xw_194 := by
  unfold xw_194
  exact xcn (rO (s_iconst (n := (-1)) (by decide +kernel) (by decide))) <|
    xcn (rO (s_istore_n (k := 3) (by decide) (by decide +kernel))) <|
    xcn (rO (s_iconst (n := (-1)) (by decide +kernel) (by decide))) <|
    xcn (rO (s_istore (k := 4) (by decide) (by decide +kernel))) <|
    xcn (rO (s_aload_n (k := 0) (by decide +kernel))) <|
    xcn (rC (s_cV (index := 77) wb_126 wm_X11_77 (by decide +kernel))) <|
    xcn (rO (s_iconst (n := 1) (by decide +kernel) (by decide))) <|
    xcn (rO (s_istore (k := 5) (by decide) (by decide +kernel))) <|
    xcn (rO s_fgt) <|
    xcn (rO (s_iload (k := 5) (by decide +kernel))) <|
    xcn (rO (s_iconst (n := 1) (by decide +kernel) (by decide))) <|
    xcn (rO (s_aload_n (k := 0) (by decide +kernel))) <|
    xcn (rO (s_get (T := TX11) (N := 17) (index := 7) x_iw11 rfl (by decide) wf_X11_7 rfl (by decide +kernel))) <|
    xcn (rO (s_iconst (n := 1) (by decide +kernel) (by decide))) <|
    xcn (rO (s_iald (by decide +kernel))) <|
    xcn (rO (s_ishl (by decide +kernel))) <|
    xcn (rJ (s_ic_ge (off := 63) (by decide +kernel) (by decide +kernel) (by decide +kernel))) <|
    xcn (rO (s_iload (k := 5) (by decide +kernel))) <|
    xcn (rC (s_cS (index := 235) wb_187 wm_X11_235 (by decide +kernel))) <|
    xcn (rO (s_iload_n (k := 1) (by decide +kernel))) <|
    xcn (rJ (s_ic_ne (off := 48) (by decide +kernel) (by decide +kernel) (by decide +kernel))) <|
    xcn (rO (s_aload_n (k := 0) (by decide +kernel))) <|
    xcn (rO (s_iload (k := 5) (by decide +kernel))) <|
    xcn (rC (s_cV (index := 244) wb_191 wm_X11_244 (by decide +kernel))) <|
    xcn (rJ (s_if_eq (off := 39) (by decide +kernel) (by decide +kernel) (by decide +kernel))) <|
    xcn (rO (s_aload_n (k := 0) (by decide +kernel))) <|
    xcn (rO (s_iload (k := 5) (by decide +kernel))) <|
    xcn (rC (s_cV (index := 250) wb_193 wm_X11_250 (by decide +kernel))) <|
    xcn (rO (s_istore (k := 6) (by decide) (by decide +kernel))) <|
    xcn (rO (s_iload (k := 6) (by decide +kernel))) <|
    xcn (rO (s_iload_n (k := 3) (by decide +kernel))) <|
    xcn (rJ (s_ic_le (off := 8) (by decide +kernel) (by decide +kernel) (by decide +kernel))) <|
    xcn (rO (s_iload (k := 5) (by decide +kernel))) <|
    xcn (rJ (s_goto (off := 5) (by decide +kernel) (by decide +kernel))) <|
    xcn (rO (s_iload (k := 4) (by decide +kernel))) <|
    xcn (rO (s_istore (k := 4) (by decide) (by decide +kernel))) <|
    xcn (rO (s_iload (k := 6) (by decide +kernel))) <|
    xcn (rO (s_iload_n (k := 3) (by decide +kernel))) <|
    xcn (rJ (s_ic_le (off := 8) (by decide +kernel) (by decide +kernel) (by decide +kernel))) <|
    xcn (rO (s_iload (k := 6) (by decide +kernel))) <|
    xcn (rJ (s_goto (off := 4) (by decide +kernel) (by decide +kernel))) <|
    xcn (rO (s_iload_n (k := 3) (by decide +kernel))) <|
    xcn (rO (s_istore_n (k := 3) (by decide) (by decide +kernel))) <|
    xcn (rO (s_iinc (k := 5) (n := 1) (by decide) (by decide) (by decide +kernel))) <|
    xcn (rJ (s_goto (off := (-70)) (by decide +kernel) (by decide +kernel))) <|
    xcn (rO s_fgt) <|
    xcn (rO (s_iload_n (k := 2) (by decide +kernel))) <|
    xcn (rJ (s_if_ne (off := 7) (by decide +kernel) (by decide +kernel) (by decide +kernel))) <|
    xcn (rO (s_iload_n (k := 3) (by decide +kernel))) <|
    xcn (rJ (s_goto (off := 5) (by decide +kernel) (by decide +kernel))) <|
    xcn (rO (s_iload (k := 4) (by decide +kernel))) <|
    xcn (rR (s_ret1 (by decide +kernel))) <| xnl
theorem xv_194 : xMd (xw_194, xp_194, yX11_worstNow, cX11_worstNow, 7, some .int) := ⟨by decide +kernel, rfl, by decide +kernel, by decide +kernel, xa_194⟩
set_option maxRecDepth 100000 in
theorem xa_195 : xAR (xRow RX11 cX11_worst 3 (some .int) xp_195) xw_195 := by
  unfold xw_195
  exact xcn (rO (s_iload_n (k := 1) (by decide +kernel))) <|
    xcn (rO (s_i2l (by decide +kernel))) <|
    xcn (rO (s_lconst (n := 1) (by decide +kernel) (by decide))) <|
    xcn (rO (s_ldc2 (n := 122) (x_mt 984 (by decide +kernel) rfl) (by decide +kernel))) <|
    xcn (rC (s_cS (index := 53) wb_115 wm_X11_53 (by decide +kernel))) <|
    xcn (rJ (s_if_eq (off := 22) (by decide +kernel) (by decide +kernel) (by decide +kernel))) <|
    xcn (rO (s_iload_n (k := 2) (by decide +kernel))) <|
    xcn (rO (s_i2l (by decide +kernel))) <|
    xcn (rO (s_lconst (n := 0) (by decide +kernel) (by decide))) <|
    xcn (rO (s_lconst (n := 1) (by decide +kernel) (by decide))) <|
    xcn (rC (s_cS (index := 53) wb_115 wm_X11_53 (by decide +kernel))) <|
    xcn (rJ (s_if_eq (off := 12) (by decide +kernel) (by decide +kernel) (by decide +kernel))) <|
    xcn (rO (s_aload_n (k := 0) (by decide +kernel))) <|
    xcn (rO (s_iload_n (k := 1) (by decide +kernel))) <|
    xcn (rO (s_iload_n (k := 2) (by decide +kernel))) <|
    xcn (rC (s_cV (index := 253) wb_194 wm_X11_253 (by decide +kernel))) <|
    xcn (rJ (s_goto (off := 9) (by decide +kernel) (by decide +kernel))) <|
    xcn (rO (s_aload_n (k := 0) (by decide +kernel))) <|
    xcn (rO (s_bipush (n := (-2)) (by decide +kernel) (by decide))) <|
    xcn (rC (s_cV (index := 101) wb_116 wm_X11_101 (by decide +kernel))) <|
    xcn (rR (s_ret1 (by decide +kernel))) <| xnl
theorem xv_195 : xMd (xw_195, xp_195, yX11_worst, cX11_worst, 3, some .int) := ⟨by decide +kernel, rfl, by decide +kernel, by decide +kernel, xa_195⟩
set_option maxRecDepth 100000 in
theorem xa_196 : xAR (xRow RX11 cX11_type 2 (some .int) xp_196) xw_196 := by
  unfold xw_196
  exact xcn (rO (s_iload_n (k := 1) (by decide +kernel))) <|
    xcn (rO (s_i2l (by decide +kernel))) <|
    xcn (rO (s_lconst (n := 0) (by decide +kernel) (by decide))) <|
    xcn (rO (s_ldc2 (n := 256) (x_mt 1264 (by decide +kernel) rfl) (by decide +kernel))) <|
    xcn (rC (s_cS (index := 53) wb_115 wm_X11_53 (by decide +kernel))) <|
    xcn (rJ (s_if_ne (off := 10) (by decide +kernel) (by decide +kernel) (by decide +kernel))) <|
    xcn (rO (s_aload_n (k := 0) (by decide +kernel))) <|
    xcn (rO (s_bipush (n := (-2)) (by decide +kernel) (by decide))) <|
    xcn (rC (s_cV (index := 101) wb_116 wm_X11_101 (by decide +kernel))) <|
    xcn (rR (s_ret1 (by decide +kernel))) <|
    xcn (rO (s_aload_n (k := 0) (by decide +kernel))) <|
    xcn (rO (s_get (T := TX11) (N := 17) (index := 258) x_iw11 rfl (by decide) wf_X11_258 rfl (by decide +kernel))) <|
    xcn (rO (s_bipush (n := 120) (by decide +kernel) (by decide))) <|
    xcn (rJ (s_ic_ne (off := 10) (by decide +kernel) (by decide +kernel) (by decide +kernel))) <|
    xcn (rO (s_aload_n (k := 0) (by decide +kernel))) <|
    xcn (rO (s_bipush (n := (-4)) (by decide +kernel) (by decide))) <|
    xcn (rC (s_cV (index := 101) wb_116 wm_X11_101 (by decide +kernel))) <|
    xcn (rR (s_ret1 (by decide +kernel))) <|
    xcn (rO (s_aload_n (k := 0) (by decide +kernel))) <|
    xcn (rO (s_get (T := TX11) (N := 17) (index := 43) x_iw11 rfl (by decide) wf_X11_43 rfl (by decide +kernel))) <|
    xcn (rO (s_aload_n (k := 0) (by decide +kernel))) <|
    xcn (rO (s_get (T := TX11) (N := 17) (index := 258) x_iw11 rfl (by decide) wf_X11_258 rfl (by decide +kernel))) <|
    xcn (rO (s_iload_n (k := 1) (by decide +kernel))) <|
    xcn (rO (s_iast (by decide +kernel))) <|
    xcn (rO (s_aload_n (k := 0) (by decide +kernel))) <|
    xcn (rO (s_dup (by decide +kernel))) <|
    xcn (rO (s_get (T := TX11) (N := 17) (index := 258) x_iw11 rfl (by decide) wf_X11_258 rfl (by decide +kernel))) <|
    xcn (rO (s_iconst (n := 1) (by decide +kernel) (by decide))) <|
    xcn (rO (s_iadd (by decide +kernel))) <|
    xcn (rO (s_put (T := TX11) (N := 17) (index := 258) (ty0 := tyX11) (z := false) x_iw11 tyX11_ok nmX11 rfl (by decide) wf_X11_258 rfl rfl rfl (by decide +kernel))) <|
    xcn (rO (s_aload_n (k := 0) (by decide +kernel))) <|
    xcn (rO (s_get (T := TX11) (N := 17) (index := 258) x_iw11 rfl (by decide) wf_X11_258 rfl (by decide +kernel))) <|
    xcn (rR (s_ret1 (by decide +kernel))) <| xnl
theorem xv_196 : xMd (xw_196, xp_196, yX11_type, cX11_type, 2, some .int) := ⟨by decide +kernel, rfl, by decide +kernel, by decide +kernel, xa_196⟩
set_option maxRecDepth 100000 in
theorem xa_197 : xAR (xRow RX11 cX11_clear 2 (some .int) xp_197) xw_197 := by
  unfold xw_197
  exact xcn (rO (s_aload_n (k := 0) (by decide +kernel))) <|
    xcn (rO (s_get (T := TX11) (N := 17) (index := 258) x_iw11 rfl (by decide) wf_X11_258 rfl (by decide +kernel))) <|
    xcn (rO (s_istore_n (k := 1) (by decide) (by decide +kernel))) <|
    xcn (rO (s_aload_n (k := 0) (by decide +kernel))) <|
    xcn (rO (s_iconst (n := 0) (by decide +kernel) (by decide))) <|
    xcn (rO (s_put (T := TX11) (N := 17) (index := 258) (ty0 := tyX11) (z := false) x_iw11 tyX11_ok nmX11 rfl (by decide) wf_X11_258 rfl rfl rfl (by decide +kernel))) <|
    xcn (rO (s_iload_n (k := 1) (by decide +kernel))) <|
    xcn (rR (s_ret1 (by decide +kernel))) <| xnl
theorem xv_197 : xMd (xw_197, xp_197, yX11_clear, cX11_clear, 2, some .int) := ⟨by decide +kernel, rfl, by decide +kernel, by decide +kernel, xa_197⟩
set_option maxRecDepth 100000 in
theorem xa_198 : xAR (xRow RX11 cX11_here 1 (some .int) xp_198) xw_198 := by
  unfold xw_198
  exact xcn (rO s_fgt) <|
    xcn (rO (s_aload_n (k := 0) (by decide +kernel))) <|
    xcn (rO (s_get (T := TX11) (N := 17) (index := 261) x_iw11 rfl (by decide) wf_X11_261 rfl (by decide +kernel))) <|
    xcn (rO (s_aload_n (k := 0) (by decide +kernel))) <|
    xcn (rO (s_get (T := TX11) (N := 17) (index := 258) x_iw11 rfl (by decide) wf_X11_258 rfl (by decide +kernel))) <|
    xcn (rJ (s_ic_ge (off := 30) (by decide +kernel) (by decide +kernel) (by decide +kernel))) <|
    xcn (rO (s_aload_n (k := 0) (by decide +kernel))) <|
    xcn (rO (s_get (T := TX11) (N := 17) (index := 43) x_iw11 rfl (by decide) wf_X11_43 rfl (by decide +kernel))) <|
    xcn (rO (s_aload_n (k := 0) (by decide +kernel))) <|
    xcn (rO (s_get (T := TX11) (N := 17) (index := 261) x_iw11 rfl (by decide) wf_X11_261 rfl (by decide +kernel))) <|
    xcn (rO (s_iald (by decide +kernel))) <|
    xcn (rO (s_bipush (n := 32) (by decide +kernel) (by decide))) <|
    xcn (rJ (s_ic_ne (off := 16) (by decide +kernel) (by decide +kernel) (by decide +kernel))) <|
    xcn (rO (s_aload_n (k := 0) (by decide +kernel))) <|
    xcn (rO (s_dup (by decide +kernel))) <|
    xcn (rO (s_get (T := TX11) (N := 17) (index := 261) x_iw11 rfl (by decide) wf_X11_261 rfl (by decide +kernel))) <|
    xcn (rO (s_iconst (n := 1) (by decide +kernel) (by decide))) <|
    xcn (rO (s_iadd (by decide +kernel))) <|
    xcn (rO (s_put (T := TX11) (N := 17) (index := 261) (ty0 := tyX11) (z := false) x_iw11 tyX11_ok nmX11 rfl (by decide) wf_X11_261 rfl rfl rfl (by decide +kernel))) <|
    xcn (rJ (s_goto (off := (-35)) (by decide +kernel) (by decide +kernel))) <|
    xcn (rO s_fgt) <|
    xcn (rO (s_aload_n (k := 0) (by decide +kernel))) <|
    xcn (rO (s_get (T := TX11) (N := 17) (index := 261) x_iw11 rfl (by decide) wf_X11_261 rfl (by decide +kernel))) <|
    xcn (rO (s_aload_n (k := 0) (by decide +kernel))) <|
    xcn (rO (s_get (T := TX11) (N := 17) (index := 258) x_iw11 rfl (by decide) wf_X11_258 rfl (by decide +kernel))) <|
    xcn (rJ (s_ic_ge (off := 15) (by decide +kernel) (by decide +kernel) (by decide +kernel))) <|
    xcn (rO (s_aload_n (k := 0) (by decide +kernel))) <|
    xcn (rO (s_get (T := TX11) (N := 17) (index := 43) x_iw11 rfl (by decide) wf_X11_43 rfl (by decide +kernel))) <|
    xcn (rO (s_aload_n (k := 0) (by decide +kernel))) <|
    xcn (rO (s_get (T := TX11) (N := 17) (index := 261) x_iw11 rfl (by decide) wf_X11_261 rfl (by decide +kernel))) <|
    xcn (rO (s_iald (by decide +kernel))) <|
    xcn (rJ (s_goto (off := 4) (by decide +kernel) (by decide +kernel))) <|
    xcn (rO (s_iconst (n := (-1)) (by decide +kernel) (by decide))) <|
    xcn (rR (s_ret1 (by decide +kernel))) <| xnl
theorem xv_198 : xMd (xw_198, xp_198, yX11_here, cX11_here, 1, some .int) := ⟨by decide +kernel, rfl, by decide +kernel, by decide +kernel, xa_198⟩
set_option maxRecDepth 100000 in
theorem xa_199 : xAR (xRow RX11 cX11_isFigure 2 (some .boolean) xp_199) xw_199 := by
  unfold xw_199
  exact xcn (rO (s_iload_n (k := 1) (by decide +kernel))) <|
    xcn (rO (s_aload_n (k := 0) (by decide +kernel))) <|
    xcn (rO (s_get (T := TX11) (N := 17) (index := 258) x_iw11 rfl (by decide) wf_X11_258 rfl (by decide +kernel))) <|
    xcn (rJ (s_ic_ge (off := 26) (by decide +kernel) (by decide +kernel) (by decide +kernel))) <|
    xcn (rO (s_aload_n (k := 0) (by decide +kernel))) <|
    xcn (rO (s_get (T := TX11) (N := 17) (index := 43) x_iw11 rfl (by decide) wf_X11_43 rfl (by decide +kernel))) <|
    xcn (rO (s_iload_n (k := 1) (by decide +kernel))) <|
    xcn (rO (s_iald (by decide +kernel))) <|
    xcn (rO (s_i2l (by decide +kernel))) <|
    xcn (rO (s_ldc2 (n := 264) (x_mt 1292 (by decide +kernel) rfl) (by decide +kernel))) <|
    xcn (rO (s_ldc2 (n := 266) (x_mt 1293 (by decide +kernel) rfl) (by decide +kernel))) <|
    xcn (rC (s_cS (index := 53) wb_115 wm_X11_53 (by decide +kernel))) <|
    xcn (rJ (s_if_eq (off := 7) (by decide +kernel) (by decide +kernel) (by decide +kernel))) <|
    xcn (rO (s_iconst (n := 1) (by decide +kernel) (by decide))) <|
    xcn (rJ (s_goto (off := 4) (by decide +kernel) (by decide +kernel))) <|
    xcn (rO (s_iconst (n := 0) (by decide +kernel) (by decide))) <|
    xcn (rR (s_ret2 (by decide +kernel))) <| xnl
theorem xv_199 : xMd (xw_199, xp_199, yX11_isFigure, cX11_isFigure, 2, some .boolean) := ⟨by decide +kernel, rfl, by decide +kernel, by decide +kernel, xa_199⟩
set_option maxRecDepth 100000 in
theorem xa_200 : xAR (xRow RX11 cX11_takes 5 (some .boolean) xp_200) xw_200 := by
  unfold xw_200
  exact xcn (rO (s_iconst (n := 0) (by decide +kernel) (by decide))) <|
    xcn (rO (s_istore_n (k := 2) (by decide) (by decide +kernel))) <|
    xcn (rO s_fgt) <|
    xcn (rO (s_iload_n (k := 2) (by decide +kernel))) <|
    xcn (rO (s_iload_n (k := 1) (by decide +kernel))) <|
    xcn (rJ (s_ic_ge (off := 108) (by decide +kernel) (by decide +kernel) (by decide +kernel))) <|
    xcn (rO (s_aload_n (k := 0) (by decide +kernel))) <|
    xcn (rC (s_cV (index := 268) wb_198 wm_X11_268 (by decide +kernel))) <|
    xcn (rO (s_istore_n (k := 3) (by decide) (by decide +kernel))) <|
    xcn (rO (s_iconst (n := 0) (by decide +kernel) (by decide))) <|
    xcn (rO (s_istore (k := 4) (by decide) (by decide +kernel))) <|
    xcn (rO (s_aload_n (k := 0) (by decide +kernel))) <|
    xcn (rO (s_get (T := TX11) (N := 17) (index := 46) x_iw11 rfl (by decide) wf_X11_46 rfl (by decide +kernel))) <|
    xcn (rO (s_iload_n (k := 2) (by decide +kernel))) <|
    xcn (rO (s_iconst (n := 0) (by decide +kernel) (by decide))) <|
    xcn (rO (s_iast (by decide +kernel))) <|
    xcn (rO s_fgt) <|
    xcn (rO (s_aload_n (k := 0) (by decide +kernel))) <|
    xcn (rO (s_aload_n (k := 0) (by decide +kernel))) <|
    xcn (rO (s_get (T := TX11) (N := 17) (index := 261) x_iw11 rfl (by decide) wf_X11_261 rfl (by decide +kernel))) <|
    xcn (rC (s_cV (index := 271) wb_199 wm_X11_271 (by decide +kernel))) <|
    xcn (rJ (s_if_eq (off := 53) (by decide +kernel) (by decide +kernel) (by decide +kernel))) <|
    xcn (rO (s_iload (k := 4) (by decide +kernel))) <|
    xcn (rO (s_iconst (n := 3) (by decide +kernel) (by decide))) <|
    xcn (rJ (s_ic_ge (off := 47) (by decide +kernel) (by decide +kernel) (by decide +kernel))) <|
    xcn (rO (s_aload_n (k := 0) (by decide +kernel))) <|
    xcn (rO (s_get (T := TX11) (N := 17) (index := 46) x_iw11 rfl (by decide) wf_X11_46 rfl (by decide +kernel))) <|
    xcn (rO (s_iload_n (k := 2) (by decide +kernel))) <|
    xcn (rO (s_bipush (n := 10) (by decide +kernel) (by decide))) <|
    xcn (rO (s_aload_n (k := 0) (by decide +kernel))) <|
    xcn (rO (s_get (T := TX11) (N := 17) (index := 46) x_iw11 rfl (by decide) wf_X11_46 rfl (by decide +kernel))) <|
    xcn (rO (s_iload_n (k := 2) (by decide +kernel))) <|
    xcn (rO (s_iald (by decide +kernel))) <|
    xcn (rO (s_imul (by decide +kernel))) <|
    xcn (rO (s_aload_n (k := 0) (by decide +kernel))) <|
    xcn (rO (s_get (T := TX11) (N := 17) (index := 43) x_iw11 rfl (by decide) wf_X11_43 rfl (by decide +kernel))) <|
    xcn (rO (s_aload_n (k := 0) (by decide +kernel))) <|
    xcn (rO (s_get (T := TX11) (N := 17) (index := 261) x_iw11 rfl (by decide) wf_X11_261 rfl (by decide +kernel))) <|
    xcn (rO (s_iald (by decide +kernel))) <|
    xcn (rO (s_iadd (by decide +kernel))) <|
    xcn (rO (s_bipush (n := 48) (by decide +kernel) (by decide))) <|
    xcn (rO (s_isub (by decide +kernel))) <|
    xcn (rO (s_iast (by decide +kernel))) <|
    xcn (rO (s_aload_n (k := 0) (by decide +kernel))) <|
    xcn (rO (s_dup (by decide +kernel))) <|
    xcn (rO (s_get (T := TX11) (N := 17) (index := 261) x_iw11 rfl (by decide) wf_X11_261 rfl (by decide +kernel))) <|
    xcn (rO (s_iconst (n := 1) (by decide +kernel) (by decide))) <|
    xcn (rO (s_iadd (by decide +kernel))) <|
    xcn (rO (s_put (T := TX11) (N := 17) (index := 261) (ty0 := tyX11) (z := false) x_iw11 tyX11_ok nmX11 rfl (by decide) wf_X11_261 rfl rfl rfl (by decide +kernel))) <|
    xcn (rO (s_iinc (k := 4) (n := 1) (by decide) (by decide) (by decide +kernel))) <|
    xcn (rJ (s_goto (off := (-58)) (by decide +kernel) (by decide +kernel))) <|
    xcn (rO s_fgt) <|
    xcn (rO (s_iload_n (k := 3) (by decide +kernel))) <|
    xcn (rO (s_iconst (n := (-1)) (by decide +kernel) (by decide))) <|
    xcn (rJ (s_ic_eq (off := 19) (by decide +kernel) (by decide +kernel) (by decide +kernel))) <|
    xcn (rO (s_iload (k := 4) (by decide +kernel))) <|
    xcn (rJ (s_if_eq (off := 14) (by decide +kernel) (by decide +kernel) (by decide +kernel))) <|
    xcn (rO (s_aload_n (k := 0) (by decide +kernel))) <|
    xcn (rO (s_aload_n (k := 0) (by decide +kernel))) <|
    xcn (rO (s_get (T := TX11) (N := 17) (index := 261) x_iw11 rfl (by decide) wf_X11_261 rfl (by decide +kernel))) <|
    xcn (rC (s_cV (index := 271) wb_199 wm_X11_271 (by decide +kernel))) <|
    xcn (rJ (s_if_eq (off := 5) (by decide +kernel) (by decide +kernel) (by decide +kernel))) <|
    xcn (rO s_fgt) <|
    xcn (rO (s_iconst (n := 0) (by decide +kernel) (by decide))) <|
    xcn (rR (s_ret2 (by decide +kernel))) <|
    xcn (rO (s_iinc (k := 2) (n := 1) (by decide) (by decide) (by decide +kernel))) <|
    xcn (rJ (s_goto (off := (-107)) (by decide +kernel) (by decide +kernel))) <|
    xcn (rO s_fgt) <|
    xcn (rO (s_iconst (n := 1) (by decide +kernel) (by decide))) <|
    xcn (rR (s_ret2 (by decide +kernel))) <| xnl
theorem xv_200 : xMd (xw_200, xp_200, yX11_takes, cX11_takes, 5, some .boolean) := ⟨by decide +kernel, rfl, by decide +kernel, by decide +kernel, xa_200⟩
set_option maxRecDepth 100000 in
theorem xa_201 : xAR (xRow RX11 cX11_numbersOf 1 (some .int) xp_201) xw_201 := by
  unfold xw_201
  exact xcn (rO (s_iload_n (k := 0) (by decide +kernel))) <|
    xcn (rJ (s_tsw (dflt := 117) (hi := 120) (offs := #[115, 117, 117, 115, 117, 117, 117, 117, 117, 117, 117, 111, 113, 117, 111, 113, 117, 117, 113, 115, 117, 117, 117, 115]) (len := 111) (by decide +kernel) (by decide) (by decide +kernel) (by decide +kernel))) <|
    xcn (rO (s_iconst (n := 3) (by decide +kernel) (by decide))) <|
    xcn (rR (s_ret1 (by decide +kernel))) <|
    xcn (rO (s_iconst (n := 2) (by decide +kernel) (by decide))) <|
    xcn (rR (s_ret1 (by decide +kernel))) <|
    xcn (rO (s_iconst (n := 1) (by decide +kernel) (by decide))) <|
    xcn (rR (s_ret1 (by decide +kernel))) <|
    xcn (rO (s_iconst (n := (-1)) (by decide +kernel) (by decide))) <|
    xcn (rR (s_ret1 (by decide +kernel))) <| xnl
theorem xv_201 : xMd (xw_201, xp_201, yX11_numbersOf, cX11_numbersOf, 1, some .int) := ⟨by decide +kernel, rfl, by decide +kernel, by decide +kernel, xa_201⟩
set_option maxRecDepth 100000 in
theorem xa_202 : xAR (xRow RX11 cX11_can 4 (some .int) xp_202) xw_202 := by
  unfold xw_202
  exact xcn (rO (s_aload_n (k := 0) (by decide +kernel))) <|
    xcn (rO (s_get (T := TX11) (N := 17) (index := 46) x_iw11 rfl (by decide) wf_X11_46 rfl (by decide +kernel))) <|
    xcn (rO (s_iconst (n := 0) (by decide +kernel) (by decide))) <|
    xcn (rO (s_iald (by decide +kernel))) <|
    xcn (rO (s_istore_n (k := 2) (by decide) (by decide +kernel))) <|
    xcn (rO (s_aload_n (k := 0) (by decide +kernel))) <|
    xcn (rO (s_get (T := TX11) (N := 17) (index := 46) x_iw11 rfl (by decide) wf_X11_46 rfl (by decide +kernel))) <|
    xcn (rO (s_iconst (n := 1) (by decide +kernel) (by decide))) <|
    xcn (rO (s_iald (by decide +kernel))) <|
    xcn (rO (s_istore_n (k := 3) (by decide) (by decide +kernel))) <|
    xcn (rO (s_iload_n (k := 1) (by decide +kernel))) <|
    xcn (rJ (s_tsw (dflt := 183) (hi := 120) (offs := #[156, 183, 183, 162, 183, 183, 183, 183, 183, 183, 183, 109, 142, 183, 122, 149, 183, 183, 135, 183, 183, 183, 183, 168]) (len := 109) (by decide +kernel) (by decide) (by decide +kernel) (by decide +kernel))) <|
    xcn (rO (s_aload_n (k := 0) (by decide +kernel))) <|
    xcn (rO (s_iload_n (k := 2) (by decide +kernel))) <|
    xcn (rO (s_iload_n (k := 3) (by decide +kernel))) <|
    xcn (rO (s_aload_n (k := 0) (by decide +kernel))) <|
    xcn (rO (s_get (T := TX11) (N := 17) (index := 46) x_iw11 rfl (by decide) wf_X11_46 rfl (by decide +kernel))) <|
    xcn (rO (s_iconst (n := 2) (by decide +kernel) (by decide))) <|
    xcn (rO (s_iald (by decide +kernel))) <|
    xcn (rC (s_cV (index := 115) wb_140 wm_X11_115 (by decide +kernel))) <|
    xcn (rR (s_ret1 (by decide +kernel))) <|
    xcn (rO (s_aload_n (k := 0) (by decide +kernel))) <|
    xcn (rO (s_iload_n (k := 2) (by decide +kernel))) <|
    xcn (rO (s_iload_n (k := 3) (by decide +kernel))) <|
    xcn (rO (s_aload_n (k := 0) (by decide +kernel))) <|
    xcn (rO (s_get (T := TX11) (N := 17) (index := 46) x_iw11 rfl (by decide) wf_X11_46 rfl (by decide +kernel))) <|
    xcn (rO (s_iconst (n := 2) (by decide +kernel) (by decide))) <|
    xcn (rO (s_iald (by decide +kernel))) <|
    xcn (rC (s_cV (index := 201) wb_170 wm_X11_201 (by decide +kernel))) <|
    xcn (rR (s_ret1 (by decide +kernel))) <|
    xcn (rO (s_aload_n (k := 0) (by decide +kernel))) <|
    xcn (rO (s_iload_n (k := 2) (by decide +kernel))) <|
    xcn (rO (s_iload_n (k := 3) (by decide +kernel))) <|
    xcn (rC (s_cV (index := 139) wb_146 wm_X11_139 (by decide +kernel))) <|
    xcn (rR (s_ret1 (by decide +kernel))) <|
    xcn (rO (s_aload_n (k := 0) (by decide +kernel))) <|
    xcn (rO (s_iload_n (k := 2) (by decide +kernel))) <|
    xcn (rO (s_iload_n (k := 3) (by decide +kernel))) <|
    xcn (rC (s_cV (index := 124) wb_143 wm_X11_124 (by decide +kernel))) <|
    xcn (rR (s_ret1 (by decide +kernel))) <|
    xcn (rO (s_aload_n (k := 0) (by decide +kernel))) <|
    xcn (rO (s_iload_n (k := 2) (by decide +kernel))) <|
    xcn (rO (s_iload_n (k := 3) (by decide +kernel))) <|
    xcn (rC (s_cV (index := 150) wb_150 wm_X11_150 (by decide +kernel))) <|
    xcn (rR (s_ret1 (by decide +kernel))) <|
    xcn (rO (s_aload_n (k := 0) (by decide +kernel))) <|
    xcn (rO (s_iload_n (k := 2) (by decide +kernel))) <|
    xcn (rC (s_cV (index := 98) wb_136 wm_X11_98 (by decide +kernel))) <|
    xcn (rR (s_ret1 (by decide +kernel))) <|
    xcn (rO (s_aload_n (k := 0) (by decide +kernel))) <|
    xcn (rO (s_iload_n (k := 2) (by decide +kernel))) <|
    xcn (rC (s_cV (index := 156) wb_153 wm_X11_156 (by decide +kernel))) <|
    xcn (rR (s_ret1 (by decide +kernel))) <|
    xcn (rO (s_aload_n (k := 0) (by decide +kernel))) <|
    xcn (rO (s_iload_n (k := 2) (by decide +kernel))) <|
    xcn (rC (s_cV (index := 145) wb_119 wm_X11_145 (by decide +kernel))) <|
    xcn (rJ (s_if_eq (off := 7) (by decide +kernel) (by decide +kernel) (by decide +kernel))) <|
    xcn (rO (s_iconst (n := 0) (by decide +kernel) (by decide))) <|
    xcn (rJ (s_goto (off := 5) (by decide +kernel) (by decide +kernel))) <|
    xcn (rO (s_bipush (n := (-2)) (by decide +kernel) (by decide))) <|
    xcn (rR (s_ret1 (by decide +kernel))) <|
    xcn (rO (s_iload_n (k := 2) (by decide +kernel))) <|
    xcn (rO (s_i2l (by decide +kernel))) <|
    xcn (rO (s_lconst (n := 1) (by decide +kernel) (by decide))) <|
    xcn (rO (s_ldc2 (n := 199) (x_mt 1164 (by decide +kernel) rfl) (by decide +kernel))) <|
    xcn (rC (s_cS (index := 53) wb_115 wm_X11_53 (by decide +kernel))) <|
    xcn (rJ (s_if_eq (off := 7) (by decide +kernel) (by decide +kernel) (by decide +kernel))) <|
    xcn (rO (s_iconst (n := 0) (by decide +kernel) (by decide))) <|
    xcn (rJ (s_goto (off := 5) (by decide +kernel) (by decide +kernel))) <|
    xcn (rO (s_bipush (n := (-2)) (by decide +kernel) (by decide))) <|
    xcn (rR (s_ret1 (by decide +kernel))) <| xnl
theorem xv_202 : xMd (xw_202, xp_202, yX11_can, cX11_can, 4, some .int) := ⟨by decide +kernel, rfl, by decide +kernel, by decide +kernel, xa_202⟩
set_option maxRecDepth 100000 in
theorem xa_203 : xAR (xRow RX11 cX11_does 4 (some .int) xp_203) xw_203 := by
  unfold xw_203
  exact xcn (rO (s_aload_n (k := 0) (by decide +kernel))) <|
    xcn (rO (s_get (T := TX11) (N := 17) (index := 46) x_iw11 rfl (by decide) wf_X11_46 rfl (by decide +kernel))) <|
    xcn (rO (s_iconst (n := 0) (by decide +kernel) (by decide))) <|
    xcn (rO (s_iald (by decide +kernel))) <|
    xcn (rO (s_istore_n (k := 2) (by decide) (by decide +kernel))) <|
    xcn (rO (s_aload_n (k := 0) (by decide +kernel))) <|
    xcn (rO (s_get (T := TX11) (N := 17) (index := 46) x_iw11 rfl (by decide) wf_X11_46 rfl (by decide +kernel))) <|
    xcn (rO (s_iconst (n := 1) (by decide +kernel) (by decide))) <|
    xcn (rO (s_iald (by decide +kernel))) <|
    xcn (rO (s_istore_n (k := 3) (by decide) (by decide +kernel))) <|
    xcn (rO (s_iload_n (k := 1) (by decide +kernel))) <|
    xcn (rJ (s_tsw (dflt := 174) (hi := 120) (offs := #[156, 174, 174, 162, 174, 174, 174, 174, 174, 174, 174, 109, 142, 174, 122, 149, 174, 174, 135, 174, 174, 174, 174, 168]) (len := 109) (by decide +kernel) (by decide) (by decide +kernel) (by decide +kernel))) <|
    xcn (rO (s_aload_n (k := 0) (by decide +kernel))) <|
    xcn (rO (s_iload_n (k := 2) (by decide +kernel))) <|
    xcn (rO (s_iload_n (k := 3) (by decide +kernel))) <|
    xcn (rO (s_aload_n (k := 0) (by decide +kernel))) <|
    xcn (rO (s_get (T := TX11) (N := 17) (index := 46) x_iw11 rfl (by decide) wf_X11_46 rfl (by decide +kernel))) <|
    xcn (rO (s_iconst (n := 2) (by decide +kernel) (by decide))) <|
    xcn (rO (s_iald (by decide +kernel))) <|
    xcn (rC (s_cV (index := 119) wb_141 wm_X11_119 (by decide +kernel))) <|
    xcn (rR (s_ret1 (by decide +kernel))) <|
    xcn (rO (s_aload_n (k := 0) (by decide +kernel))) <|
    xcn (rO (s_iload_n (k := 2) (by decide +kernel))) <|
    xcn (rO (s_iload_n (k := 3) (by decide +kernel))) <|
    xcn (rO (s_aload_n (k := 0) (by decide +kernel))) <|
    xcn (rO (s_get (T := TX11) (N := 17) (index := 46) x_iw11 rfl (by decide) wf_X11_46 rfl (by decide +kernel))) <|
    xcn (rO (s_iconst (n := 2) (by decide +kernel) (by decide))) <|
    xcn (rO (s_iald (by decide +kernel))) <|
    xcn (rC (s_cV (index := 204) wb_171 wm_X11_204 (by decide +kernel))) <|
    xcn (rR (s_ret1 (by decide +kernel))) <|
    xcn (rO (s_aload_n (k := 0) (by decide +kernel))) <|
    xcn (rO (s_iload_n (k := 2) (by decide +kernel))) <|
    xcn (rO (s_iload_n (k := 3) (by decide +kernel))) <|
    xcn (rC (s_cV (index := 142) wb_147 wm_X11_142 (by decide +kernel))) <|
    xcn (rR (s_ret1 (by decide +kernel))) <|
    xcn (rO (s_aload_n (k := 0) (by decide +kernel))) <|
    xcn (rO (s_iload_n (k := 2) (by decide +kernel))) <|
    xcn (rO (s_iload_n (k := 3) (by decide +kernel))) <|
    xcn (rC (s_cV (index := 127) wb_144 wm_X11_127 (by decide +kernel))) <|
    xcn (rR (s_ret1 (by decide +kernel))) <|
    xcn (rO (s_aload_n (k := 0) (by decide +kernel))) <|
    xcn (rO (s_iload_n (k := 2) (by decide +kernel))) <|
    xcn (rO (s_iload_n (k := 3) (by decide +kernel))) <|
    xcn (rC (s_cV (index := 153) wb_151 wm_X11_153 (by decide +kernel))) <|
    xcn (rR (s_ret1 (by decide +kernel))) <|
    xcn (rO (s_aload_n (k := 0) (by decide +kernel))) <|
    xcn (rO (s_iload_n (k := 2) (by decide +kernel))) <|
    xcn (rC (s_cV (index := 107) wb_137 wm_X11_107 (by decide +kernel))) <|
    xcn (rR (s_ret1 (by decide +kernel))) <|
    xcn (rO (s_aload_n (k := 0) (by decide +kernel))) <|
    xcn (rO (s_iload_n (k := 2) (by decide +kernel))) <|
    xcn (rC (s_cV (index := 159) wb_154 wm_X11_159 (by decide +kernel))) <|
    xcn (rR (s_ret1 (by decide +kernel))) <|
    xcn (rO (s_aload_n (k := 0) (by decide +kernel))) <|
    xcn (rO (s_iload_n (k := 2) (by decide +kernel))) <|
    xcn (rC (s_cV (index := 172) wb_159 wm_X11_172 (by decide +kernel))) <|
    xcn (rR (s_ret1 (by decide +kernel))) <|
    xcn (rO (s_aload_n (k := 0) (by decide +kernel))) <|
    xcn (rO (s_iload_n (k := 2) (by decide +kernel))) <|
    xcn (rC (s_cV (index := 222) wb_180 wm_X11_222 (by decide +kernel))) <|
    xcn (rR (s_ret1 (by decide +kernel))) <| xnl
theorem xv_203 : xMd (xw_203, xp_203, yX11_does, cX11_does, 4, some .int) := ⟨by decide +kernel, rfl, by decide +kernel, by decide +kernel, xa_203⟩
set_option maxRecDepth 100000 in
theorem xa_204 : xAR (xRow RX11 cX11_readsOrder 5 (some .boolean) xp_204) xw_204 := by
  unfold xw_204
  exact xcn (rO (s_aload_n (k := 0) (by decide +kernel))) <|
    xcn (rC (s_cV (index := 268) wb_198 wm_X11_268 (by decide +kernel))) <|
    xcn (rO (s_istore_n (k := 2) (by decide) (by decide +kernel))) <|
    xcn (rO (s_iload_n (k := 2) (by decide +kernel))) <|
    xcn (rC (s_cS (index := 274) wb_201 wm_X11_274 (by decide +kernel))) <|
    xcn (rO (s_istore_n (k := 3) (by decide) (by decide +kernel))) <|
    xcn (rO (s_iload_n (k := 3) (by decide +kernel))) <|
    xcn (rO (s_iconst (n := (-1)) (by decide +kernel) (by decide))) <|
    xcn (rJ (s_ic_ne (off := 5) (by decide +kernel) (by decide +kernel) (by decide +kernel))) <|
    xcn (rO (s_iconst (n := 0) (by decide +kernel) (by decide))) <|
    xcn (rR (s_ret2 (by decide +kernel))) <|
    xcn (rO (s_aload_n (k := 0) (by decide +kernel))) <|
    xcn (rO (s_dup (by decide +kernel))) <|
    xcn (rO (s_get (T := TX11) (N := 17) (index := 261) x_iw11 rfl (by decide) wf_X11_261 rfl (by decide +kernel))) <|
    xcn (rO (s_iconst (n := 1) (by decide +kernel) (by decide))) <|
    xcn (rO (s_iadd (by decide +kernel))) <|
    xcn (rO (s_put (T := TX11) (N := 17) (index := 261) (ty0 := tyX11) (z := false) x_iw11 tyX11_ok nmX11 rfl (by decide) wf_X11_261 rfl rfl rfl (by decide +kernel))) <|
    xcn (rO (s_aload_n (k := 0) (by decide +kernel))) <|
    xcn (rO (s_iload_n (k := 3) (by decide +kernel))) <|
    xcn (rC (s_cV (index := 277) wb_200 wm_X11_277 (by decide +kernel))) <|
    xcn (rJ (s_if_eq (off := 12) (by decide +kernel) (by decide +kernel) (by decide +kernel))) <|
    xcn (rO (s_aload_n (k := 0) (by decide +kernel))) <|
    xcn (rC (s_cV (index := 268) wb_198 wm_X11_268 (by decide +kernel))) <|
    xcn (rO (s_bipush (n := 59) (by decide +kernel) (by decide))) <|
    xcn (rJ (s_ic_eq (off := 5) (by decide +kernel) (by decide +kernel) (by decide +kernel))) <|
    xcn (rO (s_iconst (n := 0) (by decide +kernel) (by decide))) <|
    xcn (rR (s_ret2 (by decide +kernel))) <|
    xcn (rO (s_aload_n (k := 0) (by decide +kernel))) <|
    xcn (rO (s_dup (by decide +kernel))) <|
    xcn (rO (s_get (T := TX11) (N := 17) (index := 261) x_iw11 rfl (by decide) wf_X11_261 rfl (by decide +kernel))) <|
    xcn (rO (s_iconst (n := 1) (by decide +kernel) (by decide))) <|
    xcn (rO (s_iadd (by decide +kernel))) <|
    xcn (rO (s_put (T := TX11) (N := 17) (index := 261) (ty0 := tyX11) (z := false) x_iw11 tyX11_ok nmX11 rfl (by decide) wf_X11_261 rfl rfl rfl (by decide +kernel))) <|
    xcn (rO (s_iload_n (k := 1) (by decide +kernel))) <|
    xcn (rJ (s_if_eq (off := 30) (by decide +kernel) (by decide +kernel) (by decide +kernel))) <|
    xcn (rO (s_aload_n (k := 0) (by decide +kernel))) <|
    xcn (rO (s_aload_n (k := 0) (by decide +kernel))) <|
    xcn (rO (s_iload_n (k := 2) (by decide +kernel))) <|
    xcn (rC (s_cV (index := 280) wb_202 wm_X11_280 (by decide +kernel))) <|
    xcn (rO (s_put (T := TX11) (N := 17) (index := 283) (ty0 := tyX11) (z := false) x_iw11 tyX11_ok nmX11 rfl (by decide) wf_X11_283 rfl rfl rfl (by decide +kernel))) <|
    xcn (rO (s_aload_n (k := 0) (by decide +kernel))) <|
    xcn (rO (s_get (T := TX11) (N := 17) (index := 283) x_iw11 rfl (by decide) wf_X11_283 rfl (by decide +kernel))) <|
    xcn (rJ (s_if_ne (off := 11) (by decide +kernel) (by decide +kernel) (by decide +kernel))) <|
    xcn (rO (s_aload_n (k := 0) (by decide +kernel))) <|
    xcn (rO (s_iload_n (k := 2) (by decide +kernel))) <|
    xcn (rC (s_cV (index := 286) wb_203 wm_X11_286 (by decide +kernel))) <|
    xcn (rJ (s_goto (off := 4) (by decide +kernel) (by decide +kernel))) <|
    xcn (rO (s_iconst (n := 0) (by decide +kernel) (by decide))) <|
    xcn (rO (s_istore (k := 4) (by decide) (by decide +kernel))) <|
    xcn (rO (s_iconst (n := 1) (by decide +kernel) (by decide))) <|
    xcn (rR (s_ret2 (by decide +kernel))) <| xnl
theorem xv_204 : xMd (xw_204, xp_204, yX11_readsOrder, cX11_readsOrder, 5, some .boolean) := ⟨by decide +kernel, rfl, by decide +kernel, by decide +kernel, xa_204⟩
set_option maxRecDepth 100000 in
theorem xa_205 : xAR (xRow RX11 cX11_reads 4 (some .int) xp_205) xw_205 := by
  unfold xw_205
  exact xcn (rO (s_aload_n (k := 0) (by decide +kernel))) <|
    xcn (rO (s_iconst (n := 0) (by decide +kernel) (by decide))) <|
    xcn (rO (s_put (T := TX11) (N := 17) (index := 261) (ty0 := tyX11) (z := false) x_iw11 tyX11_ok nmX11 rfl (by decide) wf_X11_261 rfl rfl rfl (by decide +kernel))) <|
    xcn (rO (s_aload_n (k := 0) (by decide +kernel))) <|
    xcn (rO (s_iconst (n := 0) (by decide +kernel) (by decide))) <|
    xcn (rC (s_cV (index := 289) wb_204 wm_X11_289 (by decide +kernel))) <|
    xcn (rO (s_istore_n (k := 1) (by decide) (by decide +kernel))) <|
    xcn (rO s_fgt) <|
    xcn (rO (s_iload_n (k := 1) (by decide +kernel))) <|
    xcn (rJ (s_if_eq (off := 20) (by decide +kernel) (by decide +kernel) (by decide +kernel))) <|
    xcn (rO (s_aload_n (k := 0) (by decide +kernel))) <|
    xcn (rC (s_cV (index := 268) wb_198 wm_X11_268 (by decide +kernel))) <|
    xcn (rO (s_iconst (n := (-1)) (by decide +kernel) (by decide))) <|
    xcn (rJ (s_ic_eq (off := 12) (by decide +kernel) (by decide +kernel) (by decide +kernel))) <|
    xcn (rO (s_aload_n (k := 0) (by decide +kernel))) <|
    xcn (rO (s_iconst (n := 0) (by decide +kernel) (by decide))) <|
    xcn (rC (s_cV (index := 289) wb_204 wm_X11_289 (by decide +kernel))) <|
    xcn (rO (s_istore_n (k := 1) (by decide) (by decide +kernel))) <|
    xcn (rJ (s_goto (off := (-18)) (by decide +kernel) (by decide +kernel))) <|
    xcn (rO s_fgt) <|
    xcn (rO (s_iload_n (k := 1) (by decide +kernel))) <|
    xcn (rJ (s_if_ne (off := 11) (by decide +kernel) (by decide +kernel) (by decide +kernel))) <|
    xcn (rO (s_bipush (n := (-10)) (by decide +kernel) (by decide))) <|
    xcn (rO (s_aload_n (k := 0) (by decide +kernel))) <|
    xcn (rO (s_get (T := TX11) (N := 17) (index := 261) x_iw11 rfl (by decide) wf_X11_261 rfl (by decide +kernel))) <|
    xcn (rO (s_isub (by decide +kernel))) <|
    xcn (rR (s_ret1 (by decide +kernel))) <|
    xcn (rO (s_iconst (n := 0) (by decide +kernel) (by decide))) <|
    xcn (rO (s_istore_n (k := 2) (by decide) (by decide +kernel))) <|
    xcn (rO s_fgt) <|
    xcn (rO (s_iload_n (k := 2) (by decide +kernel))) <|
    xcn (rO (s_sipush (n := 169) (by decide +kernel) (by decide))) <|
    xcn (rJ (s_ic_ge (off := 21) (by decide +kernel) (by decide +kernel) (by decide +kernel))) <|
    xcn (rO (s_aload_n (k := 0) (by decide +kernel))) <|
    xcn (rO (s_get (T := TX11) (N := 17) (index := 16) x_iw11 rfl (by decide) wf_X11_16 rfl (by decide +kernel))) <|
    xcn (rO (s_iload_n (k := 2) (by decide +kernel))) <|
    xcn (rO (s_aload_n (k := 0) (by decide +kernel))) <|
    xcn (rO (s_get (T := TX11) (N := 17) (index := 7) x_iw11 rfl (by decide) wf_X11_7 rfl (by decide +kernel))) <|
    xcn (rO (s_iload_n (k := 2) (by decide +kernel))) <|
    xcn (rO (s_iald (by decide +kernel))) <|
    xcn (rO (s_iast (by decide +kernel))) <|
    xcn (rO (s_iinc (k := 2) (n := 1) (by decide) (by decide) (by decide +kernel))) <|
    xcn (rJ (s_goto (off := (-22)) (by decide +kernel) (by decide +kernel))) <|
    xcn (rO s_fgt) <|
    xcn (rO (s_iconst (n := 0) (by decide +kernel) (by decide))) <|
    xcn (rO (s_istore_n (k := 2) (by decide) (by decide +kernel))) <|
    xcn (rO (s_aload_n (k := 0) (by decide +kernel))) <|
    xcn (rO (s_iconst (n := 0) (by decide +kernel) (by decide))) <|
    xcn (rO (s_put (T := TX11) (N := 17) (index := 261) (ty0 := tyX11) (z := false) x_iw11 tyX11_ok nmX11 rfl (by decide) wf_X11_261 rfl rfl rfl (by decide +kernel))) <|
    xcn (rO (s_aload_n (k := 0) (by decide +kernel))) <|
    xcn (rO (s_iconst (n := 0) (by decide +kernel) (by decide))) <|
    xcn (rO (s_put (T := TX11) (N := 17) (index := 283) (ty0 := tyX11) (z := false) x_iw11 tyX11_ok nmX11 rfl (by decide) wf_X11_283 rfl rfl rfl (by decide +kernel))) <|
    xcn (rO s_fgt) <|
    xcn (rO (s_aload_n (k := 0) (by decide +kernel))) <|
    xcn (rC (s_cV (index := 268) wb_198 wm_X11_268 (by decide +kernel))) <|
    xcn (rO (s_iconst (n := (-1)) (by decide +kernel) (by decide))) <|
    xcn (rJ (s_ic_eq (off := 55) (by decide +kernel) (by decide +kernel) (by decide +kernel))) <|
    xcn (rO (s_aload_n (k := 0) (by decide +kernel))) <|
    xcn (rO (s_iconst (n := 1) (by decide +kernel) (by decide))) <|
    xcn (rC (s_cV (index := 289) wb_204 wm_X11_289 (by decide +kernel))) <|
    xcn (rO (s_istore_n (k := 1) (by decide) (by decide +kernel))) <|
    xcn (rO (s_aload_n (k := 0) (by decide +kernel))) <|
    xcn (rO (s_get (T := TX11) (N := 17) (index := 283) x_iw11 rfl (by decide) wf_X11_283 rfl (by decide +kernel))) <|
    xcn (rJ (s_if_ge (off := 36) (by decide +kernel) (by decide +kernel) (by decide +kernel))) <|
    xcn (rO s_fgt) <|
    xcn (rO (s_iconst (n := 0) (by decide +kernel) (by decide))) <|
    xcn (rO (s_istore_n (k := 3) (by decide) (by decide +kernel))) <|
    xcn (rO s_fgt) <|
    xcn (rO (s_iload_n (k := 3) (by decide +kernel))) <|
    xcn (rO (s_sipush (n := 169) (by decide +kernel) (by decide))) <|
    xcn (rJ (s_ic_ge (off := 21) (by decide +kernel) (by decide +kernel) (by decide +kernel))) <|
    xcn (rO (s_aload_n (k := 0) (by decide +kernel))) <|
    xcn (rO (s_get (T := TX11) (N := 17) (index := 7) x_iw11 rfl (by decide) wf_X11_7 rfl (by decide +kernel))) <|
    xcn (rO (s_iload_n (k := 3) (by decide +kernel))) <|
    xcn (rO (s_aload_n (k := 0) (by decide +kernel))) <|
    xcn (rO (s_get (T := TX11) (N := 17) (index := 16) x_iw11 rfl (by decide) wf_X11_16 rfl (by decide +kernel))) <|
    xcn (rO (s_iload_n (k := 3) (by decide +kernel))) <|
    xcn (rO (s_iald (by decide +kernel))) <|
    xcn (rO (s_iast (by decide +kernel))) <|
    xcn (rO (s_iinc (k := 3) (n := 1) (by decide) (by decide) (by decide +kernel))) <|
    xcn (rJ (s_goto (off := (-22)) (by decide +kernel) (by decide +kernel))) <|
    xcn (rO s_fgt) <|
    xcn (rO (s_sipush (n := (-1000)) (by decide +kernel) (by decide))) <|
    xcn (rO (s_iload_n (k := 2) (by decide +kernel))) <|
    xcn (rO (s_isub (by decide +kernel))) <|
    xcn (rR (s_ret1 (by decide +kernel))) <|
    xcn (rO (s_iinc (k := 2) (n := 1) (by decide) (by decide) (by decide +kernel))) <|
    xcn (rJ (s_goto (off := (-57)) (by decide +kernel) (by decide +kernel))) <|
    xcn (rO s_fgt) <|
    xcn (rO (s_aload_n (k := 0) (by decide +kernel))) <|
    xcn (rC (s_cV (index := 293) wb_206 wm_X11_293 (by decide +kernel))) <|
    xcn (rO (s_iload_n (k := 2) (by decide +kernel))) <|
    xcn (rR (s_ret1 (by decide +kernel))) <| xnl
theorem xv_205 : xMd (xw_205, xp_205, yX11_reads, cX11_reads, 4, some .int) := ⟨by decide +kernel, rfl, by decide +kernel, by decide +kernel, xa_205⟩
set_option maxRecDepth 100000 in
theorem xa_206 : xAR (xRow RX11 cX11_keepsAside 3 (none) xp_206) xw_206 := by
  unfold xw_206
  exact xcn (rO (s_iconst (n := 0) (by decide +kernel) (by decide))) <|
    xcn (rO (s_istore_n (k := 1) (by decide) (by decide +kernel))) <|
    xcn (rO s_fgt) <|
    xcn (rO (s_iload_n (k := 1) (by decide +kernel))) <|
    xcn (rO (s_sipush (n := 169) (by decide +kernel) (by decide))) <|
    xcn (rJ (s_ic_ge (off := 35) (by decide +kernel) (by decide +kernel) (by decide +kernel))) <|
    xcn (rO (s_aload_n (k := 0) (by decide +kernel))) <|
    xcn (rO (s_get (T := TX11) (N := 17) (index := 7) x_iw11 rfl (by decide) wf_X11_7 rfl (by decide +kernel))) <|
    xcn (rO (s_iload_n (k := 1) (by decide +kernel))) <|
    xcn (rO (s_iald (by decide +kernel))) <|
    xcn (rO (s_istore_n (k := 2) (by decide) (by decide +kernel))) <|
    xcn (rO (s_aload_n (k := 0) (by decide +kernel))) <|
    xcn (rO (s_get (T := TX11) (N := 17) (index := 7) x_iw11 rfl (by decide) wf_X11_7 rfl (by decide +kernel))) <|
    xcn (rO (s_iload_n (k := 1) (by decide +kernel))) <|
    xcn (rO (s_aload_n (k := 0) (by decide +kernel))) <|
    xcn (rO (s_get (T := TX11) (N := 17) (index := 16) x_iw11 rfl (by decide) wf_X11_16 rfl (by decide +kernel))) <|
    xcn (rO (s_iload_n (k := 1) (by decide +kernel))) <|
    xcn (rO (s_iald (by decide +kernel))) <|
    xcn (rO (s_iast (by decide +kernel))) <|
    xcn (rO (s_aload_n (k := 0) (by decide +kernel))) <|
    xcn (rO (s_get (T := TX11) (N := 17) (index := 16) x_iw11 rfl (by decide) wf_X11_16 rfl (by decide +kernel))) <|
    xcn (rO (s_iload_n (k := 1) (by decide +kernel))) <|
    xcn (rO (s_iload_n (k := 2) (by decide +kernel))) <|
    xcn (rO (s_iast (by decide +kernel))) <|
    xcn (rO (s_iinc (k := 1) (n := 1) (by decide) (by decide) (by decide +kernel))) <|
    xcn (rJ (s_goto (off := (-36)) (by decide +kernel) (by decide +kernel))) <|
    xcn (rO s_fgt) <|
    xcn (rO (s_aload_n (k := 0) (by decide +kernel))) <|
    xcn (rC (s_cV (index := 104) wb_117 wm_X11_104 (by decide +kernel))) <|
    xcn (rO (s_iconst (n := 0) (by decide +kernel) (by decide))) <|
    xcn (rO (s_istore_n (k := 1) (by decide) (by decide +kernel))) <|
    xcn (rO s_fgt) <|
    xcn (rO (s_iload_n (k := 1) (by decide +kernel))) <|
    xcn (rO (s_sipush (n := 169) (by decide +kernel) (by decide))) <|
    xcn (rJ (s_ic_ge (off := 21) (by decide +kernel) (by decide +kernel) (by decide +kernel))) <|
    xcn (rO (s_aload_n (k := 0) (by decide +kernel))) <|
    xcn (rO (s_get (T := TX11) (N := 17) (index := 7) x_iw11 rfl (by decide) wf_X11_7 rfl (by decide +kernel))) <|
    xcn (rO (s_iload_n (k := 1) (by decide +kernel))) <|
    xcn (rO (s_aload_n (k := 0) (by decide +kernel))) <|
    xcn (rO (s_get (T := TX11) (N := 17) (index := 16) x_iw11 rfl (by decide) wf_X11_16 rfl (by decide +kernel))) <|
    xcn (rO (s_iload_n (k := 1) (by decide +kernel))) <|
    xcn (rO (s_iald (by decide +kernel))) <|
    xcn (rO (s_iast (by decide +kernel))) <|
    xcn (rO (s_iinc (k := 1) (n := 1) (by decide) (by decide) (by decide +kernel))) <|
    xcn (rJ (s_goto (off := (-22)) (by decide +kernel) (by decide +kernel))) <|
    xcn (rO s_fgt) <|
    xcn (rR (s_ret0 (by decide +kernel))) <| xnl
theorem xv_206 : xMd (xw_206, xp_206, yX11_keepsAside, cX11_keepsAside, 3, none) := ⟨by decide +kernel, rfl, by decide +kernel, by decide +kernel, xa_206⟩
