set_option maxRecDepth 100000 in
theorem xa_98 : xAR (xRow RX10 cX10_worst 4 (some .int) xp_98) xw_98 := by
  unfold xw_98
  exact xcn (rO (s_iload_n (k := 1) (by decide +kernel))) <|
    xcn (rO (s_iconst (n := 1) (by decide +kernel) (by decide))) <|
    xcn (rO (s_iconst (n := 2) (by decide +kernel) (by decide))) <|
    xcn (rC (s_cS (index := 116) wb_114 wm_X10_116 (by decide +kernel))) <|
    xcn (rJ (s_if_eq (off := 12) (by decide +kernel) (by decide +kernel) (by decide +kernel))) <|
    xcn (rO (s_iload_n (k := 2) (by decide +kernel))) <|
    xcn (rO (s_iconst (n := 0) (by decide +kernel) (by decide))) <|
    xcn (rO (s_iconst (n := 1) (by decide +kernel) (by decide))) <|
    xcn (rC (s_cS (index := 116) wb_114 wm_X10_116 (by decide +kernel))) <|
    xcn (rJ (s_if_ne (off := 10) (by decide +kernel) (by decide +kernel) (by decide +kernel))) <|
    xcn (rO (s_aload_n (k := 0) (by decide +kernel))) <|
    xcn (rO (s_bipush (n := (-2)) (by decide +kernel) (by decide))) <|
    xcn (rC (s_cV (index := 110) wb_113 wm_X10_110 (by decide +kernel))) <|
    xcn (rR (s_ret1 (by decide +kernel))) <|
    xcn (rO (s_aload_n (k := 0) (by decide +kernel))) <|
    xcn (rO (s_get (T := TX10) (N := 10) (index := 44) x_iw10 rfl (by decide) wf_X10_44 rfl (by decide +kernel))) <|
    xcn (rO (s_iload_n (k := 1) (by decide +kernel))) <|
    xcn (rC (s_cV (index := 175) wb_30 wm_X10_175 (by decide +kernel))) <|
    xcn (rO (s_istore_n (k := 3) (by decide) (by decide +kernel))) <|
    xcn (rO (s_iload_n (k := 3) (by decide +kernel))) <|
    xcn (rO (s_iconst (n := (-1)) (by decide +kernel) (by decide))) <|
    xcn (rJ (s_ic_eq (off := 8) (by decide +kernel) (by decide +kernel) (by decide +kernel))) <|
    xcn (rO (s_iload_n (k := 2) (by decide +kernel))) <|
    xcn (rO (s_iconst (n := 1) (by decide +kernel) (by decide))) <|
    xcn (rJ (s_ic_ne (off := 7) (by decide +kernel) (by decide +kernel) (by decide +kernel))) <|
    xcn (rO (s_iload_n (k := 3) (by decide +kernel))) <|
    xcn (rJ (s_goto (off := 11) (by decide +kernel) (by decide +kernel))) <|
    xcn (rO (s_aload_n (k := 0) (by decide +kernel))) <|
    xcn (rO (s_get (T := TX10) (N := 10) (index := 44) x_iw10 rfl (by decide) wf_X10_44 rfl (by decide +kernel))) <|
    xcn (rO (s_iload_n (k := 3) (by decide +kernel))) <|
    xcn (rC (s_cV (index := 178) wb_31 wm_X10_178 (by decide +kernel))) <|
    xcn (rR (s_ret1 (by decide +kernel))) <| xnl
theorem xv_98 : xMd (xw_98, xp_98, yX10_worst, cX10_worst, 4, some .int) := ⟨by decide +kernel, rfl, by decide +kernel, by decide +kernel, xa_98⟩
set_option maxRecDepth 100000 in
theorem xa_99 : xAR (xRow RX10 cX10_type 2 (some .int) xp_99) xw_99 := by
  unfold xw_99
  exact xcn (rO (s_iload_n (k := 1) (by decide +kernel))) <|
    xcn (rO (s_iconst (n := 0) (by decide +kernel) (by decide))) <|
    xcn (rO (s_bipush (n := 127) (by decide +kernel) (by decide))) <|
    xcn (rC (s_cS (index := 116) wb_114 wm_X10_116 (by decide +kernel))) <|
    xcn (rJ (s_if_ne (off := 10) (by decide +kernel) (by decide +kernel) (by decide +kernel))) <|
    xcn (rO (s_aload_n (k := 0) (by decide +kernel))) <|
    xcn (rO (s_bipush (n := (-2)) (by decide +kernel) (by decide))) <|
    xcn (rC (s_cV (index := 110) wb_113 wm_X10_110 (by decide +kernel))) <|
    xcn (rR (s_ret1 (by decide +kernel))) <|
    xcn (rO (s_aload_n (k := 0) (by decide +kernel))) <|
    xcn (rO (s_aload_n (k := 0) (by decide +kernel))) <|
    xcn (rO (s_get (T := TX10) (N := 10) (index := 60) x_iw10 rfl (by decide) wf_X10_60 rfl (by decide +kernel))) <|
    xcn (rO (s_iload_n (k := 1) (by decide +kernel))) <|
    xcn (rC (s_cV (index := 181) wb_53 wm_X10_181 (by decide +kernel))) <|
    xcn (rC (s_cV (index := 110) wb_113 wm_X10_110 (by decide +kernel))) <|
    xcn (rR (s_ret1 (by decide +kernel))) <| xnl
theorem xv_99 : xMd (xw_99, xp_99, yX10_type, cX10_type, 2, some .int) := ⟨by decide +kernel, rfl, by decide +kernel, by decide +kernel, xa_99⟩
set_option maxRecDepth 100000 in
theorem xa_100 : xAR (xRow RX10 cX10_clear 1 (some .int) xp_100) xw_100 := by
  unfold xw_100
  exact xcn (rO (s_aload_n (k := 0) (by decide +kernel))) <|
    xcn (rO (s_get (T := TX10) (N := 10) (index := 60) x_iw10 rfl (by decide) wf_X10_60 rfl (by decide +kernel))) <|
    xcn (rC (s_cV (index := 184) wb_54 wm_X10_184 (by decide +kernel))) <|
    xcn (rR (s_ret1 (by decide +kernel))) <| xnl
theorem xv_100 : xMd (xw_100, xp_100, yX10_clear, cX10_clear, 1, some .int) := ⟨by decide +kernel, rfl, by decide +kernel, by decide +kernel, xa_100⟩
set_option maxRecDepth 100000 in
theorem xa_101 : xAR (xRow RX10 cX10_reads 4 (some .int) xp_101) xw_101 := by
  unfold xw_101
  exact xcn (rO (s_aload_n (k := 0) (by decide +kernel))) <|
    xcn (rO (s_get (T := TX10) (N := 10) (index := 60) x_iw10 rfl (by decide) wf_X10_60 rfl (by decide +kernel))) <|
    xcn (rC (s_cV (index := 187) wb_57 wm_X10_187 (by decide +kernel))) <|
    xcn (rO (s_istore_n (k := 1) (by decide) (by decide +kernel))) <|
    xcn (rO (s_iload_n (k := 1) (by decide +kernel))) <|
    xcn (rO (s_iconst (n := (-1)) (by decide +kernel) (by decide))) <|
    xcn (rJ (s_ic_eq (off := 8) (by decide +kernel) (by decide +kernel) (by decide +kernel))) <|
    xcn (rO (s_bipush (n := (-10)) (by decide +kernel) (by decide))) <|
    xcn (rO (s_iload_n (k := 1) (by decide +kernel))) <|
    xcn (rO (s_isub (by decide +kernel))) <|
    xcn (rR (s_ret1 (by decide +kernel))) <|
    xcn (rO (s_aload_n (k := 0) (by decide +kernel))) <|
    xcn (rC (s_cV (index := 64) wb_111 wm_X10_64 (by decide +kernel))) <|
    xcn (rO (s_iconst (n := 0) (by decide +kernel) (by decide))) <|
    xcn (rO (s_istore_n (k := 2) (by decide) (by decide +kernel))) <|
    xcn (rO s_fgt) <|
    xcn (rO (s_iload_n (k := 2) (by decide +kernel))) <|
    xcn (rO (s_aload_n (k := 0) (by decide +kernel))) <|
    xcn (rO (s_get (T := TX10) (N := 10) (index := 60) x_iw10 rfl (by decide) wf_X10_60 rfl (by decide +kernel))) <|
    xcn (rO (s_get (T := TX6) (N := 7) (index := 190) x_iw6 rfl (by decide) wf_X10_190 rfl (by decide +kernel))) <|
    xcn (rJ (s_ic_ge (off := 73) (by decide +kernel) (by decide +kernel) (by decide +kernel))) <|
    xcn (rO (s_aload_n (k := 0) (by decide +kernel))) <|
    xcn (rO (s_get (T := TX10) (N := 10) (index := 53) x_iw10 rfl (by decide) wf_X10_53 rfl (by decide +kernel))) <|
    xcn (rO (s_aload_n (k := 0) (by decide +kernel))) <|
    xcn (rO (s_get (T := TX10) (N := 10) (index := 60) x_iw10 rfl (by decide) wf_X10_60 rfl (by decide +kernel))) <|
    xcn (rO (s_iload_n (k := 2) (by decide +kernel))) <|
    xcn (rC (s_cV (index := 193) wb_55 wm_X10_193 (by decide +kernel))) <|
    xcn (rO (s_aload_n (k := 0) (by decide +kernel))) <|
    xcn (rO (s_get (T := TX10) (N := 10) (index := 60) x_iw10 rfl (by decide) wf_X10_60 rfl (by decide +kernel))) <|
    xcn (rO (s_iload_n (k := 2) (by decide +kernel))) <|
    xcn (rO (s_iconst (n := 0) (by decide +kernel) (by decide))) <|
    xcn (rC (s_cV (index := 196) wb_56 wm_X10_196 (by decide +kernel))) <|
    xcn (rO (s_aload_n (k := 0) (by decide +kernel))) <|
    xcn (rO (s_get (T := TX10) (N := 10) (index := 60) x_iw10 rfl (by decide) wf_X10_60 rfl (by decide +kernel))) <|
    xcn (rO (s_iload_n (k := 2) (by decide +kernel))) <|
    xcn (rO (s_iconst (n := 1) (by decide +kernel) (by decide))) <|
    xcn (rC (s_cV (index := 196) wb_56 wm_X10_196 (by decide +kernel))) <|
    xcn (rO (s_aload_n (k := 0) (by decide +kernel))) <|
    xcn (rO (s_get (T := TX10) (N := 10) (index := 60) x_iw10 rfl (by decide) wf_X10_60 rfl (by decide +kernel))) <|
    xcn (rO (s_iload_n (k := 2) (by decide +kernel))) <|
    xcn (rO (s_iconst (n := 2) (by decide +kernel) (by decide))) <|
    xcn (rC (s_cV (index := 196) wb_56 wm_X10_196 (by decide +kernel))) <|
    xcn (rC (s_cV (index := 199) wb_0 wm_X10_199 (by decide +kernel))) <|
    xcn (rO (s_istore_n (k := 3) (by decide) (by decide +kernel))) <|
    xcn (rO (s_iload_n (k := 3) (by decide +kernel))) <|
    xcn (rJ (s_if_ge (off := 20) (by decide +kernel) (by decide +kernel) (by decide +kernel))) <|
    xcn (rO s_fgt) <|
    xcn (rO (s_aload_n (k := 0) (by decide +kernel))) <|
    xcn (rO (s_get (T := TX10) (N := 10) (index := 19) x_iw10 rfl (by decide) wf_X10_19 rfl (by decide +kernel))) <|
    xcn (rO (s_aload_n (k := 0) (by decide +kernel))) <|
    xcn (rO (s_get (T := TX10) (N := 10) (index := 10) x_iw10 rfl (by decide) wf_X10_10 rfl (by decide +kernel))) <|
    xcn (rC (s_cV (index := 203) wb_34 wm_X10_203 (by decide +kernel))) <|
    xcn (rO (s_sipush (n := (-1000)) (by decide +kernel) (by decide))) <|
    xcn (rO (s_iload_n (k := 2) (by decide +kernel))) <|
    xcn (rO (s_isub (by decide +kernel))) <|
    xcn (rR (s_ret1 (by decide +kernel))) <|
    xcn (rO (s_iinc (k := 2) (n := 1) (by decide) (by decide) (by decide +kernel))) <|
    xcn (rJ (s_goto (off := (-78)) (by decide +kernel) (by decide +kernel))) <|
    xcn (rO s_fgt) <|
    xcn (rO (s_aload_n (k := 0) (by decide +kernel))) <|
    xcn (rO (s_aload_n (k := 0) (by decide +kernel))) <|
    xcn (rO (s_get (T := TX10) (N := 10) (index := 60) x_iw10 rfl (by decide) wf_X10_60 rfl (by decide +kernel))) <|
    xcn (rO (s_get (T := TX6) (N := 7) (index := 190) x_iw6 rfl (by decide) wf_X10_190 rfl (by decide +kernel))) <|
    xcn (rC (s_cV (index := 71) wb_112 wm_X10_71 (by decide +kernel))) <|
    xcn (rR (s_ret1 (by decide +kernel))) <| xnl
theorem xv_101 : xMd (xw_101, xp_101, yX10_reads, cX10_reads, 4, some .int) := ⟨by decide +kernel, rfl, by decide +kernel, by decide +kernel, xa_101⟩
set_option maxRecDepth 100000 in
theorem xa_102 : xAR (xRow RX10 cX10_back 1 (some .int) xp_102) xw_102 := by
  unfold xw_102
  exact xcn (rO (s_aload_n (k := 0) (by decide +kernel))) <|
    xcn (rO (s_get (T := TX10) (N := 10) (index := 19) x_iw10 rfl (by decide) wf_X10_19 rfl (by decide +kernel))) <|
    xcn (rO (s_get (T := TX3) (N := 3) (index := 206) x_iw3 rfl (by decide) wf_X10_206 rfl (by decide +kernel))) <|
    xcn (rJ (s_if_ne (off := 10) (by decide +kernel) (by decide +kernel) (by decide +kernel))) <|
    xcn (rO (s_aload_n (k := 0) (by decide +kernel))) <|
    xcn (rO (s_bipush (n := (-3)) (by decide +kernel) (by decide))) <|
    xcn (rC (s_cV (index := 110) wb_113 wm_X10_110 (by decide +kernel))) <|
    xcn (rR (s_ret1 (by decide +kernel))) <|
    xcn (rO (s_aload_n (k := 0) (by decide +kernel))) <|
    xcn (rO (s_get (T := TX10) (N := 10) (index := 19) x_iw10 rfl (by decide) wf_X10_19 rfl (by decide +kernel))) <|
    xcn (rO (s_aload_n (k := 0) (by decide +kernel))) <|
    xcn (rO (s_get (T := TX10) (N := 10) (index := 10) x_iw10 rfl (by decide) wf_X10_10 rfl (by decide +kernel))) <|
    xcn (rC (s_cV (index := 209) wb_35 wm_X10_209 (by decide +kernel))) <|
    xcn (rO (s_aload_n (k := 0) (by decide +kernel))) <|
    xcn (rO (s_get (T := TX10) (N := 10) (index := 37) x_iw10 rfl (by decide) wf_X10_37 rfl (by decide +kernel))) <|
    xcn (rC (s_cV (index := 212) wb_46 wm_X10_212 (by decide +kernel))) <|
    xcn (rO (s_aload_n (k := 0) (by decide +kernel))) <|
    xcn (rO (s_get (T := TX10) (N := 10) (index := 19) x_iw10 rfl (by decide) wf_X10_19 rfl (by decide +kernel))) <|
    xcn (rO (s_get (T := TX3) (N := 3) (index := 206) x_iw3 rfl (by decide) wf_X10_206 rfl (by decide +kernel))) <|
    xcn (rR (s_ret1 (by decide +kernel))) <| xnl
theorem xv_102 : xMd (xw_102, xp_102, yX10_back, cX10_back, 1, some .int) := ⟨by decide +kernel, rfl, by decide +kernel, by decide +kernel, xa_102⟩
set_option maxRecDepth 100000 in
theorem xa_103 : xAR (xRow RX10 cX10_told 2 (some .int) xp_103) xw_103 := by
  unfold xw_103
  exact xcn (rO (s_iload_n (k := 1) (by decide +kernel))) <|
    xcn (rO (s_iconst (n := 0) (by decide +kernel) (by decide))) <|
    xcn (rO (s_bipush (n := 12) (by decide +kernel) (by decide))) <|
    xcn (rC (s_cS (index := 116) wb_114 wm_X10_116 (by decide +kernel))) <|
    xcn (rJ (s_if_eq (off := 11) (by decide +kernel) (by decide +kernel) (by decide +kernel))) <|
    xcn (rO (s_aload_n (k := 0) (by decide +kernel))) <|
    xcn (rO (s_iload_n (k := 1) (by decide +kernel))) <|
    xcn (rC (s_cV (index := 215) wb_110 wm_X10_215 (by decide +kernel))) <|
    xcn (rJ (s_goto (off := 9) (by decide +kernel) (by decide +kernel))) <|
    xcn (rO (s_aload_n (k := 0) (by decide +kernel))) <|
    xcn (rO (s_bipush (n := (-2)) (by decide +kernel) (by decide))) <|
    xcn (rC (s_cV (index := 110) wb_113 wm_X10_110 (by decide +kernel))) <|
    xcn (rR (s_ret1 (by decide +kernel))) <| xnl
theorem xv_103 : xMd (xw_103, xp_103, yX10_told, cX10_told, 2, some .int) := ⟨by decide +kernel, rfl, by decide +kernel, by decide +kernel, xa_103⟩
set_option maxRecDepth 100000 in
theorem xa_104 : xAR (xRow RX10 cX10_digest 5 (some .long) xp_104) xw_104 := by
  unfold xw_104
  exact xcn (rO (s_ldc2 (n := 218) (x_mt 863 (by decide +kernel) rfl) (by decide +kernel))) <|
    xcn (rO (s_lstore_n (k := 1) (by decide) (by decide +kernel))) <|
    xcn (rO (s_iconst (n := 0) (by decide +kernel) (by decide))) <|
    xcn (rO (s_istore_n (k := 3) (by decide) (by decide +kernel))) <|
    xcn (rO s_fgt) <|
    xcn (rO (s_iload_n (k := 3) (by decide +kernel))) <|
    xcn (rO (s_bipush (n := 13) (by decide +kernel) (by decide))) <|
    xcn (rJ (s_ic_ge (off := 19) (by decide +kernel) (by decide +kernel) (by decide +kernel))) <|
    xcn (rO (s_lload_n (k := 1) (by decide +kernel))) <|
    xcn (rO (s_aload_n (k := 0) (by decide +kernel))) <|
    xcn (rO (s_iload_n (k := 3) (by decide +kernel))) <|
    xcn (rC (s_cV (index := 215) wb_110 wm_X10_215 (by decide +kernel))) <|
    xcn (rC (s_cS (index := 220) wb_106 wm_X10_220 (by decide +kernel))) <|
    xcn (rO (s_lstore_n (k := 1) (by decide) (by decide +kernel))) <|
    xcn (rO (s_iinc (k := 3) (n := 1) (by decide) (by decide) (by decide +kernel))) <|
    xcn (rJ (s_goto (off := (-19)) (by decide +kernel) (by decide +kernel))) <|
    xcn (rO s_fgt) <|
    xcn (rO (s_aload_n (k := 0) (by decide +kernel))) <|
    xcn (rO (s_lload_n (k := 1) (by decide +kernel))) <|
    xcn (rC (s_cV (index := 224) wb_105 wm_X10_224 (by decide +kernel))) <|
    xcn (rO (s_lstore_n (k := 1) (by decide) (by decide +kernel))) <|
    xcn (rO (s_iconst (n := 0) (by decide +kernel) (by decide))) <|
    xcn (rO (s_istore_n (k := 3) (by decide) (by decide +kernel))) <|
    xcn (rO s_fgt) <|
    xcn (rO (s_iload_n (k := 3) (by decide +kernel))) <|
    xcn (rO (s_aload_n (k := 0) (by decide +kernel))) <|
    xcn (rO (s_get (T := TX10) (N := 10) (index := 10) x_iw10 rfl (by decide) wf_X10_10 rfl (by decide +kernel))) <|
    xcn (rO (s_get (T := TX9) (N := 7) (index := 123) x_iw9 rfl (by decide) wf_X10_123 rfl (by decide +kernel))) <|
    xcn (rO (s_get (T := TX8) (N := 7) (index := 165) x_iw8 rfl (by decide) wf_X10_165 rfl (by decide +kernel))) <|
    xcn (rJ (s_ic_ge (off := 37) (by decide +kernel) (by decide +kernel) (by decide +kernel))) <|
    xcn (rO (s_iconst (n := 0) (by decide +kernel) (by decide))) <|
    xcn (rO (s_istore (k := 4) (by decide) (by decide +kernel))) <|
    xcn (rO s_fgt) <|
    xcn (rO (s_iload (k := 4) (by decide +kernel))) <|
    xcn (rO (s_bipush (n := 10) (by decide +kernel) (by decide))) <|
    xcn (rJ (s_ic_ge (off := 21) (by decide +kernel) (by decide +kernel) (by decide +kernel))) <|
    xcn (rO (s_lload_n (k := 1) (by decide +kernel))) <|
    xcn (rO (s_aload_n (k := 0) (by decide +kernel))) <|
    xcn (rO (s_iload_n (k := 3) (by decide +kernel))) <|
    xcn (rO (s_iload (k := 4) (by decide +kernel))) <|
    xcn (rC (s_cV (index := 130) wb_108 wm_X10_130 (by decide +kernel))) <|
    xcn (rC (s_cS (index := 220) wb_106 wm_X10_220 (by decide +kernel))) <|
    xcn (rO (s_lstore_n (k := 1) (by decide) (by decide +kernel))) <|
    xcn (rO (s_iinc (k := 4) (n := 1) (by decide) (by decide) (by decide +kernel))) <|
    xcn (rJ (s_goto (off := (-22)) (by decide +kernel) (by decide +kernel))) <|
    xcn (rO s_fgt) <|
    xcn (rO (s_iinc (k := 3) (n := 1) (by decide) (by decide) (by decide +kernel))) <|
    xcn (rJ (s_goto (off := (-45)) (by decide +kernel) (by decide +kernel))) <|
    xcn (rO s_fgt) <|
    xcn (rO (s_iconst (n := 0) (by decide +kernel) (by decide))) <|
    xcn (rO (s_istore_n (k := 3) (by decide) (by decide +kernel))) <|
    xcn (rO s_fgt) <|
    xcn (rO (s_iload_n (k := 3) (by decide +kernel))) <|
    xcn (rO (s_aload_n (k := 0) (by decide +kernel))) <|
    xcn (rO (s_get (T := TX10) (N := 10) (index := 10) x_iw10 rfl (by decide) wf_X10_10 rfl (by decide +kernel))) <|
    xcn (rO (s_get (T := TX9) (N := 7) (index := 139) x_iw9 rfl (by decide) wf_X10_139 rfl (by decide +kernel))) <|
    xcn (rO (s_get (T := TX7) (N := 5) (index := 228) x_iw7 rfl (by decide) wf_X10_228 rfl (by decide +kernel))) <|
    xcn (rJ (s_ic_ge (off := 36) (by decide +kernel) (by decide +kernel) (by decide +kernel))) <|
    xcn (rO (s_iconst (n := 0) (by decide +kernel) (by decide))) <|
    xcn (rO (s_istore (k := 4) (by decide) (by decide +kernel))) <|
    xcn (rO s_fgt) <|
    xcn (rO (s_iload (k := 4) (by decide +kernel))) <|
    xcn (rO (s_iconst (n := 5) (by decide +kernel) (by decide))) <|
    xcn (rJ (s_ic_ge (off := 21) (by decide +kernel) (by decide +kernel) (by decide +kernel))) <|
    xcn (rO (s_lload_n (k := 1) (by decide +kernel))) <|
    xcn (rO (s_aload_n (k := 0) (by decide +kernel))) <|
    xcn (rO (s_iload_n (k := 3) (by decide +kernel))) <|
    xcn (rO (s_iload (k := 4) (by decide +kernel))) <|
    xcn (rC (s_cV (index := 146) wb_109 wm_X10_146 (by decide +kernel))) <|
    xcn (rC (s_cS (index := 220) wb_106 wm_X10_220 (by decide +kernel))) <|
    xcn (rO (s_lstore_n (k := 1) (by decide) (by decide +kernel))) <|
    xcn (rO (s_iinc (k := 4) (n := 1) (by decide) (by decide) (by decide +kernel))) <|
    xcn (rJ (s_goto (off := (-21)) (by decide +kernel) (by decide +kernel))) <|
    xcn (rO s_fgt) <|
    xcn (rO (s_iinc (k := 3) (n := 1) (by decide) (by decide) (by decide +kernel))) <|
    xcn (rJ (s_goto (off := (-44)) (by decide +kernel) (by decide +kernel))) <|
    xcn (rO s_fgt) <|
    xcn (rO (s_lload_n (k := 1) (by decide +kernel))) <|
    xcn (rR (s_ret3 (by decide +kernel))) <| xnl
theorem xv_104 : xMd (xw_104, xp_104, yX10_digest, cX10_digest, 5, some .long) := ⟨by decide +kernel, rfl, by decide +kernel, by decide +kernel, xa_104⟩
set_option maxRecDepth 100000 in
theorem xa_105 : xAR (xRow RX10 cX10_digestOfAreas 7 (some .long) xp_105) xw_105 := by
  unfold xw_105
  exact xcn (rO (s_lload_n (k := 1) (by decide +kernel))) <|
    xcn (rO (s_lstore_n (k := 3) (by decide) (by decide +kernel))) <|
    xcn (rO (s_iconst (n := 0) (by decide +kernel) (by decide))) <|
    xcn (rO (s_istore (k := 5) (by decide) (by decide +kernel))) <|
    xcn (rO s_fgt) <|
    xcn (rO (s_iload (k := 5) (by decide +kernel))) <|
    xcn (rO (s_aload_n (k := 0) (by decide +kernel))) <|
    xcn (rO (s_get (T := TX10) (N := 10) (index := 10) x_iw10 rfl (by decide) wf_X10_10 rfl (by decide +kernel))) <|
    xcn (rO (s_get (T := TX9) (N := 7) (index := 100) x_iw9 rfl (by decide) wf_X10_100 rfl (by decide +kernel))) <|
    xcn (rO (s_get (T := TX1) (N := 6) (index := 229) x_iw1 rfl (by decide) wf_X10_229 rfl (by decide +kernel))) <|
    xcn (rJ (s_ic_ge (off := 38) (by decide +kernel) (by decide +kernel) (by decide +kernel))) <|
    xcn (rO (s_iconst (n := 0) (by decide +kernel) (by decide))) <|
    xcn (rO (s_istore (k := 6) (by decide) (by decide +kernel))) <|
    xcn (rO s_fgt) <|
    xcn (rO (s_iload (k := 6) (by decide +kernel))) <|
    xcn (rO (s_bipush (n := 6) (by decide +kernel) (by decide))) <|
    xcn (rJ (s_ic_ge (off := 22) (by decide +kernel) (by decide +kernel) (by decide +kernel))) <|
    xcn (rO (s_lload_n (k := 3) (by decide +kernel))) <|
    xcn (rO (s_aload_n (k := 0) (by decide +kernel))) <|
    xcn (rO (s_iload (k := 5) (by decide +kernel))) <|
    xcn (rO (s_iload (k := 6) (by decide +kernel))) <|
    xcn (rC (s_cV (index := 120) wb_107 wm_X10_120 (by decide +kernel))) <|
    xcn (rC (s_cS (index := 220) wb_106 wm_X10_220 (by decide +kernel))) <|
    xcn (rO (s_lstore_n (k := 3) (by decide) (by decide +kernel))) <|
    xcn (rO (s_iinc (k := 6) (n := 1) (by decide) (by decide) (by decide +kernel))) <|
    xcn (rJ (s_goto (off := (-23)) (by decide +kernel) (by decide +kernel))) <|
    xcn (rO s_fgt) <|
    xcn (rO (s_iinc (k := 5) (n := 1) (by decide) (by decide) (by decide +kernel))) <|
    xcn (rJ (s_goto (off := (-47)) (by decide +kernel) (by decide +kernel))) <|
    xcn (rO s_fgt) <|
    xcn (rO (s_iconst (n := 0) (by decide +kernel) (by decide))) <|
    xcn (rO (s_istore (k := 5) (by decide) (by decide +kernel))) <|
    xcn (rO s_fgt) <|
    xcn (rO (s_iload (k := 5) (by decide +kernel))) <|
    xcn (rO (s_aload_n (k := 0) (by decide +kernel))) <|
    xcn (rO (s_get (T := TX10) (N := 10) (index := 10) x_iw10 rfl (by decide) wf_X10_10 rfl (by decide +kernel))) <|
    xcn (rO (s_get (T := TX9) (N := 7) (index := 100) x_iw9 rfl (by decide) wf_X10_100 rfl (by decide +kernel))) <|
    xcn (rO (s_get (T := TX1) (N := 6) (index := 229) x_iw1 rfl (by decide) wf_X10_229 rfl (by decide +kernel))) <|
    xcn (rJ (s_ic_ge (off := 63) (by decide +kernel) (by decide +kernel) (by decide +kernel))) <|
    xcn (rO (s_iconst (n := 0) (by decide +kernel) (by decide))) <|
    xcn (rO (s_istore (k := 6) (by decide) (by decide +kernel))) <|
    xcn (rO s_fgt) <|
    xcn (rO (s_iload (k := 6) (by decide +kernel))) <|
    xcn (rO (s_iload (k := 5) (by decide +kernel))) <|
    xcn (rJ (s_ic_ge (off := 47) (by decide +kernel) (by decide +kernel) (by decide +kernel))) <|
    xcn (rO (s_lload_n (k := 3) (by decide +kernel))) <|
    xcn (rO (s_aload_n (k := 0) (by decide +kernel))) <|
    xcn (rO (s_get (T := TX10) (N := 10) (index := 10) x_iw10 rfl (by decide) wf_X10_10 rfl (by decide +kernel))) <|
    xcn (rO (s_get (T := TX9) (N := 7) (index := 100) x_iw9 rfl (by decide) wf_X10_100 rfl (by decide +kernel))) <|
    xcn (rO (s_iload (k := 6) (by decide +kernel))) <|
    xcn (rO (s_iload (k := 5) (by decide +kernel))) <|
    xcn (rC (s_cV (index := 230) wb_20 wm_X10_230 (by decide +kernel))) <|
    xcn (rC (s_cS (index := 220) wb_106 wm_X10_220 (by decide +kernel))) <|
    xcn (rO (s_lstore_n (k := 3) (by decide) (by decide +kernel))) <|
    xcn (rO (s_lload_n (k := 3) (by decide +kernel))) <|
    xcn (rO (s_aload_n (k := 0) (by decide +kernel))) <|
    xcn (rO (s_get (T := TX10) (N := 10) (index := 10) x_iw10 rfl (by decide) wf_X10_10 rfl (by decide +kernel))) <|
    xcn (rO (s_get (T := TX9) (N := 7) (index := 100) x_iw9 rfl (by decide) wf_X10_100 rfl (by decide +kernel))) <|
    xcn (rO (s_iload (k := 6) (by decide +kernel))) <|
    xcn (rO (s_iload (k := 5) (by decide +kernel))) <|
    xcn (rC (s_cV (index := 113) wb_21 wm_X10_113 (by decide +kernel))) <|
    xcn (rC (s_cS (index := 220) wb_106 wm_X10_220 (by decide +kernel))) <|
    xcn (rO (s_lstore_n (k := 3) (by decide) (by decide +kernel))) <|
    xcn (rO (s_iinc (k := 6) (n := 1) (by decide) (by decide) (by decide +kernel))) <|
    xcn (rJ (s_goto (off := (-48)) (by decide +kernel) (by decide +kernel))) <|
    xcn (rO s_fgt) <|
    xcn (rO (s_iinc (k := 5) (n := 1) (by decide) (by decide) (by decide +kernel))) <|
    xcn (rJ (s_goto (off := (-72)) (by decide +kernel) (by decide +kernel))) <|
    xcn (rO s_fgt) <|
    xcn (rO (s_lload_n (k := 3) (by decide +kernel))) <|
    xcn (rR (s_ret3 (by decide +kernel))) <| xnl
theorem xv_105 : xMd (xw_105, xp_105, yX10_digestOfAreas, cX10_digestOfAreas, 7, some .long) := ⟨by decide +kernel, rfl, by decide +kernel, by decide +kernel, xa_105⟩
set_option maxRecDepth 100000 in
theorem xa_106 : xAR (xRow RX10 cX10_mixed 3 (some .long) xp_106) xw_106 := by
  unfold xw_106
  exact xcn (rO (s_ldc2 (n := 233) (x_mt 867 (by decide +kernel) rfl) (by decide +kernel))) <|
    xcn (rO (s_lload_n (k := 0) (by decide +kernel))) <|
    xcn (rO (s_lmul (by decide +kernel))) <|
    xcn (rO (s_iload_n (k := 2) (by decide +kernel))) <|
    xcn (rO (s_i2l (by decide +kernel))) <|
    xcn (rO (s_ladd (by decide +kernel))) <|
    xcn (rR (s_ret3 (by decide +kernel))) <| xnl
theorem xv_106 : xMd (xw_106, xp_106, yX10_mixed, cX10_mixed, 3, some .long) := ⟨by decide +kernel, rfl, by decide +kernel, by decide +kernel, xa_106⟩
set_option maxRecDepth 100000 in
theorem xa_107 : xAR (xRow RX10 cX10_areaValue 3 (some .int) xp_107) xw_107 := by
  unfold xw_107
  exact xcn (rO (s_iload_n (k := 2) (by decide +kernel))) <|
    xcn (rJ (s_tsw (dflt := 92) (hi := 4) (offs := #[35, 48, 61, 70, 83]) (len := 35) (by decide +kernel) (by decide) (by decide +kernel) (by decide +kernel))) <|
    xcn (rO (s_aload_n (k := 0) (by decide +kernel))) <|
    xcn (rO (s_get (T := TX10) (N := 10) (index := 10) x_iw10 rfl (by decide) wf_X10_10 rfl (by decide +kernel))) <|
    xcn (rO (s_get (T := TX9) (N := 7) (index := 100) x_iw9 rfl (by decide) wf_X10_100 rfl (by decide +kernel))) <|
    xcn (rO (s_get (T := TX1) (N := 6) (index := 235) x_iw1 rfl (by decide) wf_X10_235 rfl (by decide +kernel))) <|
    xcn (rO (s_iload_n (k := 1) (by decide +kernel))) <|
    xcn (rO (s_iald (by decide +kernel))) <|
    xcn (rR (s_ret1 (by decide +kernel))) <|
    xcn (rO (s_aload_n (k := 0) (by decide +kernel))) <|
    xcn (rO (s_get (T := TX10) (N := 10) (index := 10) x_iw10 rfl (by decide) wf_X10_10 rfl (by decide +kernel))) <|
    xcn (rO (s_get (T := TX9) (N := 7) (index := 100) x_iw9 rfl (by decide) wf_X10_100 rfl (by decide +kernel))) <|
    xcn (rO (s_get (T := TX1) (N := 6) (index := 239) x_iw1 rfl (by decide) wf_X10_239 rfl (by decide +kernel))) <|
    xcn (rO (s_iload_n (k := 1) (by decide +kernel))) <|
    xcn (rO (s_iald (by decide +kernel))) <|
    xcn (rR (s_ret1 (by decide +kernel))) <|
    xcn (rO (s_aload_n (k := 0) (by decide +kernel))) <|
    xcn (rO (s_get (T := TX10) (N := 10) (index := 28) x_iw10 rfl (by decide) wf_X10_28 rfl (by decide +kernel))) <|
    xcn (rO (s_iload_n (k := 1) (by decide +kernel))) <|
    xcn (rC (s_cV (index := 242) wb_39 wm_X10_242 (by decide +kernel))) <|
    xcn (rR (s_ret1 (by decide +kernel))) <|
    xcn (rO (s_aload_n (k := 0) (by decide +kernel))) <|
    xcn (rO (s_get (T := TX10) (N := 10) (index := 10) x_iw10 rfl (by decide) wf_X10_10 rfl (by decide +kernel))) <|
    xcn (rO (s_get (T := TX9) (N := 7) (index := 100) x_iw9 rfl (by decide) wf_X10_100 rfl (by decide +kernel))) <|
    xcn (rO (s_get (T := TX1) (N := 6) (index := 245) x_iw1 rfl (by decide) wf_X10_245 rfl (by decide +kernel))) <|
    xcn (rO (s_iload_n (k := 1) (by decide +kernel))) <|
    xcn (rO (s_iald (by decide +kernel))) <|
    xcn (rR (s_ret1 (by decide +kernel))) <|
    xcn (rO (s_aload_n (k := 0) (by decide +kernel))) <|
    xcn (rO (s_get (T := TX10) (N := 10) (index := 28) x_iw10 rfl (by decide) wf_X10_28 rfl (by decide +kernel))) <|
    xcn (rO (s_iload_n (k := 1) (by decide +kernel))) <|
    xcn (rC (s_cV (index := 248) wb_43 wm_X10_248 (by decide +kernel))) <|
    xcn (rR (s_ret1 (by decide +kernel))) <|
    xcn (rO (s_aload_n (k := 0) (by decide +kernel))) <|
    xcn (rO (s_get (T := TX10) (N := 10) (index := 10) x_iw10 rfl (by decide) wf_X10_10 rfl (by decide +kernel))) <|
    xcn (rO (s_get (T := TX9) (N := 7) (index := 139) x_iw9 rfl (by decide) wf_X10_139 rfl (by decide +kernel))) <|
    xcn (rO (s_iload_n (k := 1) (by decide +kernel))) <|
    xcn (rC (s_cV (index := 251) wb_65 wm_X10_251 (by decide +kernel))) <|
    xcn (rR (s_ret1 (by decide +kernel))) <| xnl
theorem xv_107 : xMd (xw_107, xp_107, yX10_areaValue, cX10_areaValue, 3, some .int) := ⟨by decide +kernel, rfl, by decide +kernel, by decide +kernel, xa_107⟩
set_option maxRecDepth 100000 in
theorem xa_108 : xAR (xRow RX10 cX10_siteValue 3 (some .int) xp_108) xw_108 := by
  unfold xw_108
  exact xcn (rO (s_iload_n (k := 2) (by decide +kernel))) <|
    xcn (rJ (s_tsw (dflt := 174) (hi := 8) (offs := #[51, 64, 77, 90, 103, 121, 133, 150, 162]) (len := 51) (by decide +kernel) (by decide) (by decide +kernel) (by decide +kernel))) <|
    xcn (rO (s_aload_n (k := 0) (by decide +kernel))) <|
    xcn (rO (s_get (T := TX10) (N := 10) (index := 10) x_iw10 rfl (by decide) wf_X10_10 rfl (by decide +kernel))) <|
    xcn (rO (s_get (T := TX9) (N := 7) (index := 123) x_iw9 rfl (by decide) wf_X10_123 rfl (by decide +kernel))) <|
    xcn (rO (s_get (T := TX8) (N := 7) (index := 254) x_iw8 rfl (by decide) wf_X10_254 rfl (by decide +kernel))) <|
    xcn (rO (s_iload_n (k := 1) (by decide +kernel))) <|
    xcn (rO (s_iald (by decide +kernel))) <|
    xcn (rR (s_ret1 (by decide +kernel))) <|
    xcn (rO (s_aload_n (k := 0) (by decide +kernel))) <|
    xcn (rO (s_get (T := TX10) (N := 10) (index := 10) x_iw10 rfl (by decide) wf_X10_10 rfl (by decide +kernel))) <|
    xcn (rO (s_get (T := TX9) (N := 7) (index := 123) x_iw9 rfl (by decide) wf_X10_123 rfl (by decide +kernel))) <|
    xcn (rO (s_get (T := TX8) (N := 7) (index := 257) x_iw8 rfl (by decide) wf_X10_257 rfl (by decide +kernel))) <|
    xcn (rO (s_iload_n (k := 1) (by decide +kernel))) <|
    xcn (rO (s_iald (by decide +kernel))) <|
    xcn (rR (s_ret1 (by decide +kernel))) <|
    xcn (rO (s_aload_n (k := 0) (by decide +kernel))) <|
    xcn (rO (s_get (T := TX10) (N := 10) (index := 10) x_iw10 rfl (by decide) wf_X10_10 rfl (by decide +kernel))) <|
    xcn (rO (s_get (T := TX9) (N := 7) (index := 123) x_iw9 rfl (by decide) wf_X10_123 rfl (by decide +kernel))) <|
    xcn (rO (s_get (T := TX8) (N := 7) (index := 260) x_iw8 rfl (by decide) wf_X10_260 rfl (by decide +kernel))) <|
    xcn (rO (s_iload_n (k := 1) (by decide +kernel))) <|
    xcn (rO (s_iald (by decide +kernel))) <|
    xcn (rR (s_ret1 (by decide +kernel))) <|
    xcn (rO (s_aload_n (k := 0) (by decide +kernel))) <|
    xcn (rO (s_get (T := TX10) (N := 10) (index := 10) x_iw10 rfl (by decide) wf_X10_10 rfl (by decide +kernel))) <|
    xcn (rO (s_get (T := TX9) (N := 7) (index := 123) x_iw9 rfl (by decide) wf_X10_123 rfl (by decide +kernel))) <|
    xcn (rO (s_get (T := TX8) (N := 7) (index := 263) x_iw8 rfl (by decide) wf_X10_263 rfl (by decide +kernel))) <|
    xcn (rO (s_iload_n (k := 1) (by decide +kernel))) <|
    xcn (rO (s_iald (by decide +kernel))) <|
    xcn (rR (s_ret1 (by decide +kernel))) <|
    xcn (rO (s_aload_n (k := 0) (by decide +kernel))) <|
    xcn (rO (s_get (T := TX10) (N := 10) (index := 28) x_iw10 rfl (by decide) wf_X10_28 rfl (by decide +kernel))) <|
    xcn (rC (s_cV (index := 266) wb_36 wm_X10_266 (by decide +kernel))) <|
    xcn (rO (s_pop (by decide +kernel))) <|
    xcn (rO (s_aload_n (k := 0) (by decide +kernel))) <|
    xcn (rO (s_get (T := TX10) (N := 10) (index := 28) x_iw10 rfl (by decide) wf_X10_28 rfl (by decide +kernel))) <|
    xcn (rO (s_get (T := TX4) (N := 3) (index := 269) x_iw4 rfl (by decide) wf_X10_269 rfl (by decide +kernel))) <|
    xcn (rO (s_iload_n (k := 1) (by decide +kernel))) <|
    xcn (rO (s_iald (by decide +kernel))) <|
    xcn (rR (s_ret1 (by decide +kernel))) <|
    xcn (rO (s_aload_n (k := 0) (by decide +kernel))) <|
    xcn (rO (s_get (T := TX10) (N := 10) (index := 28) x_iw10 rfl (by decide) wf_X10_28 rfl (by decide +kernel))) <|
    xcn (rC (s_cV (index := 266) wb_36 wm_X10_266 (by decide +kernel))) <|
    xcn (rO (s_iload_n (k := 1) (by decide +kernel))) <|
    xcn (rO (s_ishr (by decide +kernel))) <|
    xcn (rO (s_iconst (n := 1) (by decide +kernel) (by decide))) <|
    xcn (rO (s_iand (by decide +kernel))) <|
    xcn (rR (s_ret1 (by decide +kernel))) <|
    xcn (rO (s_aload_n (k := 0) (by decide +kernel))) <|
    xcn (rO (s_get (T := TX10) (N := 10) (index := 28) x_iw10 rfl (by decide) wf_X10_28 rfl (by decide +kernel))) <|
    xcn (rC (s_cV (index := 266) wb_36 wm_X10_266 (by decide +kernel))) <|
    xcn (rO (s_pop (by decide +kernel))) <|
    xcn (rO (s_aload_n (k := 0) (by decide +kernel))) <|
    xcn (rO (s_get (T := TX10) (N := 10) (index := 28) x_iw10 rfl (by decide) wf_X10_28 rfl (by decide +kernel))) <|
    xcn (rO (s_iload_n (k := 1) (by decide +kernel))) <|
    xcn (rC (s_cV (index := 272) wb_44 wm_X10_272 (by decide +kernel))) <|
    xcn (rR (s_ret1 (by decide +kernel))) <|
    xcn (rO (s_aload_n (k := 0) (by decide +kernel))) <|
    xcn (rO (s_get (T := TX10) (N := 10) (index := 10) x_iw10 rfl (by decide) wf_X10_10 rfl (by decide +kernel))) <|
    xcn (rO (s_get (T := TX9) (N := 7) (index := 139) x_iw9 rfl (by decide) wf_X10_139 rfl (by decide +kernel))) <|
    xcn (rO (s_iload_n (k := 1) (by decide +kernel))) <|
    xcn (rC (s_cV (index := 275) wb_66 wm_X10_275 (by decide +kernel))) <|
    xcn (rR (s_ret1 (by decide +kernel))) <|
    xcn (rO (s_aload_n (k := 0) (by decide +kernel))) <|
    xcn (rO (s_get (T := TX10) (N := 10) (index := 10) x_iw10 rfl (by decide) wf_X10_10 rfl (by decide +kernel))) <|
    xcn (rO (s_get (T := TX9) (N := 7) (index := 123) x_iw9 rfl (by decide) wf_X10_123 rfl (by decide +kernel))) <|
    xcn (rO (s_iload_n (k := 1) (by decide +kernel))) <|
    xcn (rC (s_cV (index := 278) wb_71 wm_X10_278 (by decide +kernel))) <|
    xcn (rR (s_ret1 (by decide +kernel))) <|
    xcn (rO (s_aload_n (k := 0) (by decide +kernel))) <|
    xcn (rO (s_get (T := TX10) (N := 10) (index := 44) x_iw10 rfl (by decide) wf_X10_44 rfl (by decide +kernel))) <|
    xcn (rO (s_iload_n (k := 1) (by decide +kernel))) <|
    xcn (rC (s_cV (index := 281) wb_26 wm_X10_281 (by decide +kernel))) <|
    xcn (rJ (s_if_eq (off := 7) (by decide +kernel) (by decide +kernel) (by decide +kernel))) <|
    xcn (rO (s_iconst (n := 1) (by decide +kernel) (by decide))) <|
    xcn (rJ (s_goto (off := 4) (by decide +kernel) (by decide +kernel))) <|
    xcn (rO (s_iconst (n := 0) (by decide +kernel) (by decide))) <|
    xcn (rR (s_ret1 (by decide +kernel))) <| xnl
theorem xv_108 : xMd (xw_108, xp_108, yX10_siteValue, cX10_siteValue, 3, some .int) := ⟨by decide +kernel, rfl, by decide +kernel, by decide +kernel, xa_108⟩
set_option maxRecDepth 100000 in
theorem xa_109 : xAR (xRow RX10 cX10_sessionValue 3 (some .int) xp_109) xw_109 := by
  unfold xw_109
  exact xcn (rO (s_iload_n (k := 2) (by decide +kernel))) <|
    xcn (rJ (s_tsw (dflt := 83) (hi := 3) (offs := #[31, 44, 57, 70]) (len := 31) (by decide +kernel) (by decide) (by decide +kernel) (by decide +kernel))) <|
    xcn (rO (s_aload_n (k := 0) (by decide +kernel))) <|
    xcn (rO (s_get (T := TX10) (N := 10) (index := 10) x_iw10 rfl (by decide) wf_X10_10 rfl (by decide +kernel))) <|
    xcn (rO (s_get (T := TX9) (N := 7) (index := 139) x_iw9 rfl (by decide) wf_X10_139 rfl (by decide +kernel))) <|
    xcn (rO (s_get (T := TX7) (N := 5) (index := 284) x_iw7 rfl (by decide) wf_X10_284 rfl (by decide +kernel))) <|
    xcn (rO (s_iload_n (k := 1) (by decide +kernel))) <|
    xcn (rO (s_iald (by decide +kernel))) <|
    xcn (rR (s_ret1 (by decide +kernel))) <|
    xcn (rO (s_aload_n (k := 0) (by decide +kernel))) <|
    xcn (rO (s_get (T := TX10) (N := 10) (index := 10) x_iw10 rfl (by decide) wf_X10_10 rfl (by decide +kernel))) <|
    xcn (rO (s_get (T := TX9) (N := 7) (index := 139) x_iw9 rfl (by decide) wf_X10_139 rfl (by decide +kernel))) <|
    xcn (rO (s_get (T := TX7) (N := 5) (index := 287) x_iw7 rfl (by decide) wf_X10_287 rfl (by decide +kernel))) <|
    xcn (rO (s_iload_n (k := 1) (by decide +kernel))) <|
    xcn (rO (s_iald (by decide +kernel))) <|
    xcn (rR (s_ret1 (by decide +kernel))) <|
    xcn (rO (s_aload_n (k := 0) (by decide +kernel))) <|
    xcn (rO (s_get (T := TX10) (N := 10) (index := 10) x_iw10 rfl (by decide) wf_X10_10 rfl (by decide +kernel))) <|
    xcn (rO (s_get (T := TX9) (N := 7) (index := 139) x_iw9 rfl (by decide) wf_X10_139 rfl (by decide +kernel))) <|
    xcn (rO (s_get (T := TX7) (N := 5) (index := 290) x_iw7 rfl (by decide) wf_X10_290 rfl (by decide +kernel))) <|
    xcn (rO (s_iload_n (k := 1) (by decide +kernel))) <|
    xcn (rO (s_iald (by decide +kernel))) <|
    xcn (rR (s_ret1 (by decide +kernel))) <|
    xcn (rO (s_aload_n (k := 0) (by decide +kernel))) <|
    xcn (rO (s_get (T := TX10) (N := 10) (index := 10) x_iw10 rfl (by decide) wf_X10_10 rfl (by decide +kernel))) <|
    xcn (rO (s_get (T := TX9) (N := 7) (index := 139) x_iw9 rfl (by decide) wf_X10_139 rfl (by decide +kernel))) <|
    xcn (rO (s_get (T := TX7) (N := 5) (index := 293) x_iw7 rfl (by decide) wf_X10_293 rfl (by decide +kernel))) <|
    xcn (rO (s_iload_n (k := 1) (by decide +kernel))) <|
    xcn (rO (s_iald (by decide +kernel))) <|
    xcn (rR (s_ret1 (by decide +kernel))) <|
    xcn (rO (s_aload_n (k := 0) (by decide +kernel))) <|
    xcn (rO (s_get (T := TX10) (N := 10) (index := 28) x_iw10 rfl (by decide) wf_X10_28 rfl (by decide +kernel))) <|
    xcn (rO (s_aload_n (k := 0) (by decide +kernel))) <|
    xcn (rO (s_get (T := TX10) (N := 10) (index := 10) x_iw10 rfl (by decide) wf_X10_10 rfl (by decide +kernel))) <|
    xcn (rO (s_get (T := TX9) (N := 7) (index := 139) x_iw9 rfl (by decide) wf_X10_139 rfl (by decide +kernel))) <|
    xcn (rO (s_get (T := TX7) (N := 5) (index := 284) x_iw7 rfl (by decide) wf_X10_284 rfl (by decide +kernel))) <|
    xcn (rO (s_iload_n (k := 1) (by decide +kernel))) <|
    xcn (rO (s_iald (by decide +kernel))) <|
    xcn (rC (s_cV (index := 242) wb_39 wm_X10_242 (by decide +kernel))) <|
    xcn (rO (s_aload_n (k := 0) (by decide +kernel))) <|
    xcn (rO (s_get (T := TX10) (N := 10) (index := 10) x_iw10 rfl (by decide) wf_X10_10 rfl (by decide +kernel))) <|
    xcn (rO (s_get (T := TX9) (N := 7) (index := 139) x_iw9 rfl (by decide) wf_X10_139 rfl (by decide +kernel))) <|
    xcn (rO (s_get (T := TX7) (N := 5) (index := 287) x_iw7 rfl (by decide) wf_X10_287 rfl (by decide +kernel))) <|
    xcn (rO (s_iload_n (k := 1) (by decide +kernel))) <|
    xcn (rO (s_iald (by decide +kernel))) <|
    xcn (rJ (s_ic_ne (off := 7) (by decide +kernel) (by decide +kernel) (by decide +kernel))) <|
    xcn (rO (s_iconst (n := 0) (by decide +kernel) (by decide))) <|
    xcn (rJ (s_goto (off := 4) (by decide +kernel) (by decide +kernel))) <|
    xcn (rO (s_iconst (n := 1) (by decide +kernel) (by decide))) <|
    xcn (rR (s_ret1 (by decide +kernel))) <| xnl
theorem xv_109 : xMd (xw_109, xp_109, yX10_sessionValue, cX10_sessionValue, 3, some .int) := ⟨by decide +kernel, rfl, by decide +kernel, by decide +kernel, xa_109⟩
set_option maxRecDepth 100000 in
theorem xa_110 : xAR (xRow RX10 cX10_countValue 2 (some .int) xp_110) xw_110 := by
  unfold xw_110
  exact xcn (rO (s_iload_n (k := 1) (by decide +kernel))) <|
    xcn (rJ (s_tsw (dflt := 162) (hi := 11) (offs := #[63, 68, 73, 78, 86, 97, 108, 119, 127, 135, 143, 151]) (len := 63) (by decide +kernel) (by decide) (by decide +kernel) (by decide +kernel))) <|
    xcn (rO (s_aload_n (k := 0) (by decide +kernel))) <|
    xcn (rO (s_get (T := TX10) (N := 10) (index := 296) x_iw10 rfl (by decide) wf_X10_296 rfl (by decide +kernel))) <|
    xcn (rR (s_ret1 (by decide +kernel))) <|
    xcn (rO (s_aload_n (k := 0) (by decide +kernel))) <|
    xcn (rO (s_get (T := TX10) (N := 10) (index := 299) x_iw10 rfl (by decide) wf_X10_299 rfl (by decide +kernel))) <|
    xcn (rR (s_ret1 (by decide +kernel))) <|
    xcn (rO (s_aload_n (k := 0) (by decide +kernel))) <|
    xcn (rO (s_get (T := TX10) (N := 10) (index := 302) x_iw10 rfl (by decide) wf_X10_302 rfl (by decide +kernel))) <|
    xcn (rR (s_ret1 (by decide +kernel))) <|
    xcn (rO (s_aload_n (k := 0) (by decide +kernel))) <|
    xcn (rO (s_get (T := TX10) (N := 10) (index := 60) x_iw10 rfl (by decide) wf_X10_60 rfl (by decide +kernel))) <|
    xcn (rO (s_get (T := TX6) (N := 7) (index := 305) x_iw6 rfl (by decide) wf_X10_305 rfl (by decide +kernel))) <|
    xcn (rR (s_ret1 (by decide +kernel))) <|
    xcn (rO (s_aload_n (k := 0) (by decide +kernel))) <|
    xcn (rO (s_get (T := TX10) (N := 10) (index := 10) x_iw10 rfl (by decide) wf_X10_10 rfl (by decide +kernel))) <|
    xcn (rO (s_get (T := TX9) (N := 7) (index := 100) x_iw9 rfl (by decide) wf_X10_100 rfl (by decide +kernel))) <|
    xcn (rO (s_get (T := TX1) (N := 6) (index := 229) x_iw1 rfl (by decide) wf_X10_229 rfl (by decide +kernel))) <|
    xcn (rR (s_ret1 (by decide +kernel))) <|
    xcn (rO (s_aload_n (k := 0) (by decide +kernel))) <|
    xcn (rO (s_get (T := TX10) (N := 10) (index := 10) x_iw10 rfl (by decide) wf_X10_10 rfl (by decide +kernel))) <|
    xcn (rO (s_get (T := TX9) (N := 7) (index := 123) x_iw9 rfl (by decide) wf_X10_123 rfl (by decide +kernel))) <|
    xcn (rO (s_get (T := TX8) (N := 7) (index := 165) x_iw8 rfl (by decide) wf_X10_165 rfl (by decide +kernel))) <|
    xcn (rR (s_ret1 (by decide +kernel))) <|
    xcn (rO (s_aload_n (k := 0) (by decide +kernel))) <|
    xcn (rO (s_get (T := TX10) (N := 10) (index := 10) x_iw10 rfl (by decide) wf_X10_10 rfl (by decide +kernel))) <|
    xcn (rO (s_get (T := TX9) (N := 7) (index := 139) x_iw9 rfl (by decide) wf_X10_139 rfl (by decide +kernel))) <|
    xcn (rO (s_get (T := TX7) (N := 5) (index := 228) x_iw7 rfl (by decide) wf_X10_228 rfl (by decide +kernel))) <|
    xcn (rR (s_ret1 (by decide +kernel))) <|
    xcn (rO (s_aload_n (k := 0) (by decide +kernel))) <|
    xcn (rO (s_get (T := TX10) (N := 10) (index := 10) x_iw10 rfl (by decide) wf_X10_10 rfl (by decide +kernel))) <|
    xcn (rO (s_get (T := TX9) (N := 7) (index := 308) x_iw9 rfl (by decide) wf_X10_308 rfl (by decide +kernel))) <|
    xcn (rR (s_ret1 (by decide +kernel))) <|
    xcn (rO (s_aload_n (k := 0) (by decide +kernel))) <|
    xcn (rO (s_get (T := TX10) (N := 10) (index := 10) x_iw10 rfl (by decide) wf_X10_10 rfl (by decide +kernel))) <|
    xcn (rO (s_get (T := TX9) (N := 7) (index := 311) x_iw9 rfl (by decide) wf_X10_311 rfl (by decide +kernel))) <|
    xcn (rR (s_ret1 (by decide +kernel))) <|
    xcn (rO (s_aload_n (k := 0) (by decide +kernel))) <|
    xcn (rO (s_get (T := TX10) (N := 10) (index := 10) x_iw10 rfl (by decide) wf_X10_10 rfl (by decide +kernel))) <|
    xcn (rO (s_get (T := TX9) (N := 7) (index := 314) x_iw9 rfl (by decide) wf_X10_314 rfl (by decide +kernel))) <|
    xcn (rR (s_ret1 (by decide +kernel))) <|
    xcn (rO (s_aload_n (k := 0) (by decide +kernel))) <|
    xcn (rO (s_get (T := TX10) (N := 10) (index := 10) x_iw10 rfl (by decide) wf_X10_10 rfl (by decide +kernel))) <|
    xcn (rO (s_get (T := TX9) (N := 7) (index := 317) x_iw9 rfl (by decide) wf_X10_317 rfl (by decide +kernel))) <|
    xcn (rR (s_ret1 (by decide +kernel))) <|
    xcn (rO (s_aload_n (k := 0) (by decide +kernel))) <|
    xcn (rO (s_get (T := TX10) (N := 10) (index := 10) x_iw10 rfl (by decide) wf_X10_10 rfl (by decide +kernel))) <|
    xcn (rO (s_get (T := TX9) (N := 7) (index := 123) x_iw9 rfl (by decide) wf_X10_123 rfl (by decide +kernel))) <|
    xcn (rO (s_get (T := TX8) (N := 7) (index := 320) x_iw8 rfl (by decide) wf_X10_320 rfl (by decide +kernel))) <|
    xcn (rR (s_ret1 (by decide +kernel))) <|
    xcn (rO (s_aload_n (k := 0) (by decide +kernel))) <|
    xcn (rO (s_get (T := TX10) (N := 10) (index := 19) x_iw10 rfl (by decide) wf_X10_19 rfl (by decide +kernel))) <|
    xcn (rO (s_get (T := TX3) (N := 3) (index := 206) x_iw3 rfl (by decide) wf_X10_206 rfl (by decide +kernel))) <|
    xcn (rR (s_ret1 (by decide +kernel))) <| xnl
theorem xv_110 : xMd (xw_110, xp_110, yX10_countValue, cX10_countValue, 2, some .int) := ⟨by decide +kernel, rfl, by decide +kernel, by decide +kernel, xa_110⟩
set_option maxRecDepth 100000 in
theorem xa_111 : xAR (xRow RX10 cX10_mark 1 (none) xp_111) xw_111 := by
  unfold xw_111
  exact xcn (rO (s_aload_n (k := 0) (by decide +kernel))) <|
    xcn (rO (s_get (T := TX10) (N := 10) (index := 19) x_iw10 rfl (by decide) wf_X10_19 rfl (by decide +kernel))) <|
    xcn (rO (s_aload_n (k := 0) (by decide +kernel))) <|
    xcn (rO (s_get (T := TX10) (N := 10) (index := 10) x_iw10 rfl (by decide) wf_X10_10 rfl (by decide +kernel))) <|
    xcn (rC (s_cV (index := 323) wb_32 wm_X10_323 (by decide +kernel))) <|
    xcn (rO (s_aload_n (k := 0) (by decide +kernel))) <|
    xcn (rO (s_get (T := TX10) (N := 10) (index := 37) x_iw10 rfl (by decide) wf_X10_37 rfl (by decide +kernel))) <|
    xcn (rC (s_cV (index := 212) wb_46 wm_X10_212 (by decide +kernel))) <|
    xcn (rR (s_ret0 (by decide +kernel))) <| xnl
theorem xv_111 : xMd (xw_111, xp_111, yX10_mark, cX10_mark, 1, none) := ⟨by decide +kernel, rfl, by decide +kernel, by decide +kernel, xa_111⟩
set_option maxRecDepth 100000 in
theorem xa_112 : xAR (xRow RX10 cX10_settled 2 (some .int) xp_112) xw_112 := by
  unfold xw_112
  exact xcn (rO (s_iload_n (k := 1) (by decide +kernel))) <|
    xcn (rJ (s_if_lt (off := 10) (by decide +kernel) (by decide +kernel) (by decide +kernel))) <|
    xcn (rO (s_aload_n (k := 0) (by decide +kernel))) <|
    xcn (rO (s_get (T := TX10) (N := 10) (index := 19) x_iw10 rfl (by decide) wf_X10_19 rfl (by decide +kernel))) <|
    xcn (rC (s_cV (index := 326) wb_33 wm_X10_326 (by decide +kernel))) <|
    xcn (rO (s_aload_n (k := 0) (by decide +kernel))) <|
    xcn (rO (s_iload_n (k := 1) (by decide +kernel))) <|
    xcn (rC (s_cV (index := 110) wb_113 wm_X10_110 (by decide +kernel))) <|
    xcn (rR (s_ret1 (by decide +kernel))) <| xnl
theorem xv_112 : xMd (xw_112, xp_112, yX10_settled, cX10_settled, 2, some .int) := ⟨by decide +kernel, rfl, by decide +kernel, by decide +kernel, xa_112⟩
set_option maxRecDepth 100000 in
theorem xa_113 : xAR (xRow RX10 cX10_counted 2 (some .int) xp_113) xw_113 := by
  unfold xw_113
  exact xcn (rO (s_iload_n (k := 1) (by decide +kernel))) <|
    xcn (rO (s_bipush (n := (-2)) (by decide +kernel) (by decide))) <|
    xcn (rJ (s_ic_ne (off := 16) (by decide +kernel) (by decide +kernel) (by decide +kernel))) <|
    xcn (rO (s_aload_n (k := 0) (by decide +kernel))) <|
    xcn (rO (s_dup (by decide +kernel))) <|
    xcn (rO (s_get (T := TX10) (N := 10) (index := 296) x_iw10 rfl (by decide) wf_X10_296 rfl (by decide +kernel))) <|
    xcn (rO (s_iconst (n := 1) (by decide +kernel) (by decide))) <|
    xcn (rO (s_iadd (by decide +kernel))) <|
    xcn (rO (s_put (T := TX10) (N := 10) (index := 296) (ty0 := tyX10) (z := false) x_iw10 tyX10_ok nmX10 rfl (by decide) wf_X10_296 rfl rfl rfl (by decide +kernel))) <|
    xcn (rJ (s_goto (off := 38) (by decide +kernel) (by decide +kernel))) <|
    xcn (rO (s_iload_n (k := 1) (by decide +kernel))) <|
    xcn (rO (s_bipush (n := (-3)) (by decide +kernel) (by decide))) <|
    xcn (rJ (s_ic_ne (off := 16) (by decide +kernel) (by decide +kernel) (by decide +kernel))) <|
    xcn (rO (s_aload_n (k := 0) (by decide +kernel))) <|
    xcn (rO (s_dup (by decide +kernel))) <|
    xcn (rO (s_get (T := TX10) (N := 10) (index := 299) x_iw10 rfl (by decide) wf_X10_299 rfl (by decide +kernel))) <|
    xcn (rO (s_iconst (n := 1) (by decide +kernel) (by decide))) <|
    xcn (rO (s_iadd (by decide +kernel))) <|
    xcn (rO (s_put (T := TX10) (N := 10) (index := 299) (ty0 := tyX10) (z := false) x_iw10 tyX10_ok nmX10 rfl (by decide) wf_X10_299 rfl rfl rfl (by decide +kernel))) <|
    xcn (rJ (s_goto (off := 19) (by decide +kernel) (by decide +kernel))) <|
    xcn (rO (s_iload_n (k := 1) (by decide +kernel))) <|
    xcn (rO (s_bipush (n := (-4)) (by decide +kernel) (by decide))) <|
    xcn (rJ (s_ic_ne (off := 13) (by decide +kernel) (by decide +kernel) (by decide +kernel))) <|
    xcn (rO (s_aload_n (k := 0) (by decide +kernel))) <|
    xcn (rO (s_dup (by decide +kernel))) <|
    xcn (rO (s_get (T := TX10) (N := 10) (index := 302) x_iw10 rfl (by decide) wf_X10_302 rfl (by decide +kernel))) <|
    xcn (rO (s_iconst (n := 1) (by decide +kernel) (by decide))) <|
    xcn (rO (s_iadd (by decide +kernel))) <|
    xcn (rO (s_put (T := TX10) (N := 10) (index := 302) (ty0 := tyX10) (z := false) x_iw10 tyX10_ok nmX10 rfl (by decide) wf_X10_302 rfl rfl rfl (by decide +kernel))) <|
    xcn (rO (s_iload_n (k := 1) (by decide +kernel))) <|
    xcn (rR (s_ret1 (by decide +kernel))) <| xnl
theorem xv_113 : xMd (xw_113, xp_113, yX10_counted, cX10_counted, 2, some .int) := ⟨by decide +kernel, rfl, by decide +kernel, by decide +kernel, xa_113⟩
set_option maxRecDepth 100000 in
theorem xa_114 : xAR (xRow RX10 cX10_within 3 (some .boolean) xp_114) xw_114 := by
  unfold xw_114
  exact xcn (rO (s_iload_n (k := 0) (by decide +kernel))) <|
    xcn (rO (s_iload_n (k := 1) (by decide +kernel))) <|
    xcn (rJ (s_ic_lt (off := 12) (by decide +kernel) (by decide +kernel) (by decide +kernel))) <|
    xcn (rO (s_iload_n (k := 0) (by decide +kernel))) <|
    xcn (rO (s_iload_n (k := 2) (by decide +kernel))) <|
    xcn (rJ (s_ic_gt (off := 7) (by decide +kernel) (by decide +kernel) (by decide +kernel))) <|
    xcn (rO (s_iconst (n := 1) (by decide +kernel) (by decide))) <|
    xcn (rJ (s_goto (off := 4) (by decide +kernel) (by decide +kernel))) <|
    xcn (rO (s_iconst (n := 0) (by decide +kernel) (by decide))) <|
    xcn (rR (s_ret2 (by decide +kernel))) <| xnl
theorem xv_114 : xMd (xw_114, xp_114, yX10_within, cX10_within, 3, some .boolean) := ⟨by decide +kernel, rfl, by decide +kernel, by decide +kernel, xa_114⟩
set_option maxRecDepth 100000 in
theorem xa_115 : xAR (xRow RX11 cX11_in 6 (some .boolean) xp_115) xw_115 := by
  unfold xw_115
  exact xcn (rO (s_lload_n (k := 0) (by decide +kernel))) <|
    xcn (rO (s_lload_n (k := 2) (by decide +kernel))) <|
    xcn (rO (s_lcmp (by decide +kernel))) <|
    xcn (rJ (s_if_lt (off := 14) (by decide +kernel) (by decide +kernel) (by decide +kernel))) <|
    xcn (rO (s_lload_n (k := 0) (by decide +kernel))) <|
    xcn (rO (s_lload (k := 4) (by decide +kernel))) <|
    xcn (rO (s_lcmp (by decide +kernel))) <|
    xcn (rJ (s_if_gt (off := 7) (by decide +kernel) (by decide +kernel) (by decide +kernel))) <|
    xcn (rO (s_iconst (n := 1) (by decide +kernel) (by decide))) <|
    xcn (rJ (s_goto (off := 4) (by decide +kernel) (by decide +kernel))) <|
    xcn (rO (s_iconst (n := 0) (by decide +kernel) (by decide))) <|
    xcn (rR (s_ret2 (by decide +kernel))) <| xnl
theorem xv_115 : xMd (xw_115, xp_115, yX11_in, cX11_in, 6, some .boolean) := ⟨by decide +kernel, rfl, by decide +kernel, by decide +kernel, xa_115⟩
set_option maxRecDepth 100000 in
theorem xa_116 : xAR (xRow RX11 cX11_refuses 2 (some .int) xp_116) xw_116 := by
  unfold xw_116
  exact xcn (rO (s_aload_n (k := 0) (by decide +kernel))) <|
    xcn (rO (s_get (T := TX11) (N := 17) (index := 19) x_iw11 rfl (by decide) wf_X11_19 rfl (by decide +kernel))) <|
    xcn (rO (s_bipush (n := (-2)) (by decide +kernel) (by decide))) <|
    xcn (rO (s_iload_n (k := 1) (by decide +kernel))) <|
    xcn (rO (s_isub (by decide +kernel))) <|
    xcn (rO (s_dup2 (by decide +kernel))) <|
    xcn (rO (s_iald (by decide +kernel))) <|
    xcn (rO (s_iconst (n := 1) (by decide +kernel) (by decide))) <|
    xcn (rO (s_iadd (by decide +kernel))) <|
    xcn (rO (s_iast (by decide +kernel))) <|
    xcn (rO (s_iload_n (k := 1) (by decide +kernel))) <|
    xcn (rR (s_ret1 (by decide +kernel))) <| xnl
theorem xv_116 : xMd (xw_116, xp_116, yX11_refuses, cX11_refuses, 2, some .int) := ⟨by decide +kernel, rfl, by decide +kernel, by decide +kernel, xa_116⟩
set_option maxRecDepth 100000 in
theorem xa_117 : xAR (xRow RX11 cX11_keep 2 (none) xp_117) xw_117 := by
  unfold xw_117
  exact xcn (rO (s_aload_n (k := 0) (by decide +kernel))) <|
    xcn (rO (s_get (T := TX11) (N := 17) (index := 49) x_iw11 rfl (by decide) wf_X11_49 rfl (by decide +kernel))) <|
    xcn (rO (s_iconst (n := 5) (by decide +kernel) (by decide))) <|
    xcn (rJ (s_ic_ne (off := 44) (by decide +kernel) (by decide +kernel) (by decide +kernel))) <|
    xcn (rO (s_iconst (n := 0) (by decide +kernel) (by decide))) <|
    xcn (rO (s_istore_n (k := 1) (by decide) (by decide +kernel))) <|
    xcn (rO s_fgt) <|
    xcn (rO (s_iload_n (k := 1) (by decide +kernel))) <|
    xcn (rO (s_sipush (n := 676) (by decide +kernel) (by decide))) <|
    xcn (rJ (s_ic_ge (off := 25) (by decide +kernel) (by decide +kernel) (by decide +kernel))) <|
    xcn (rO (s_aload_n (k := 0) (by decide +kernel))) <|
    xcn (rO (s_get (T := TX11) (N := 17) (index := 13) x_iw11 rfl (by decide) wf_X11_13 rfl (by decide +kernel))) <|
    xcn (rO (s_iload_n (k := 1) (by decide +kernel))) <|
    xcn (rO (s_aload_n (k := 0) (by decide +kernel))) <|
    xcn (rO (s_get (T := TX11) (N := 17) (index := 13) x_iw11 rfl (by decide) wf_X11_13 rfl (by decide +kernel))) <|
    xcn (rO (s_iload_n (k := 1) (by decide +kernel))) <|
    xcn (rO (s_sipush (n := 169) (by decide +kernel) (by decide))) <|
    xcn (rO (s_iadd (by decide +kernel))) <|
    xcn (rO (s_iald (by decide +kernel))) <|
    xcn (rO (s_iast (by decide +kernel))) <|
    xcn (rO (s_iinc (k := 1) (n := 1) (by decide) (by decide) (by decide +kernel))) <|
    xcn (rJ (s_goto (off := (-26)) (by decide +kernel) (by decide +kernel))) <|
    xcn (rO s_fgt) <|
    xcn (rO (s_aload_n (k := 0) (by decide +kernel))) <|
    xcn (rO (s_dup (by decide +kernel))) <|
    xcn (rO (s_get (T := TX11) (N := 17) (index := 49) x_iw11 rfl (by decide) wf_X11_49 rfl (by decide +kernel))) <|
    xcn (rO (s_iconst (n := 1) (by decide +kernel) (by decide))) <|
    xcn (rO (s_isub (by decide +kernel))) <|
    xcn (rO (s_put (T := TX11) (N := 17) (index := 49) (ty0 := tyX11) (z := false) x_iw11 tyX11_ok nmX11 rfl (by decide) wf_X11_49 rfl rfl rfl (by decide +kernel))) <|
    xcn (rO (s_iconst (n := 0) (by decide +kernel) (by decide))) <|
    xcn (rO (s_istore_n (k := 1) (by decide) (by decide +kernel))) <|
    xcn (rO s_fgt) <|
    xcn (rO (s_iload_n (k := 1) (by decide +kernel))) <|
    xcn (rO (s_sipush (n := 169) (by decide +kernel) (by decide))) <|
    xcn (rJ (s_ic_ge (off := 30) (by decide +kernel) (by decide +kernel) (by decide +kernel))) <|
    xcn (rO (s_aload_n (k := 0) (by decide +kernel))) <|
    xcn (rO (s_get (T := TX11) (N := 17) (index := 13) x_iw11 rfl (by decide) wf_X11_13 rfl (by decide +kernel))) <|
    xcn (rO (s_sipush (n := 169) (by decide +kernel) (by decide))) <|
    xcn (rO (s_aload_n (k := 0) (by decide +kernel))) <|
    xcn (rO (s_get (T := TX11) (N := 17) (index := 49) x_iw11 rfl (by decide) wf_X11_49 rfl (by decide +kernel))) <|
    xcn (rO (s_imul (by decide +kernel))) <|
    xcn (rO (s_iload_n (k := 1) (by decide +kernel))) <|
    xcn (rO (s_iadd (by decide +kernel))) <|
    xcn (rO (s_aload_n (k := 0) (by decide +kernel))) <|
    xcn (rO (s_get (T := TX11) (N := 17) (index := 7) x_iw11 rfl (by decide) wf_X11_7 rfl (by decide +kernel))) <|
    xcn (rO (s_iload_n (k := 1) (by decide +kernel))) <|
    xcn (rO (s_iald (by decide +kernel))) <|
    xcn (rO (s_iast (by decide +kernel))) <|
    xcn (rO (s_iinc (k := 1) (n := 1) (by decide) (by decide) (by decide +kernel))) <|
    xcn (rJ (s_goto (off := (-31)) (by decide +kernel) (by decide +kernel))) <|
    xcn (rO s_fgt) <|
    xcn (rO (s_aload_n (k := 0) (by decide +kernel))) <|
    xcn (rO (s_dup (by decide +kernel))) <|
    xcn (rO (s_get (T := TX11) (N := 17) (index := 49) x_iw11 rfl (by decide) wf_X11_49 rfl (by decide +kernel))) <|
    xcn (rO (s_iconst (n := 1) (by decide +kernel) (by decide))) <|
    xcn (rO (s_iadd (by decide +kernel))) <|
    xcn (rO (s_put (T := TX11) (N := 17) (index := 49) (ty0 := tyX11) (z := false) x_iw11 tyX11_ok nmX11 rfl (by decide) wf_X11_49 rfl rfl rfl (by decide +kernel))) <|
    xcn (rR (s_ret0 (by decide +kernel))) <| xnl
theorem xv_117 : xMd (xw_117, xp_117, yX11_keep, cX11_keep, 2, none) := ⟨by decide +kernel, rfl, by decide +kernel, by decide +kernel, xa_117⟩
set_option maxRecDepth 100000 in
theorem xa_118 : xAR (xRow RX11 cX11_isArea 2 (some .boolean) xp_118) xw_118 := by
  unfold xw_118
  exact xcn (rO (s_iload_n (k := 1) (by decide +kernel))) <|
    xcn (rO (s_i2l (by decide +kernel))) <|
    xcn (rO (s_lconst (n := 0) (by decide +kernel) (by decide))) <|
    xcn (rO (s_aload_n (k := 0) (by decide +kernel))) <|
    xcn (rO (s_get (T := TX11) (N := 17) (index := 7) x_iw11 rfl (by decide) wf_X11_7 rfl (by decide +kernel))) <|
    xcn (rO (s_iconst (n := 0) (by decide +kernel) (by decide))) <|
    xcn (rO (s_iald (by decide +kernel))) <|
    xcn (rO (s_iconst (n := 1) (by decide +kernel) (by decide))) <|
    xcn (rO (s_isub (by decide +kernel))) <|
    xcn (rO (s_i2l (by decide +kernel))) <|
    xcn (rC (s_cS (index := 53) wb_115 wm_X11_53 (by decide +kernel))) <|
    xcn (rR (s_ret2 (by decide +kernel))) <| xnl
theorem xv_118 : xMd (xw_118, xp_118, yX11_isArea, cX11_isArea, 2, some .boolean) := ⟨by decide +kernel, rfl, by decide +kernel, by decide +kernel, xa_118⟩
set_option maxRecDepth 100000 in
theorem xa_119 : xAR (xRow RX11 cX11_isSite 2 (some .boolean) xp_119) xw_119 := by
  unfold xw_119
  exact xcn (rO (s_iload_n (k := 1) (by decide +kernel))) <|
    xcn (rO (s_i2l (by decide +kernel))) <|
    xcn (rO (s_lconst (n := 0) (by decide +kernel) (by decide))) <|
    xcn (rO (s_aload_n (k := 0) (by decide +kernel))) <|
    xcn (rO (s_get (T := TX11) (N := 17) (index := 7) x_iw11 rfl (by decide) wf_X11_7 rfl (by decide +kernel))) <|
    xcn (rO (s_iconst (n := 1) (by decide +kernel) (by decide))) <|
    xcn (rO (s_iald (by decide +kernel))) <|
    xcn (rO (s_iconst (n := 1) (by decide +kernel) (by decide))) <|
    xcn (rO (s_isub (by decide +kernel))) <|
    xcn (rO (s_i2l (by decide +kernel))) <|
    xcn (rC (s_cS (index := 53) wb_115 wm_X11_53 (by decide +kernel))) <|
    xcn (rR (s_ret2 (by decide +kernel))) <| xnl
theorem xv_119 : xMd (xw_119, xp_119, yX11_isSite, cX11_isSite, 2, some .boolean) := ⟨by decide +kernel, rfl, by decide +kernel, by decide +kernel, xa_119⟩
set_option maxRecDepth 100000 in
theorem xa_120 : xAR (xRow RX11 cX11_ofSite 3 (some .int) xp_120) xw_120 := by
  unfold xw_120
  exact xcn (rO (s_aload_n (k := 0) (by decide +kernel))) <|
    xcn (rO (s_get (T := TX11) (N := 17) (index := 7) x_iw11 rfl (by decide) wf_X11_7 rfl (by decide +kernel))) <|
    xcn (rO (s_bipush (n := 101) (by decide +kernel) (by decide))) <|
    xcn (rO (s_iconst (n := 4) (by decide +kernel) (by decide))) <|
    xcn (rO (s_iload_n (k := 1) (by decide +kernel))) <|
    xcn (rO (s_imul (by decide +kernel))) <|
    xcn (rO (s_iadd (by decide +kernel))) <|
    xcn (rO (s_iload_n (k := 2) (by decide +kernel))) <|
    xcn (rO (s_iadd (by decide +kernel))) <|
    xcn (rO (s_iald (by decide +kernel))) <|
    xcn (rR (s_ret1 (by decide +kernel))) <| xnl
theorem xv_120 : xMd (xw_120, xp_120, yX11_ofSite, cX11_ofSite, 3, some .int) := ⟨by decide +kernel, rfl, by decide +kernel, by decide +kernel, xa_120⟩
set_option maxRecDepth 100000 in
theorem xa_121 : xAR (xRow RX11 cX11_stepOf 2 (some .int) xp_121) xw_121 := by
  unfold xw_121
  exact xcn (rO (s_aload_n (k := 0) (by decide +kernel))) <|
    xcn (rO (s_get (T := TX11) (N := 17) (index := 7) x_iw11 rfl (by decide) wf_X11_7 rfl (by decide +kernel))) <|
    xcn (rO (s_bipush (n := 101) (by decide +kernel) (by decide))) <|
    xcn (rO (s_iconst (n := 4) (by decide +kernel) (by decide))) <|
    xcn (rO (s_iload_n (k := 1) (by decide +kernel))) <|
    xcn (rO (s_imul (by decide +kernel))) <|
    xcn (rO (s_iadd (by decide +kernel))) <|
    xcn (rO (s_iconst (n := 2) (by decide +kernel) (by decide))) <|
    xcn (rO (s_iadd (by decide +kernel))) <|
    xcn (rO (s_iald (by decide +kernel))) <|
    xcn (rR (s_ret1 (by decide +kernel))) <| xnl
theorem xv_121 : xMd (xw_121, xp_121, yX11_stepOf, cX11_stepOf, 2, some .int) := ⟨by decide +kernel, rfl, by decide +kernel, by decide +kernel, xa_121⟩
set_option maxRecDepth 100000 in
theorem xa_122 : xAR (xRow RX11 cX11_stateOf 2 (some .int) xp_122) xw_122 := by
  unfold xw_122
  exact xcn (rO (s_aload_n (k := 0) (by decide +kernel))) <|
    xcn (rO (s_get (T := TX11) (N := 17) (index := 7) x_iw11 rfl (by decide) wf_X11_7 rfl (by decide +kernel))) <|
    xcn (rO (s_bipush (n := 101) (by decide +kernel) (by decide))) <|
    xcn (rO (s_iconst (n := 4) (by decide +kernel) (by decide))) <|
    xcn (rO (s_iload_n (k := 1) (by decide +kernel))) <|
    xcn (rO (s_imul (by decide +kernel))) <|
    xcn (rO (s_iadd (by decide +kernel))) <|
    xcn (rO (s_iconst (n := 3) (by decide +kernel) (by decide))) <|
    xcn (rO (s_iadd (by decide +kernel))) <|
    xcn (rO (s_iald (by decide +kernel))) <|
    xcn (rR (s_ret1 (by decide +kernel))) <| xnl
theorem xv_122 : xMd (xw_122, xp_122, yX11_stateOf, cX11_stateOf, 2, some .int) := ⟨by decide +kernel, rfl, by decide +kernel, by decide +kernel, xa_122⟩
set_option maxRecDepth 100000 in
theorem xa_123 : xAR (xRow RX11 cX11_putsStep 3 (none) xp_123) xw_123 := by
  unfold xw_123
  exact xcn (rO (s_aload_n (k := 0) (by decide +kernel))) <|
    xcn (rO (s_get (T := TX11) (N := 17) (index := 7) x_iw11 rfl (by decide) wf_X11_7 rfl (by decide +kernel))) <|
    xcn (rO (s_bipush (n := 101) (by decide +kernel) (by decide))) <|
    xcn (rO (s_iconst (n := 4) (by decide +kernel) (by decide))) <|
    xcn (rO (s_iload_n (k := 1) (by decide +kernel))) <|
    xcn (rO (s_imul (by decide +kernel))) <|
    xcn (rO (s_iadd (by decide +kernel))) <|
    xcn (rO (s_iconst (n := 2) (by decide +kernel) (by decide))) <|
    xcn (rO (s_iadd (by decide +kernel))) <|
    xcn (rO (s_iload_n (k := 2) (by decide +kernel))) <|
    xcn (rO (s_iast (by decide +kernel))) <|
    xcn (rR (s_ret0 (by decide +kernel))) <| xnl
theorem xv_123 : xMd (xw_123, xp_123, yX11_putsStep, cX11_putsStep, 3, none) := ⟨by decide +kernel, rfl, by decide +kernel, by decide +kernel, xa_123⟩
set_option maxRecDepth 100000 in
theorem xa_124 : xAR (xRow RX11 cX11_putsState 3 (none) xp_124) xw_124 := by
  unfold xw_124
  exact xcn (rO (s_aload_n (k := 0) (by decide +kernel))) <|
    xcn (rO (s_get (T := TX11) (N := 17) (index := 7) x_iw11 rfl (by decide) wf_X11_7 rfl (by decide +kernel))) <|
    xcn (rO (s_bipush (n := 101) (by decide +kernel) (by decide))) <|
    xcn (rO (s_iconst (n := 4) (by decide +kernel) (by decide))) <|
    xcn (rO (s_iload_n (k := 1) (by decide +kernel))) <|
    xcn (rO (s_imul (by decide +kernel))) <|
    xcn (rO (s_iadd (by decide +kernel))) <|
    xcn (rO (s_iconst (n := 3) (by decide +kernel) (by decide))) <|
    xcn (rO (s_iadd (by decide +kernel))) <|
    xcn (rO (s_iload_n (k := 2) (by decide +kernel))) <|
    xcn (rO (s_iast (by decide +kernel))) <|
    xcn (rR (s_ret0 (by decide +kernel))) <| xnl
theorem xv_124 : xMd (xw_124, xp_124, yX11_putsState, cX11_putsState, 3, none) := ⟨by decide +kernel, rfl, by decide +kernel, by decide +kernel, xa_124⟩
set_option maxRecDepth 100000 in
theorem xa_125 : xAR (xRow RX11 cX11_ofSession 3 (some .int) xp_125) xw_125 := by
  unfold xw_125
  exact xcn (rO (s_aload_n (k := 0) (by decide +kernel))) <|
    xcn (rO (s_get (T := TX11) (N := 17) (index := 7) x_iw11 rfl (by decide) wf_X11_7 rfl (by decide +kernel))) <|
    xcn (rO (s_bipush (n := 121) (by decide +kernel) (by decide))) <|
    xcn (rO (s_iconst (n := 4) (by decide +kernel) (by decide))) <|
    xcn (rO (s_iload_n (k := 1) (by decide +kernel))) <|
    xcn (rO (s_imul (by decide +kernel))) <|
    xcn (rO (s_iadd (by decide +kernel))) <|
    xcn (rO (s_iload_n (k := 2) (by decide +kernel))) <|
    xcn (rO (s_iadd (by decide +kernel))) <|
    xcn (rO (s_iald (by decide +kernel))) <|
    xcn (rR (s_ret1 (by decide +kernel))) <| xnl
theorem xv_125 : xMd (xw_125, xp_125, yX11_ofSession, cX11_ofSession, 3, some .int) := ⟨by decide +kernel, rfl, by decide +kernel, by decide +kernel, xa_125⟩
set_option maxRecDepth 100000 in
theorem xa_126 : xAR (xRow RX11 cX11_laysWays 5 (none) xp_126) xw_126 := by
  unfold xw_126
  exact xcn (rO (s_iconst (n := 0) (by decide +kernel) (by decide))) <|
    xcn (rO (s_istore_n (k := 1) (by decide) (by decide +kernel))) <|
    xcn (rO s_fgt) <|
    xcn (rO (s_iload_n (k := 1) (by decide +kernel))) <|
    xcn (rO (s_bipush (n := 64) (by decide +kernel) (by decide))) <|
    xcn (rJ (s_ic_ge (off := 55) (by decide +kernel) (by decide +kernel) (by decide +kernel))) <|
    xcn (rO (s_aload_n (k := 0) (by decide +kernel))) <|
    xcn (rO (s_get (T := TX11) (N := 17) (index := 22) x_iw11 rfl (by decide) wf_X11_22 rfl (by decide +kernel))) <|
    xcn (rO (s_iload_n (k := 1) (by decide +kernel))) <|
    xcn (rO (s_iload_n (k := 1) (by decide +kernel))) <|
    xcn (rO (s_bipush (n := 8) (by decide +kernel) (by decide))) <|
    xcn (rO (s_idiv (by decide +kernel))) <|
    xcn (rO (s_iload_n (k := 1) (by decide +kernel))) <|
    xcn (rO (s_bipush (n := 8) (by decide +kernel) (by decide))) <|
    xcn (rO (s_irem (by decide +kernel))) <|
    xcn (rJ (s_ic_ne (off := 7) (by decide +kernel) (by decide +kernel) (by decide +kernel))) <|
    xcn (rO (s_iconst (n := 0) (by decide +kernel) (by decide))) <|
    xcn (rJ (s_goto (off := 28) (by decide +kernel) (by decide +kernel))) <|
    xcn (rO (s_aload_n (k := 0) (by decide +kernel))) <|
    xcn (rO (s_get (T := TX11) (N := 17) (index := 7) x_iw11 rfl (by decide) wf_X11_7 rfl (by decide +kernel))) <|
    xcn (rO (s_bipush (n := 37) (by decide +kernel) (by decide))) <|
    xcn (rO (s_iload_n (k := 1) (by decide +kernel))) <|
    xcn (rO (s_iadd (by decide +kernel))) <|
    xcn (rO (s_iald (by decide +kernel))) <|
    xcn (rJ (s_if_ne (off := 7) (by decide +kernel) (by decide +kernel) (by decide +kernel))) <|
    xcn (rO (s_iconst (n := (-1)) (by decide +kernel) (by decide))) <|
    xcn (rJ (s_goto (off := 12) (by decide +kernel) (by decide +kernel))) <|
    xcn (rO (s_aload_n (k := 0) (by decide +kernel))) <|
    xcn (rO (s_get (T := TX11) (N := 17) (index := 7) x_iw11 rfl (by decide) wf_X11_7 rfl (by decide +kernel))) <|
    xcn (rO (s_bipush (n := 37) (by decide +kernel) (by decide))) <|
    xcn (rO (s_iload_n (k := 1) (by decide +kernel))) <|
    xcn (rO (s_iadd (by decide +kernel))) <|
    xcn (rO (s_iald (by decide +kernel))) <|
    xcn (rO (s_iast (by decide +kernel))) <|
    xcn (rO (s_iinc (k := 1) (n := 1) (by decide) (by decide) (by decide +kernel))) <|
    xcn (rJ (s_goto (off := (-55)) (by decide +kernel) (by decide +kernel))) <|
    xcn (rO s_fgt) <|
    xcn (rO (s_iconst (n := 0) (by decide +kernel) (by decide))) <|
    xcn (rO (s_istore_n (k := 1) (by decide) (by decide +kernel))) <|
    xcn (rO s_fgt) <|
    xcn (rO (s_iload_n (k := 1) (by decide +kernel))) <|
    xcn (rO (s_bipush (n := 8) (by decide +kernel) (by decide))) <|
    xcn (rJ (s_ic_ge (off := 107) (by decide +kernel) (by decide +kernel) (by decide +kernel))) <|
    xcn (rO (s_iconst (n := 0) (by decide +kernel) (by decide))) <|
    xcn (rO (s_istore_n (k := 2) (by decide) (by decide +kernel))) <|
    xcn (rO s_fgt) <|
    xcn (rO (s_iload_n (k := 2) (by decide +kernel))) <|
    xcn (rO (s_bipush (n := 64) (by decide +kernel) (by decide))) <|
    xcn (rJ (s_ic_ge (off := 93) (by decide +kernel) (by decide +kernel) (by decide +kernel))) <|
    xcn (rO (s_aload_n (k := 0) (by decide +kernel))) <|
    xcn (rO (s_get (T := TX11) (N := 17) (index := 22) x_iw11 rfl (by decide) wf_X11_22 rfl (by decide +kernel))) <|
    xcn (rO (s_bipush (n := 8) (by decide +kernel) (by decide))) <|
    xcn (rO (s_iload_n (k := 2) (by decide +kernel))) <|
    xcn (rO (s_bipush (n := 8) (by decide +kernel) (by decide))) <|
    xcn (rO (s_idiv (by decide +kernel))) <|
    xcn (rO (s_imul (by decide +kernel))) <|
    xcn (rO (s_iload_n (k := 1) (by decide +kernel))) <|
    xcn (rO (s_iadd (by decide +kernel))) <|
    xcn (rO (s_iald (by decide +kernel))) <|
    xcn (rO (s_istore_n (k := 3) (by decide) (by decide +kernel))) <|
    xcn (rO (s_aload_n (k := 0) (by decide +kernel))) <|
    xcn (rO (s_get (T := TX11) (N := 17) (index := 22) x_iw11 rfl (by decide) wf_X11_22 rfl (by decide +kernel))) <|
    xcn (rO (s_bipush (n := 8) (by decide +kernel) (by decide))) <|
    xcn (rO (s_iload_n (k := 1) (by decide +kernel))) <|
    xcn (rO (s_imul (by decide +kernel))) <|
    xcn (rO (s_iload_n (k := 2) (by decide +kernel))) <|
    xcn (rO (s_bipush (n := 8) (by decide +kernel) (by decide))) <|
    xcn (rO (s_irem (by decide +kernel))) <|
    xcn (rO (s_iadd (by decide +kernel))) <|
    xcn (rO (s_iald (by decide +kernel))) <|
    xcn (rO (s_istore (k := 4) (by decide) (by decide +kernel))) <|
    xcn (rO (s_aload_n (k := 0) (by decide +kernel))) <|
    xcn (rO (s_get (T := TX11) (N := 17) (index := 22) x_iw11 rfl (by decide) wf_X11_22 rfl (by decide +kernel))) <|
    xcn (rO (s_iload_n (k := 2) (by decide +kernel))) <|
    xcn (rO (s_iload_n (k := 3) (by decide +kernel))) <|
    xcn (rO (s_iconst (n := (-1)) (by decide +kernel) (by decide))) <|
    xcn (rJ (s_ic_eq (off := 39) (by decide +kernel) (by decide +kernel) (by decide +kernel))) <|
    xcn (rO (s_iload (k := 4) (by decide +kernel))) <|
    xcn (rO (s_iconst (n := (-1)) (by decide +kernel) (by decide))) <|
    xcn (rJ (s_ic_eq (off := 33) (by decide +kernel) (by decide +kernel) (by decide +kernel))) <|
    xcn (rO (s_aload_n (k := 0) (by decide +kernel))) <|
    xcn (rO (s_get (T := TX11) (N := 17) (index := 22) x_iw11 rfl (by decide) wf_X11_22 rfl (by decide +kernel))) <|
    xcn (rO (s_iload_n (k := 2) (by decide +kernel))) <|
    xcn (rO (s_iald (by decide +kernel))) <|
    xcn (rO (s_iconst (n := (-1)) (by decide +kernel) (by decide))) <|
    xcn (rJ (s_ic_eq (off := 16) (by decide +kernel) (by decide +kernel) (by decide +kernel))) <|
    xcn (rO (s_iload_n (k := 3) (by decide +kernel))) <|
    xcn (rO (s_iload (k := 4) (by decide +kernel))) <|
    xcn (rO (s_iadd (by decide +kernel))) <|
    xcn (rO (s_aload_n (k := 0) (by decide +kernel))) <|
    xcn (rO (s_get (T := TX11) (N := 17) (index := 22) x_iw11 rfl (by decide) wf_X11_22 rfl (by decide +kernel))) <|
    xcn (rO (s_iload_n (k := 2) (by decide +kernel))) <|
    xcn (rO (s_iald (by decide +kernel))) <|
    xcn (rJ (s_ic_ge (off := 10) (by decide +kernel) (by decide +kernel) (by decide +kernel))) <|
    xcn (rO (s_iload_n (k := 3) (by decide +kernel))) <|
    xcn (rO (s_iload (k := 4) (by decide +kernel))) <|
    xcn (rO (s_iadd (by decide +kernel))) <|
    xcn (rJ (s_goto (off := 9) (by decide +kernel) (by decide +kernel))) <|
    xcn (rO (s_aload_n (k := 0) (by decide +kernel))) <|
    xcn (rO (s_get (T := TX11) (N := 17) (index := 22) x_iw11 rfl (by decide) wf_X11_22 rfl (by decide +kernel))) <|
    xcn (rO (s_iload_n (k := 2) (by decide +kernel))) <|
    xcn (rO (s_iald (by decide +kernel))) <|
    xcn (rO (s_iast (by decide +kernel))) <|
    xcn (rO (s_iinc (k := 2) (n := 1) (by decide) (by decide) (by decide +kernel))) <|
    xcn (rJ (s_goto (off := (-93)) (by decide +kernel) (by decide +kernel))) <|
    xcn (rO s_fgt) <|
    xcn (rO (s_iinc (k := 1) (n := 1) (by decide) (by decide) (by decide +kernel))) <|
    xcn (rJ (s_goto (off := (-107)) (by decide +kernel) (by decide +kernel))) <|
    xcn (rO s_fgt) <|
    xcn (rR (s_ret0 (by decide +kernel))) <| xnl
theorem xv_126 : xMd (xw_126, xp_126, yX11_laysWays, cX11_laysWays, 5, none) := ⟨by decide +kernel, rfl, by decide +kernel, by decide +kernel, xa_126⟩
set_option maxRecDepth 100000 in
theorem xa_127 : xAR (xRow RX11 cX11_way 3 (some .int) xp_127) xw_127 := by
  unfold xw_127
  exact xcn (rO (s_aload_n (k := 0) (by decide +kernel))) <|
    xcn (rO (s_get (T := TX11) (N := 17) (index := 22) x_iw11 rfl (by decide) wf_X11_22 rfl (by decide +kernel))) <|
    xcn (rO (s_bipush (n := 8) (by decide +kernel) (by decide))) <|
    xcn (rO (s_iload_n (k := 1) (by decide +kernel))) <|
    xcn (rO (s_imul (by decide +kernel))) <|
    xcn (rO (s_iload_n (k := 2) (by decide +kernel))) <|
    xcn (rO (s_iadd (by decide +kernel))) <|
    xcn (rO (s_iald (by decide +kernel))) <|
    xcn (rR (s_ret1 (by decide +kernel))) <| xnl
theorem xv_127 : xMd (xw_127, xp_127, yX11_way, cX11_way, 3, some .int) := ⟨by decide +kernel, rfl, by decide +kernel, by decide +kernel, xa_127⟩
set_option maxRecDepth 100000 in
theorem xa_128 : xAR (xRow RX11 cX11_seemsThen 4 (some .int) xp_128) xw_128 := by
  unfold xw_128
  exact xcn (rO (s_aload_n (k := 0) (by decide +kernel))) <|
    xcn (rO (s_iload_n (k := 1) (by decide +kernel))) <|
    xcn (rO (s_aload_n (k := 0) (by decide +kernel))) <|
    xcn (rO (s_iload_n (k := 2) (by decide +kernel))) <|
    xcn (rO (s_iconst (n := 0) (by decide +kernel) (by decide))) <|
    xcn (rC (s_cV (index := 57) wb_120 wm_X11_57 (by decide +kernel))) <|
    xcn (rC (s_cV (index := 61) wb_127 wm_X11_61 (by decide +kernel))) <|
    xcn (rO (s_istore_n (k := 3) (by decide) (by decide +kernel))) <|
    xcn (rO (s_iload_n (k := 3) (by decide +kernel))) <|
    xcn (rO (s_iconst (n := (-1)) (by decide +kernel) (by decide))) <|
    xcn (rJ (s_ic_eq (off := 12) (by decide +kernel) (by decide +kernel) (by decide +kernel))) <|
    xcn (rO (s_aload_n (k := 0) (by decide +kernel))) <|
    xcn (rO (s_iload_n (k := 2) (by decide +kernel))) <|
    xcn (rC (s_cV (index := 64) wb_122 wm_X11_64 (by decide +kernel))) <|
    xcn (rO (s_iconst (n := 2) (by decide +kernel) (by decide))) <|
    xcn (rJ (s_ic_ne (off := 7) (by decide +kernel) (by decide +kernel) (by decide +kernel))) <|
    xcn (rO (s_iconst (n := (-1)) (by decide +kernel) (by decide))) <|
    xcn (rJ (s_goto (off := 29) (by decide +kernel) (by decide +kernel))) <|
    xcn (rO (s_iload_n (k := 3) (by decide +kernel))) <|
    xcn (rO (s_aload_n (k := 0) (by decide +kernel))) <|
    xcn (rO (s_get (T := TX11) (N := 17) (index := 7) x_iw11 rfl (by decide) wf_X11_7 rfl (by decide +kernel))) <|
    xcn (rO (s_bipush (n := 21) (by decide +kernel) (by decide))) <|
    xcn (rO (s_iload_n (k := 1) (by decide +kernel))) <|
    xcn (rO (s_iadd (by decide +kernel))) <|
    xcn (rO (s_iald (by decide +kernel))) <|
    xcn (rO (s_iconst (n := 1) (by decide +kernel) (by decide))) <|
    xcn (rJ (s_ic_ne (off := 7) (by decide +kernel) (by decide +kernel) (by decide +kernel))) <|
    xcn (rO (s_iconst (n := 0) (by decide +kernel) (by decide))) <|
    xcn (rJ (s_goto (off := 10) (by decide +kernel) (by decide +kernel))) <|
    xcn (rO (s_iconst (n := 3) (by decide +kernel) (by decide))) <|
    xcn (rO (s_aload_n (k := 0) (by decide +kernel))) <|
    xcn (rO (s_iload_n (k := 2) (by decide +kernel))) <|
    xcn (rC (s_cV (index := 68) wb_121 wm_X11_68 (by decide +kernel))) <|
    xcn (rO (s_imul (by decide +kernel))) <|
    xcn (rO (s_iadd (by decide +kernel))) <|
    xcn (rR (s_ret1 (by decide +kernel))) <| xnl
theorem xv_128 : xMd (xw_128, xp_128, yX11_seemsThen, cX11_seemsThen, 4, some .int) := ⟨by decide +kernel, rfl, by decide +kernel, by decide +kernel, xa_128⟩
