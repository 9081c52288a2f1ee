set_option maxHeartbeats 1000000 in
set_option maxRecDepth 100000 in
theorem lw_s3 {Inv : xM → Prop} (h0 : Inv xM0) (hok : lw_OK Inv) {p : Program} {e : Env} {s : State} {m : MethodId} {below : List Frame} {meth : Method} {c : Code} {l : Launch} {b L : Nat} {xs : Nat → Int32} {D : va_G} {cI cS : ClassId} {H : Heap} {locs : List Loc} {ls : Array Slot} {kc ks : Nat} (hL : L ≤ 2048) (C : gCx p s m #[Value.ref b] c D cI cS R_law code 4 s.heap.size) (hr : meth.sig.returnType = ret) (hX : va_X b L xs s s.heap) (hbl : b < s.heap.size) (hlocks : meth.locks = false) (hkc : kc ≤ 600000) (hks : ks ≤ 7302250) (hP : va_P D vwCl (xW s.heap.size cI cS xM0) H) (hS : va_S (gA s.heap.size) s.heap H locs) (hl : lv_has ls 4 [(1, .ref (s.heap.size + 0)), (0, .ref b)]) : W p l e room_1 s m #[Value.ref b] below meth c H locs kc ks (lw_Z below #[Value.ref b] s) (F0 m 15 ls [.ref (s.heap.size + 141)]) := by
  have hx := C.1
  have hb := C.2.1
  refine lv_astore_n (lv' := [(2, .ref (s.heap.size + 141)), (1, .ref (s.heap.size + 0)), (0, .ref b)]) hx hb (show decode code 15 = .ok (.astore_n 2, 1) by decide +kernel) rfl hl (by decide) rfl (fun ls hl => ?_)
  refine lv_iconst (v := 0) hx hb (show decode code 16 = .ok (.iconst 0, 1) by decide +kernel) (by decide) ?_
  refine lv_istore_n (lv' := [(3, .int 0), (2, .ref (s.heap.size + 141)), (1, .ref (s.heap.size + 0)), (0, .ref b)]) hx hb (show decode code 17 = .ok (.istore_n 3, 1) by decide +kernel) rfl hl (by decide) rfl (fun ls hl => ?_)
  exact law_loop hok hkc hks C hr hlocks hX hbl rfl hL (L + 4) 0 (by omega) xM0 h0 H locs ls hP hS (by omega) (lv_sub hl [3, 2, 1, 0] rfl)
set_option maxHeartbeats 1000000 in
set_option maxRecDepth 100000 in
theorem lw_s2 {Inv : xM → Prop} (h0 : Inv xM0) (hok : lw_OK Inv) {p : Program} {e : Env} {s : State} {m : MethodId} {below : List Frame} {meth : Method} {c : Code} {l : Launch} {b L : Nat} {xs : Nat → Int32} {D : va_G} {cI cS : ClassId} {H : Heap} {locs : List Loc} {ls : Array Slot} {kc ks : Nat} (hL : L ≤ 2048) (C : gCx p s m #[Value.ref b] c D cI cS R_law code 4 s.heap.size) (hr : meth.sig.returnType = ret) (hX : va_X b L xs s s.heap) (hbl : b < s.heap.size) (hlocks : meth.locks = false) (hkc : kc + 14 ≤ 600000) (hks : ks + 1587 ≤ 7302250) {pre : List gE} (hE : pre.length = 141) (hes : pre ++ gP_X11_init 141 = x_shl.map g_ofk) (hz : H.size = s.heap.size + pre.length) (hP : va_P D vwCl (gW s.heap.size cI cS pre) H) (hS : va_S (gA s.heap.size) s.heap H locs) (hl : lv_has ls 4 [(0, .ref b)]) : W p l e room_1 s m #[Value.ref b] below meth c H locs kc ks (lw_Z below #[Value.ref b] s) (F0 m 7 ls [.ref (s.heap.size + 0)]) := by
  have hx := C.1
  have hb := C.2.1
  have a1 : kc + 1 ≤ room_1.cells := by clear hz hP hS; simp only [room_1]; omega
  have a2 : ks + 17 ≤ room_1.slots := by clear hz hP hS; simp only [room_1]; omega
  have a3 : kc + 1 + 13 ≤ room_1.cells := by clear hz hP hS; simp only [room_1]; omega
  have a4 : ks + 17 + 1570 ≤ room_1.slots := by clear hz hP hS; simp only [room_1]; omega
  refine lv_astore_n (lv' := [(1, .ref (s.heap.size + 0)), (0, .ref b)]) hx hb (show decode code 7 = .ok (.astore_n 1, 1) by decide +kernel) rfl hl (by decide) rfl (fun ls hl => ?_)
  refine lw_newq (index := 10) (q := 141) (es := pre) (fs := [some none, some none, some none, none, some none, some none, some none, some none, some none, some none, some none, some none, some none, none, none, some none, none]) C hE (x_mt (w := Cond.classLink R_law 10 RX11) 873 (by decide +kernel) rfl) (x_mt (w := Cond.instantiable RX11 17) 874 (by decide +kernel) rfl) (x_mt (w := Cond.initialized RX11) 12 (by decide +kernel) rfl) x_iw11 tyX11 tyX11_ok (ci := 11) rfl (by decide) (by decide) a1 a2 (by decide +kernel) hz hP hS (fun H hz hP hS => ?_)
  refine lv_dup (va := .ref (s.heap.size + 141)) hx hb (by decide +kernel) rfl ?_
  refine lw_ci (index := 12) (mc := 13) (ms := 1570) (a := 141) (es := pre ++ [.inl (11, [some none, some none, some none, none, some none, some none, some none, some none, some none, some none, some none, some none, some none, none, none, some none, none])]) (es' := pre ++ gP_X11_init 141) C (x_mt (w := Cond.methodLink R_law 12 yX11_init) 875 (by decide +kernel) rfl) (x_mt (w := Cond.instanceMethod yX11_init) 876 (by decide +kernel) rfl) (x_mt (w := Cond.initialized RX11) 12 (by decide +kernel) rfl) (x_mt (w := Cond.code yX11_init cX11_init 1 none) 877 (by decide +kernel) rfl) rfl ⟨by decide +kernel, by decide +kernel, by decide +kernel⟩ ⟨by simp [room_1], by simp [room_1]⟩ rfl rfl ⟨a3, a4⟩ (Nat.le_of_ble_eq_true rfl) hl.1 (k_X11_init l D cI cS s.heap.size pre 141 hE) (by decide +kernel) hz hP hS (fun H1 locs1 hz1 hP1 hS1 => ?_)
  rw [gW_x hes] at hP1
  exact lw_s3 h0 hok hL C hr hX hbl hlocks a3 a4 hP1 hS1 hl
set_option maxHeartbeats 1000000 in
set_option maxRecDepth 100000 in
theorem whole_of {Inv : xM → Prop} (h0 : Inv xM0) (hok : lw_OK Inv) {p : Program} {e : Env} {s : State} {m : MethodId} {below : List Frame} {meth : Method} {c : Code} (l : Launch) {b L : Nat} {xs : Nat → Int32} (hL : L ≤ 2048) (C0 : lw_At p s m meth c b L xs) : W p l e room_1 s m #[Value.ref b] below meth c s.heap [] 0 0 (lw_Z below #[Value.ref b] s) (entryFrame m ([Value.ref b] : List Value).toArray 4) := by
  obtain ⟨hx, hb, hr, hml, hown, hts, hX, hbl, hlocks, hgv⟩ := id C0
  have hts2 : ∀ w ∈ x_tb, w.before #[Value.ref b] s = true := fun w hw => hts w (x_tb_lw hw)
  have hN : x_N s := lw_hN hts
  have hO : va_AO "AnySites$State" s := lw_hO hts
  obtain ⟨D, cI, cS, hK⟩ := lw_K hts2 hO
  have C : gCx p s m #[Value.ref b] c D cI cS R_law code 4 s.heap.size := ⟨hx, hb, hml, hown, hts2, hK, hN, hO, Nat.le_refl _⟩
  have hS : va_S (gA s.heap.size) s.heap s.heap [] := va_S.rf
  have hP : va_P D vwCl (gW s.heap.size cI cS []) s.heap := fun k q h => by simp [gW] at h
  have hl := lv_entry ([.ref b]) (n := 4) (Nat.le_of_ble_eq_true rfl)
  rw [lg_entry_eq]
  generalize (lg_sl ([.ref b]) ++ List.replicate (4 - (lg_sl ([.ref b])).length) Slot.unset).toArray = ls at hl ⊢
  have hl : lv_has ls 4 [(0, .ref b)] := hl
  refine lw_newq (pc := 0) (index := 7) (q := 0) (es := []) (fs := [some none, some none, some none, some none, some none, some none, some none, none, none, none]) C rfl (x_mt (w := Cond.classLink R_law 7 RX10) 16 (by decide +kernel) rfl) (x_mt (w := Cond.instantiable RX10 10) 17 (by decide +kernel) rfl) (x_mt (w := Cond.initialized RX10) 1 (by decide +kernel) rfl) x_iw10 tyX10 tyX10_ok (ci := 10) rfl (by decide) (by decide) (by simp [room_1]) (by simp [room_1]) (by decide +kernel) rfl hP hS (fun H hz hP hS => ?_)
  refine lv_dup (va := .ref (s.heap.size + 0)) hx hb (by decide +kernel) rfl ?_
  refine lw_ci (index := 9) (mc := 140) (ms := 2403) (a := 0) (es := [] ++ [.inl (10, [some none, some none, some none, some none, some none, some none, some none, none, none, none])]) (es' := [] ++ gP_X10_init 0) C (x_mt (w := Cond.methodLink R_law 9 yX10_init) 18 (by decide +kernel) rfl) (x_mt (w := Cond.instanceMethod yX10_init) 19 (by decide +kernel) rfl) (x_mt (w := Cond.initialized RX10) 1 (by decide +kernel) rfl) (x_mt (w := Cond.code yX10_init cX10_init 1 none) 20 (by decide +kernel) rfl) rfl ⟨by decide +kernel, by decide +kernel, by decide +kernel⟩ ⟨by simp [room_1], by simp [room_1]⟩ rfl rfl ⟨by simp [room_1], by simp [room_1]⟩ (Nat.le_of_ble_eq_true rfl) hl.1 (k_X10_init l D cI cS s.heap.size [] 0 rfl) (by decide +kernel) hz hP hS (fun H1 locs1 hz1 hP1 hS1 => ?_)
  exact lw_s2 (pre := [] ++ gP_X10_init 0) h0 hok hL C hr hX hbl hlocks (by simp) (by simp) lw_len lw_es hz1 hP1 hS1 hl
