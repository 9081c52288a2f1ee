theorem g_len {A B C : List gE} {k : Nat} (h : B.length = C.length + k) : (A ++ B).length = (A ++ C).length + k := by
  rw [List.length_append, List.length_append, h]
  omega
set_option maxHeartbeats 4000000 in
set_option maxRecDepth 100000 in
theorem k_X1_init (l : Launch) (D : va_G) (cI cS : ClassId) (b : Nat) (pre : List gE) (n : Nat) (hn : pre.length = n) : gMt l D cI cS b yX1_init cX1_init 1 ({ frames := 1, cells := 5, slots := 152, locals := 12 }) [.ref n] (pre ++ [.inl (1, [none, some none, some none, some none, some none, some none])]) (pre ++ gAreas n) 5 152 := by
  refine g_met (by decide) rfl (Nat.le_of_ble_eq_true rfl) ?_
  intro p e s m below meth c C hin hr hlk
  show gG p l e _ s m _ below meth c D cI cS b 1 _ 0 [.ref (n + 0)] [] _ 0 0
  refine g_ald C (k := 0) (j := 0) (a := (n + 0)) rfl rfl (by decide +kernel) ?_
  refine g_obj C (idx := 3) wo_RX1_3 wOi wOc (by decide +kernel) ⟨Nat.le_of_ble_eq_true rfl, Nat.le_of_ble_eq_true rfl⟩ ?_
  refine g_ald C (k := 0) (j := 0) (a := (n + 0)) rfl rfl (by decide +kernel) ?_
  refine g_bip C (n := 8) (v := 8) (by decide) (by decide +kernel) ?_
  refine g_newa C wArr (N := 8) (by decide) (by decide) (by decide) (Nat.le_of_ble_eq_true rfl) (Nat.le_of_ble_eq_true rfl) (by decide +kernel) ?_
  refine g_cast (st' := [.ref (n + 1), .ref (n + 0)]) (es' := pre ++ [.inl (1, [none, some none, some none, some none, some none, some none]), .inr (.inl 8)]) (by rw [pr_len hn]; rfl) pr_app ?_
  refine g_putF C hin (T := TX1) (N := 6) (ty0 := tyX1) (k := 1) (ty := (.array .int)) (fs := [none, some none, some none, some none, some none, some none]) x_iw1 tyX1_ok nmX1 rfl (by decide) wg_RX1_9 rfl rfl rfl (fun _ => rfl) (fun _ => rfl) (Nat.le_of_ble_eq_true rfl) (pr_get hn 0) (by decide +kernel) ?_
  refine g_cast (st' := []) (es' := pre ++ [.inl (1, [none, some (some (n + 1)), some none, some none, some none, some none]), .inr (.inl 8)]) rfl (pr_set hn 0) ?_
  refine g_ald C (k := 0) (j := 0) (a := (n + 0)) rfl rfl (by decide +kernel) ?_
  refine g_bip C (n := 8) (v := 8) (by decide) (by decide +kernel) ?_
  refine g_newa C wArr (N := 8) (by decide) (by decide) (by decide) (Nat.le_of_ble_eq_true rfl) (Nat.le_of_ble_eq_true rfl) (by decide +kernel) ?_
  refine g_cast (st' := [.ref (n + 2), .ref (n + 0)]) (es' := pre ++ [.inl (1, [none, some (some (n + 1)), some none, some none, some none, some none]), .inr (.inl 8), .inr (.inl 8)]) (by rw [pr_len hn]; rfl) pr_app ?_
  refine g_putF C hin (T := TX1) (N := 6) (ty0 := tyX1) (k := 2) (ty := (.array .int)) (fs := [none, some (some (n + 1)), some none, some none, some none, some none]) x_iw1 tyX1_ok nmX1 rfl (by decide) wg_RX1_15 rfl rfl rfl (fun _ => rfl) (fun _ => rfl) (Nat.le_of_ble_eq_true rfl) (pr_get hn 0) (by decide +kernel) ?_
  refine g_cast (st' := []) (es' := pre ++ [.inl (1, [none, some (some (n + 1)), some (some (n + 2)), some none, some none, some none]), .inr (.inl 8), .inr (.inl 8)]) rfl (pr_set hn 0) ?_
  refine g_ald C (k := 0) (j := 0) (a := (n + 0)) rfl rfl (by decide +kernel) ?_
  refine g_bip C (n := 8) (v := 8) (by decide) (by decide +kernel) ?_
  refine g_newa C wArr (N := 8) (by decide) (by decide) (by decide) (Nat.le_of_ble_eq_true rfl) (Nat.le_of_ble_eq_true rfl) (by decide +kernel) ?_
  refine g_cast (st' := [.ref (n + 3), .ref (n + 0)]) (es' := pre ++ [.inl (1, [none, some (some (n + 1)), some (some (n + 2)), some none, some none, some none]), .inr (.inl 8), .inr (.inl 8), .inr (.inl 8)]) (by rw [pr_len hn]; rfl) pr_app ?_
  refine g_putF C hin (T := TX1) (N := 6) (ty0 := tyX1) (k := 3) (ty := (.array .int)) (fs := [none, some (some (n + 1)), some (some (n + 2)), some none, some none, some none]) x_iw1 tyX1_ok nmX1 rfl (by decide) wg_RX1_18 rfl rfl rfl (fun _ => rfl) (fun _ => rfl) (Nat.le_of_ble_eq_true rfl) (pr_get hn 0) (by decide +kernel) ?_
  refine g_cast (st' := []) (es' := pre ++ [.inl (1, [none, some (some (n + 1)), some (some (n + 2)), some (some (n + 3)), some none, some none]), .inr (.inl 8), .inr (.inl 8), .inr (.inl 8)]) rfl (pr_set hn 0) ?_
  refine g_ald C (k := 0) (j := 0) (a := (n + 0)) rfl rfl (by decide +kernel) ?_
  refine g_bip C (n := 64) (v := 64) (by decide) (by decide +kernel) ?_
  refine g_newa C wArr (N := 64) (by decide) (by decide) (by decide) (Nat.le_of_ble_eq_true rfl) (Nat.le_of_ble_eq_true rfl) (by decide +kernel) ?_
  refine g_cast (st' := [.ref (n + 4), .ref (n + 0)]) (es' := pre ++ [.inl (1, [none, some (some (n + 1)), some (some (n + 2)), some (some (n + 3)), some none, some none]), .inr (.inl 8), .inr (.inl 8), .inr (.inl 8), .inr (.inl 64)]) (by rw [pr_len hn]; rfl) pr_app ?_
  refine g_putF C hin (T := TX1) (N := 6) (ty0 := tyX1) (k := 4) (ty := (.array .int)) (fs := [none, some (some (n + 1)), some (some (n + 2)), some (some (n + 3)), some none, some none]) x_iw1 tyX1_ok nmX1 rfl (by decide) wg_RX1_21 rfl rfl rfl (fun _ => rfl) (fun _ => rfl) (Nat.le_of_ble_eq_true rfl) (pr_get hn 0) (by decide +kernel) ?_
  refine g_cast (st' := []) (es' := pre ++ [.inl (1, [none, some (some (n + 1)), some (some (n + 2)), some (some (n + 3)), some (some (n + 4)), some none]), .inr (.inl 8), .inr (.inl 8), .inr (.inl 8), .inr (.inl 64)]) rfl (pr_set hn 0) ?_
  refine g_ald C (k := 0) (j := 0) (a := (n + 0)) rfl rfl (by decide +kernel) ?_
  refine g_bip C (n := 64) (v := 64) (by decide) (by decide +kernel) ?_
  refine g_newa C wArr (N := 64) (by decide) (by decide) (by decide) (Nat.le_of_ble_eq_true rfl) (Nat.le_of_ble_eq_true rfl) (by decide +kernel) ?_
  refine g_cast (st' := [.ref (n + 5), .ref (n + 0)]) (es' := pre ++ [.inl (1, [none, some (some (n + 1)), some (some (n + 2)), some (some (n + 3)), some (some (n + 4)), some none]), .inr (.inl 8), .inr (.inl 8), .inr (.inl 8), .inr (.inl 64), .inr (.inl 64)]) (by rw [pr_len hn]; rfl) pr_app ?_
  refine g_putF C hin (T := TX1) (N := 6) (ty0 := tyX1) (k := 5) (ty := (.array .int)) (fs := [none, some (some (n + 1)), some (some (n + 2)), some (some (n + 3)), some (some (n + 4)), some none]) x_iw1 tyX1_ok nmX1 rfl (by decide) wg_RX1_24 rfl rfl rfl (fun _ => rfl) (fun _ => rfl) (Nat.le_of_ble_eq_true rfl) (pr_get hn 0) (by decide +kernel) ?_
  refine g_cast (st' := []) (es' := pre ++ [.inl (1, [none, some (some (n + 1)), some (some (n + 2)), some (some (n + 3)), some (some (n + 4)), some (some (n + 5))]), .inr (.inl 8), .inr (.inl 8), .inr (.inl 8), .inr (.inl 64), .inr (.inl 64)]) rfl (pr_set hn 0) ?_
  exact g_ret C hr hlk (Nat.le_of_ble_eq_true rfl) (Nat.le_of_ble_eq_true rfl) (by decide +kernel)
set_option maxHeartbeats 4000000 in
set_option maxRecDepth 100000 in
theorem k_X8_init (l : Launch) (D : va_G) (cI cS : ClassId) (b : Nat) (pre : List gE) (n : Nat) (hn : pre.length = n) : gMt l D cI cS b yX8_init cX8_init 1 ({ frames := 1, cells := 5, slots := 25, locals := 12 }) [.ref n] (pre ++ [.inl (8, [none, none, some none, some none, some none, some none, some none])]) (pre ++ gSites n) 5 25 := by
  refine g_met (by decide) rfl (Nat.le_of_ble_eq_true rfl) ?_
  intro p e s m below meth c C hin hr hlk
  show gG p l e _ s m _ below meth c D cI cS b 1 _ 0 [.ref (n + 0)] [] _ 0 0
  refine g_ald C (k := 0) (j := 0) (a := (n + 0)) rfl rfl (by decide +kernel) ?_
  refine g_obj C (idx := 3) wo_RX8_3 wOi wOc (by decide +kernel) ⟨Nat.le_of_ble_eq_true rfl, Nat.le_of_ble_eq_true rfl⟩ ?_
  refine g_ald C (k := 0) (j := 0) (a := (n + 0)) rfl rfl (by decide +kernel) ?_
  refine g_ico C (n := 5) (v := 5) (by decide) (by decide +kernel) ?_
  refine g_newa C wArr (N := 5) (by decide) (by decide) (by decide) (Nat.le_of_ble_eq_true rfl) (Nat.le_of_ble_eq_true rfl) (by decide +kernel) ?_
  refine g_cast (st' := [.ref (n + 1), .ref (n + 0)]) (es' := pre ++ [.inl (8, [none, none, some none, some none, some none, some none, some none]), .inr (.inl 5)]) (by rw [pr_len hn]; rfl) pr_app ?_
  refine g_putF C hin (T := TX8) (N := 7) (ty0 := tyX8) (k := 2) (ty := (.array .int)) (fs := [none, none, some none, some none, some none, some none, some none]) x_iw8 tyX8_ok nmX8 rfl (by decide) wg_RX8_9 rfl rfl rfl (fun _ => rfl) (fun _ => rfl) (Nat.le_of_ble_eq_true rfl) (pr_get hn 0) (by decide +kernel) ?_
  refine g_cast (st' := []) (es' := pre ++ [.inl (8, [none, none, some (some (n + 1)), some none, some none, some none, some none]), .inr (.inl 5)]) rfl (pr_set hn 0) ?_
  refine g_ald C (k := 0) (j := 0) (a := (n + 0)) rfl rfl (by decide +kernel) ?_
  refine g_ico C (n := 5) (v := 5) (by decide) (by decide +kernel) ?_
  refine g_newa C wArr (N := 5) (by decide) (by decide) (by decide) (Nat.le_of_ble_eq_true rfl) (Nat.le_of_ble_eq_true rfl) (by decide +kernel) ?_
  refine g_cast (st' := [.ref (n + 2), .ref (n + 0)]) (es' := pre ++ [.inl (8, [none, none, some (some (n + 1)), some none, some none, some none, some none]), .inr (.inl 5), .inr (.inl 5)]) (by rw [pr_len hn]; rfl) pr_app ?_
  refine g_putF C hin (T := TX8) (N := 7) (ty0 := tyX8) (k := 3) (ty := (.array .int)) (fs := [none, none, some (some (n + 1)), some none, some none, some none, some none]) x_iw8 tyX8_ok nmX8 rfl (by decide) wg_RX8_15 rfl rfl rfl (fun _ => rfl) (fun _ => rfl) (Nat.le_of_ble_eq_true rfl) (pr_get hn 0) (by decide +kernel) ?_
  refine g_cast (st' := []) (es' := pre ++ [.inl (8, [none, none, some (some (n + 1)), some (some (n + 2)), some none, some none, some none]), .inr (.inl 5), .inr (.inl 5)]) rfl (pr_set hn 0) ?_
  refine g_ald C (k := 0) (j := 0) (a := (n + 0)) rfl rfl (by decide +kernel) ?_
  refine g_ico C (n := 5) (v := 5) (by decide) (by decide +kernel) ?_
  refine g_newa C wArr (N := 5) (by decide) (by decide) (by decide) (Nat.le_of_ble_eq_true rfl) (Nat.le_of_ble_eq_true rfl) (by decide +kernel) ?_
  refine g_cast (st' := [.ref (n + 3), .ref (n + 0)]) (es' := pre ++ [.inl (8, [none, none, some (some (n + 1)), some (some (n + 2)), some none, some none, some none]), .inr (.inl 5), .inr (.inl 5), .inr (.inl 5)]) (by rw [pr_len hn]; rfl) pr_app ?_
  refine g_putF C hin (T := TX8) (N := 7) (ty0 := tyX8) (k := 4) (ty := (.array .int)) (fs := [none, none, some (some (n + 1)), some (some (n + 2)), some none, some none, some none]) x_iw8 tyX8_ok nmX8 rfl (by decide) wg_RX8_18 rfl rfl rfl (fun _ => rfl) (fun _ => rfl) (Nat.le_of_ble_eq_true rfl) (pr_get hn 0) (by decide +kernel) ?_
  refine g_cast (st' := []) (es' := pre ++ [.inl (8, [none, none, some (some (n + 1)), some (some (n + 2)), some (some (n + 3)), some none, some none]), .inr (.inl 5), .inr (.inl 5), .inr (.inl 5)]) rfl (pr_set hn 0) ?_
  refine g_ald C (k := 0) (j := 0) (a := (n + 0)) rfl rfl (by decide +kernel) ?_
  refine g_ico C (n := 5) (v := 5) (by decide) (by decide +kernel) ?_
  refine g_newa C wArr (N := 5) (by decide) (by decide) (by decide) (Nat.le_of_ble_eq_true rfl) (Nat.le_of_ble_eq_true rfl) (by decide +kernel) ?_
  refine g_cast (st' := [.ref (n + 4), .ref (n + 0)]) (es' := pre ++ [.inl (8, [none, none, some (some (n + 1)), some (some (n + 2)), some (some (n + 3)), some none, some none]), .inr (.inl 5), .inr (.inl 5), .inr (.inl 5), .inr (.inl 5)]) (by rw [pr_len hn]; rfl) pr_app ?_
  refine g_putF C hin (T := TX8) (N := 7) (ty0 := tyX8) (k := 5) (ty := (.array .int)) (fs := [none, none, some (some (n + 1)), some (some (n + 2)), some (some (n + 3)), some none, some none]) x_iw8 tyX8_ok nmX8 rfl (by decide) wg_RX8_21 rfl rfl rfl (fun _ => rfl) (fun _ => rfl) (Nat.le_of_ble_eq_true rfl) (pr_get hn 0) (by decide +kernel) ?_
  refine g_cast (st' := []) (es' := pre ++ [.inl (8, [none, none, some (some (n + 1)), some (some (n + 2)), some (some (n + 3)), some (some (n + 4)), some none]), .inr (.inl 5), .inr (.inl 5), .inr (.inl 5), .inr (.inl 5)]) rfl (pr_set hn 0) ?_
  refine g_ald C (k := 0) (j := 0) (a := (n + 0)) rfl rfl (by decide +kernel) ?_
  refine g_ico C (n := 5) (v := 5) (by decide) (by decide +kernel) ?_
  refine g_newa C wArr (N := 5) (by decide) (by decide) (by decide) (Nat.le_of_ble_eq_true rfl) (Nat.le_of_ble_eq_true rfl) (by decide +kernel) ?_
  refine g_cast (st' := [.ref (n + 5), .ref (n + 0)]) (es' := pre ++ [.inl (8, [none, none, some (some (n + 1)), some (some (n + 2)), some (some (n + 3)), some (some (n + 4)), some none]), .inr (.inl 5), .inr (.inl 5), .inr (.inl 5), .inr (.inl 5), .inr (.inl 5)]) (by rw [pr_len hn]; rfl) pr_app ?_
  refine g_putF C hin (T := TX8) (N := 7) (ty0 := tyX8) (k := 6) (ty := (.array .int)) (fs := [none, none, some (some (n + 1)), some (some (n + 2)), some (some (n + 3)), some (some (n + 4)), some none]) x_iw8 tyX8_ok nmX8 rfl (by decide) wg_RX8_24 rfl rfl rfl (fun _ => rfl) (fun _ => rfl) (Nat.le_of_ble_eq_true rfl) (pr_get hn 0) (by decide +kernel) ?_
  refine g_cast (st' := []) (es' := pre ++ [.inl (8, [none, none, some (some (n + 1)), some (some (n + 2)), some (some (n + 3)), some (some (n + 4)), some (some (n + 5))]), .inr (.inl 5), .inr (.inl 5), .inr (.inl 5), .inr (.inl 5), .inr (.inl 5)]) rfl (pr_set hn 0) ?_
  exact g_ret C hr hlk (Nat.le_of_ble_eq_true rfl) (Nat.le_of_ble_eq_true rfl) (by decide +kernel)
set_option maxHeartbeats 4000000 in
set_option maxRecDepth 100000 in
theorem k_X7_init (l : Launch) (D : va_G) (cI cS : ClassId) (b : Nat) (pre : List gE) (n : Nat) (hn : pre.length = n) : gMt l D cI cS b yX7_init cX7_init 1 ({ frames := 1, cells := 4, slots := 48, locals := 12 }) [.ref n] (pre ++ [.inl (7, [none, some none, some none, some none, some none])]) (pre ++ gSess n) 4 48 := by
  refine g_met (by decide) rfl (Nat.le_of_ble_eq_true rfl) ?_
  intro p e s m below meth c C hin hr hlk
  show gG p l e _ s m _ below meth c D cI cS b 1 _ 0 [.ref (n + 0)] [] _ 0 0
  refine g_ald C (k := 0) (j := 0) (a := (n + 0)) rfl rfl (by decide +kernel) ?_
  refine g_obj C (idx := 3) wo_RX7_3 wOi wOc (by decide +kernel) ⟨Nat.le_of_ble_eq_true rfl, Nat.le_of_ble_eq_true rfl⟩ ?_
  refine g_ald C (k := 0) (j := 0) (a := (n + 0)) rfl rfl (by decide +kernel) ?_
  refine g_bip C (n := 12) (v := 12) (by decide) (by decide +kernel) ?_
  refine g_newa C wArr (N := 12) (by decide) (by decide) (by decide) (Nat.le_of_ble_eq_true rfl) (Nat.le_of_ble_eq_true rfl) (by decide +kernel) ?_
  refine g_cast (st' := [.ref (n + 1), .ref (n + 0)]) (es' := pre ++ [.inl (7, [none, some none, some none, some none, some none]), .inr (.inl 12)]) (by rw [pr_len hn]; rfl) pr_app ?_
  refine g_putF C hin (T := TX7) (N := 5) (ty0 := tyX7) (k := 1) (ty := (.array .int)) (fs := [none, some none, some none, some none, some none]) x_iw7 tyX7_ok nmX7 rfl (by decide) wg_RX7_9 rfl rfl rfl (fun _ => rfl) (fun _ => rfl) (Nat.le_of_ble_eq_true rfl) (pr_get hn 0) (by decide +kernel) ?_
  refine g_cast (st' := []) (es' := pre ++ [.inl (7, [none, some (some (n + 1)), some none, some none, some none]), .inr (.inl 12)]) rfl (pr_set hn 0) ?_
  refine g_ald C (k := 0) (j := 0) (a := (n + 0)) rfl rfl (by decide +kernel) ?_
  refine g_bip C (n := 12) (v := 12) (by decide) (by decide +kernel) ?_
  refine g_newa C wArr (N := 12) (by decide) (by decide) (by decide) (Nat.le_of_ble_eq_true rfl) (Nat.le_of_ble_eq_true rfl) (by decide +kernel) ?_
  refine g_cast (st' := [.ref (n + 2), .ref (n + 0)]) (es' := pre ++ [.inl (7, [none, some (some (n + 1)), some none, some none, some none]), .inr (.inl 12), .inr (.inl 12)]) (by rw [pr_len hn]; rfl) pr_app ?_
  refine g_putF C hin (T := TX7) (N := 5) (ty0 := tyX7) (k := 2) (ty := (.array .int)) (fs := [none, some (some (n + 1)), some none, some none, some none]) x_iw7 tyX7_ok nmX7 rfl (by decide) wg_RX7_15 rfl rfl rfl (fun _ => rfl) (fun _ => rfl) (Nat.le_of_ble_eq_true rfl) (pr_get hn 0) (by decide +kernel) ?_
  refine g_cast (st' := []) (es' := pre ++ [.inl (7, [none, some (some (n + 1)), some (some (n + 2)), some none, some none]), .inr (.inl 12), .inr (.inl 12)]) rfl (pr_set hn 0) ?_
  refine g_ald C (k := 0) (j := 0) (a := (n + 0)) rfl rfl (by decide +kernel) ?_
  refine g_bip C (n := 12) (v := 12) (by decide) (by decide +kernel) ?_
  refine g_newa C wArr (N := 12) (by decide) (by decide) (by decide) (Nat.le_of_ble_eq_true rfl) (Nat.le_of_ble_eq_true rfl) (by decide +kernel) ?_
  refine g_cast (st' := [.ref (n + 3), .ref (n + 0)]) (es' := pre ++ [.inl (7, [none, some (some (n + 1)), some (some (n + 2)), some none, some none]), .inr (.inl 12), .inr (.inl 12), .inr (.inl 12)]) (by rw [pr_len hn]; rfl) pr_app ?_
  refine g_putF C hin (T := TX7) (N := 5) (ty0 := tyX7) (k := 3) (ty := (.array .int)) (fs := [none, some (some (n + 1)), some (some (n + 2)), some none, some none]) x_iw7 tyX7_ok nmX7 rfl (by decide) wg_RX7_18 rfl rfl rfl (fun _ => rfl) (fun _ => rfl) (Nat.le_of_ble_eq_true rfl) (pr_get hn 0) (by decide +kernel) ?_
  refine g_cast (st' := []) (es' := pre ++ [.inl (7, [none, some (some (n + 1)), some (some (n + 2)), some (some (n + 3)), some none]), .inr (.inl 12), .inr (.inl 12), .inr (.inl 12)]) rfl (pr_set hn 0) ?_
  refine g_ald C (k := 0) (j := 0) (a := (n + 0)) rfl rfl (by decide +kernel) ?_
  refine g_bip C (n := 12) (v := 12) (by decide) (by decide +kernel) ?_
  refine g_newa C wArr (N := 12) (by decide) (by decide) (by decide) (Nat.le_of_ble_eq_true rfl) (Nat.le_of_ble_eq_true rfl) (by decide +kernel) ?_
  refine g_cast (st' := [.ref (n + 4), .ref (n + 0)]) (es' := pre ++ [.inl (7, [none, some (some (n + 1)), some (some (n + 2)), some (some (n + 3)), some none]), .inr (.inl 12), .inr (.inl 12), .inr (.inl 12), .inr (.inl 12)]) (by rw [pr_len hn]; rfl) pr_app ?_
  refine g_putF C hin (T := TX7) (N := 5) (ty0 := tyX7) (k := 4) (ty := (.array .int)) (fs := [none, some (some (n + 1)), some (some (n + 2)), some (some (n + 3)), some none]) x_iw7 tyX7_ok nmX7 rfl (by decide) wg_RX7_21 rfl rfl rfl (fun _ => rfl) (fun _ => rfl) (Nat.le_of_ble_eq_true rfl) (pr_get hn 0) (by decide +kernel) ?_
  refine g_cast (st' := []) (es' := pre ++ [.inl (7, [none, some (some (n + 1)), some (some (n + 2)), some (some (n + 3)), some (some (n + 4))]), .inr (.inl 12), .inr (.inl 12), .inr (.inl 12), .inr (.inl 12)]) rfl (pr_set hn 0) ?_
  exact g_ret C hr hlk (Nat.le_of_ble_eq_true rfl) (Nat.le_of_ble_eq_true rfl) (by decide +kernel)
set_option maxHeartbeats 4000000 in
set_option maxRecDepth 100000 in
theorem k_X9_init (l : Launch) (D : va_G) (cI cS : ClassId) (b : Nat) (pre : List gE) (n : Nat) (hn : pre.length = n) : gMt l D cI cS b yX9_init cX9_init 1 ({ frames := 2, cells := 17, slots := 243, locals := 32 }) [.ref n] (pre ++ [.inl (9, [some none, some none, some none, none, none, none, none])]) (pre ++ gState n) 17 243 := by
  refine g_met (by decide) rfl (Nat.le_of_ble_eq_true rfl) ?_
  intro p e s m below meth c C hin hr hlk
  show gG p l e _ s m _ below meth c D cI cS b 1 _ 0 [.ref (n + 0)] [] _ 0 0
  refine g_ald C (k := 0) (j := 0) (a := (n + 0)) rfl rfl (by decide +kernel) ?_
  refine g_obj C (idx := 1) wo_RX9_1 wOi wOc (by decide +kernel) ⟨Nat.le_of_ble_eq_true rfl, Nat.le_of_ble_eq_true rfl⟩ ?_
  refine g_ald C (k := 0) (j := 0) (a := (n + 0)) rfl rfl (by decide +kernel) ?_
  refine g_new C (T := TX1) (N := 6) (ci := 1) (fs := [none, some none, some none, some none, some none, some none]) wcl_RX9_7 win_1 wini_1 x_iw1 tyX1 tyX1_ok rfl (by decide) (by decide) (Nat.le_of_ble_eq_true rfl) (Nat.le_of_ble_eq_true rfl) (by decide +kernel) ?_
  refine g_cast (st' := [.ref (n + 1), .ref (n + 0)]) (es' := pre ++ [.inl (9, [some none, some none, some none, none, none, none, none]), .inl (1, [none, some none, some none, some none, some none, some none])]) (by rw [pr_len hn]; rfl) pr_app ?_
  refine g_dup C (by decide +kernel) ?_
  refine g_cast (st' := [.ref (n + 1), .ref (n + 1), .ref (n + 0)]) (es' := (pre ++ [.inl (9, [some none, some none, some none, none, none, none, none])]) ++ [.inl (1, [none, some none, some none, some none, some none, some none])]) rfl (pr_app (t := [.inl (9, [some none, some none, some none, none, none, none, none])]) (u := [.inl (1, [none, some none, some none, some none, some none, some none])])).symm ?_
  refine g_callN C (index := 9) (n := 0) (mc := 5) (ms := 152) (As := []) (rest := [.ref (n + 1), .ref (n + 0)]) (es' := (pre ++ [.inl (9, [some none, some none, some none, none, none, none, none])]) ++ gAreas (n + 1)) (by decide +kernel) wki_X1_init wini_1 wkc_X1_init rfl ⟨by decide +kernel, by decide +kernel, by decide +kernel⟩ ⟨Nat.le_of_ble_eq_true rfl, Nat.le_of_ble_eq_true rfl⟩ rfl rfl ⟨Nat.le_of_ble_eq_true rfl, Nat.le_of_ble_eq_true rfl⟩ (g_len rfl) rfl (Nat.le_of_ble_eq_true rfl) (k_X1_init l D cI cS b (pre ++ [.inl (9, [some none, some none, some none, none, none, none, none])]) (n + 1) (by rw [pr_len hn]; rfl) ) rfl (by decide +kernel) ?_
  refine g_cast (st' := [.ref (n + 1), .ref (n + 0)]) (es' := pre ++ [.inl (9, [some none, some none, some none, none, none, none, none]), .inl (1, [none, some (some (n + 2)), some (some (n + 3)), some (some (n + 4)), some (some (n + 5)), some (some (n + 6))]), .inr (.inl 8), .inr (.inl 8), .inr (.inl 8), .inr (.inl 64), .inr (.inl 64)]) rfl pr_app ?_
  refine g_putF C hin (T := TX9) (N := 7) (ty0 := tyX9) (k := 0) (ty := (.object "AnySites$Areas")) (fs := [some none, some none, some none, none, none, none, none]) x_iw9 tyX9_ok nmX9 rfl (by decide) wg_RX9_10 rfl rfl rfl (fun _ => rfl) (fun _ => rfl) (Nat.le_of_ble_eq_true rfl) (pr_get hn 0) (by decide +kernel) ?_
  refine g_cast (st' := []) (es' := pre ++ [.inl (9, [some (some (n + 1)), some none, some none, none, none, none, none]), .inl (1, [none, some (some (n + 2)), some (some (n + 3)), some (some (n + 4)), some (some (n + 5)), some (some (n + 6))]), .inr (.inl 8), .inr (.inl 8), .inr (.inl 8), .inr (.inl 64), .inr (.inl 64)]) rfl (pr_set hn 0) ?_
  refine g_ald C (k := 0) (j := 0) (a := (n + 0)) rfl rfl (by decide +kernel) ?_
  refine g_new C (T := TX8) (N := 7) (ci := 8) (fs := [none, none, some none, some none, some none, some none, some none]) wcl_RX9_16 win_8 wini_8 x_iw8 tyX8 tyX8_ok rfl (by decide) (by decide) (Nat.le_of_ble_eq_true rfl) (Nat.le_of_ble_eq_true rfl) (by decide +kernel) ?_
  refine g_cast (st' := [.ref (n + 7), .ref (n + 0)]) (es' := pre ++ [.inl (9, [some (some (n + 1)), some none, some none, none, none, none, none]), .inl (1, [none, some (some (n + 2)), some (some (n + 3)), some (some (n + 4)), some (some (n + 5)), some (some (n + 6))]), .inr (.inl 8), .inr (.inl 8), .inr (.inl 8), .inr (.inl 64), .inr (.inl 64), .inl (8, [none, none, some none, some none, some none, some none, some none])]) (by rw [pr_len hn]; rfl) pr_app ?_
  refine g_dup C (by decide +kernel) ?_
  refine g_cast (st' := [.ref (n + 7), .ref (n + 7), .ref (n + 0)]) (es' := (pre ++ [.inl (9, [some (some (n + 1)), some none, some none, none, none, none, none]), .inl (1, [none, some (some (n + 2)), some (some (n + 3)), some (some (n + 4)), some (some (n + 5)), some (some (n + 6))]), .inr (.inl 8), .inr (.inl 8), .inr (.inl 8), .inr (.inl 64), .inr (.inl 64)]) ++ [.inl (8, [none, none, some none, some none, some none, some none, some none])]) rfl (pr_app (t := [.inl (9, [some (some (n + 1)), some none, some none, none, none, none, none]), .inl (1, [none, some (some (n + 2)), some (some (n + 3)), some (some (n + 4)), some (some (n + 5)), some (some (n + 6))]), .inr (.inl 8), .inr (.inl 8), .inr (.inl 8), .inr (.inl 64), .inr (.inl 64)]) (u := [.inl (8, [none, none, some none, some none, some none, some none, some none])])).symm ?_
  refine g_callN C (index := 18) (n := 0) (mc := 5) (ms := 25) (As := []) (rest := [.ref (n + 7), .ref (n + 0)]) (es' := (pre ++ [.inl (9, [some (some (n + 1)), some none, some none, none, none, none, none]), .inl (1, [none, some (some (n + 2)), some (some (n + 3)), some (some (n + 4)), some (some (n + 5)), some (some (n + 6))]), .inr (.inl 8), .inr (.inl 8), .inr (.inl 8), .inr (.inl 64), .inr (.inl 64)]) ++ gSites (n + 7)) (by decide +kernel) wki_X8_init wini_8 wkc_X8_init rfl ⟨by decide +kernel, by decide +kernel, by decide +kernel⟩ ⟨Nat.le_of_ble_eq_true rfl, Nat.le_of_ble_eq_true rfl⟩ rfl rfl ⟨Nat.le_of_ble_eq_true rfl, Nat.le_of_ble_eq_true rfl⟩ (g_len rfl) rfl (Nat.le_of_ble_eq_true rfl) (k_X8_init l D cI cS b (pre ++ [.inl (9, [some (some (n + 1)), some none, some none, none, none, none, none]), .inl (1, [none, some (some (n + 2)), some (some (n + 3)), some (some (n + 4)), some (some (n + 5)), some (some (n + 6))]), .inr (.inl 8), .inr (.inl 8), .inr (.inl 8), .inr (.inl 64), .inr (.inl 64)]) (n + 7) (by rw [pr_len hn]; rfl) ) rfl (by decide +kernel) ?_
  refine g_cast (st' := [.ref (n + 7), .ref (n + 0)]) (es' := pre ++ [.inl (9, [some (some (n + 1)), some none, some none, none, none, none, none]), .inl (1, [none, some (some (n + 2)), some (some (n + 3)), some (some (n + 4)), some (some (n + 5)), some (some (n + 6))]), .inr (.inl 8), .inr (.inl 8), .inr (.inl 8), .inr (.inl 64), .inr (.inl 64), .inl (8, [none, none, some (some (n + 8)), some (some (n + 9)), some (some (n + 10)), some (some (n + 11)), some (some (n + 12))]), .inr (.inl 5), .inr (.inl 5), .inr (.inl 5), .inr (.inl 5), .inr (.inl 5)]) rfl pr_app ?_
  refine g_putF C hin (T := TX9) (N := 7) (ty0 := tyX9) (k := 1) (ty := (.object "AnySites$Sites")) (fs := [some (some (n + 1)), some none, some none, none, none, none, none]) x_iw9 tyX9_ok nmX9 rfl (by decide) wg_RX9_19 rfl rfl rfl (fun _ => rfl) (fun _ => rfl) (Nat.le_of_ble_eq_true rfl) (pr_get hn 0) (by decide +kernel) ?_
  refine g_cast (st' := []) (es' := pre ++ [.inl (9, [some (some (n + 1)), some (some (n + 7)), some none, none, none, none, none]), .inl (1, [none, some (some (n + 2)), some (some (n + 3)), some (some (n + 4)), some (some (n + 5)), some (some (n + 6))]), .inr (.inl 8), .inr (.inl 8), .inr (.inl 8), .inr (.inl 64), .inr (.inl 64), .inl (8, [none, none, some (some (n + 8)), some (some (n + 9)), some (some (n + 10)), some (some (n + 11)), some (some (n + 12))]), .inr (.inl 5), .inr (.inl 5), .inr (.inl 5), .inr (.inl 5), .inr (.inl 5)]) rfl (pr_set hn 0) ?_
  refine g_ald C (k := 0) (j := 0) (a := (n + 0)) rfl rfl (by decide +kernel) ?_
  refine g_new C (T := TX7) (N := 5) (ci := 7) (fs := [none, some none, some none, some none, some none]) wcl_RX9_23 win_7 wini_7 x_iw7 tyX7 tyX7_ok rfl (by decide) (by decide) (Nat.le_of_ble_eq_true rfl) (Nat.le_of_ble_eq_true rfl) (by decide +kernel) ?_
  refine g_cast (st' := [.ref (n + 13), .ref (n + 0)]) (es' := pre ++ [.inl (9, [some (some (n + 1)), some (some (n + 7)), some none, none, none, none, none]), .inl (1, [none, some (some (n + 2)), some (some (n + 3)), some (some (n + 4)), some (some (n + 5)), some (some (n + 6))]), .inr (.inl 8), .inr (.inl 8), .inr (.inl 8), .inr (.inl 64), .inr (.inl 64), .inl (8, [none, none, some (some (n + 8)), some (some (n + 9)), some (some (n + 10)), some (some (n + 11)), some (some (n + 12))]), .inr (.inl 5), .inr (.inl 5), .inr (.inl 5), .inr (.inl 5), .inr (.inl 5), .inl (7, [none, some none, some none, some none, some none])]) (by rw [pr_len hn]; rfl) pr_app ?_
  refine g_dup C (by decide +kernel) ?_
  refine g_cast (st' := [.ref (n + 13), .ref (n + 13), .ref (n + 0)]) (es' := (pre ++ [.inl (9, [some (some (n + 1)), some (some (n + 7)), some none, none, none, none, none]), .inl (1, [none, some (some (n + 2)), some (some (n + 3)), some (some (n + 4)), some (some (n + 5)), some (some (n + 6))]), .inr (.inl 8), .inr (.inl 8), .inr (.inl 8), .inr (.inl 64), .inr (.inl 64), .inl (8, [none, none, some (some (n + 8)), some (some (n + 9)), some (some (n + 10)), some (some (n + 11)), some (some (n + 12))]), .inr (.inl 5), .inr (.inl 5), .inr (.inl 5), .inr (.inl 5), .inr (.inl 5)]) ++ [.inl (7, [none, some none, some none, some none, some none])]) rfl (pr_app (t := [.inl (9, [some (some (n + 1)), some (some (n + 7)), some none, none, none, none, none]), .inl (1, [none, some (some (n + 2)), some (some (n + 3)), some (some (n + 4)), some (some (n + 5)), some (some (n + 6))]), .inr (.inl 8), .inr (.inl 8), .inr (.inl 8), .inr (.inl 64), .inr (.inl 64), .inl (8, [none, none, some (some (n + 8)), some (some (n + 9)), some (some (n + 10)), some (some (n + 11)), some (some (n + 12))]), .inr (.inl 5), .inr (.inl 5), .inr (.inl 5), .inr (.inl 5), .inr (.inl 5)]) (u := [.inl (7, [none, some none, some none, some none, some none])])).symm ?_
  refine g_callN C (index := 25) (n := 0) (mc := 4) (ms := 48) (As := []) (rest := [.ref (n + 13), .ref (n + 0)]) (es' := (pre ++ [.inl (9, [some (some (n + 1)), some (some (n + 7)), some none, none, none, none, none]), .inl (1, [none, some (some (n + 2)), some (some (n + 3)), some (some (n + 4)), some (some (n + 5)), some (some (n + 6))]), .inr (.inl 8), .inr (.inl 8), .inr (.inl 8), .inr (.inl 64), .inr (.inl 64), .inl (8, [none, none, some (some (n + 8)), some (some (n + 9)), some (some (n + 10)), some (some (n + 11)), some (some (n + 12))]), .inr (.inl 5), .inr (.inl 5), .inr (.inl 5), .inr (.inl 5), .inr (.inl 5)]) ++ gSess (n + 13)) (by decide +kernel) wki_X7_init wini_7 wkc_X7_init rfl ⟨by decide +kernel, by decide +kernel, by decide +kernel⟩ ⟨Nat.le_of_ble_eq_true rfl, Nat.le_of_ble_eq_true rfl⟩ rfl rfl ⟨Nat.le_of_ble_eq_true rfl, Nat.le_of_ble_eq_true rfl⟩ (g_len rfl) rfl (Nat.le_of_ble_eq_true rfl) (k_X7_init l D cI cS b (pre ++ [.inl (9, [some (some (n + 1)), some (some (n + 7)), some none, none, none, none, none]), .inl (1, [none, some (some (n + 2)), some (some (n + 3)), some (some (n + 4)), some (some (n + 5)), some (some (n + 6))]), .inr (.inl 8), .inr (.inl 8), .inr (.inl 8), .inr (.inl 64), .inr (.inl 64), .inl (8, [none, none, some (some (n + 8)), some (some (n + 9)), some (some (n + 10)), some (some (n + 11)), some (some (n + 12))]), .inr (.inl 5), .inr (.inl 5), .inr (.inl 5), .inr (.inl 5), .inr (.inl 5)]) (n + 13) (by rw [pr_len hn]; rfl) ) rfl (by decide +kernel) ?_
  refine g_cast (st' := [.ref (n + 13), .ref (n + 0)]) (es' := pre ++ [.inl (9, [some (some (n + 1)), some (some (n + 7)), some none, none, none, none, none]), .inl (1, [none, some (some (n + 2)), some (some (n + 3)), some (some (n + 4)), some (some (n + 5)), some (some (n + 6))]), .inr (.inl 8), .inr (.inl 8), .inr (.inl 8), .inr (.inl 64), .inr (.inl 64), .inl (8, [none, none, some (some (n + 8)), some (some (n + 9)), some (some (n + 10)), some (some (n + 11)), some (some (n + 12))]), .inr (.inl 5), .inr (.inl 5), .inr (.inl 5), .inr (.inl 5), .inr (.inl 5), .inl (7, [none, some (some (n + 14)), some (some (n + 15)), some (some (n + 16)), some (some (n + 17))]), .inr (.inl 12), .inr (.inl 12), .inr (.inl 12), .inr (.inl 12)]) rfl pr_app ?_
  refine g_putF C hin (T := TX9) (N := 7) (ty0 := tyX9) (k := 2) (ty := (.object "AnySites$Sessions")) (fs := [some (some (n + 1)), some (some (n + 7)), some none, none, none, none, none]) x_iw9 tyX9_ok nmX9 rfl (by decide) wg_RX9_26 rfl rfl rfl (fun _ => rfl) (fun _ => rfl) (Nat.le_of_ble_eq_true rfl) (pr_get hn 0) (by decide +kernel) ?_
  refine g_cast (st' := []) (es' := pre ++ [.inl (9, [some (some (n + 1)), some (some (n + 7)), some (some (n + 13)), none, none, none, none]), .inl (1, [none, some (some (n + 2)), some (some (n + 3)), some (some (n + 4)), some (some (n + 5)), some (some (n + 6))]), .inr (.inl 8), .inr (.inl 8), .inr (.inl 8), .inr (.inl 64), .inr (.inl 64), .inl (8, [none, none, some (some (n + 8)), some (some (n + 9)), some (some (n + 10)), some (some (n + 11)), some (some (n + 12))]), .inr (.inl 5), .inr (.inl 5), .inr (.inl 5), .inr (.inl 5), .inr (.inl 5), .inl (7, [none, some (some (n + 14)), some (some (n + 15)), some (some (n + 16)), some (some (n + 17))]), .inr (.inl 12), .inr (.inl 12), .inr (.inl 12), .inr (.inl 12)]) rfl (pr_set hn 0) ?_
  exact g_ret C hr hlk (Nat.le_of_ble_eq_true rfl) (Nat.le_of_ble_eq_true rfl) (by decide +kernel)
def gP_X4_init (n : Nat) (q0 : Nat) : List gE := [.inl (4, [some (some (n + 1)), some (some (n + 2)), some (some q0)]), .inr (.inl 8), .inr (.inl 5)]
set_option maxHeartbeats 4000000 in
set_option maxRecDepth 100000 in
theorem k_X4_init (l : Launch) (D : va_G) (cI cS : ClassId) (b : Nat) (pre : List gE) (n : Nat) (hn : pre.length = n) (q0 : Nat) : gMt l D cI cS b yX4_init cX4_init 2 ({ frames := 1, cells := 2, slots := 13, locals := 12 }) [.ref n, .ref q0] (pre ++ [.inl (4, [some none, some none, some none])]) (pre ++ (gP_X4_init n q0)) 2 13 := by
  refine g_met (by decide) rfl (Nat.le_of_ble_eq_true rfl) ?_
  intro p e s m below meth c C hin hr hlk
  show gG p l e _ s m _ below meth c D cI cS b 2 _ 0 [.ref (n + 0), .ref q0] [] _ 0 0
  refine g_ald C (k := 0) (j := 0) (a := (n + 0)) rfl rfl (by decide +kernel) ?_
  refine g_obj C (idx := 3) wo_RX4_3 wOi wOc (by decide +kernel) ⟨Nat.le_of_ble_eq_true rfl, Nat.le_of_ble_eq_true rfl⟩ ?_
  refine g_ald C (k := 0) (j := 0) (a := (n + 0)) rfl rfl (by decide +kernel) ?_
  refine g_bip C (n := 8) (v := 8) (by decide) (by decide +kernel) ?_
  refine g_newa C wArr (N := 8) (by decide) (by decide) (by decide) (Nat.le_of_ble_eq_true rfl) (Nat.le_of_ble_eq_true rfl) (by decide +kernel) ?_
  refine g_cast (st' := [.ref (n + 1), .ref (n + 0)]) (es' := pre ++ [.inl (4, [some none, some none, some none]), .inr (.inl 8)]) (by rw [pr_len hn]; rfl) pr_app ?_
  refine g_putF C hin (T := TX4) (N := 3) (ty0 := tyX4) (k := 0) (ty := (.array .int)) (fs := [some none, some none, some none]) x_iw4 tyX4_ok nmX4 rfl (by decide) wg_RX4_9 rfl rfl rfl (fun _ => rfl) (fun _ => rfl) (Nat.le_of_ble_eq_true rfl) (pr_get hn 0) (by decide +kernel) ?_
  refine g_cast (st' := []) (es' := pre ++ [.inl (4, [some (some (n + 1)), some none, some none]), .inr (.inl 8)]) rfl (pr_set hn 0) ?_
  refine g_ald C (k := 0) (j := 0) (a := (n + 0)) rfl rfl (by decide +kernel) ?_
  refine g_ico C (n := 5) (v := 5) (by decide) (by decide +kernel) ?_
  refine g_newa C wArr (N := 5) (by decide) (by decide) (by decide) (Nat.le_of_ble_eq_true rfl) (Nat.le_of_ble_eq_true rfl) (by decide +kernel) ?_
  refine g_cast (st' := [.ref (n + 2), .ref (n + 0)]) (es' := pre ++ [.inl (4, [some (some (n + 1)), some none, some none]), .inr (.inl 8), .inr (.inl 5)]) (by rw [pr_len hn]; rfl) pr_app ?_
  refine g_putF C hin (T := TX4) (N := 3) (ty0 := tyX4) (k := 1) (ty := (.array .int)) (fs := [some (some (n + 1)), some none, some none]) x_iw4 tyX4_ok nmX4 rfl (by decide) wg_RX4_15 rfl rfl rfl (fun _ => rfl) (fun _ => rfl) (Nat.le_of_ble_eq_true rfl) (pr_get hn 0) (by decide +kernel) ?_
  refine g_cast (st' := []) (es' := pre ++ [.inl (4, [some (some (n + 1)), some (some (n + 2)), some none]), .inr (.inl 8), .inr (.inl 5)]) rfl (pr_set hn 0) ?_
  refine g_ald C (k := 0) (j := 0) (a := (n + 0)) rfl rfl (by decide +kernel) ?_
  refine g_ald C (k := 1) (j := 1) (a := q0) rfl rfl (by decide +kernel) ?_
  refine g_putF C hin (T := TX4) (N := 3) (ty0 := tyX4) (k := 2) (ty := (.object "AnySites$State")) (fs := [some (some (n + 1)), some (some (n + 2)), some none]) x_iw4 tyX4_ok nmX4 rfl (by decide) wg_RX4_18 rfl rfl rfl (fun _ => rfl) (fun _ => rfl) (Nat.le_of_ble_eq_true rfl) (pr_get hn 0) (by decide +kernel) ?_
  refine g_cast (st' := []) (es' := pre ++ [.inl (4, [some (some (n + 1)), some (some (n + 2)), some (some q0)]), .inr (.inl 8), .inr (.inl 5)]) rfl (pr_set hn 0) ?_
  exact g_ret C hr hlk (Nat.le_of_ble_eq_true rfl) (Nat.le_of_ble_eq_true rfl) (by decide +kernel)
def gP_X5_init (n : Nat) (q0 : Nat) (q1 : Nat) : List gE := [.inl (5, [some (some q0), some (some q1), some (some (n + 1)), none, none]), .inr (.inl 5)]
set_option maxHeartbeats 4000000 in
set_option maxRecDepth 100000 in
theorem k_X5_init (l : Launch) (D : va_G) (cI cS : ClassId) (b : Nat) (pre : List gE) (n : Nat) (hn : pre.length = n) (q0 : Nat) (q1 : Nat) : gMt l D cI cS b yX5_init cX5_init 3 ({ frames := 1, cells := 1, slots := 5, locals := 12 }) [.ref n, .ref q0, .ref q1] (pre ++ [.inl (5, [some none, some none, some none, none, none])]) (pre ++ (gP_X5_init n q0 q1)) 1 5 := by
  refine g_met (by decide) rfl (Nat.le_of_ble_eq_true rfl) ?_
  intro p e s m below meth c C hin hr hlk
  show gG p l e _ s m _ below meth c D cI cS b 3 _ 0 [.ref (n + 0), .ref q0, .ref q1] [] _ 0 0
  refine g_ald C (k := 0) (j := 0) (a := (n + 0)) rfl rfl (by decide +kernel) ?_
  refine g_obj C (idx := 3) wo_RX5_3 wOi wOc (by decide +kernel) ⟨Nat.le_of_ble_eq_true rfl, Nat.le_of_ble_eq_true rfl⟩ ?_
  refine g_ald C (k := 0) (j := 0) (a := (n + 0)) rfl rfl (by decide +kernel) ?_
  refine g_ico C (n := 5) (v := 5) (by decide) (by decide +kernel) ?_
  refine g_newa C wArr (N := 5) (by decide) (by decide) (by decide) (Nat.le_of_ble_eq_true rfl) (Nat.le_of_ble_eq_true rfl) (by decide +kernel) ?_
  refine g_cast (st' := [.ref (n + 1), .ref (n + 0)]) (es' := pre ++ [.inl (5, [some none, some none, some none, none, none]), .inr (.inl 5)]) (by rw [pr_len hn]; rfl) pr_app ?_
  refine g_putF C hin (T := TX5) (N := 5) (ty0 := tyX5) (k := 2) (ty := (.array .int)) (fs := [some none, some none, some none, none, none]) x_iw5 tyX5_ok nmX5 rfl (by decide) wg_RX5_9 rfl rfl rfl (fun _ => rfl) (fun _ => rfl) (Nat.le_of_ble_eq_true rfl) (pr_get hn 0) (by decide +kernel) ?_
  refine g_cast (st' := []) (es' := pre ++ [.inl (5, [some none, some none, some (some (n + 1)), none, none]), .inr (.inl 5)]) rfl (pr_set hn 0) ?_
  refine g_ald C (k := 0) (j := 0) (a := (n + 0)) rfl rfl (by decide +kernel) ?_
  refine g_ald C (k := 1) (j := 1) (a := q0) rfl rfl (by decide +kernel) ?_
  refine g_putF C hin (T := TX5) (N := 5) (ty0 := tyX5) (k := 0) (ty := (.object "AnySites$State")) (fs := [some none, some none, some (some (n + 1)), none, none]) x_iw5 tyX5_ok nmX5 rfl (by decide) wg_RX5_15 rfl rfl rfl (fun _ => rfl) (fun _ => rfl) (Nat.le_of_ble_eq_true rfl) (pr_get hn 0) (by decide +kernel) ?_
  refine g_cast (st' := []) (es' := pre ++ [.inl (5, [some (some q0), some none, some (some (n + 1)), none, none]), .inr (.inl 5)]) rfl (pr_set hn 0) ?_
  refine g_ald C (k := 0) (j := 0) (a := (n + 0)) rfl rfl (by decide +kernel) ?_
  refine g_ald C (k := 2) (j := 2) (a := q1) rfl rfl (by decide +kernel) ?_
  refine g_putF C hin (T := TX5) (N := 5) (ty0 := tyX5) (k := 1) (ty := (.object "AnySites$Outlook")) (fs := [some (some q0), some none, some (some (n + 1)), none, none]) x_iw5 tyX5_ok nmX5 rfl (by decide) wg_RX5_19 rfl rfl rfl (fun _ => rfl) (fun _ => rfl) (Nat.le_of_ble_eq_true rfl) (pr_get hn 0) (by decide +kernel) ?_
  refine g_cast (st' := []) (es' := pre ++ [.inl (5, [some (some q0), some (some q1), some (some (n + 1)), none, none]), .inr (.inl 5)]) rfl (pr_set hn 0) ?_
  exact g_ret C hr hlk (Nat.le_of_ble_eq_true rfl) (Nat.le_of_ble_eq_true rfl) (by decide +kernel)
def gP_X2_init (n : Nat) (q0 : Nat) (q1 : Nat) : List gE := [.inl (2, [some (some q0), some (some q1), some (some (n + 1))]), .inr (.inl 5)]
set_option maxHeartbeats 4000000 in
set_option maxRecDepth 100000 in
theorem k_X2_init (l : Launch) (D : va_G) (cI cS : ClassId) (b : Nat) (pre : List gE) (n : Nat) (hn : pre.length = n) (q0 : Nat) (q1 : Nat) : gMt l D cI cS b yX2_init cX2_init 3 ({ frames := 1, cells := 1, slots := 5, locals := 12 }) [.ref n, .ref q0, .ref q1] (pre ++ [.inl (2, [some none, some none, some none])]) (pre ++ (gP_X2_init n q0 q1)) 1 5 := by
  refine g_met (by decide) rfl (Nat.le_of_ble_eq_true rfl) ?_
  intro p e s m below meth c C hin hr hlk
  show gG p l e _ s m _ below meth c D cI cS b 3 _ 0 [.ref (n + 0), .ref q0, .ref q1] [] _ 0 0
  refine g_ald C (k := 0) (j := 0) (a := (n + 0)) rfl rfl (by decide +kernel) ?_
  refine g_obj C (idx := 3) wo_RX2_3 wOi wOc (by decide +kernel) ⟨Nat.le_of_ble_eq_true rfl, Nat.le_of_ble_eq_true rfl⟩ ?_
  refine g_ald C (k := 0) (j := 0) (a := (n + 0)) rfl rfl (by decide +kernel) ?_
  refine g_ico C (n := 5) (v := 5) (by decide) (by decide +kernel) ?_
  refine g_newa C wArr (N := 5) (by decide) (by decide) (by decide) (Nat.le_of_ble_eq_true rfl) (Nat.le_of_ble_eq_true rfl) (by decide +kernel) ?_
  refine g_cast (st' := [.ref (n + 1), .ref (n + 0)]) (es' := pre ++ [.inl (2, [some none, some none, some none]), .inr (.inl 5)]) (by rw [pr_len hn]; rfl) pr_app ?_
  refine g_putF C hin (T := TX2) (N := 3) (ty0 := tyX2) (k := 2) (ty := (.array .int)) (fs := [some none, some none, some none]) x_iw2 tyX2_ok nmX2 rfl (by decide) wg_RX2_9 rfl rfl rfl (fun _ => rfl) (fun _ => rfl) (Nat.le_of_ble_eq_true rfl) (pr_get hn 0) (by decide +kernel) ?_
  refine g_cast (st' := []) (es' := pre ++ [.inl (2, [some none, some none, some (some (n + 1))]), .inr (.inl 5)]) rfl (pr_set hn 0) ?_
  refine g_ald C (k := 0) (j := 0) (a := (n + 0)) rfl rfl (by decide +kernel) ?_
  refine g_ald C (k := 1) (j := 1) (a := q0) rfl rfl (by decide +kernel) ?_
  refine g_putF C hin (T := TX2) (N := 3) (ty0 := tyX2) (k := 0) (ty := (.object "AnySites$State")) (fs := [some none, some none, some (some (n + 1))]) x_iw2 tyX2_ok nmX2 rfl (by decide) wg_RX2_15 rfl rfl rfl (fun _ => rfl) (fun _ => rfl) (Nat.le_of_ble_eq_true rfl) (pr_get hn 0) (by decide +kernel) ?_
  refine g_cast (st' := []) (es' := pre ++ [.inl (2, [some (some q0), some none, some (some (n + 1))]), .inr (.inl 5)]) rfl (pr_set hn 0) ?_
  refine g_ald C (k := 0) (j := 0) (a := (n + 0)) rfl rfl (by decide +kernel) ?_
  refine g_ald C (k := 2) (j := 2) (a := q1) rfl rfl (by decide +kernel) ?_
  refine g_putF C hin (T := TX2) (N := 3) (ty0 := tyX2) (k := 1) (ty := (.object "AnySites$Outlook")) (fs := [some (some q0), some none, some (some (n + 1))]) x_iw2 tyX2_ok nmX2 rfl (by decide) wg_RX2_19 rfl rfl rfl (fun _ => rfl) (fun _ => rfl) (Nat.le_of_ble_eq_true rfl) (pr_get hn 0) (by decide +kernel) ?_
  refine g_cast (st' := []) (es' := pre ++ [.inl (2, [some (some q0), some (some q1), some (some (n + 1))]), .inr (.inl 5)]) rfl (pr_set hn 0) ?_
  exact g_ret C hr hlk (Nat.le_of_ble_eq_true rfl) (Nat.le_of_ble_eq_true rfl) (by decide +kernel)
def gP_X0_init (n : Nat) (q0 : Nat) (q1 : Nat) (q2 : Nat) : List gE := [.inl (0, [some (some q0), some (some q1), some (some q2)])]
set_option maxHeartbeats 4000000 in
set_option maxRecDepth 100000 in
theorem k_X0_init (l : Launch) (D : va_G) (cI cS : ClassId) (b : Nat) (pre : List gE) (n : Nat) (hn : pre.length = n) (q0 : Nat) (q1 : Nat) (q2 : Nat) : gMt l D cI cS b yX0_init cX0_init 4 ({ frames := 1, cells := 0, slots := 0, locals := 12 }) [.ref n, .ref q0, .ref q1, .ref q2] (pre ++ [.inl (0, [some none, some none, some none])]) (pre ++ (gP_X0_init n q0 q1 q2)) 0 0 := by
  refine g_met (by decide) rfl (Nat.le_of_ble_eq_true rfl) ?_
  intro p e s m below meth c C hin hr hlk
  show gG p l e _ s m _ below meth c D cI cS b 4 _ 0 [.ref (n + 0), .ref q0, .ref q1, .ref q2] [] _ 0 0
  refine g_ald C (k := 0) (j := 0) (a := (n + 0)) rfl rfl (by decide +kernel) ?_
  refine g_obj C (idx := 3) wo_RX0_3 wOi wOc (by decide +kernel) ⟨Nat.le_of_ble_eq_true rfl, Nat.le_of_ble_eq_true rfl⟩ ?_
  refine g_ald C (k := 0) (j := 0) (a := (n + 0)) rfl rfl (by decide +kernel) ?_
  refine g_ald C (k := 1) (j := 1) (a := q0) rfl rfl (by decide +kernel) ?_
  refine g_putF C hin (T := TX0) (N := 3) (ty0 := tyX0) (k := 0) (ty := (.object "AnySites$State")) (fs := [some none, some none, some none]) x_iw0 tyX0_ok nmX0 rfl (by decide) wg_RX0_9 rfl rfl rfl (fun _ => rfl) (fun _ => rfl) (Nat.le_of_ble_eq_true rfl) (pr_get hn 0) (by decide +kernel) ?_
  refine g_cast (st' := []) (es' := pre ++ [.inl (0, [some (some q0), some none, some none])]) rfl (pr_set hn 0) ?_
  refine g_ald C (k := 0) (j := 0) (a := (n + 0)) rfl rfl (by decide +kernel) ?_
  refine g_ald C (k := 2) (j := 2) (a := q1) rfl rfl (by decide +kernel) ?_
  refine g_putF C hin (T := TX0) (N := 3) (ty0 := tyX0) (k := 1) (ty := (.object "AnySites$Outlook")) (fs := [some (some q0), some none, some none]) x_iw0 tyX0_ok nmX0 rfl (by decide) wg_RX0_15 rfl rfl rfl (fun _ => rfl) (fun _ => rfl) (Nat.le_of_ble_eq_true rfl) (pr_get hn 0) (by decide +kernel) ?_
  refine g_cast (st' := []) (es' := pre ++ [.inl (0, [some (some q0), some (some q1), some none])]) rfl (pr_set hn 0) ?_
  refine g_ald C (k := 0) (j := 0) (a := (n + 0)) rfl rfl (by decide +kernel) ?_
  refine g_ald C (k := 3) (j := 3) (a := q2) rfl rfl (by decide +kernel) ?_
  refine g_putF C hin (T := TX0) (N := 3) (ty0 := tyX0) (k := 2) (ty := (.object "AnySites$Planner")) (fs := [some (some q0), some (some q1), some none]) x_iw0 tyX0_ok nmX0 rfl (by decide) wg_RX0_19 rfl rfl rfl (fun _ => rfl) (fun _ => rfl) (Nat.le_of_ble_eq_true rfl) (pr_get hn 0) (by decide +kernel) ?_
  refine g_cast (st' := []) (es' := pre ++ [.inl (0, [some (some q0), some (some q1), some (some q2)])]) rfl (pr_set hn 0) ?_
  exact g_ret C hr hlk (Nat.le_of_ble_eq_true rfl) (Nat.le_of_ble_eq_true rfl) (by decide +kernel)
def gP_X6_init (n : Nat) : List gE := [.inl (6, [none, none, none, none, some (some (n + 1)), some (some (n + 2)), some (some (n + 3))]), .inr (.inl 120), .inr (.inl 120), .inr (.inl 360)]
set_option maxHeartbeats 4000000 in
set_option maxRecDepth 100000 in
theorem k_X6_init (l : Launch) (D : va_G) (cI cS : ClassId) (b : Nat) (pre : List gE) (n : Nat) (hn : pre.length = n) : gMt l D cI cS b yX6_init cX6_init 1 ({ frames := 1, cells := 3, slots := 600, locals := 12 }) [.ref n] (pre ++ [.inl (6, [none, none, none, none, some none, some none, some none])]) (pre ++ (gP_X6_init n)) 3 600 := by
  refine g_met (by decide) rfl (Nat.le_of_ble_eq_true rfl) ?_
  intro p e s m below meth c C hin hr hlk
  show gG p l e _ s m _ below meth c D cI cS b 1 _ 0 [.ref (n + 0)] [] _ 0 0
  refine g_ald C (k := 0) (j := 0) (a := (n + 0)) rfl rfl (by decide +kernel) ?_
  refine g_obj C (idx := 3) wo_RX6_3 wOi wOc (by decide +kernel) ⟨Nat.le_of_ble_eq_true rfl, Nat.le_of_ble_eq_true rfl⟩ ?_
  refine g_ald C (k := 0) (j := 0) (a := (n + 0)) rfl rfl (by decide +kernel) ?_
  refine g_bip C (n := 120) (v := 120) (by decide) (by decide +kernel) ?_
  refine g_newa C wArr (N := 120) (by decide) (by decide) (by decide) (Nat.le_of_ble_eq_true rfl) (Nat.le_of_ble_eq_true rfl) (by decide +kernel) ?_
  refine g_cast (st' := [.ref (n + 1), .ref (n + 0)]) (es' := pre ++ [.inl (6, [none, none, none, none, some none, some none, some none]), .inr (.inl 120)]) (by rw [pr_len hn]; rfl) pr_app ?_
  refine g_putF C hin (T := TX6) (N := 7) (ty0 := tyX6) (k := 4) (ty := (.array .int)) (fs := [none, none, none, none, some none, some none, some none]) x_iw6 tyX6_ok nmX6 rfl (by decide) wg_RX6_9 rfl rfl rfl (fun _ => rfl) (fun _ => rfl) (Nat.le_of_ble_eq_true rfl) (pr_get hn 0) (by decide +kernel) ?_
  refine g_cast (st' := []) (es' := pre ++ [.inl (6, [none, none, none, none, some (some (n + 1)), some none, some none]), .inr (.inl 120)]) rfl (pr_set hn 0) ?_
  refine g_ald C (k := 0) (j := 0) (a := (n + 0)) rfl rfl (by decide +kernel) ?_
  refine g_bip C (n := 120) (v := 120) (by decide) (by decide +kernel) ?_
  refine g_newa C wArr (N := 120) (by decide) (by decide) (by decide) (Nat.le_of_ble_eq_true rfl) (Nat.le_of_ble_eq_true rfl) (by decide +kernel) ?_
  refine g_cast (st' := [.ref (n + 2), .ref (n + 0)]) (es' := pre ++ [.inl (6, [none, none, none, none, some (some (n + 1)), some none, some none]), .inr (.inl 120), .inr (.inl 120)]) (by rw [pr_len hn]; rfl) pr_app ?_
  refine g_putF C hin (T := TX6) (N := 7) (ty0 := tyX6) (k := 5) (ty := (.array .int)) (fs := [none, none, none, none, some (some (n + 1)), some none, some none]) x_iw6 tyX6_ok nmX6 rfl (by decide) wg_RX6_15 rfl rfl rfl (fun _ => rfl) (fun _ => rfl) (Nat.le_of_ble_eq_true rfl) (pr_get hn 0) (by decide +kernel) ?_
  refine g_cast (st' := []) (es' := pre ++ [.inl (6, [none, none, none, none, some (some (n + 1)), some (some (n + 2)), some none]), .inr (.inl 120), .inr (.inl 120)]) rfl (pr_set hn 0) ?_
  refine g_ald C (k := 0) (j := 0) (a := (n + 0)) rfl rfl (by decide +kernel) ?_
  refine g_sip C (n := 360) (v := 360) (by decide) (by decide +kernel) ?_
  refine g_newa C wArr (N := 360) (by decide) (by decide) (by decide) (Nat.le_of_ble_eq_true rfl) (Nat.le_of_ble_eq_true rfl) (by decide +kernel) ?_
  refine g_cast (st' := [.ref (n + 3), .ref (n + 0)]) (es' := pre ++ [.inl (6, [none, none, none, none, some (some (n + 1)), some (some (n + 2)), some none]), .inr (.inl 120), .inr (.inl 120), .inr (.inl 360)]) (by rw [pr_len hn]; rfl) pr_app ?_
  refine g_putF C hin (T := TX6) (N := 7) (ty0 := tyX6) (k := 6) (ty := (.array .int)) (fs := [none, none, none, none, some (some (n + 1)), some (some (n + 2)), some none]) x_iw6 tyX6_ok nmX6 rfl (by decide) wg_RX6_18 rfl rfl rfl (fun _ => rfl) (fun _ => rfl) (Nat.le_of_ble_eq_true rfl) (pr_get hn 0) (by decide +kernel) ?_
  refine g_cast (st' := []) (es' := pre ++ [.inl (6, [none, none, none, none, some (some (n + 1)), some (some (n + 2)), some (some (n + 3))]), .inr (.inl 120), .inr (.inl 120), .inr (.inl 360)]) rfl (pr_set hn 0) ?_
  exact g_ret C hr hlk (Nat.le_of_ble_eq_true rfl) (Nat.le_of_ble_eq_true rfl) (by decide +kernel)
def gP_X11_init (n : Nat) : List gE := [.inl (11, [some (some (n + 1)), some (some (n + 2)), some (some (n + 3)), none, some (some (n + 4)), some (some (n + 5)), some (some (n + 6)), some (some (n + 7)), some (some (n + 8)), some (some (n + 9)), some (some (n + 10)), some (some (n + 11)), some (some (n + 12)), none, none, some (some (n + 13)), none]), .inr (.inl 169), .inr (.inl 845), .inr (.inl 169), .inr (.inl 3), .inr (.inl 64), .inr (.inl 8), .inr (.inl 169), .inr (.inl 5), .inr (.inl 5), .inr (.inl 5), .inr (.inl 5), .inr (.inl 120), .inr (.inl 3)]
set_option maxHeartbeats 4000000 in
set_option maxRecDepth 100000 in
theorem k_X11_init (l : Launch) (D : va_G) (cI cS : ClassId) (b : Nat) (pre : List gE) (n : Nat) (hn : pre.length = n) : gMt l D cI cS b yX11_init cX11_init 1 ({ frames := 1, cells := 13, slots := 1570, locals := 12 }) [.ref n] (pre ++ [.inl (11, [some none, some none, some none, none, some none, some none, some none, some none, some none, some none, some none, some none, some none, none, none, some none, none])]) (pre ++ (gP_X11_init n)) 13 1570 := by
  refine g_met (by decide) rfl (Nat.le_of_ble_eq_true rfl) ?_
  intro p e s m below meth c C hin hr hlk
  show gG p l e _ s m _ below meth c D cI cS b 1 _ 0 [.ref (n + 0)] [] _ 0 0
  refine g_ald C (k := 0) (j := 0) (a := (n + 0)) rfl rfl (by decide +kernel) ?_
  refine g_obj C (idx := 1) wo_RX11_1 wOi wOc (by decide +kernel) ⟨Nat.le_of_ble_eq_true rfl, Nat.le_of_ble_eq_true rfl⟩ ?_
  refine g_ald C (k := 0) (j := 0) (a := (n + 0)) rfl rfl (by decide +kernel) ?_
  refine g_sip C (n := 169) (v := 169) (by decide) (by decide +kernel) ?_
  refine g_newa C wArr (N := 169) (by decide) (by decide) (by decide) (Nat.le_of_ble_eq_true rfl) (Nat.le_of_ble_eq_true rfl) (by decide +kernel) ?_
  refine g_cast (st' := [.ref (n + 1), .ref (n + 0)]) (es' := pre ++ [.inl (11, [some none, some none, some none, none, some none, some none, some none, some none, some none, some none, some none, some none, some none, none, none, some none, none]), .inr (.inl 169)]) (by rw [pr_len hn]; rfl) pr_app ?_
  refine g_putF C hin (T := TX11) (N := 17) (ty0 := tyX11) (k := 0) (ty := (.array .int)) (fs := [some none, some none, some none, none, some none, some none, some none, some none, some none, some none, some none, some none, some none, none, none, some none, none]) x_iw11 tyX11_ok nmX11 rfl (by decide) wg_RX11_7 rfl rfl rfl (fun _ => rfl) (fun _ => rfl) (Nat.le_of_ble_eq_true rfl) (pr_get hn 0) (by decide +kernel) ?_
  refine g_cast (st' := []) (es' := pre ++ [.inl (11, [some (some (n + 1)), some none, some none, none, some none, some none, some none, some none, some none, some none, some none, some none, some none, none, none, some none, none]), .inr (.inl 169)]) rfl (pr_set hn 0) ?_
  refine g_ald C (k := 0) (j := 0) (a := (n + 0)) rfl rfl (by decide +kernel) ?_
  refine g_sip C (n := 845) (v := 845) (by decide) (by decide +kernel) ?_
  refine g_newa C wArr (N := 845) (by decide) (by decide) (by decide) (Nat.le_of_ble_eq_true rfl) (Nat.le_of_ble_eq_true rfl) (by decide +kernel) ?_
  refine g_cast (st' := [.ref (n + 2), .ref (n + 0)]) (es' := pre ++ [.inl (11, [some (some (n + 1)), some none, some none, none, some none, some none, some none, some none, some none, some none, some none, some none, some none, none, none, some none, none]), .inr (.inl 169), .inr (.inl 845)]) (by rw [pr_len hn]; rfl) pr_app ?_
  refine g_putF C hin (T := TX11) (N := 17) (ty0 := tyX11) (k := 1) (ty := (.array .int)) (fs := [some (some (n + 1)), some none, some none, none, some none, some none, some none, some none, some none, some none, some none, some none, some none, none, none, some none, none]) x_iw11 tyX11_ok nmX11 rfl (by decide) wg_RX11_13 rfl rfl rfl (fun _ => rfl) (fun _ => rfl) (Nat.le_of_ble_eq_true rfl) (pr_get hn 0) (by decide +kernel) ?_
  refine g_cast (st' := []) (es' := pre ++ [.inl (11, [some (some (n + 1)), some (some (n + 2)), some none, none, some none, some none, some none, some none, some none, some none, some none, some none, some none, none, none, some none, none]), .inr (.inl 169), .inr (.inl 845)]) rfl (pr_set hn 0) ?_
  refine g_ald C (k := 0) (j := 0) (a := (n + 0)) rfl rfl (by decide +kernel) ?_
  refine g_sip C (n := 169) (v := 169) (by decide) (by decide +kernel) ?_
  refine g_newa C wArr (N := 169) (by decide) (by decide) (by decide) (Nat.le_of_ble_eq_true rfl) (Nat.le_of_ble_eq_true rfl) (by decide +kernel) ?_
  refine g_cast (st' := [.ref (n + 3), .ref (n + 0)]) (es' := pre ++ [.inl (11, [some (some (n + 1)), some (some (n + 2)), some none, none, some none, some none, some none, some none, some none, some none, some none, some none, some none, none, none, some none, none]), .inr (.inl 169), .inr (.inl 845), .inr (.inl 169)]) (by rw [pr_len hn]; rfl) pr_app ?_
  refine g_putF C hin (T := TX11) (N := 17) (ty0 := tyX11) (k := 2) (ty := (.array .int)) (fs := [some (some (n + 1)), some (some (n + 2)), some none, none, some none, some none, some none, some none, some none, some none, some none, some none, some none, none, none, some none, none]) x_iw11 tyX11_ok nmX11 rfl (by decide) wg_RX11_16 rfl rfl rfl (fun _ => rfl) (fun _ => rfl) (Nat.le_of_ble_eq_true rfl) (pr_get hn 0) (by decide +kernel) ?_
  refine g_cast (st' := []) (es' := pre ++ [.inl (11, [some (some (n + 1)), some (some (n + 2)), some (some (n + 3)), none, some none, some none, some none, some none, some none, some none, some none, some none, some none, none, none, some none, none]), .inr (.inl 169), .inr (.inl 845), .inr (.inl 169)]) rfl (pr_set hn 0) ?_
  refine g_ald C (k := 0) (j := 0) (a := (n + 0)) rfl rfl (by decide +kernel) ?_
  refine g_ico C (n := 3) (v := 3) (by decide) (by decide +kernel) ?_
  refine g_newa C wArr (N := 3) (by decide) (by decide) (by decide) (Nat.le_of_ble_eq_true rfl) (Nat.le_of_ble_eq_true rfl) (by decide +kernel) ?_
  refine g_cast (st' := [.ref (n + 4), .ref (n + 0)]) (es' := pre ++ [.inl (11, [some (some (n + 1)), some (some (n + 2)), some (some (n + 3)), none, some none, some none, some none, some none, some none, some none, some none, some none, some none, none, none, some none, none]), .inr (.inl 169), .inr (.inl 845), .inr (.inl 169), .inr (.inl 3)]) (by rw [pr_len hn]; rfl) pr_app ?_
  refine g_putF C hin (T := TX11) (N := 17) (ty0 := tyX11) (k := 4) (ty := (.array .int)) (fs := [some (some (n + 1)), some (some (n + 2)), some (some (n + 3)), none, some none, some none, some none, some none, some none, some none, some none, some none, some none, none, none, some none, none]) x_iw11 tyX11_ok nmX11 rfl (by decide) wg_RX11_19 rfl rfl rfl (fun _ => rfl) (fun _ => rfl) (Nat.le_of_ble_eq_true rfl) (pr_get hn 0) (by decide +kernel) ?_
  refine g_cast (st' := []) (es' := pre ++ [.inl (11, [some (some (n + 1)), some (some (n + 2)), some (some (n + 3)), none, some (some (n + 4)), some none, some none, some none, some none, some none, some none, some none, some none, none, none, some none, none]), .inr (.inl 169), .inr (.inl 845), .inr (.inl 169), .inr (.inl 3)]) rfl (pr_set hn 0) ?_
  refine g_ald C (k := 0) (j := 0) (a := (n + 0)) rfl rfl (by decide +kernel) ?_
  refine g_bip C (n := 64) (v := 64) (by decide) (by decide +kernel) ?_
  refine g_newa C wArr (N := 64) (by decide) (by decide) (by decide) (Nat.le_of_ble_eq_true rfl) (Nat.le_of_ble_eq_true rfl) (by decide +kernel) ?_
  refine g_cast (st' := [.ref (n + 5), .ref (n + 0)]) (es' := pre ++ [.inl (11, [some (some (n + 1)), some (some (n + 2)), some (some (n + 3)), none, some (some (n + 4)), some none, some none, some none, some none, some none, some none, some none, some none, none, none, some none, none]), .inr (.inl 169), .inr (.inl 845), .inr (.inl 169), .inr (.inl 3), .inr (.inl 64)]) (by rw [pr_len hn]; rfl) pr_app ?_
  refine g_putF C hin (T := TX11) (N := 17) (ty0 := tyX11) (k := 5) (ty := (.array .int)) (fs := [some (some (n + 1)), some (some (n + 2)), some (some (n + 3)), none, some (some (n + 4)), some none, some none, some none, some none, some none, some none, some none, some none, none, none, some none, none]) x_iw11 tyX11_ok nmX11 rfl (by decide) wg_RX11_22 rfl rfl rfl (fun _ => rfl) (fun _ => rfl) (Nat.le_of_ble_eq_true rfl) (pr_get hn 0) (by decide +kernel) ?_
  refine g_cast (st' := []) (es' := pre ++ [.inl (11, [some (some (n + 1)), some (some (n + 2)), some (some (n + 3)), none, some (some (n + 4)), some (some (n + 5)), some none, some none, some none, some none, some none, some none, some none, none, none, some none, none]), .inr (.inl 169), .inr (.inl 845), .inr (.inl 169), .inr (.inl 3), .inr (.inl 64)]) rfl (pr_set hn 0) ?_
  refine g_ald C (k := 0) (j := 0) (a := (n + 0)) rfl rfl (by decide +kernel) ?_
  refine g_bip C (n := 8) (v := 8) (by decide) (by decide +kernel) ?_
  refine g_newa C wArr (N := 8) (by decide) (by decide) (by decide) (Nat.le_of_ble_eq_true rfl) (Nat.le_of_ble_eq_true rfl) (by decide +kernel) ?_
  refine g_cast (st' := [.ref (n + 6), .ref (n + 0)]) (es' := pre ++ [.inl (11, [some (some (n + 1)), some (some (n + 2)), some (some (n + 3)), none, some (some (n + 4)), some (some (n + 5)), some none, some none, some none, some none, some none, some none, some none, none, none, some none, none]), .inr (.inl 169), .inr (.inl 845), .inr (.inl 169), .inr (.inl 3), .inr (.inl 64), .inr (.inl 8)]) (by rw [pr_len hn]; rfl) pr_app ?_
  refine g_putF C hin (T := TX11) (N := 17) (ty0 := tyX11) (k := 6) (ty := (.array .int)) (fs := [some (some (n + 1)), some (some (n + 2)), some (some (n + 3)), none, some (some (n + 4)), some (some (n + 5)), some none, some none, some none, some none, some none, some none, some none, none, none, some none, none]) x_iw11 tyX11_ok nmX11 rfl (by decide) wg_RX11_25 rfl rfl rfl (fun _ => rfl) (fun _ => rfl) (Nat.le_of_ble_eq_true rfl) (pr_get hn 0) (by decide +kernel) ?_
  refine g_cast (st' := []) (es' := pre ++ [.inl (11, [some (some (n + 1)), some (some (n + 2)), some (some (n + 3)), none, some (some (n + 4)), some (some (n + 5)), some (some (n + 6)), some none, some none, some none, some none, some none, some none, none, none, some none, none]), .inr (.inl 169), .inr (.inl 845), .inr (.inl 169), .inr (.inl 3), .inr (.inl 64), .inr (.inl 8)]) rfl (pr_set hn 0) ?_
  refine g_ald C (k := 0) (j := 0) (a := (n + 0)) rfl rfl (by decide +kernel) ?_
  refine g_sip C (n := 169) (v := 169) (by decide) (by decide +kernel) ?_
  refine g_newa C wArr (N := 169) (by decide) (by decide) (by decide) (Nat.le_of_ble_eq_true rfl) (Nat.le_of_ble_eq_true rfl) (by decide +kernel) ?_
  refine g_cast (st' := [.ref (n + 7), .ref (n + 0)]) (es' := pre ++ [.inl (11, [some (some (n + 1)), some (some (n + 2)), some (some (n + 3)), none, some (some (n + 4)), some (some (n + 5)), some (some (n + 6)), some none, some none, some none, some none, some none, some none, none, none, some none, none]), .inr (.inl 169), .inr (.inl 845), .inr (.inl 169), .inr (.inl 3), .inr (.inl 64), .inr (.inl 8), .inr (.inl 169)]) (by rw [pr_len hn]; rfl) pr_app ?_
  refine g_putF C hin (T := TX11) (N := 17) (ty0 := tyX11) (k := 7) (ty := (.array .int)) (fs := [some (some (n + 1)), some (some (n + 2)), some (some (n + 3)), none, some (some (n + 4)), some (some (n + 5)), some (some (n + 6)), some none, some none, some none, some none, some none, some none, none, none, some none, none]) x_iw11 tyX11_ok nmX11 rfl (by decide) wg_RX11_28 rfl rfl rfl (fun _ => rfl) (fun _ => rfl) (Nat.le_of_ble_eq_true rfl) (pr_get hn 0) (by decide +kernel) ?_
  refine g_cast (st' := []) (es' := pre ++ [.inl (11, [some (some (n + 1)), some (some (n + 2)), some (some (n + 3)), none, some (some (n + 4)), some (some (n + 5)), some (some (n + 6)), some (some (n + 7)), some none, some none, some none, some none, some none, none, none, some none, none]), .inr (.inl 169), .inr (.inl 845), .inr (.inl 169), .inr (.inl 3), .inr (.inl 64), .inr (.inl 8), .inr (.inl 169)]) rfl (pr_set hn 0) ?_
  refine g_ald C (k := 0) (j := 0) (a := (n + 0)) rfl rfl (by decide +kernel) ?_
  refine g_ico C (n := 5) (v := 5) (by decide) (by decide +kernel) ?_
  refine g_newa C wArr (N := 5) (by decide) (by decide) (by decide) (Nat.le_of_ble_eq_true rfl) (Nat.le_of_ble_eq_true rfl) (by decide +kernel) ?_
  refine g_cast (st' := [.ref (n + 8), .ref (n + 0)]) (es' := pre ++ [.inl (11, [some (some (n + 1)), some (some (n + 2)), some (some (n + 3)), none, some (some (n + 4)), some (some (n + 5)), some (some (n + 6)), some (some (n + 7)), some none, some none, some none, some none, some none, none, none, some none, none]), .inr (.inl 169), .inr (.inl 845), .inr (.inl 169), .inr (.inl 3), .inr (.inl 64), .inr (.inl 8), .inr (.inl 169), .inr (.inl 5)]) (by rw [pr_len hn]; rfl) pr_app ?_
  refine g_putF C hin (T := TX11) (N := 17) (ty0 := tyX11) (k := 8) (ty := (.array .int)) (fs := [some (some (n + 1)), some (some (n + 2)), some (some (n + 3)), none, some (some (n + 4)), some (some (n + 5)), some (some (n + 6)), some (some (n + 7)), some none, some none, some none, some none, some none, none, none, some none, none]) x_iw11 tyX11_ok nmX11 rfl (by decide) wg_RX11_31 rfl rfl rfl (fun _ => rfl) (fun _ => rfl) (Nat.le_of_ble_eq_true rfl) (pr_get hn 0) (by decide +kernel) ?_
  refine g_cast (st' := []) (es' := pre ++ [.inl (11, [some (some (n + 1)), some (some (n + 2)), some (some (n + 3)), none, some (some (n + 4)), some (some (n + 5)), some (some (n + 6)), some (some (n + 7)), some (some (n + 8)), some none, some none, some none, some none, none, none, some none, none]), .inr (.inl 169), .inr (.inl 845), .inr (.inl 169), .inr (.inl 3), .inr (.inl 64), .inr (.inl 8), .inr (.inl 169), .inr (.inl 5)]) rfl (pr_set hn 0) ?_
  refine g_ald C (k := 0) (j := 0) (a := (n + 0)) rfl rfl (by decide +kernel) ?_
  refine g_ico C (n := 5) (v := 5) (by decide) (by decide +kernel) ?_
  refine g_newa C wArr (N := 5) (by decide) (by decide) (by decide) (Nat.le_of_ble_eq_true rfl) (Nat.le_of_ble_eq_true rfl) (by decide +kernel) ?_
  refine g_cast (st' := [.ref (n + 9), .ref (n + 0)]) (es' := pre ++ [.inl (11, [some (some (n + 1)), some (some (n + 2)), some (some (n + 3)), none, some (some (n + 4)), some (some (n + 5)), some (some (n + 6)), some (some (n + 7)), some (some (n + 8)), some none, some none, some none, some none, none, none, some none, none]), .inr (.inl 169), .inr (.inl 845), .inr (.inl 169), .inr (.inl 3), .inr (.inl 64), .inr (.inl 8), .inr (.inl 169), .inr (.inl 5), .inr (.inl 5)]) (by rw [pr_len hn]; rfl) pr_app ?_
  refine g_putF C hin (T := TX11) (N := 17) (ty0 := tyX11) (k := 9) (ty := (.array .int)) (fs := [some (some (n + 1)), some (some (n + 2)), some (some (n + 3)), none, some (some (n + 4)), some (some (n + 5)), some (some (n + 6)), some (some (n + 7)), some (some (n + 8)), some none, some none, some none, some none, none, none, some none, none]) x_iw11 tyX11_ok nmX11 rfl (by decide) wg_RX11_34 rfl rfl rfl (fun _ => rfl) (fun _ => rfl) (Nat.le_of_ble_eq_true rfl) (pr_get hn 0) (by decide +kernel) ?_
  refine g_cast (st' := []) (es' := pre ++ [.inl (11, [some (some (n + 1)), some (some (n + 2)), some (some (n + 3)), none, some (some (n + 4)), some (some (n + 5)), some (some (n + 6)), some (some (n + 7)), some (some (n + 8)), some (some (n + 9)), some none, some none, some none, none, none, some none, none]), .inr (.inl 169), .inr (.inl 845), .inr (.inl 169), .inr (.inl 3), .inr (.inl 64), .inr (.inl 8), .inr (.inl 169), .inr (.inl 5), .inr (.inl 5)]) rfl (pr_set hn 0) ?_
  refine g_ald C (k := 0) (j := 0) (a := (n + 0)) rfl rfl (by decide +kernel) ?_
  refine g_ico C (n := 5) (v := 5) (by decide) (by decide +kernel) ?_
  refine g_newa C wArr (N := 5) (by decide) (by decide) (by decide) (Nat.le_of_ble_eq_true rfl) (Nat.le_of_ble_eq_true rfl) (by decide +kernel) ?_
  refine g_cast (st' := [.ref (n + 10), .ref (n + 0)]) (es' := pre ++ [.inl (11, [some (some (n + 1)), some (some (n + 2)), some (some (n + 3)), none, some (some (n + 4)), some (some (n + 5)), some (some (n + 6)), some (some (n + 7)), some (some (n + 8)), some (some (n + 9)), some none, some none, some none, none, none, some none, none]), .inr (.inl 169), .inr (.inl 845), .inr (.inl 169), .inr (.inl 3), .inr (.inl 64), .inr (.inl 8), .inr (.inl 169), .inr (.inl 5), .inr (.inl 5), .inr (.inl 5)]) (by rw [pr_len hn]; rfl) pr_app ?_
  refine g_putF C hin (T := TX11) (N := 17) (ty0 := tyX11) (k := 10) (ty := (.array .int)) (fs := [some (some (n + 1)), some (some (n + 2)), some (some (n + 3)), none, some (some (n + 4)), some (some (n + 5)), some (some (n + 6)), some (some (n + 7)), some (some (n + 8)), some (some (n + 9)), some none, some none, some none, none, none, some none, none]) x_iw11 tyX11_ok nmX11 rfl (by decide) wg_RX11_37 rfl rfl rfl (fun _ => rfl) (fun _ => rfl) (Nat.le_of_ble_eq_true rfl) (pr_get hn 0) (by decide +kernel) ?_
  refine g_cast (st' := []) (es' := pre ++ [.inl (11, [some (some (n + 1)), some (some (n + 2)), some (some (n + 3)), none, some (some (n + 4)), some (some (n + 5)), some (some (n + 6)), some (some (n + 7)), some (some (n + 8)), some (some (n + 9)), some (some (n + 10)), some none, some none, none, none, some none, none]), .inr (.inl 169), .inr (.inl 845), .inr (.inl 169), .inr (.inl 3), .inr (.inl 64), .inr (.inl 8), .inr (.inl 169), .inr (.inl 5), .inr (.inl 5), .inr (.inl 5)]) rfl (pr_set hn 0) ?_
  refine g_ald C (k := 0) (j := 0) (a := (n + 0)) rfl rfl (by decide +kernel) ?_
  refine g_ico C (n := 5) (v := 5) (by decide) (by decide +kernel) ?_
  refine g_newa C wArr (N := 5) (by decide) (by decide) (by decide) (Nat.le_of_ble_eq_true rfl) (Nat.le_of_ble_eq_true rfl) (by decide +kernel) ?_
  refine g_cast (st' := [.ref (n + 11), .ref (n + 0)]) (es' := pre ++ [.inl (11, [some (some (n + 1)), some (some (n + 2)), some (some (n + 3)), none, some (some (n + 4)), some (some (n + 5)), some (some (n + 6)), some (some (n + 7)), some (some (n + 8)), some (some (n + 9)), some (some (n + 10)), some none, some none, none, none, some none, none]), .inr (.inl 169), .inr (.inl 845), .inr (.inl 169), .inr (.inl 3), .inr (.inl 64), .inr (.inl 8), .inr (.inl 169), .inr (.inl 5), .inr (.inl 5), .inr (.inl 5), .inr (.inl 5)]) (by rw [pr_len hn]; rfl) pr_app ?_
  refine g_putF C hin (T := TX11) (N := 17) (ty0 := tyX11) (k := 11) (ty := (.array .int)) (fs := [some (some (n + 1)), some (some (n + 2)), some (some (n + 3)), none, some (some (n + 4)), some (some (n + 5)), some (some (n + 6)), some (some (n + 7)), some (some (n + 8)), some (some (n + 9)), some (some (n + 10)), some none, some none, none, none, some none, none]) x_iw11 tyX11_ok nmX11 rfl (by decide) wg_RX11_40 rfl rfl rfl (fun _ => rfl) (fun _ => rfl) (Nat.le_of_ble_eq_true rfl) (pr_get hn 0) (by decide +kernel) ?_
  refine g_cast (st' := []) (es' := pre ++ [.inl (11, [some (some (n + 1)), some (some (n + 2)), some (some (n + 3)), none, some (some (n + 4)), some (some (n + 5)), some (some (n + 6)), some (some (n + 7)), some (some (n + 8)), some (some (n + 9)), some (some (n + 10)), some (some (n + 11)), some none, none, none, some none, none]), .inr (.inl 169), .inr (.inl 845), .inr (.inl 169), .inr (.inl 3), .inr (.inl 64), .inr (.inl 8), .inr (.inl 169), .inr (.inl 5), .inr (.inl 5), .inr (.inl 5), .inr (.inl 5)]) rfl (pr_set hn 0) ?_
  refine g_ald C (k := 0) (j := 0) (a := (n + 0)) rfl rfl (by decide +kernel) ?_
  refine g_bip C (n := 120) (v := 120) (by decide) (by decide +kernel) ?_
  refine g_newa C wArr (N := 120) (by decide) (by decide) (by decide) (Nat.le_of_ble_eq_true rfl) (Nat.le_of_ble_eq_true rfl) (by decide +kernel) ?_
  refine g_cast (st' := [.ref (n + 12), .ref (n + 0)]) (es' := pre ++ [.inl (11, [some (some (n + 1)), some (some (n + 2)), some (some (n + 3)), none, some (some (n + 4)), some (some (n + 5)), some (some (n + 6)), some (some (n + 7)), some (some (n + 8)), some (some (n + 9)), some (some (n + 10)), some (some (n + 11)), some none, none, none, some none, none]), .inr (.inl 169), .inr (.inl 845), .inr (.inl 169), .inr (.inl 3), .inr (.inl 64), .inr (.inl 8), .inr (.inl 169), .inr (.inl 5), .inr (.inl 5), .inr (.inl 5), .inr (.inl 5), .inr (.inl 120)]) (by rw [pr_len hn]; rfl) pr_app ?_
  refine g_putF C hin (T := TX11) (N := 17) (ty0 := tyX11) (k := 12) (ty := (.array .int)) (fs := [some (some (n + 1)), some (some (n + 2)), some (some (n + 3)), none, some (some (n + 4)), some (some (n + 5)), some (some (n + 6)), some (some (n + 7)), some (some (n + 8)), some (some (n + 9)), some (some (n + 10)), some (some (n + 11)), some none, none, none, some none, none]) x_iw11 tyX11_ok nmX11 rfl (by decide) wg_RX11_43 rfl rfl rfl (fun _ => rfl) (fun _ => rfl) (Nat.le_of_ble_eq_true rfl) (pr_get hn 0) (by decide +kernel) ?_
  refine g_cast (st' := []) (es' := pre ++ [.inl (11, [some (some (n + 1)), some (some (n + 2)), some (some (n + 3)), none, some (some (n + 4)), some (some (n + 5)), some (some (n + 6)), some (some (n + 7)), some (some (n + 8)), some (some (n + 9)), some (some (n + 10)), some (some (n + 11)), some (some (n + 12)), none, none, some none, none]), .inr (.inl 169), .inr (.inl 845), .inr (.inl 169), .inr (.inl 3), .inr (.inl 64), .inr (.inl 8), .inr (.inl 169), .inr (.inl 5), .inr (.inl 5), .inr (.inl 5), .inr (.inl 5), .inr (.inl 120)]) rfl (pr_set hn 0) ?_
  refine g_ald C (k := 0) (j := 0) (a := (n + 0)) rfl rfl (by decide +kernel) ?_
  refine g_ico C (n := 3) (v := 3) (by decide) (by decide +kernel) ?_
  refine g_newa C wArr (N := 3) (by decide) (by decide) (by decide) (Nat.le_of_ble_eq_true rfl) (Nat.le_of_ble_eq_true rfl) (by decide +kernel) ?_
  refine g_cast (st' := [.ref (n + 13), .ref (n + 0)]) (es' := pre ++ [.inl (11, [some (some (n + 1)), some (some (n + 2)), some (some (n + 3)), none, some (some (n + 4)), some (some (n + 5)), some (some (n + 6)), some (some (n + 7)), some (some (n + 8)), some (some (n + 9)), some (some (n + 10)), some (some (n + 11)), some (some (n + 12)), none, none, some none, none]), .inr (.inl 169), .inr (.inl 845), .inr (.inl 169), .inr (.inl 3), .inr (.inl 64), .inr (.inl 8), .inr (.inl 169), .inr (.inl 5), .inr (.inl 5), .inr (.inl 5), .inr (.inl 5), .inr (.inl 120), .inr (.inl 3)]) (by rw [pr_len hn]; rfl) pr_app ?_
  refine g_putF C hin (T := TX11) (N := 17) (ty0 := tyX11) (k := 15) (ty := (.array .int)) (fs := [some (some (n + 1)), some (some (n + 2)), some (some (n + 3)), none, some (some (n + 4)), some (some (n + 5)), some (some (n + 6)), some (some (n + 7)), some (some (n + 8)), some (some (n + 9)), some (some (n + 10)), some (some (n + 11)), some (some (n + 12)), none, none, some none, none]) x_iw11 tyX11_ok nmX11 rfl (by decide) wg_RX11_46 rfl rfl rfl (fun _ => rfl) (fun _ => rfl) (Nat.le_of_ble_eq_true rfl) (pr_get hn 0) (by decide +kernel) ?_
  refine g_cast (st' := []) (es' := pre ++ [.inl (11, [some (some (n + 1)), some (some (n + 2)), some (some (n + 3)), none, some (some (n + 4)), some (some (n + 5)), some (some (n + 6)), some (some (n + 7)), some (some (n + 8)), some (some (n + 9)), some (some (n + 10)), some (some (n + 11)), some (some (n + 12)), none, none, some (some (n + 13)), none]), .inr (.inl 169), .inr (.inl 845), .inr (.inl 169), .inr (.inl 3), .inr (.inl 64), .inr (.inl 8), .inr (.inl 169), .inr (.inl 5), .inr (.inl 5), .inr (.inl 5), .inr (.inl 5), .inr (.inl 120), .inr (.inl 3)]) rfl (pr_set hn 0) ?_
  exact g_ret C hr hlk (Nat.le_of_ble_eq_true rfl) (Nat.le_of_ble_eq_true rfl) (by decide +kernel)
