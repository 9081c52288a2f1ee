def B_X7_countOfArea_4 (p1 : Int32) (v2 : Int32) (v3 : Int32) (σ : xM) : Option ((Int32 × Int32) ⊕ ((Int32))) :=
  if (σ 14 0) ≤ v3 then
    some (.inr v2)
  else
    xgd (xin v3 12) (
    if (σ 15 v3.toNatClampNeg) = p1 then
      some (.inl ((v2 + 1), (v3 + 1)))
    else
      some (.inl (v2, (v3 + 1))))
def L_X7_countOfArea_4 (p1 : Int32) (v2 : Int32) (v3 : Int32) (σ : xM) : Option ((Int32)) := xloop (fun s : Int32 × Int32 => B_X7_countOfArea_4 p1 s.1 s.2 σ) 6000 (v2, v3)
set_option maxHeartbeats 1000000 in
set_option maxRecDepth 20000 in
theorem TB_X7_countOfArea_4 {d : Nat} {o : Option Value × xM} (p1 : Int32) (v2 : Int32) (v3 : Int32) (σ : xM) {q : (Int32 × Int32) ⊕ ((Int32))} (hd : 0 ≤ d) (h : B_X7_countOfArea_4 p1 v2 v3 σ = some q) (hB : ∀ s', q = .inl s' → xX xT xLn d 65 4 [.ref 14, .int p1, .int s'.1, .int s'.2] [] σ o) (hE : ∀ e', q = .inr e' → ∀ (z0 z1 z3 : Value), xX xT xLn d 65 18 [z0, z1, .int e', z3] [] σ o) : xX xT xLn d 65 4 [.ref 14, .int p1, .int v2, .int v3] [] σ o := by
  unfold B_X7_countOfArea_4 at h
  refine xX_blk (w := xw_65) eT_65 4 4 (ls' := [.ref 14, .int p1, .int v2, .int v3]) (st' := [.int (σ 14 0), .int v3]) (σ' := σ) rfl ?_
  refine xX_ite (c := (σ 14 0) ≤ v3) (w := xw_65) (i := 8) (a := 18) (b := 9) (st' := []) eT_65 rfl rfl (fun hc1 => ?_) (fun hc1 => ?_)
  · rw [if_pos hc1] at h
    obtain rfl := Option.some.inj h
    exact hE v2 rfl _ _ _
  · rw [if_neg hc1] at h
    refine xX_blk (w := xw_65) eT_65 3 9 (ls' := [.ref 14, .int p1, .int v2, .int v3]) (st' := [.int v3, .ref 15]) (σ' := σ) rfl ?_
    obtain ⟨hi2, h⟩ := xgd_inv h
    refine xX_one (w := xw_65) (i := 12) (ls' := [.ref 14, .int p1, .int v2, .int v3]) (st' := [.int (σ 15 v3.toNatClampNeg)]) (σ' := σ) eT_65 rfl (e_iald xs_15 hi2) ?_
    refine xX_blk (w := xw_65) eT_65 1 13 (ls' := [.ref 14, .int p1, .int v2, .int v3]) (st' := [.int p1, .int (σ 15 v3.toNatClampNeg)]) (σ' := σ) rfl ?_
    refine xX_ite (c := (σ 15 v3.toNatClampNeg) = p1) (w := xw_65) (i := 14) (a := 15) (b := 16) (st' := []) eT_65 rfl rfl (fun hc3 => ?_) (fun hc3 => ?_)
    · rw [if_pos hc3] at h
      refine xX_blk (w := xw_65) eT_65 2 15 (ls' := [.ref 14, .int p1, .int (v2 + 1), .int (v3 + 1)]) (st' := []) (σ' := σ) rfl ?_
      refine xX_jmp (w := xw_65) (i := 17) (a := 4) (st' := []) eT_65 rfl rfl ?_
      obtain rfl := Option.some.inj h
      exact hB ((v2 + 1), (v3 + 1)) rfl
    · rw [if_neg hc3] at h
      refine xX_blk (w := xw_65) eT_65 1 16 (ls' := [.ref 14, .int p1, .int v2, .int (v3 + 1)]) (st' := []) (σ' := σ) rfl ?_
      refine xX_jmp (w := xw_65) (i := 17) (a := 4) (st' := []) eT_65 rfl rfl ?_
      obtain rfl := Option.some.inj h
      exact hB (v2, (v3 + 1)) rfl
set_option maxHeartbeats 1000000 in
set_option maxRecDepth 20000 in
theorem TL_X7_countOfArea_4 {d : Nat} {o : Option Value × xM} (p1 : Int32) (v2 : Int32) (v3 : Int32) (σ : xM) {e : (Int32)} (hd : 0 ≤ d) (h : L_X7_countOfArea_4 p1 v2 v3 σ = some e) (hE : ∀ (z0 z1 z3 : Value), xX xT xLn d 65 18 [z0, z1, .int e, z3] [] σ o) : xX xT xLn d 65 4 [.ref 14, .int p1, .int v2, .int v3] [] σ o :=
  xloop_snd (X := fun s => xX xT xLn d 65 4 [.ref 14, .int p1, .int s.1, .int s.2] [] σ o) (Y := fun e' => ∀ (z0 z1 z3 : Value), xX xT xLn d 65 18 [z0, z1, .int e', z3] [] σ o) (fun s q hs hB hE => TB_X7_countOfArea_4 p1 s.1 s.2 σ hd hs hB hE) _ _ _ h hE
def F_X7_countOfArea (a : Int32) (σ : xM) : Option (Int32) :=
  xbd (L_X7_countOfArea_4 a 0 0 σ) fun e4 =>
  some e4
set_option maxHeartbeats 1000000 in
set_option maxRecDepth 20000 in
theorem T_X7_countOfArea (a : Int32) (σ : xM) {d : Nat} {q : Int32} (hd : 0 ≤ d) (h : F_X7_countOfArea a σ = some q) : xR xT xLn d 65 [.ref 14, .int a] σ (some (.int q), σ) := by
  unfold F_X7_countOfArea at h
  show xX xT xLn d 65 0 [.ref 14, .int a, .null, .null] [] σ _
  refine xX_blk (w := xw_65) eT_65 4 0 (ls' := [.ref 14, .int a, .int 0, .int 0]) (st' := []) (σ' := σ) rfl ?_
  obtain ⟨e4, he4, h⟩ := xbd_inv h
  refine TL_X7_countOfArea_4 a 0 0 σ (by omega) he4 (fun z0 z1 z3 => ?_)
  refine xX_blk (w := xw_65) eT_65 2 18 (ls' := [.null, .null, .int e4, .null]) (st' := [.int e4]) (σ' := σ) rfl ?_
  obtain rfl := Option.some.inj h
  exact xX_ret (w := xw_65) (i := 20) eT_65 rfl rfl
def F_X10_areaValue (a : Int32) (b : Int32) (σ : xM) : Option (Int32) :=
  if b = 0 then
    xgd (xin a 8) (
    some (σ 3 a.toNatClampNeg))
  else if b = 1 then
    xgd (xin a 8) (
    some (σ 4 a.toNatClampNeg))
  else if b = 2 then
    xbd (F_X4_presentCatch a σ) fun r6 =>
    some r6
  else if b = 3 then
    xgd (xin a 8) (
    some (σ 5 a.toNatClampNeg))
  else if b = 4 then
    xbd (F_X4_sitesInReach a σ) fun r10 =>
    some r10
  else 
  xbd (F_X7_countOfArea a σ) fun r11 =>
  some r11
set_option maxHeartbeats 1000000 in
set_option maxRecDepth 20000 in
theorem T_X10_areaValue (a : Int32) (b : Int32) (σ : xM) {d : Nat} {q : Int32} (hd : 3 ≤ d) (h : F_X10_areaValue a b σ = some q) : xR xT xLn d 107 [.ref 0, .int a, .int b] σ (some (.int q), σ) := by
  unfold F_X10_areaValue at h
  show xX xT xLn d 107 0 [.ref 0, .int a, .int b] [] σ _
  refine xX_blk (w := xw_107) eT_107 1 0 (ls' := [.ref 0, .int a, .int b]) (st' := [.int b]) (σ' := σ) rfl ?_
  by_cases hc1 : b = 0
  · rw [if_pos hc1] at h
    refine xX_jmp (w := xw_107) (i := 1) (a := 2) (st' := []) eT_107 rfl (e_tsw (by rw [hc1]; decide)) ?_
    refine xX_blk (w := xw_107) eT_107 5 2 (ls' := [.ref 0, .int a, .int b]) (st' := [.int a, .ref 3]) (σ' := σ) rfl ?_
    obtain ⟨hi2, h⟩ := xgd_inv h
    refine xX_one (w := xw_107) (i := 7) (ls' := [.ref 0, .int a, .int b]) (st' := [.int (σ 3 a.toNatClampNeg)]) (σ' := σ) eT_107 rfl (e_iald xs_3 hi2) ?_
    obtain rfl := Option.some.inj h
    exact xX_ret (w := xw_107) (i := 8) eT_107 rfl rfl
  rw [if_neg hc1] at h
  by_cases hc3 : b = 1
  · rw [if_pos hc3] at h
    refine xX_jmp (w := xw_107) (i := 1) (a := 9) (st' := []) eT_107 rfl (e_tsw (by rw [hc3]; decide)) ?_
    refine xX_blk (w := xw_107) eT_107 5 9 (ls' := [.ref 0, .int a, .int b]) (st' := [.int a, .ref 4]) (σ' := σ) rfl ?_
    obtain ⟨hi4, h⟩ := xgd_inv h
    refine xX_one (w := xw_107) (i := 14) (ls' := [.ref 0, .int a, .int b]) (st' := [.int (σ 4 a.toNatClampNeg)]) (σ' := σ) eT_107 rfl (e_iald xs_4 hi4) ?_
    obtain rfl := Option.some.inj h
    exact xX_ret (w := xw_107) (i := 15) eT_107 rfl rfl
  rw [if_neg hc3] at h
  by_cases hc5 : b = 2
  · rw [if_pos hc5] at h
    refine xX_jmp (w := xw_107) (i := 1) (a := 16) (st' := []) eT_107 rfl (e_tsw (by rw [hc5]; decide)) ?_
    refine xX_blk (w := xw_107) eT_107 3 16 (ls' := [.ref 0, .int a, .int b]) (st' := [.int a, .ref 129]) (σ' := σ) rfl ?_
    obtain ⟨r6, hr6, h⟩ := xbd_inv h
    refine xX_c1 (w := xw_107) (i := 19) (ls := [.ref 0, .int a, .int b]) (rest := []) eT_107 rfl (by omega) rfl rfl rfl (T_X4_presentCatch a σ (by omega) hr6) ?_
    obtain rfl := Option.some.inj h
    exact xX_ret (w := xw_107) (i := 20) eT_107 rfl rfl
  rw [if_neg hc5] at h
  by_cases hc7 : b = 3
  · rw [if_pos hc7] at h
    refine xX_jmp (w := xw_107) (i := 1) (a := 21) (st' := []) eT_107 rfl (e_tsw (by rw [hc7]; decide)) ?_
    refine xX_blk (w := xw_107) eT_107 5 21 (ls' := [.ref 0, .int a, .int b]) (st' := [.int a, .ref 5]) (σ' := σ) rfl ?_
    obtain ⟨hi8, h⟩ := xgd_inv h
    refine xX_one (w := xw_107) (i := 26) (ls' := [.ref 0, .int a, .int b]) (st' := [.int (σ 5 a.toNatClampNeg)]) (σ' := σ) eT_107 rfl (e_iald xs_5 hi8) ?_
    obtain rfl := Option.some.inj h
    exact xX_ret (w := xw_107) (i := 27) eT_107 rfl rfl
  rw [if_neg hc7] at h
  by_cases hc9 : b = 4
  · rw [if_pos hc9] at h
    refine xX_jmp (w := xw_107) (i := 1) (a := 28) (st' := []) eT_107 rfl (e_tsw (by rw [hc9]; decide)) ?_
    refine xX_blk (w := xw_107) eT_107 3 28 (ls' := [.ref 0, .int a, .int b]) (st' := [.int a, .ref 129]) (σ' := σ) rfl ?_
    obtain ⟨r10, hr10, h⟩ := xbd_inv h
    refine xX_c1 (w := xw_107) (i := 31) (ls := [.ref 0, .int a, .int b]) (rest := []) eT_107 rfl (by omega) rfl rfl rfl (T_X4_sitesInReach a σ (by omega) hr10) ?_
    obtain rfl := Option.some.inj h
    exact xX_ret (w := xw_107) (i := 32) eT_107 rfl rfl
  rw [if_neg hc9] at h
  refine xX_jmp (w := xw_107) (i := 1) (a := 33) (st' := []) eT_107 rfl (e_tsw (e_tswd [0, 1, 2, 3, 4] (by decide) (List.forall_mem_cons.mpr ⟨hc1, List.forall_mem_cons.mpr ⟨hc3, List.forall_mem_cons.mpr ⟨hc5, List.forall_mem_cons.mpr ⟨hc7, List.forall_mem_cons.mpr ⟨hc9, fun _ h => absurd h List.not_mem_nil⟩⟩⟩⟩⟩))) ?_
  refine xX_blk (w := xw_107) eT_107 4 33 (ls' := [.ref 0, .int a, .int b]) (st' := [.int a, .ref 14]) (σ' := σ) rfl ?_
  obtain ⟨r11, hr11, h⟩ := xbd_inv h
  refine xX_c1 (w := xw_107) (i := 37) (ls := [.ref 0, .int a, .int b]) (rest := []) eT_107 rfl (by omega) rfl rfl rfl (T_X7_countOfArea a σ (by omega) hr11) ?_
  obtain rfl := Option.some.inj h
  exact xX_ret (w := xw_107) (i := 38) eT_107 rfl rfl
def F_X10_of (a : Int32) (b : Int32) (σ : xM) : Option (Int32 × xM) :=
  xbd (F_X1_has a σ) fun r1 =>
  if r1 = 0 then
    xbd (F_X10_counted (-2) σ) fun r3 =>
    some (r3.1, r3.2)
  else
    xbd (F_X10_within b 0 5 σ) fun r4 =>
    if r4 = 0 then
      xbd (F_X10_counted (-2) σ) fun r6 =>
      some (r6.1, r6.2)
    else
      xbd (F_X10_areaValue a b σ) fun r7 =>
      some (r7, σ)
set_option maxHeartbeats 1000000 in
set_option maxRecDepth 20000 in
theorem T_X10_of (a : Int32) (b : Int32) (σ : xM) {d : Nat} {q : Int32 × xM} (hd : 4 ≤ d) (h : F_X10_of a b σ = some q) : xR xT xLn d 88 [.ref 0, .int a, .int b] σ (some (.int q.1), q.2) := by
  unfold F_X10_of at h
  show xX xT xLn d 88 0 [.ref 0, .int a, .int b] [] σ _
  refine xX_blk (w := xw_88) eT_88 4 0 (ls' := [.ref 0, .int a, .int b]) (st' := [.int a, .ref 2]) (σ' := σ) rfl ?_
  obtain ⟨r1, hr1, h⟩ := xbd_inv h
  refine xX_c1 (w := xw_88) (i := 4) (ls := [.ref 0, .int a, .int b]) (rest := []) eT_88 rfl (by omega) rfl rfl rfl (T_X1_has a σ (by omega) hr1) ?_
  refine xX_ite (c := r1 = 0) (w := xw_88) (i := 5) (a := 11) (b := 6) (st' := []) eT_88 rfl rfl (fun hc2 => ?_) (fun hc2 => ?_)
  · rw [if_pos hc2] at h
    refine xX_blk (w := xw_88) eT_88 2 11 (ls' := [.ref 0, .int a, .int b]) (st' := [.int (-2), .ref 0]) (σ' := σ) rfl ?_
    obtain ⟨r3, hr3, h⟩ := xbd_inv h
    refine xX_c1 (w := xw_88) (i := 13) (ls := [.ref 0, .int a, .int b]) (rest := []) eT_88 rfl (by omega) rfl rfl rfl (T_X10_counted (-2) σ (by omega) hr3) ?_
    obtain rfl := Option.some.inj h
    exact xX_ret (w := xw_88) (i := 14) eT_88 rfl rfl
  · rw [if_neg hc2] at h
    refine xX_blk (w := xw_88) eT_88 3 6 (ls' := [.ref 0, .int a, .int b]) (st' := [.int 5, .int 0, .int b]) (σ' := σ) rfl ?_
    obtain ⟨r4, hr4, h⟩ := xbd_inv h
    refine xX_c1 (w := xw_88) (i := 9) (ls := [.ref 0, .int a, .int b]) (rest := []) eT_88 rfl (by omega) rfl rfl rfl (T_X10_within b 0 5 σ (by omega) hr4) ?_
    refine xX_ite (c := r4 = 0) (w := xw_88) (i := 10) (a := 11) (b := 15) (st' := []) eT_88 rfl rfl (fun hc5 => ?_) (fun hc5 => ?_)
    · rw [if_pos hc5] at h
      refine xX_blk (w := xw_88) eT_88 2 11 (ls' := [.ref 0, .int a, .int b]) (st' := [.int (-2), .ref 0]) (σ' := σ) rfl ?_
      obtain ⟨r6, hr6, h⟩ := xbd_inv h
      refine xX_c1 (w := xw_88) (i := 13) (ls := [.ref 0, .int a, .int b]) (rest := []) eT_88 rfl (by omega) rfl rfl rfl (T_X10_counted (-2) σ (by omega) hr6) ?_
      obtain rfl := Option.some.inj h
      exact xX_ret (w := xw_88) (i := 14) eT_88 rfl rfl
    · rw [if_neg hc5] at h
      refine xX_blk (w := xw_88) eT_88 3 15 (ls' := [.ref 0, .int a, .int b]) (st' := [.int b, .int a, .ref 0]) (σ' := σ) rfl ?_
      obtain ⟨r7, hr7, h⟩ := xbd_inv h
      refine xX_c1 (w := xw_88) (i := 18) (ls := [.ref 0, .int a, .int b]) (rest := []) eT_88 rfl (by omega) rfl rfl rfl (T_X10_areaValue a b σ (by omega) hr7) ?_
      obtain rfl := Option.some.inj h
      exact xX_ret (w := xw_88) (i := 19) eT_88 rfl rfl
def B_X4_addCarried_6 (v2 : Int32) (σ : xM) : Option ((Int32 × xM) ⊕ ((xM))) :=
  if (σ 14 0) ≤ v2 then
    some (.inr σ)
  else
    xgd (xin v2 12) (
    xgd (xin v2 12) (
    xgd (xin (σ 15 v2.toNatClampNeg) 8) (
    if (σ 130 (σ 15 v2.toNatClampNeg).toNatClampNeg) = (σ 16 v2.toNatClampNeg) then
      some (.inl ((v2 + 1), σ))
    else
      xgd (xin (σ 16 v2.toNatClampNeg) 5) (
      xgd (xin v2 12) (
      xgd (xin (σ 16 v2.toNatClampNeg) 5) (
      xlet (xup σ 131 (σ 16 v2.toNatClampNeg).toNatClampNeg ((σ 131 (σ 16 v2.toNatClampNeg).toNatClampNeg) + (σ 17 v2.toNatClampNeg))) fun σ9 =>
      some (.inl ((v2 + 1), σ9))))))))
def L_X4_addCarried_6 (v2 : Int32) (σ : xM) : Option ((xM)) := xloop (fun s : Int32 × xM => B_X4_addCarried_6 s.1 s.2) 6000 (v2, σ)
set_option maxHeartbeats 1000000 in
set_option maxRecDepth 20000 in
theorem TB_X4_addCarried_6 {d : Nat} {o : Option Value × xM} (v2 : Int32) (σ : xM) {q : (Int32 × xM) ⊕ ((xM))} (hd : 0 ≤ d) (h : B_X4_addCarried_6 v2 σ = some q) (hB : ∀ s', q = .inl s' → ∀ (z3 : Value), xX xT xLn d 38 6 [.ref 129, .ref 14, .int s'.1, z3] [] s'.2 o) (hE : ∀ e', q = .inr e' → ∀ (z0 z1 z2 z3 : Value), xX xT xLn d 38 38 [z0, z1, z2, z3] [] e' o) (z3 : Value) : xX xT xLn d 38 6 [.ref 129, .ref 14, .int v2, z3] [] σ o := by
  unfold B_X4_addCarried_6 at h
  refine xX_blk (w := xw_38) eT_38 4 6 (ls' := [.ref 129, .ref 14, .int v2, .null]) (st' := [.int (σ 14 0), .int v2]) (σ' := σ) rfl ?_
  refine xX_ite (c := (σ 14 0) ≤ v2) (w := xw_38) (i := 10) (a := 38) (b := 11) (st' := []) eT_38 rfl rfl (fun hc1 => ?_) (fun hc1 => ?_)
  · rw [if_pos hc1] at h
    obtain rfl := Option.some.inj h
    exact hE σ rfl _ _ _ _
  · rw [if_neg hc1] at h
    refine xX_blk (w := xw_38) eT_38 3 11 (ls' := [.ref 129, .ref 14, .int v2, .null]) (st' := [.int v2, .ref 16]) (σ' := σ) rfl ?_
    obtain ⟨hi2, h⟩ := xgd_inv h
    refine xX_one (w := xw_38) (i := 14) (ls' := [.ref 129, .ref 14, .int v2, .null]) (st' := [.int (σ 16 v2.toNatClampNeg)]) (σ' := σ) eT_38 rfl (e_iald xs_16 hi2) ?_
    refine xX_blk (w := xw_38) eT_38 6 15 (ls' := [.ref 129, .ref 14, .int v2, .int (σ 16 v2.toNatClampNeg)]) (st' := [.int v2, .ref 15, .ref 130]) (σ' := σ) rfl ?_
    obtain ⟨hi3, h⟩ := xgd_inv h
    refine xX_one (w := xw_38) (i := 21) (ls' := [.ref 129, .ref 14, .int v2, .int (σ 16 v2.toNatClampNeg)]) (st' := [.int (σ 15 v2.toNatClampNeg), .ref 130]) (σ' := σ) eT_38 rfl (e_iald xs_15 hi3) ?_
    obtain ⟨hi4, h⟩ := xgd_inv h
    refine xX_one (w := xw_38) (i := 22) (ls' := [.ref 129, .ref 14, .int v2, .int (σ 16 v2.toNatClampNeg)]) (st' := [.int (σ 130 (σ 15 v2.toNatClampNeg).toNatClampNeg)]) (σ' := σ) eT_38 rfl (e_iald xs_130 hi4) ?_
    refine xX_blk (w := xw_38) eT_38 1 23 (ls' := [.ref 129, .ref 14, .int v2, .int (σ 16 v2.toNatClampNeg)]) (st' := [.int (σ 16 v2.toNatClampNeg), .int (σ 130 (σ 15 v2.toNatClampNeg).toNatClampNeg)]) (σ' := σ) rfl ?_
    refine xX_ite (c := (σ 130 (σ 15 v2.toNatClampNeg).toNatClampNeg) = (σ 16 v2.toNatClampNeg)) (w := xw_38) (i := 24) (a := 36) (b := 25) (st' := []) eT_38 rfl rfl (fun hc5 => ?_) (fun hc5 => ?_)
    · rw [if_pos hc5] at h
      refine xX_blk (w := xw_38) eT_38 1 36 (ls' := [.ref 129, .ref 14, .int (v2 + 1), .int (σ 16 v2.toNatClampNeg)]) (st' := []) (σ' := σ) rfl ?_
      refine xX_jmp (w := xw_38) (i := 37) (a := 6) (st' := []) eT_38 rfl rfl ?_
      obtain rfl := Option.some.inj h
      exact hB ((v2 + 1), σ) rfl _
    · rw [if_neg hc5] at h
      refine xX_blk (w := xw_38) eT_38 4 25 (ls' := [.ref 129, .ref 14, .int v2, .int (σ 16 v2.toNatClampNeg)]) (st' := [.int (σ 16 v2.toNatClampNeg), .ref 131, .int (σ 16 v2.toNatClampNeg), .ref 131]) (σ' := σ) rfl ?_
      obtain ⟨hi6, h⟩ := xgd_inv h
      refine xX_one (w := xw_38) (i := 29) (ls' := [.ref 129, .ref 14, .int v2, .int (σ 16 v2.toNatClampNeg)]) (st' := [.int (σ 131 (σ 16 v2.toNatClampNeg).toNatClampNeg), .int (σ 16 v2.toNatClampNeg), .ref 131]) (σ' := σ) eT_38 rfl (e_iald xs_131 hi6) ?_
      refine xX_blk (w := xw_38) eT_38 3 30 (ls' := [.ref 129, .ref 14, .int v2, .int (σ 16 v2.toNatClampNeg)]) (st' := [.int v2, .ref 17, .int (σ 131 (σ 16 v2.toNatClampNeg).toNatClampNeg), .int (σ 16 v2.toNatClampNeg), .ref 131]) (σ' := σ) rfl ?_
      obtain ⟨hi7, h⟩ := xgd_inv h
      refine xX_one (w := xw_38) (i := 33) (ls' := [.ref 129, .ref 14, .int v2, .int (σ 16 v2.toNatClampNeg)]) (st' := [.int (σ 17 v2.toNatClampNeg), .int (σ 131 (σ 16 v2.toNatClampNeg).toNatClampNeg), .int (σ 16 v2.toNatClampNeg), .ref 131]) (σ' := σ) eT_38 rfl (e_iald xs_17 hi7) ?_
      refine xX_blk (w := xw_38) eT_38 1 34 (ls' := [.ref 129, .ref 14, .int v2, .int (σ 16 v2.toNatClampNeg)]) (st' := [.int ((σ 131 (σ 16 v2.toNatClampNeg).toNatClampNeg) + (σ 17 v2.toNatClampNeg)), .int (σ 16 v2.toNatClampNeg), .ref 131]) (σ' := σ) rfl ?_
      obtain ⟨hi8, h⟩ := xgd_inv h
      refine xX_one (w := xw_38) (i := 35) (ls' := [.ref 129, .ref 14, .int v2, .int (σ 16 v2.toNatClampNeg)]) (st' := []) (σ' := xup σ 131 (σ 16 v2.toNatClampNeg).toNatClampNeg ((σ 131 (σ 16 v2.toNatClampNeg).toNatClampNeg) + (σ 17 v2.toNatClampNeg))) eT_38 rfl (e_iast xs_131 hi8) ?_
      obtain ⟨σ9, eσ9, h⟩ := xlet_inv h
      rw [← eσ9]
      refine xX_blk (w := xw_38) eT_38 1 36 (ls' := [.ref 129, .ref 14, .int (v2 + 1), .int (σ 16 v2.toNatClampNeg)]) (st' := []) (σ' := σ9) rfl ?_
      refine xX_jmp (w := xw_38) (i := 37) (a := 6) (st' := []) eT_38 rfl rfl ?_
      obtain rfl := Option.some.inj h
      exact hB ((v2 + 1), σ9) rfl _
set_option maxHeartbeats 1000000 in
set_option maxRecDepth 20000 in
theorem TL_X4_addCarried_6 {d : Nat} {o : Option Value × xM} (v2 : Int32) (σ : xM) {e : (xM)} (hd : 0 ≤ d) (h : L_X4_addCarried_6 v2 σ = some e) (hE : ∀ (z0 z1 z2 z3 : Value), xX xT xLn d 38 38 [z0, z1, z2, z3] [] e o) (z3 : Value) : xX xT xLn d 38 6 [.ref 129, .ref 14, .int v2, z3] [] σ o :=
  xloop_snd (X := fun s => ∀ (z3 : Value), xX xT xLn d 38 6 [.ref 129, .ref 14, .int s.1, z3] [] s.2 o) (Y := fun e' => ∀ (z0 z1 z2 z3 : Value), xX xT xLn d 38 38 [z0, z1, z2, z3] [] e' o) (fun s q hs hB hE z3 => TB_X4_addCarried_6 s.1 s.2 hd hs hB hE z3) _ _ _ h hE z3
def F_X4_addCarried (σ : xM) : Option (xM) :=
  xbd (L_X4_addCarried_6 0 σ) fun e10 =>
  some e10
set_option maxHeartbeats 1000000 in
set_option maxRecDepth 20000 in
theorem T_X4_addCarried (σ : xM) {d : Nat} {q : xM} (hd : 0 ≤ d) (h : F_X4_addCarried σ = some q) : xR xT xLn d 38 [.ref 129] σ (none, q) := by
  unfold F_X4_addCarried at h
  show xX xT xLn d 38 0 [.ref 129, .null, .null, .null] [] σ _
  refine xX_blk (w := xw_38) eT_38 6 0 (ls' := [.ref 129, .ref 14, .int 0, .null]) (st' := []) (σ' := σ) rfl ?_
  obtain ⟨e10, he10, h⟩ := xbd_inv h
  refine TL_X4_addCarried_6 0 σ (by omega) he10 (fun z0 z1 z2 z3 => ?_) _
  refine xX_blk (w := xw_38) eT_38 1 38 (ls' := [.null, .null, .null, .null]) (st' := []) (σ' := e10) rfl ?_
  obtain rfl := Option.some.inj h
  exact xX_ret (w := xw_38) (i := 39) eT_38 rfl rfl
def B_X4_look_11_6 (p1 : Int32) (v4 : Int32) (σ : xM) : Option ((Int32 × xM) ⊕ ((xM))) :=
  if (σ 8 0) ≤ v4 then
    some (.inr σ)
  else
    xgd (xin v4 5) (
    xlet (xup σ 131 v4.toNatClampNeg 0) fun σ3 =>
    some (.inl ((v4 + 1), σ3)))
def L_X4_look_11_6 (p1 : Int32) (v4 : Int32) (σ : xM) : Option ((xM)) := xloop (fun s : Int32 × xM => B_X4_look_11_6 p1 s.1 s.2) 6000 (v4, σ)
set_option maxHeartbeats 1000000 in
set_option maxRecDepth 20000 in
theorem TB_X4_look_11_6 {d : Nat} {o : Option Value × xM} (p1 : Int32) (v4 : Int32) (σ : xM) {q : (Int32 × xM) ⊕ ((xM))} (hd : 0 ≤ d) (h : B_X4_look_11_6 p1 v4 σ = some q) (hB : ∀ s', q = .inl s' → ∀ (z5 : Value), xX xT xLn d 37 6 [.ref 129, .int p1, .ref 11, .ref 8, .int s'.1, z5] [] s'.2 o) (hE : ∀ e', q = .inr e' → ∀ (z4 z5 : Value), xX xT xLn d 37 18 [.ref 129, .int p1, .ref 11, .ref 8, z4, z5] [] e' o) (z5 : Value) : xX xT xLn d 37 6 [.ref 129, .int p1, .ref 11, .ref 8, .int v4, z5] [] σ o := by
  unfold B_X4_look_11_6 at h
  refine xX_blk (w := xw_37) eT_37 4 6 (ls' := [.ref 129, .int p1, .ref 11, .ref 8, .int v4, .null]) (st' := [.int (σ 8 0), .int v4]) (σ' := σ) rfl ?_
  refine xX_ite (c := (σ 8 0) ≤ v4) (w := xw_37) (i := 10) (a := 18) (b := 11) (st' := []) eT_37 rfl rfl (fun hc1 => ?_) (fun hc1 => ?_)
  · rw [if_pos hc1] at h
    obtain rfl := Option.some.inj h
    exact hE σ rfl _ _
  · rw [if_neg hc1] at h
    refine xX_blk (w := xw_37) eT_37 4 11 (ls' := [.ref 129, .int p1, .ref 11, .ref 8, .int v4, .null]) (st' := [.int 0, .int v4, .ref 131]) (σ' := σ) rfl ?_
    obtain ⟨hi2, h⟩ := xgd_inv h
    refine xX_one (w := xw_37) (i := 15) (ls' := [.ref 129, .int p1, .ref 11, .ref 8, .int v4, .null]) (st' := []) (σ' := xup σ 131 v4.toNatClampNeg 0) eT_37 rfl (e_iast xs_131 hi2) ?_
    obtain ⟨σ3, eσ3, h⟩ := xlet_inv h
    rw [← eσ3]
    refine xX_blk (w := xw_37) eT_37 1 16 (ls' := [.ref 129, .int p1, .ref 11, .ref 8, .int (v4 + 1), .null]) (st' := []) (σ' := σ3) rfl ?_
    refine xX_jmp (w := xw_37) (i := 17) (a := 6) (st' := []) eT_37 rfl rfl ?_
    obtain rfl := Option.some.inj h
    exact hB ((v4 + 1), σ3) rfl _
set_option maxHeartbeats 1000000 in
set_option maxRecDepth 20000 in
theorem TL_X4_look_11_6 {d : Nat} {o : Option Value × xM} (p1 : Int32) (v4 : Int32) (σ : xM) {e : (xM)} (hd : 0 ≤ d) (h : L_X4_look_11_6 p1 v4 σ = some e) (hE : ∀ (z4 z5 : Value), xX xT xLn d 37 18 [.ref 129, .int p1, .ref 11, .ref 8, z4, z5] [] e o) (z5 : Value) : xX xT xLn d 37 6 [.ref 129, .int p1, .ref 11, .ref 8, .int v4, z5] [] σ o :=
  xloop_snd (X := fun s => ∀ (z5 : Value), xX xT xLn d 37 6 [.ref 129, .int p1, .ref 11, .ref 8, .int s.1, z5] [] s.2 o) (Y := fun e' => ∀ (z4 z5 : Value), xX xT xLn d 37 18 [.ref 129, .int p1, .ref 11, .ref 8, z4, z5] [] e' o) (fun s q hs hB hE z5 => TB_X4_look_11_6 p1 s.1 s.2 hd hs hB hE z5) _ _ _ h hE z5
def B_X4_look_11_19 (p1 : Int32) (v4 : Int32) (σ : xM) : Option ((Int32 × xM) ⊕ ((xM))) :=
  if (σ 2 0) ≤ v4 then
    some (.inr σ)
  else
    xbd (F_X4_catchOf_11 v4 p1 σ) fun r6 =>
    xgd (xin v4 8) (
    xlet (xup σ 130 v4.toNatClampNeg r6) fun σ8 =>
    if r6 = (-1) then
      some (.inl ((v4 + 1), σ8))
    else
      xgd (xin r6 5) (
      xgd (xin v4 8) (
      xgd (xin r6 5) (
      xlet (xup σ8 131 r6.toNatClampNeg ((σ8 131 r6.toNatClampNeg) + (σ8 3 v4.toNatClampNeg))) fun σ13 =>
      some (.inl ((v4 + 1), σ13))))))
def L_X4_look_11_19 (p1 : Int32) (v4 : Int32) (σ : xM) : Option ((xM)) := xloop (fun s : Int32 × xM => B_X4_look_11_19 p1 s.1 s.2) 6000 (v4, σ)
set_option maxHeartbeats 1000000 in
set_option maxRecDepth 20000 in
theorem TB_X4_look_11_19 {d : Nat} {o : Option Value × xM} (p1 : Int32) (v4 : Int32) (σ : xM) {q : (Int32 × xM) ⊕ ((xM))} (hd : 2 ≤ d) (h : B_X4_look_11_19 p1 v4 σ = some q) (hB : ∀ s', q = .inl s' → ∀ (z5 : Value), xX xT xLn d 37 21 [.ref 129, .int p1, .ref 11, .ref 8, .int s'.1, z5] [] s'.2 o) (hE : ∀ e', q = .inr e' → ∀ (z2 z4 z5 : Value), xX xT xLn d 37 57 [.ref 129, .int p1, z2, .ref 8, z4, z5] [] e' o) (z5 : Value) : xX xT xLn d 37 21 [.ref 129, .int p1, .ref 11, .ref 8, .int v4, z5] [] σ o := by
  unfold B_X4_look_11_19 at h
  refine xX_blk (w := xw_37) eT_37 6 21 (ls' := [.ref 129, .int p1, .ref 11, .ref 8, .int v4, .null]) (st' := [.int (σ 2 0), .int v4]) (σ' := σ) rfl ?_
  refine xX_ite (c := (σ 2 0) ≤ v4) (w := xw_37) (i := 27) (a := 57) (b := 28) (st' := []) eT_37 rfl rfl (fun hc5 => ?_) (fun hc5 => ?_)
  · rw [if_pos hc5] at h
    obtain rfl := Option.some.inj h
    exact hE σ rfl _ _ _
  · rw [if_neg hc5] at h
    refine xX_blk (w := xw_37) eT_37 4 28 (ls' := [.ref 129, .int p1, .ref 11, .ref 8, .int v4, .null]) (st' := [.ref 11, .int p1, .int v4, .ref 129]) (σ' := σ) rfl ?_
    obtain ⟨r6, hr6, h⟩ := xbd_inv h
    refine xX_c1 (w := xw_37) (i := 32) (ls := [.ref 129, .int p1, .ref 11, .ref 8, .int v4, .null]) (rest := []) eT_37 rfl (by omega) rfl rfl rfl (T_X4_catchOf_11 v4 p1 σ (by omega) hr6) ?_
    refine xX_blk (w := xw_37) eT_37 5 33 (ls' := [.ref 129, .int p1, .ref 11, .ref 8, .int v4, .int r6]) (st' := [.int r6, .int v4, .ref 130]) (σ' := σ) rfl ?_
    obtain ⟨hi7, h⟩ := xgd_inv h
    refine xX_one (w := xw_37) (i := 38) (ls' := [.ref 129, .int p1, .ref 11, .ref 8, .int v4, .int r6]) (st' := []) (σ' := xup σ 130 v4.toNatClampNeg r6) eT_37 rfl (e_iast xs_130 hi7) ?_
    obtain ⟨σ8, eσ8, h⟩ := xlet_inv h
    rw [← eσ8]
    refine xX_blk (w := xw_37) eT_37 2 39 (ls' := [.ref 129, .int p1, .ref 11, .ref 8, .int v4, .int r6]) (st' := [.int (-1), .int r6]) (σ' := σ8) rfl ?_
    refine xX_ite (c := r6 = (-1)) (w := xw_37) (i := 41) (a := 55) (b := 42) (st' := []) eT_37 rfl rfl (fun hc9 => ?_) (fun hc9 => ?_)
    · rw [if_pos hc9] at h
      refine xX_blk (w := xw_37) eT_37 1 55 (ls' := [.ref 129, .int p1, .ref 11, .ref 8, .int (v4 + 1), .int r6]) (st' := []) (σ' := σ8) rfl ?_
      refine xX_jmp (w := xw_37) (i := 56) (a := 21) (st' := []) eT_37 rfl rfl ?_
      obtain rfl := Option.some.inj h
      exact hB ((v4 + 1), σ8) rfl _
    · rw [if_neg hc9] at h
      refine xX_blk (w := xw_37) eT_37 4 42 (ls' := [.ref 129, .int p1, .ref 11, .ref 8, .int v4, .int r6]) (st' := [.int r6, .ref 131, .int r6, .ref 131]) (σ' := σ8) rfl ?_
      obtain ⟨hi10, h⟩ := xgd_inv h
      refine xX_one (w := xw_37) (i := 46) (ls' := [.ref 129, .int p1, .ref 11, .ref 8, .int v4, .int r6]) (st' := [.int (σ8 131 r6.toNatClampNeg), .int r6, .ref 131]) (σ' := σ8) eT_37 rfl (e_iald xs_131 hi10) ?_
      refine xX_blk (w := xw_37) eT_37 5 47 (ls' := [.ref 129, .int p1, .ref 11, .ref 8, .int v4, .int r6]) (st' := [.int v4, .ref 3, .int (σ8 131 r6.toNatClampNeg), .int r6, .ref 131]) (σ' := σ8) rfl ?_
      obtain ⟨hi11, h⟩ := xgd_inv h
      refine xX_one (w := xw_37) (i := 52) (ls' := [.ref 129, .int p1, .ref 11, .ref 8, .int v4, .int r6]) (st' := [.int (σ8 3 v4.toNatClampNeg), .int (σ8 131 r6.toNatClampNeg), .int r6, .ref 131]) (σ' := σ8) eT_37 rfl (e_iald xs_3 hi11) ?_
      refine xX_blk (w := xw_37) eT_37 1 53 (ls' := [.ref 129, .int p1, .ref 11, .ref 8, .int v4, .int r6]) (st' := [.int ((σ8 131 r6.toNatClampNeg) + (σ8 3 v4.toNatClampNeg)), .int r6, .ref 131]) (σ' := σ8) rfl ?_
      obtain ⟨hi12, h⟩ := xgd_inv h
      refine xX_one (w := xw_37) (i := 54) (ls' := [.ref 129, .int p1, .ref 11, .ref 8, .int v4, .int r6]) (st' := []) (σ' := xup σ8 131 r6.toNatClampNeg ((σ8 131 r6.toNatClampNeg) + (σ8 3 v4.toNatClampNeg))) eT_37 rfl (e_iast xs_131 hi12) ?_
      obtain ⟨σ13, eσ13, h⟩ := xlet_inv h
      rw [← eσ13]
      refine xX_blk (w := xw_37) eT_37 1 55 (ls' := [.ref 129, .int p1, .ref 11, .ref 8, .int (v4 + 1), .int r6]) (st' := []) (σ' := σ13) rfl ?_
      refine xX_jmp (w := xw_37) (i := 56) (a := 21) (st' := []) eT_37 rfl rfl ?_
      obtain rfl := Option.some.inj h
      exact hB ((v4 + 1), σ13) rfl _
set_option maxHeartbeats 1000000 in
set_option maxRecDepth 20000 in
theorem TL_X4_look_11_19 {d : Nat} {o : Option Value × xM} (p1 : Int32) (v4 : Int32) (σ : xM) {e : (xM)} (hd : 2 ≤ d) (h : L_X4_look_11_19 p1 v4 σ = some e) (hE : ∀ (z2 z4 z5 : Value), xX xT xLn d 37 57 [.ref 129, .int p1, z2, .ref 8, z4, z5] [] e o) (z5 : Value) : xX xT xLn d 37 21 [.ref 129, .int p1, .ref 11, .ref 8, .int v4, z5] [] σ o :=
  xloop_snd (X := fun s => ∀ (z5 : Value), xX xT xLn d 37 21 [.ref 129, .int p1, .ref 11, .ref 8, .int s.1, z5] [] s.2 o) (Y := fun e' => ∀ (z2 z4 z5 : Value), xX xT xLn d 37 57 [.ref 129, .int p1, z2, .ref 8, z4, z5] [] e' o) (fun s q hs hB hE z5 => TB_X4_look_11_19 p1 s.1 s.2 hd hs hB hE z5) _ _ _ h hE z5
def B_X4_look_11_60 (p1 : Int32) (v4 : Int32) (v5 : Int32) (σ : xM) : Option ((Int32 × Int32) ⊕ ((Int32))) :=
  if (σ 8 0) ≤ v5 then
    some (.inr v4)
  else
    xbd (F_X4_contains p1 v5 σ) fun r17 =>
    if r17 = 0 then
      some (.inl (v4, (v5 + 1)))
    else
      xgd (xin v5 5) (
      xgd (xin v5 5) (
      if (σ 131 v5.toNatClampNeg) ≤ (σ 10 v5.toNatClampNeg) then
        some (.inl (v4, (v5 + 1)))
      else
        some (.inl ((v4 ||| ((1 : Int32) <<< (v5 &&& 31))), (v5 + 1)))))
def L_X4_look_11_60 (p1 : Int32) (v4 : Int32) (v5 : Int32) (σ : xM) : Option ((Int32)) := xloop (fun s : Int32 × Int32 => B_X4_look_11_60 p1 s.1 s.2 σ) 6000 (v4, v5)
set_option maxHeartbeats 1000000 in
set_option maxRecDepth 20000 in
theorem TB_X4_look_11_60 {d : Nat} {o : Option Value × xM} (p1 : Int32) (v4 : Int32) (v5 : Int32) (σ : xM) {q : (Int32 × Int32) ⊕ ((Int32))} (hd : 2 ≤ d) (h : B_X4_look_11_60 p1 v4 v5 σ = some q) (hB : ∀ s', q = .inl s' → ∀ (z2 : Value), xX xT xLn d 37 64 [.ref 129, .int p1, z2, .ref 8, .int s'.1, .int s'.2] [] σ o) (hE : ∀ e', q = .inr e' → ∀ (z0 z1 z2 z3 z5 : Value), xX xT xLn d 37 90 [z0, z1, z2, z3, .int e', z5] [] σ o) (z2 : Value) : xX xT xLn d 37 64 [.ref 129, .int p1, z2, .ref 8, .int v4, .int v5] [] σ o := by
  unfold B_X4_look_11_60 at h
  refine xX_blk (w := xw_37) eT_37 4 64 (ls' := [.ref 129, .int p1, .null, .ref 8, .int v4, .int v5]) (st' := [.int (σ 8 0), .int v5]) (σ' := σ) rfl ?_
  refine xX_ite (c := (σ 8 0) ≤ v5) (w := xw_37) (i := 68) (a := 90) (b := 69) (st' := []) eT_37 rfl rfl (fun hc16 => ?_) (fun hc16 => ?_)
  · rw [if_pos hc16] at h
    obtain rfl := Option.some.inj h
    exact hE v4 rfl _ _ _ _ _
  · rw [if_neg hc16] at h
    refine xX_blk (w := xw_37) eT_37 2 69 (ls' := [.ref 129, .int p1, .null, .ref 8, .int v4, .int v5]) (st' := [.int v5, .int p1]) (σ' := σ) rfl ?_
    obtain ⟨r17, hr17, h⟩ := xbd_inv h
    refine xX_c1 (w := xw_37) (i := 71) (ls := [.ref 129, .int p1, .null, .ref 8, .int v4, .int v5]) (rest := []) eT_37 rfl (by omega) rfl rfl rfl (T_X4_contains p1 v5 σ (by omega) hr17) ?_
    refine xX_ite (c := r17 = 0) (w := xw_37) (i := 72) (a := 88) (b := 73) (st' := []) eT_37 rfl rfl (fun hc18 => ?_) (fun hc18 => ?_)
    · rw [if_pos hc18] at h
      refine xX_blk (w := xw_37) eT_37 1 88 (ls' := [.ref 129, .int p1, .null, .ref 8, .int v4, .int (v5 + 1)]) (st' := []) (σ' := σ) rfl ?_
      refine xX_jmp (w := xw_37) (i := 89) (a := 64) (st' := []) eT_37 rfl rfl ?_
      obtain rfl := Option.some.inj h
      exact hB (v4, (v5 + 1)) rfl _
    · rw [if_neg hc18] at h
      refine xX_blk (w := xw_37) eT_37 3 73 (ls' := [.ref 129, .int p1, .null, .ref 8, .int v4, .int v5]) (st' := [.int v5, .ref 131]) (σ' := σ) rfl ?_
      obtain ⟨hi19, h⟩ := xgd_inv h
      refine xX_one (w := xw_37) (i := 76) (ls' := [.ref 129, .int p1, .null, .ref 8, .int v4, .int v5]) (st' := [.int (σ 131 v5.toNatClampNeg)]) (σ' := σ) eT_37 rfl (e_iald xs_131 hi19) ?_
      refine xX_blk (w := xw_37) eT_37 3 77 (ls' := [.ref 129, .int p1, .null, .ref 8, .int v4, .int v5]) (st' := [.int v5, .ref 10, .int (σ 131 v5.toNatClampNeg)]) (σ' := σ) rfl ?_
      obtain ⟨hi20, h⟩ := xgd_inv h
      refine xX_one (w := xw_37) (i := 80) (ls' := [.ref 129, .int p1, .null, .ref 8, .int v4, .int v5]) (st' := [.int (σ 10 v5.toNatClampNeg), .int (σ 131 v5.toNatClampNeg)]) (σ' := σ) eT_37 rfl (e_iald xs_10 hi20) ?_
      refine xX_ite (c := (σ 131 v5.toNatClampNeg) ≤ (σ 10 v5.toNatClampNeg)) (w := xw_37) (i := 81) (a := 88) (b := 82) (st' := []) eT_37 rfl rfl (fun hc21 => ?_) (fun hc21 => ?_)
      · rw [if_pos hc21] at h
        refine xX_blk (w := xw_37) eT_37 1 88 (ls' := [.ref 129, .int p1, .null, .ref 8, .int v4, .int (v5 + 1)]) (st' := []) (σ' := σ) rfl ?_
        refine xX_jmp (w := xw_37) (i := 89) (a := 64) (st' := []) eT_37 rfl rfl ?_
        obtain rfl := Option.some.inj h
        exact hB (v4, (v5 + 1)) rfl _
      · rw [if_neg hc21] at h
        refine xX_blk (w := xw_37) eT_37 7 82 (ls' := [.ref 129, .int p1, .null, .ref 8, .int (v4 ||| ((1 : Int32) <<< (v5 &&& 31))), .int (v5 + 1)]) (st' := []) (σ' := σ) rfl ?_
        refine xX_jmp (w := xw_37) (i := 89) (a := 64) (st' := []) eT_37 rfl rfl ?_
        obtain rfl := Option.some.inj h
        exact hB ((v4 ||| ((1 : Int32) <<< (v5 &&& 31))), (v5 + 1)) rfl _
set_option maxHeartbeats 1000000 in
set_option maxRecDepth 20000 in
theorem TL_X4_look_11_60 {d : Nat} {o : Option Value × xM} (p1 : Int32) (v4 : Int32) (v5 : Int32) (σ : xM) {e : (Int32)} (hd : 2 ≤ d) (h : L_X4_look_11_60 p1 v4 v5 σ = some e) (hE : ∀ (z0 z1 z2 z3 z5 : Value), xX xT xLn d 37 90 [z0, z1, z2, z3, .int e, z5] [] σ o) (z2 : Value) : xX xT xLn d 37 64 [.ref 129, .int p1, z2, .ref 8, .int v4, .int v5] [] σ o :=
  xloop_snd (X := fun s => ∀ (z2 : Value), xX xT xLn d 37 64 [.ref 129, .int p1, z2, .ref 8, .int s.1, .int s.2] [] σ o) (Y := fun e' => ∀ (z0 z1 z2 z3 z5 : Value), xX xT xLn d 37 90 [z0, z1, z2, z3, .int e', z5] [] σ o) (fun s q hs hB hE z2 => TB_X4_look_11_60 p1 s.1 s.2 σ hd hs hB hE z2) _ _ _ h hE z2
def F_X4_look_11 (a : Int32) (σ : xM) : Option (Int32 × xM) :=
  xbd (L_X4_look_11_6 a 0 σ) fun e4 =>
  xbd (L_X4_look_11_19 a 0 e4) fun e14 =>
  xbd (F_X4_addCarried e14) fun r15 =>
  xbd (L_X4_look_11_60 a 0 0 r15) fun e22 =>
  some (e22, r15)
set_option maxHeartbeats 1000000 in
set_option maxRecDepth 20000 in
theorem T_X4_look_11 (a : Int32) (σ : xM) {d : Nat} {q : Int32 × xM} (hd : 2 ≤ d) (h : F_X4_look_11 a σ = some q) : xR xT xLn d 37 [.ref 129, .int a, .ref 11] σ (some (.int q.1), q.2) := by
  unfold F_X4_look_11 at h
  show xX xT xLn d 37 0 [.ref 129, .int a, .ref 11, .null, .null, .null] [] σ _
  refine xX_blk (w := xw_37) eT_37 6 0 (ls' := [.ref 129, .int a, .ref 11, .ref 8, .int 0, .null]) (st' := []) (σ' := σ) rfl ?_
  obtain ⟨e4, he4, h⟩ := xbd_inv h
  refine TL_X4_look_11_6 a 0 σ (by omega) he4 (fun z4 z5 => ?_) _
  refine xX_blk (w := xw_37) eT_37 3 18 (ls' := [.ref 129, .int a, .ref 11, .ref 8, .int 0, .null]) (st' := []) (σ' := e4) rfl ?_
  obtain ⟨e14, he14, h⟩ := xbd_inv h
  refine TL_X4_look_11_19 a 0 e4 (by omega) he14 (fun z2 z4 z5 => ?_) _
  refine xX_blk (w := xw_37) eT_37 2 57 (ls' := [.ref 129, .int a, .null, .ref 8, .null, .null]) (st' := [.ref 129]) (σ' := e14) rfl ?_
  obtain ⟨r15, hr15, h⟩ := xbd_inv h
  refine xX_c0 (w := xw_37) (i := 59) (ls := [.ref 129, .int a, .null, .ref 8, .null, .null]) (rest := []) eT_37 rfl (by omega) rfl rfl rfl (T_X4_addCarried e14 (by omega) hr15) ?_
  refine xX_blk (w := xw_37) eT_37 4 60 (ls' := [.ref 129, .int a, .null, .ref 8, .int 0, .int 0]) (st' := []) (σ' := r15) rfl ?_
  obtain ⟨e22, he22, h⟩ := xbd_inv h
  refine TL_X4_look_11_60 a 0 0 r15 (by omega) he22 (fun z0 z1 z2 z3 z5 => ?_) _
  refine xX_blk (w := xw_37) eT_37 2 90 (ls' := [.null, .null, .null, .null, .int e22, .null]) (st' := [.int e22]) (σ' := r15) rfl ?_
  obtain rfl := Option.some.inj h
  exact xX_ret (w := xw_37) (i := 92) eT_37 rfl rfl
def F_X4_lookAtPresent (σ : xM) : Option (Int32 × xM) :=
  xbd (F_X8_notOff σ) fun r1 =>
  xbd (F_X4_look_11 r1 σ) fun r2 =>
  some (r2.1, r2.2)
set_option maxHeartbeats 1000000 in
set_option maxRecDepth 20000 in
theorem T_X4_lookAtPresent (σ : xM) {d : Nat} {q : Int32 × xM} (hd : 3 ≤ d) (h : F_X4_lookAtPresent σ = some q) : xR xT xLn d 36 [.ref 129] σ (some (.int q.1), q.2) := by
  unfold F_X4_lookAtPresent at h
  show xX xT xLn d 36 0 [.ref 129] [] σ _
  refine xX_blk (w := xw_36) eT_36 4 0 (ls' := [.ref 129]) (st' := [.ref 8, .ref 129]) (σ' := σ) rfl ?_
  obtain ⟨r1, hr1, h⟩ := xbd_inv h
  refine xX_c1 (w := xw_36) (i := 4) (ls := [.ref 129]) (rest := [.ref 129]) eT_36 rfl (by omega) rfl rfl rfl (T_X8_notOff σ (by omega) hr1) ?_
  refine xX_blk (w := xw_36) eT_36 4 5 (ls' := [.ref 129]) (st' := [.ref 11, .int r1, .ref 129]) (σ' := σ) rfl ?_
  obtain ⟨r2, hr2, h⟩ := xbd_inv h
  refine xX_c1 (w := xw_36) (i := 9) (ls := [.ref 129]) (rest := []) eT_36 rfl (by omega) rfl rfl rfl (T_X4_look_11 r1 σ (by omega) hr2) ?_
  obtain rfl := Option.some.inj h
  exact xX_ret (w := xw_36) (i := 10) eT_36 rfl rfl
def B_X4_caughtBy_4 (p1 : Int32) (v2 : Int32) (v3 : Int32) (σ : xM) : Option ((Int32 × Int32) ⊕ ((Int32))) :=
  if (σ 2 0) ≤ v3 then
    some (.inr v2)
  else
    xgd (xin v3 8) (
    if (σ 130 v3.toNatClampNeg) = p1 then
      some (.inl ((v2 ||| ((1 : Int32) <<< (v3 &&& 31))), (v3 + 1)))
    else
      some (.inl (v2, (v3 + 1))))
def L_X4_caughtBy_4 (p1 : Int32) (v2 : Int32) (v3 : Int32) (σ : xM) : Option ((Int32)) := xloop (fun s : Int32 × Int32 => B_X4_caughtBy_4 p1 s.1 s.2 σ) 6000 (v2, v3)
set_option maxHeartbeats 1000000 in
set_option maxRecDepth 20000 in
theorem TB_X4_caughtBy_4 {d : Nat} {o : Option Value × xM} (p1 : Int32) (v2 : Int32) (v3 : Int32) (σ : xM) {q : (Int32 × Int32) ⊕ ((Int32))} (hd : 0 ≤ d) (h : B_X4_caughtBy_4 p1 v2 v3 σ = some q) (hB : ∀ s', q = .inl s' → xX xT xLn d 44 4 [.ref 129, .int p1, .int s'.1, .int s'.2] [] σ o) (hE : ∀ e', q = .inr e' → ∀ (z0 z1 z3 : Value), xX xT xLn d 44 25 [z0, z1, .int e', z3] [] σ o) : xX xT xLn d 44 4 [.ref 129, .int p1, .int v2, .int v3] [] σ o := by
  unfold B_X4_caughtBy_4 at h
  refine xX_blk (w := xw_44) eT_44 6 4 (ls' := [.ref 129, .int p1, .int v2, .int v3]) (st' := [.int (σ 2 0), .int v3]) (σ' := σ) rfl ?_
  refine xX_ite (c := (σ 2 0) ≤ v3) (w := xw_44) (i := 10) (a := 25) (b := 11) (st' := []) eT_44 rfl rfl (fun hc1 => ?_) (fun hc1 => ?_)
  · rw [if_pos hc1] at h
    obtain rfl := Option.some.inj h
    exact hE v2 rfl _ _ _
  · rw [if_neg hc1] at h
    refine xX_blk (w := xw_44) eT_44 3 11 (ls' := [.ref 129, .int p1, .int v2, .int v3]) (st' := [.int v3, .ref 130]) (σ' := σ) rfl ?_
    obtain ⟨hi2, h⟩ := xgd_inv h
    refine xX_one (w := xw_44) (i := 14) (ls' := [.ref 129, .int p1, .int v2, .int v3]) (st' := [.int (σ 130 v3.toNatClampNeg)]) (σ' := σ) eT_44 rfl (e_iald xs_130 hi2) ?_
    refine xX_blk (w := xw_44) eT_44 1 15 (ls' := [.ref 129, .int p1, .int v2, .int v3]) (st' := [.int p1, .int (σ 130 v3.toNatClampNeg)]) (σ' := σ) rfl ?_
    refine xX_ite (c := (σ 130 v3.toNatClampNeg) = p1) (w := xw_44) (i := 16) (a := 17) (b := 23) (st' := []) eT_44 rfl rfl (fun hc3 => ?_) (fun hc3 => ?_)
    · rw [if_pos hc3] at h
      refine xX_blk (w := xw_44) eT_44 7 17 (ls' := [.ref 129, .int p1, .int (v2 ||| ((1 : Int32) <<< (v3 &&& 31))), .int (v3 + 1)]) (st' := []) (σ' := σ) rfl ?_
      refine xX_jmp (w := xw_44) (i := 24) (a := 4) (st' := []) eT_44 rfl rfl ?_
      obtain rfl := Option.some.inj h
      exact hB ((v2 ||| ((1 : Int32) <<< (v3 &&& 31))), (v3 + 1)) rfl
    · rw [if_neg hc3] at h
      refine xX_blk (w := xw_44) eT_44 1 23 (ls' := [.ref 129, .int p1, .int v2, .int (v3 + 1)]) (st' := []) (σ' := σ) rfl ?_
      refine xX_jmp (w := xw_44) (i := 24) (a := 4) (st' := []) eT_44 rfl rfl ?_
      obtain rfl := Option.some.inj h
      exact hB (v2, (v3 + 1)) rfl
set_option maxHeartbeats 1000000 in
set_option maxRecDepth 20000 in
theorem TL_X4_caughtBy_4 {d : Nat} {o : Option Value × xM} (p1 : Int32) (v2 : Int32) (v3 : Int32) (σ : xM) {e : (Int32)} (hd : 0 ≤ d) (h : L_X4_caughtBy_4 p1 v2 v3 σ = some e) (hE : ∀ (z0 z1 z3 : Value), xX xT xLn d 44 25 [z0, z1, .int e, z3] [] σ o) : xX xT xLn d 44 4 [.ref 129, .int p1, .int v2, .int v3] [] σ o :=
  xloop_snd (X := fun s => xX xT xLn d 44 4 [.ref 129, .int p1, .int s.1, .int s.2] [] σ o) (Y := fun e' => ∀ (z0 z1 z3 : Value), xX xT xLn d 44 25 [z0, z1, .int e', z3] [] σ o) (fun s q hs hB hE => TB_X4_caughtBy_4 p1 s.1 s.2 σ hd hs hB hE) _ _ _ h hE
def F_X4_caughtBy (a : Int32) (σ : xM) : Option (Int32) :=
  xbd (L_X4_caughtBy_4 a 0 0 σ) fun e4 =>
  some e4
set_option maxHeartbeats 1000000 in
set_option maxRecDepth 20000 in
theorem T_X4_caughtBy (a : Int32) (σ : xM) {d : Nat} {q : Int32} (hd : 0 ≤ d) (h : F_X4_caughtBy a σ = some q) : xR xT xLn d 44 [.ref 129, .int a] σ (some (.int q), σ) := by
  unfold F_X4_caughtBy at h
  show xX xT xLn d 44 0 [.ref 129, .int a, .null, .null] [] σ _
  refine xX_blk (w := xw_44) eT_44 4 0 (ls' := [.ref 129, .int a, .int 0, .int 0]) (st' := []) (σ' := σ) rfl ?_
  obtain ⟨e4, he4, h⟩ := xbd_inv h
  refine TL_X4_caughtBy_4 a 0 0 σ (by omega) he4 (fun z0 z1 z3 => ?_)
  refine xX_blk (w := xw_44) eT_44 2 25 (ls' := [.null, .null, .int e4, .null]) (st' := [.int e4]) (σ' := σ) rfl ?_
  obtain rfl := Option.some.inj h
  exact xX_ret (w := xw_44) (i := 27) eT_44 rfl rfl
def B_X7_countAtSite_4 (p1 : Int32) (v2 : Int32) (v3 : Int32) (σ : xM) : Option ((Int32 × Int32) ⊕ ((Int32))) :=
  if (σ 14 0) ≤ v3 then
    some (.inr v2)
  else
    xgd (xin v3 12) (
    if (σ 16 v3.toNatClampNeg) = p1 then
      some (.inl ((v2 + 1), (v3 + 1)))
    else
      some (.inl (v2, (v3 + 1))))
def L_X7_countAtSite_4 (p1 : Int32) (v2 : Int32) (v3 : Int32) (σ : xM) : Option ((Int32)) := xloop (fun s : Int32 × Int32 => B_X7_countAtSite_4 p1 s.1 s.2 σ) 6000 (v2, v3)
set_option maxHeartbeats 1000000 in
set_option maxRecDepth 20000 in
theorem TB_X7_countAtSite_4 {d : Nat} {o : Option Value × xM} (p1 : Int32) (v2 : Int32) (v3 : Int32) (σ : xM) {q : (Int32 × Int32) ⊕ ((Int32))} (hd : 0 ≤ d) (h : B_X7_countAtSite_4 p1 v2 v3 σ = some q) (hB : ∀ s', q = .inl s' → xX xT xLn d 66 4 [.ref 14, .int p1, .int s'.1, .int s'.2] [] σ o) (hE : ∀ e', q = .inr e' → ∀ (z0 z1 z3 : Value), xX xT xLn d 66 18 [z0, z1, .int e', z3] [] σ o) : xX xT xLn d 66 4 [.ref 14, .int p1, .int v2, .int v3] [] σ o := by
  unfold B_X7_countAtSite_4 at h
  refine xX_blk (w := xw_66) eT_66 4 4 (ls' := [.ref 14, .int p1, .int v2, .int v3]) (st' := [.int (σ 14 0), .int v3]) (σ' := σ) rfl ?_
  refine xX_ite (c := (σ 14 0) ≤ v3) (w := xw_66) (i := 8) (a := 18) (b := 9) (st' := []) eT_66 rfl rfl (fun hc1 => ?_) (fun hc1 => ?_)
  · rw [if_pos hc1] at h
    obtain rfl := Option.some.inj h
    exact hE v2 rfl _ _ _
  · rw [if_neg hc1] at h
    refine xX_blk (w := xw_66) eT_66 3 9 (ls' := [.ref 14, .int p1, .int v2, .int v3]) (st' := [.int v3, .ref 16]) (σ' := σ) rfl ?_
    obtain ⟨hi2, h⟩ := xgd_inv h
    refine xX_one (w := xw_66) (i := 12) (ls' := [.ref 14, .int p1, .int v2, .int v3]) (st' := [.int (σ 16 v3.toNatClampNeg)]) (σ' := σ) eT_66 rfl (e_iald xs_16 hi2) ?_
    refine xX_blk (w := xw_66) eT_66 1 13 (ls' := [.ref 14, .int p1, .int v2, .int v3]) (st' := [.int p1, .int (σ 16 v3.toNatClampNeg)]) (σ' := σ) rfl ?_
    refine xX_ite (c := (σ 16 v3.toNatClampNeg) = p1) (w := xw_66) (i := 14) (a := 15) (b := 16) (st' := []) eT_66 rfl rfl (fun hc3 => ?_) (fun hc3 => ?_)
    · rw [if_pos hc3] at h
      refine xX_blk (w := xw_66) eT_66 2 15 (ls' := [.ref 14, .int p1, .int (v2 + 1), .int (v3 + 1)]) (st' := []) (σ' := σ) rfl ?_
      refine xX_jmp (w := xw_66) (i := 17) (a := 4) (st' := []) eT_66 rfl rfl ?_
      obtain rfl := Option.some.inj h
      exact hB ((v2 + 1), (v3 + 1)) rfl
    · rw [if_neg hc3] at h
      refine xX_blk (w := xw_66) eT_66 1 16 (ls' := [.ref 14, .int p1, .int v2, .int (v3 + 1)]) (st' := []) (σ' := σ) rfl ?_
      refine xX_jmp (w := xw_66) (i := 17) (a := 4) (st' := []) eT_66 rfl rfl ?_
      obtain rfl := Option.some.inj h
      exact hB (v2, (v3 + 1)) rfl
set_option maxHeartbeats 1000000 in
set_option maxRecDepth 20000 in
theorem TL_X7_countAtSite_4 {d : Nat} {o : Option Value × xM} (p1 : Int32) (v2 : Int32) (v3 : Int32) (σ : xM) {e : (Int32)} (hd : 0 ≤ d) (h : L_X7_countAtSite_4 p1 v2 v3 σ = some e) (hE : ∀ (z0 z1 z3 : Value), xX xT xLn d 66 18 [z0, z1, .int e, z3] [] σ o) : xX xT xLn d 66 4 [.ref 14, .int p1, .int v2, .int v3] [] σ o :=
  xloop_snd (X := fun s => xX xT xLn d 66 4 [.ref 14, .int p1, .int s.1, .int s.2] [] σ o) (Y := fun e' => ∀ (z0 z1 z3 : Value), xX xT xLn d 66 18 [z0, z1, .int e', z3] [] σ o) (fun s q hs hB hE => TB_X7_countAtSite_4 p1 s.1 s.2 σ hd hs hB hE) _ _ _ h hE
def F_X7_countAtSite (a : Int32) (σ : xM) : Option (Int32) :=
  xbd (L_X7_countAtSite_4 a 0 0 σ) fun e4 =>
  some e4
set_option maxHeartbeats 1000000 in
set_option maxRecDepth 20000 in
theorem T_X7_countAtSite (a : Int32) (σ : xM) {d : Nat} {q : Int32} (hd : 0 ≤ d) (h : F_X7_countAtSite a σ = some q) : xR xT xLn d 66 [.ref 14, .int a] σ (some (.int q), σ) := by
  unfold F_X7_countAtSite at h
  show xX xT xLn d 66 0 [.ref 14, .int a, .null, .null] [] σ _
  refine xX_blk (w := xw_66) eT_66 4 0 (ls' := [.ref 14, .int a, .int 0, .int 0]) (st' := []) (σ' := σ) rfl ?_
  obtain ⟨e4, he4, h⟩ := xbd_inv h
  refine TL_X7_countAtSite_4 a 0 0 σ (by omega) he4 (fun z0 z1 z3 => ?_)
  refine xX_blk (w := xw_66) eT_66 2 18 (ls' := [.null, .null, .int e4, .null]) (st' := [.int e4]) (σ' := σ) rfl ?_
  obtain rfl := Option.some.inj h
  exact xX_ret (w := xw_66) (i := 20) eT_66 rfl rfl
def B_X8_placeInQueue_2 (p1 : Int32) (v2 : Int32) (σ : xM) : Option ((Int32) ⊕ ((Int32) ⊕ (Unit))) :=
  if (σ 8 1) ≤ v2 then
    some (.inr (.inr ()))
  else
    xgd (xin v2 5) (
    if (σ 13 v2.toNatClampNeg) = p1 then
      some (.inr (.inl v2))
    else
      some (.inl (v2 + 1)))
def L_X8_placeInQueue_2 (p1 : Int32) (v2 : Int32) (σ : xM) : Option ((Int32) ⊕ (Unit)) := xloop (fun s : Int32 => B_X8_placeInQueue_2 p1 s σ) 6000 v2
set_option maxHeartbeats 1000000 in
set_option maxRecDepth 20000 in
theorem TB_X8_placeInQueue_2 {d : Nat} {o : Option Value × xM} (p1 : Int32) (v2 : Int32) (σ : xM) {q : (Int32) ⊕ ((Int32) ⊕ (Unit))} (hd : 0 ≤ d) (h : B_X8_placeInQueue_2 p1 v2 σ = some q) (hB : ∀ s', q = .inl s' → xX xT xLn d 71 2 [.ref 8, .int p1, .int s'] [] σ o) (hE : ∀ e', q = .inr e' → (∀ a, e' = .inl a → ∀ (z0 z1 : Value), xX xT xLn d 71 13 [z0, z1, .int a] [] σ o) ∧ (∀ a, e' = .inr (a) → ∀ (z0 z1 z2 : Value), xX xT xLn d 71 18 [z0, z1, z2] [] σ o)) : xX xT xLn d 71 2 [.ref 8, .int p1, .int v2] [] σ o := by
  unfold B_X8_placeInQueue_2 at h
  refine xX_blk (w := xw_71) eT_71 4 2 (ls' := [.ref 8, .int p1, .int v2]) (st' := [.int (σ 8 1), .int v2]) (σ' := σ) rfl ?_
  refine xX_ite (c := (σ 8 1) ≤ v2) (w := xw_71) (i := 6) (a := 18) (b := 7) (st' := []) eT_71 rfl rfl (fun hc1 => ?_) (fun hc1 => ?_)
  · rw [if_pos hc1] at h
    obtain rfl := Option.some.inj h
    exact (hE (.inr ()) rfl).2 () rfl _ _ _
  · rw [if_neg hc1] at h
    refine xX_blk (w := xw_71) eT_71 3 7 (ls' := [.ref 8, .int p1, .int v2]) (st' := [.int v2, .ref 13]) (σ' := σ) rfl ?_
    obtain ⟨hi2, h⟩ := xgd_inv h
    refine xX_one (w := xw_71) (i := 10) (ls' := [.ref 8, .int p1, .int v2]) (st' := [.int (σ 13 v2.toNatClampNeg)]) (σ' := σ) eT_71 rfl (e_iald xs_13 hi2) ?_
    refine xX_blk (w := xw_71) eT_71 1 11 (ls' := [.ref 8, .int p1, .int v2]) (st' := [.int p1, .int (σ 13 v2.toNatClampNeg)]) (σ' := σ) rfl ?_
    refine xX_ite (c := (σ 13 v2.toNatClampNeg) = p1) (w := xw_71) (i := 12) (a := 13) (b := 16) (st' := []) eT_71 rfl rfl (fun hc3 => ?_) (fun hc3 => ?_)
    · rw [if_pos hc3] at h
      obtain rfl := Option.some.inj h
      exact (hE (.inl v2) rfl).1 v2 rfl _ _
    · rw [if_neg hc3] at h
      refine xX_blk (w := xw_71) eT_71 1 16 (ls' := [.ref 8, .int p1, .int (v2 + 1)]) (st' := []) (σ' := σ) rfl ?_
      refine xX_jmp (w := xw_71) (i := 17) (a := 2) (st' := []) eT_71 rfl rfl ?_
      obtain rfl := Option.some.inj h
      exact hB (v2 + 1) rfl
set_option maxHeartbeats 1000000 in
set_option maxRecDepth 20000 in
theorem TL_X8_placeInQueue_2 {d : Nat} {o : Option Value × xM} (p1 : Int32) (v2 : Int32) (σ : xM) {e : (Int32) ⊕ (Unit)} (hd : 0 ≤ d) (h : L_X8_placeInQueue_2 p1 v2 σ = some e) (hE0 : ∀ a, e = .inl a → ∀ (z0 z1 : Value), xX xT xLn d 71 13 [z0, z1, .int a] [] σ o) (hE1 : ∀ a, e = .inr (a) → ∀ (z0 z1 z2 : Value), xX xT xLn d 71 18 [z0, z1, z2] [] σ o) : xX xT xLn d 71 2 [.ref 8, .int p1, .int v2] [] σ o :=
  xloop_snd (X := fun s => xX xT xLn d 71 2 [.ref 8, .int p1, .int s] [] σ o) (Y := fun e' => (∀ a, e' = .inl a → ∀ (z0 z1 : Value), xX xT xLn d 71 13 [z0, z1, .int a] [] σ o) ∧ (∀ a, e' = .inr (a) → ∀ (z0 z1 z2 : Value), xX xT xLn d 71 18 [z0, z1, z2] [] σ o)) (fun s q hs hB hE => TB_X8_placeInQueue_2 p1 s σ hd hs hB hE) _ _ _ h ⟨hE0, hE1⟩
def F_X8_placeInQueue (a : Int32) (σ : xM) : Option (Int32) :=
  xbd (L_X8_placeInQueue_2 a 0 σ) fun e4 =>
  xsm e4 (fun ae40 =>
    some ae40)
  (fun ae41 =>
    some (-1))
set_option maxHeartbeats 1000000 in
set_option maxRecDepth 20000 in
theorem T_X8_placeInQueue (a : Int32) (σ : xM) {d : Nat} {q : Int32} (hd : 0 ≤ d) (h : F_X8_placeInQueue a σ = some q) : xR xT xLn d 71 [.ref 8, .int a] σ (some (.int q), σ) := by
  unfold F_X8_placeInQueue at h
  show xX xT xLn d 71 0 [.ref 8, .int a, .null] [] σ _
  refine xX_blk (w := xw_71) eT_71 2 0 (ls' := [.ref 8, .int a, .int 0]) (st' := []) (σ' := σ) rfl ?_
  obtain ⟨e4, he4, h⟩ := xbd_inv h
  refine TL_X8_placeInQueue_2 a 0 σ (by omega) he4 (fun ae40 hee40 z0 z1 => ?_) (fun ae41 hee41 z0 z1 z2 => ?_)
  · subst hee40
    rw [xsm_l] at h
    refine xX_blk (w := xw_71) eT_71 2 13 (ls' := [.null, .null, .int ae40]) (st' := [.int ae40]) (σ' := σ) rfl ?_
    obtain rfl := Option.some.inj h
    exact xX_ret (w := xw_71) (i := 15) eT_71 rfl rfl
  · subst hee41
    rw [xsm_r] at h
    refine xX_blk (w := xw_71) eT_71 2 18 (ls' := [.null, .null, .null]) (st' := [.int (-1)]) (σ' := σ) rfl ?_
    obtain rfl := Option.some.inj h
    exact xX_ret (w := xw_71) (i := 20) eT_71 rfl rfl
def F_X2_staysCalm (a : Int32) (σ : xM) : Option (Int32 × xM) :=
  xbd (F_X8_notOff σ) fun r1 =>
  xbd (F_X4_look_11 (r1 &&& (a ^^^ (-1))) σ) fun r2 =>
  if r2.1 = 0 then
    some (1, r2.2)
  else
    some (0, r2.2)
set_option maxHeartbeats 1000000 in
set_option maxRecDepth 20000 in
theorem T_X2_staysCalm (a : Int32) (σ : xM) {d : Nat} {q : Int32 × xM} (hd : 3 ≤ d) (h : F_X2_staysCalm a σ = some q) : xR xT xLn d 27 [.ref 134, .int a] σ (some (.int q.1), q.2) := by
  unfold F_X2_staysCalm at h
  show xX xT xLn d 27 0 [.ref 134, .int a] [] σ _
  refine xX_blk (w := xw_27) eT_27 5 0 (ls' := [.ref 134, .int a]) (st' := [.ref 8, .ref 129]) (σ' := σ) rfl ?_
  obtain ⟨r1, hr1, h⟩ := xbd_inv h
  refine xX_c1 (w := xw_27) (i := 5) (ls := [.ref 134, .int a]) (rest := [.ref 129]) eT_27 rfl (by omega) rfl rfl rfl (T_X8_notOff σ (by omega) hr1) ?_
  refine xX_blk (w := xw_27) eT_27 8 6 (ls' := [.ref 134, .int a]) (st' := [.ref 11, .int (r1 &&& (a ^^^ (-1))), .ref 129]) (σ' := σ) rfl ?_
  obtain ⟨r2, hr2, h⟩ := xbd_inv h
  refine xX_c1 (w := xw_27) (i := 14) (ls := [.ref 134, .int a]) (rest := []) eT_27 rfl (by omega) rfl rfl rfl (T_X4_look_11 (r1 &&& (a ^^^ (-1))) σ (by omega) hr2) ?_
  refine xX_ite (c := r2.1 = 0) (w := xw_27) (i := 15) (a := 16) (b := 18) (st' := []) eT_27 rfl rfl (fun hc3 => ?_) (fun hc3 => ?_)
  · rw [if_pos hc3] at h
    refine xX_blk (w := xw_27) eT_27 1 16 (ls' := [.ref 134, .int a]) (st' := [.int 1]) (σ' := r2.2) rfl ?_
    refine xX_jmp (w := xw_27) (i := 17) (a := 19) (st' := [.int 1]) eT_27 rfl rfl ?_
    obtain rfl := Option.some.inj h
    exact xX_ret (w := xw_27) (i := 19) eT_27 rfl (e_ret2 (by decide))
  · rw [if_neg hc3] at h
    refine xX_blk (w := xw_27) eT_27 1 18 (ls' := [.ref 134, .int a]) (st' := [.int 0]) (σ' := r2.2) rfl ?_
    obtain rfl := Option.some.inj h
    exact xX_ret (w := xw_27) (i := 19) eT_27 rfl (e_ret2 (by decide))
def F_X2_isSafeToGo (a : Int32) (σ : xM) : Option (Int32 × xM) :=
  xgd (xin a 5) (
  if (σ 12 a.toNatClampNeg) = 2 then
    some (0, σ)
  else
    xbd (F_X2_staysCalm ((1 : Int32) <<< (a &&& 31)) σ) fun r3 =>
    if r3.1 = 0 then
      some (0, r3.2)
    else
      some (1, r3.2))
set_option maxHeartbeats 1000000 in
set_option maxRecDepth 20000 in
theorem T_X2_isSafeToGo (a : Int32) (σ : xM) {d : Nat} {q : Int32 × xM} (hd : 4 ≤ d) (h : F_X2_isSafeToGo a σ = some q) : xR xT xLn d 26 [.ref 134, .int a] σ (some (.int q.1), q.2) := by
  unfold F_X2_isSafeToGo at h
  show xX xT xLn d 26 0 [.ref 134, .int a] [] σ _
  refine xX_blk (w := xw_26) eT_26 5 0 (ls' := [.ref 134, .int a]) (st' := [.int a, .ref 12]) (σ' := σ) rfl ?_
  obtain ⟨hi1, h⟩ := xgd_inv h
  refine xX_one (w := xw_26) (i := 5) (ls' := [.ref 134, .int a]) (st' := [.int (σ 12 a.toNatClampNeg)]) (σ' := σ) eT_26 rfl (e_iald xs_12 hi1) ?_
  refine xX_blk (w := xw_26) eT_26 1 6 (ls' := [.ref 134, .int a]) (st' := [.int 2, .int (σ 12 a.toNatClampNeg)]) (σ' := σ) rfl ?_
  refine xX_ite (c := (σ 12 a.toNatClampNeg) = 2) (w := xw_26) (i := 7) (a := 16) (b := 8) (st' := []) eT_26 rfl rfl (fun hc2 => ?_) (fun hc2 => ?_)
  · rw [if_pos hc2] at h
    refine xX_blk (w := xw_26) eT_26 1 16 (ls' := [.ref 134, .int a]) (st' := [.int 0]) (σ' := σ) rfl ?_
    obtain rfl := Option.some.inj h
    exact xX_ret (w := xw_26) (i := 17) eT_26 rfl (e_ret2 (by decide))
  · rw [if_neg hc2] at h
    refine xX_blk (w := xw_26) eT_26 4 8 (ls' := [.ref 134, .int a]) (st' := [.int ((1 : Int32) <<< (a &&& 31)), .ref 134]) (σ' := σ) rfl ?_
    obtain ⟨r3, hr3, h⟩ := xbd_inv h
    refine xX_c1 (w := xw_26) (i := 12) (ls := [.ref 134, .int a]) (rest := []) eT_26 rfl (by omega) rfl rfl rfl (T_X2_staysCalm ((1 : Int32) <<< (a &&& 31)) σ (by omega) hr3) ?_
    refine xX_ite (c := r3.1 = 0) (w := xw_26) (i := 13) (a := 16) (b := 14) (st' := []) eT_26 rfl rfl (fun hc4 => ?_) (fun hc4 => ?_)
    · rw [if_pos hc4] at h
      refine xX_blk (w := xw_26) eT_26 1 16 (ls' := [.ref 134, .int a]) (st' := [.int 0]) (σ' := r3.2) rfl ?_
      obtain rfl := Option.some.inj h
      exact xX_ret (w := xw_26) (i := 17) eT_26 rfl (e_ret2 (by decide))
    · rw [if_neg hc4] at h
      refine xX_blk (w := xw_26) eT_26 1 14 (ls' := [.ref 134, .int a]) (st' := [.int 1]) (σ' := r3.2) rfl ?_
      refine xX_jmp (w := xw_26) (i := 15) (a := 17) (st' := [.int 1]) eT_26 rfl rfl ?_
      obtain rfl := Option.some.inj h
      exact xX_ret (w := xw_26) (i := 17) eT_26 rfl (e_ret2 (by decide))
def F_X10_siteValue (a : Int32) (b : Int32) (σ : xM) : Option (Int32 × xM) :=
  if b = 0 then
    xgd (xin a 5) (
    some ((σ 9 a.toNatClampNeg), σ))
  else if b = 1 then
    xgd (xin a 5) (
    some ((σ 10 a.toNatClampNeg), σ))
  else if b = 2 then
    xgd (xin a 5) (
    some ((σ 11 a.toNatClampNeg), σ))
  else if b = 3 then
    xgd (xin a 5) (
    some ((σ 12 a.toNatClampNeg), σ))
  else if b = 4 then
    xbd (F_X4_lookAtPresent σ) fun r10 =>
    xgd (xin a 5) (
    some ((r10.2 131 a.toNatClampNeg), r10.2))
  else if b = 5 then
    xbd (F_X4_lookAtPresent σ) fun r13 =>
    some (((r13.1 >>> (a &&& 31)) &&& 1), r13.2)
  else if b = 6 then
    xbd (F_X4_lookAtPresent σ) fun r15 =>
    xbd (F_X4_caughtBy a r15.2) fun r16 =>
    some (r16, r15.2)
  else if b = 7 then
    xbd (F_X7_countAtSite a σ) fun r18 =>
    some (r18, σ)
  else if b = 8 then
    xbd (F_X8_placeInQueue a σ) fun r20 =>
    some (r20, σ)
  else 
  xbd (F_X2_isSafeToGo a σ) fun r21 =>
  if r21.1 = 0 then
    some (0, r21.2)
  else
    some (1, r21.2)
set_option maxHeartbeats 1000000 in
set_option maxRecDepth 20000 in
theorem T_X10_siteValue (a : Int32) (b : Int32) (σ : xM) {d : Nat} {q : Int32 × xM} (hd : 5 ≤ d) (h : F_X10_siteValue a b σ = some q) : xR xT xLn d 108 [.ref 0, .int a, .int b] σ (some (.int q.1), q.2) := by
  unfold F_X10_siteValue at h
  show xX xT xLn d 108 0 [.ref 0, .int a, .int b] [] σ _
  refine xX_blk (w := xw_108) eT_108 1 0 (ls' := [.ref 0, .int a, .int b]) (st' := [.int b]) (σ' := σ) rfl ?_
  by_cases hc1 : b = 0
  · rw [if_pos hc1] at h
    refine xX_jmp (w := xw_108) (i := 1) (a := 2) (st' := []) eT_108 rfl (e_tsw (by rw [hc1]; decide)) ?_
    refine xX_blk (w := xw_108) eT_108 5 2 (ls' := [.ref 0, .int a, .int b]) (st' := [.int a, .ref 9]) (σ' := σ) rfl ?_
    obtain ⟨hi2, h⟩ := xgd_inv h
    refine xX_one (w := xw_108) (i := 7) (ls' := [.ref 0, .int a, .int b]) (st' := [.int (σ 9 a.toNatClampNeg)]) (σ' := σ) eT_108 rfl (e_iald xs_9 hi2) ?_
    obtain rfl := Option.some.inj h
    exact xX_ret (w := xw_108) (i := 8) eT_108 rfl rfl
  rw [if_neg hc1] at h
  by_cases hc3 : b = 1
  · rw [if_pos hc3] at h
    refine xX_jmp (w := xw_108) (i := 1) (a := 9) (st' := []) eT_108 rfl (e_tsw (by rw [hc3]; decide)) ?_
    refine xX_blk (w := xw_108) eT_108 5 9 (ls' := [.ref 0, .int a, .int b]) (st' := [.int a, .ref 10]) (σ' := σ) rfl ?_
    obtain ⟨hi4, h⟩ := xgd_inv h
    refine xX_one (w := xw_108) (i := 14) (ls' := [.ref 0, .int a, .int b]) (st' := [.int (σ 10 a.toNatClampNeg)]) (σ' := σ) eT_108 rfl (e_iald xs_10 hi4) ?_
    obtain rfl := Option.some.inj h
    exact xX_ret (w := xw_108) (i := 15) eT_108 rfl rfl
  rw [if_neg hc3] at h
  by_cases hc5 : b = 2
  · rw [if_pos hc5] at h
    refine xX_jmp (w := xw_108) (i := 1) (a := 16) (st' := []) eT_108 rfl (e_tsw (by rw [hc5]; decide)) ?_
    refine xX_blk (w := xw_108) eT_108 5 16 (ls' := [.ref 0, .int a, .int b]) (st' := [.int a, .ref 11]) (σ' := σ) rfl ?_
    obtain ⟨hi6, h⟩ := xgd_inv h
    refine xX_one (w := xw_108) (i := 21) (ls' := [.ref 0, .int a, .int b]) (st' := [.int (σ 11 a.toNatClampNeg)]) (σ' := σ) eT_108 rfl (e_iald xs_11 hi6) ?_
    obtain rfl := Option.some.inj h
    exact xX_ret (w := xw_108) (i := 22) eT_108 rfl rfl
  rw [if_neg hc5] at h
  by_cases hc7 : b = 3
  · rw [if_pos hc7] at h
    refine xX_jmp (w := xw_108) (i := 1) (a := 23) (st' := []) eT_108 rfl (e_tsw (by rw [hc7]; decide)) ?_
    refine xX_blk (w := xw_108) eT_108 5 23 (ls' := [.ref 0, .int a, .int b]) (st' := [.int a, .ref 12]) (σ' := σ) rfl ?_
    obtain ⟨hi8, h⟩ := xgd_inv h
    refine xX_one (w := xw_108) (i := 28) (ls' := [.ref 0, .int a, .int b]) (st' := [.int (σ 12 a.toNatClampNeg)]) (σ' := σ) eT_108 rfl (e_iald xs_12 hi8) ?_
    obtain rfl := Option.some.inj h
    exact xX_ret (w := xw_108) (i := 29) eT_108 rfl rfl
  rw [if_neg hc7] at h
  by_cases hc9 : b = 4
  · rw [if_pos hc9] at h
    refine xX_jmp (w := xw_108) (i := 1) (a := 30) (st' := []) eT_108 rfl (e_tsw (by rw [hc9]; decide)) ?_
    refine xX_blk (w := xw_108) eT_108 2 30 (ls' := [.ref 0, .int a, .int b]) (st' := [.ref 129]) (σ' := σ) rfl ?_
    obtain ⟨r10, hr10, h⟩ := xbd_inv h
    refine xX_c1 (w := xw_108) (i := 32) (ls := [.ref 0, .int a, .int b]) (rest := []) eT_108 rfl (by omega) rfl rfl rfl (T_X4_lookAtPresent σ (by omega) hr10) ?_
    refine xX_blk (w := xw_108) eT_108 5 33 (ls' := [.ref 0, .int a, .int b]) (st' := [.int a, .ref 131]) (σ' := r10.2) rfl ?_
    obtain ⟨hi11, h⟩ := xgd_inv h
    refine xX_one (w := xw_108) (i := 38) (ls' := [.ref 0, .int a, .int b]) (st' := [.int (r10.2 131 a.toNatClampNeg)]) (σ' := r10.2) eT_108 rfl (e_iald xs_131 hi11) ?_
    obtain rfl := Option.some.inj h
    exact xX_ret (w := xw_108) (i := 39) eT_108 rfl rfl
  rw [if_neg hc9] at h
  by_cases hc12 : b = 5
  · rw [if_pos hc12] at h
    refine xX_jmp (w := xw_108) (i := 1) (a := 40) (st' := []) eT_108 rfl (e_tsw (by rw [hc12]; decide)) ?_
    refine xX_blk (w := xw_108) eT_108 2 40 (ls' := [.ref 0, .int a, .int b]) (st' := [.ref 129]) (σ' := σ) rfl ?_
    obtain ⟨r13, hr13, h⟩ := xbd_inv h
    refine xX_c1 (w := xw_108) (i := 42) (ls := [.ref 0, .int a, .int b]) (rest := []) eT_108 rfl (by omega) rfl rfl rfl (T_X4_lookAtPresent σ (by omega) hr13) ?_
    refine xX_blk (w := xw_108) eT_108 4 43 (ls' := [.ref 0, .int a, .int b]) (st' := [.int ((r13.1 >>> (a &&& 31)) &&& 1)]) (σ' := r13.2) rfl ?_
    obtain rfl := Option.some.inj h
    exact xX_ret (w := xw_108) (i := 47) eT_108 rfl rfl
  rw [if_neg hc12] at h
  by_cases hc14 : b = 6
  · rw [if_pos hc14] at h
    refine xX_jmp (w := xw_108) (i := 1) (a := 48) (st' := []) eT_108 rfl (e_tsw (by rw [hc14]; decide)) ?_
    refine xX_blk (w := xw_108) eT_108 2 48 (ls' := [.ref 0, .int a, .int b]) (st' := [.ref 129]) (σ' := σ) rfl ?_
    obtain ⟨r15, hr15, h⟩ := xbd_inv h
    refine xX_c1 (w := xw_108) (i := 50) (ls := [.ref 0, .int a, .int b]) (rest := []) eT_108 rfl (by omega) rfl rfl rfl (T_X4_lookAtPresent σ (by omega) hr15) ?_
    refine xX_blk (w := xw_108) eT_108 4 51 (ls' := [.ref 0, .int a, .int b]) (st' := [.int a, .ref 129]) (σ' := r15.2) rfl ?_
    obtain ⟨r16, hr16, h⟩ := xbd_inv h
    refine xX_c1 (w := xw_108) (i := 55) (ls := [.ref 0, .int a, .int b]) (rest := []) eT_108 rfl (by omega) rfl rfl rfl (T_X4_caughtBy a r15.2 (by omega) hr16) ?_
    obtain rfl := Option.some.inj h
    exact xX_ret (w := xw_108) (i := 56) eT_108 rfl rfl
  rw [if_neg hc14] at h
  by_cases hc17 : b = 7
  · rw [if_pos hc17] at h
    refine xX_jmp (w := xw_108) (i := 1) (a := 57) (st' := []) eT_108 rfl (e_tsw (by rw [hc17]; decide)) ?_
    refine xX_blk (w := xw_108) eT_108 4 57 (ls' := [.ref 0, .int a, .int b]) (st' := [.int a, .ref 14]) (σ' := σ) rfl ?_
    obtain ⟨r18, hr18, h⟩ := xbd_inv h
    refine xX_c1 (w := xw_108) (i := 61) (ls := [.ref 0, .int a, .int b]) (rest := []) eT_108 rfl (by omega) rfl rfl rfl (T_X7_countAtSite a σ (by omega) hr18) ?_
    obtain rfl := Option.some.inj h
    exact xX_ret (w := xw_108) (i := 62) eT_108 rfl rfl
  rw [if_neg hc17] at h
  by_cases hc19 : b = 8
  · rw [if_pos hc19] at h
    refine xX_jmp (w := xw_108) (i := 1) (a := 63) (st' := []) eT_108 rfl (e_tsw (by rw [hc19]; decide)) ?_
    refine xX_blk (w := xw_108) eT_108 4 63 (ls' := [.ref 0, .int a, .int b]) (st' := [.int a, .ref 8]) (σ' := σ) rfl ?_
    obtain ⟨r20, hr20, h⟩ := xbd_inv h
    refine xX_c1 (w := xw_108) (i := 67) (ls := [.ref 0, .int a, .int b]) (rest := []) eT_108 rfl (by omega) rfl rfl rfl (T_X8_placeInQueue a σ (by omega) hr20) ?_
    obtain rfl := Option.some.inj h
    exact xX_ret (w := xw_108) (i := 68) eT_108 rfl rfl
  rw [if_neg hc19] at h
  refine xX_jmp (w := xw_108) (i := 1) (a := 69) (st' := []) eT_108 rfl (e_tsw (e_tswd [0, 1, 2, 3, 4, 5, 6, 7, 8] (by decide) (List.forall_mem_cons.mpr ⟨hc1, List.forall_mem_cons.mpr ⟨hc3, List.forall_mem_cons.mpr ⟨hc5, List.forall_mem_cons.mpr ⟨hc7, List.forall_mem_cons.mpr ⟨hc9, List.forall_mem_cons.mpr ⟨hc12, List.forall_mem_cons.mpr ⟨hc14, List.forall_mem_cons.mpr ⟨hc17, List.forall_mem_cons.mpr ⟨hc19, fun _ h => absurd h List.not_mem_nil⟩⟩⟩⟩⟩⟩⟩⟩⟩))) ?_
  refine xX_blk (w := xw_108) eT_108 3 69 (ls' := [.ref 0, .int a, .int b]) (st' := [.int a, .ref 134]) (σ' := σ) rfl ?_
  obtain ⟨r21, hr21, h⟩ := xbd_inv h
  refine xX_c1 (w := xw_108) (i := 72) (ls := [.ref 0, .int a, .int b]) (rest := []) eT_108 rfl (by omega) rfl rfl rfl (T_X2_isSafeToGo a σ (by omega) hr21) ?_
  refine xX_ite (c := r21.1 = 0) (w := xw_108) (i := 73) (a := 76) (b := 74) (st' := []) eT_108 rfl rfl (fun hc22 => ?_) (fun hc22 => ?_)
  · rw [if_pos hc22] at h
    refine xX_blk (w := xw_108) eT_108 1 76 (ls' := [.ref 0, .int a, .int b]) (st' := [.int 0]) (σ' := r21.2) rfl ?_
    obtain rfl := Option.some.inj h
    exact xX_ret (w := xw_108) (i := 77) eT_108 rfl rfl
  · rw [if_neg hc22] at h
    refine xX_blk (w := xw_108) eT_108 1 74 (ls' := [.ref 0, .int a, .int b]) (st' := [.int 1]) (σ' := r21.2) rfl ?_
    refine xX_jmp (w := xw_108) (i := 75) (a := 77) (st' := [.int 1]) eT_108 rfl rfl ?_
    obtain rfl := Option.some.inj h
    exact xX_ret (w := xw_108) (i := 77) eT_108 rfl rfl
def F_X10_siteOf (a : Int32) (b : Int32) (σ : xM) : Option (Int32 × xM) :=
  xbd (F_X8_has a σ) fun r1 =>
  if r1 = 0 then
    xbd (F_X10_counted (-2) σ) fun r3 =>
    some (r3.1, r3.2)
  else
    xbd (F_X10_within b 0 9 σ) fun r4 =>
    if r4 = 0 then
      xbd (F_X10_counted (-2) σ) fun r6 =>
      some (r6.1, r6.2)
    else
      xbd (F_X10_siteValue a b σ) fun r7 =>
      some (r7.1, r7.2)
set_option maxHeartbeats 1000000 in
set_option maxRecDepth 20000 in
theorem T_X10_siteOf (a : Int32) (b : Int32) (σ : xM) {d : Nat} {q : Int32 × xM} (hd : 6 ≤ d) (h : F_X10_siteOf a b σ = some q) : xR xT xLn d 89 [.ref 0, .int a, .int b] σ (some (.int q.1), q.2) := by
  unfold F_X10_siteOf at h
  show xX xT xLn d 89 0 [.ref 0, .int a, .int b] [] σ _
  refine xX_blk (w := xw_89) eT_89 4 0 (ls' := [.ref 0, .int a, .int b]) (st' := [.int a, .ref 8]) (σ' := σ) rfl ?_
  obtain ⟨r1, hr1, h⟩ := xbd_inv h
  refine xX_c1 (w := xw_89) (i := 4) (ls := [.ref 0, .int a, .int b]) (rest := []) eT_89 rfl (by omega) rfl rfl rfl (T_X8_has a σ (by omega) hr1) ?_
  refine xX_ite (c := r1 = 0) (w := xw_89) (i := 5) (a := 11) (b := 6) (st' := []) eT_89 rfl rfl (fun hc2 => ?_) (fun hc2 => ?_)
  · rw [if_pos hc2] at h
    refine xX_blk (w := xw_89) eT_89 2 11 (ls' := [.ref 0, .int a, .int b]) (st' := [.int (-2), .ref 0]) (σ' := σ) rfl ?_
    obtain ⟨r3, hr3, h⟩ := xbd_inv h
    refine xX_c1 (w := xw_89) (i := 13) (ls := [.ref 0, .int a, .int b]) (rest := []) eT_89 rfl (by omega) rfl rfl rfl (T_X10_counted (-2) σ (by omega) hr3) ?_
    obtain rfl := Option.some.inj h
    exact xX_ret (w := xw_89) (i := 14) eT_89 rfl rfl
  · rw [if_neg hc2] at h
    refine xX_blk (w := xw_89) eT_89 3 6 (ls' := [.ref 0, .int a, .int b]) (st' := [.int 9, .int 0, .int b]) (σ' := σ) rfl ?_
    obtain ⟨r4, hr4, h⟩ := xbd_inv h
    refine xX_c1 (w := xw_89) (i := 9) (ls := [.ref 0, .int a, .int b]) (rest := []) eT_89 rfl (by omega) rfl rfl rfl (T_X10_within b 0 9 σ (by omega) hr4) ?_
    refine xX_ite (c := r4 = 0) (w := xw_89) (i := 10) (a := 11) (b := 15) (st' := []) eT_89 rfl rfl (fun hc5 => ?_) (fun hc5 => ?_)
    · rw [if_pos hc5] at h
      refine xX_blk (w := xw_89) eT_89 2 11 (ls' := [.ref 0, .int a, .int b]) (st' := [.int (-2), .ref 0]) (σ' := σ) rfl ?_
      obtain ⟨r6, hr6, h⟩ := xbd_inv h
      refine xX_c1 (w := xw_89) (i := 13) (ls := [.ref 0, .int a, .int b]) (rest := []) eT_89 rfl (by omega) rfl rfl rfl (T_X10_counted (-2) σ (by omega) hr6) ?_
      obtain rfl := Option.some.inj h
      exact xX_ret (w := xw_89) (i := 14) eT_89 rfl rfl
    · rw [if_neg hc5] at h
      refine xX_blk (w := xw_89) eT_89 3 15 (ls' := [.ref 0, .int a, .int b]) (st' := [.int b, .int a, .ref 0]) (σ' := σ) rfl ?_
      obtain ⟨r7, hr7, h⟩ := xbd_inv h
      refine xX_c1 (w := xw_89) (i := 18) (ls := [.ref 0, .int a, .int b]) (rest := []) eT_89 rfl (by omega) rfl rfl rfl (T_X10_siteValue a b σ (by omega) hr7) ?_
      obtain rfl := Option.some.inj h
      exact xX_ret (w := xw_89) (i := 19) eT_89 rfl rfl
def F_X10_seems (a : Int32) (b : Int32) (σ : xM) : Option (Int32 × xM) :=
  xbd (F_X1_has a σ) fun r1 =>
  if r1 = 0 then
    xbd (F_X10_counted (-2) σ) fun r3 =>
    some (r3.1, r3.2)
  else
    xbd (F_X8_has b σ) fun r4 =>
    if r4 = 0 then
      xbd (F_X10_counted (-2) σ) fun r6 =>
      some (r6.1, r6.2)
    else
      xbd (F_X4_presentApparent a b σ) fun r7 =>
      some (r7, σ)
set_option maxHeartbeats 1000000 in
set_option maxRecDepth 20000 in
theorem T_X10_seems (a : Int32) (b : Int32) (σ : xM) {d : Nat} {q : Int32 × xM} (hd : 2 ≤ d) (h : F_X10_seems a b σ = some q) : xR xT xLn d 90 [.ref 0, .int a, .int b] σ (some (.int q.1), q.2) := by
  unfold F_X10_seems at h
  show xX xT xLn d 90 0 [.ref 0, .int a, .int b] [] σ _
  refine xX_blk (w := xw_90) eT_90 4 0 (ls' := [.ref 0, .int a, .int b]) (st' := [.int a, .ref 2]) (σ' := σ) rfl ?_
  obtain ⟨r1, hr1, h⟩ := xbd_inv h
  refine xX_c1 (w := xw_90) (i := 4) (ls := [.ref 0, .int a, .int b]) (rest := []) eT_90 rfl (by omega) rfl rfl rfl (T_X1_has a σ (by omega) hr1) ?_
  refine xX_ite (c := r1 = 0) (w := xw_90) (i := 5) (a := 12) (b := 6) (st' := []) eT_90 rfl rfl (fun hc2 => ?_) (fun hc2 => ?_)
  · rw [if_pos hc2] at h
    refine xX_blk (w := xw_90) eT_90 2 12 (ls' := [.ref 0, .int a, .int b]) (st' := [.int (-2), .ref 0]) (σ' := σ) rfl ?_
    obtain ⟨r3, hr3, h⟩ := xbd_inv h
    refine xX_c1 (w := xw_90) (i := 14) (ls := [.ref 0, .int a, .int b]) (rest := []) eT_90 rfl (by omega) rfl rfl rfl (T_X10_counted (-2) σ (by omega) hr3) ?_
    obtain rfl := Option.some.inj h
    exact xX_ret (w := xw_90) (i := 15) eT_90 rfl rfl
  · rw [if_neg hc2] at h
    refine xX_blk (w := xw_90) eT_90 4 6 (ls' := [.ref 0, .int a, .int b]) (st' := [.int b, .ref 8]) (σ' := σ) rfl ?_
    obtain ⟨r4, hr4, h⟩ := xbd_inv h
    refine xX_c1 (w := xw_90) (i := 10) (ls := [.ref 0, .int a, .int b]) (rest := []) eT_90 rfl (by omega) rfl rfl rfl (T_X8_has b σ (by omega) hr4) ?_
    refine xX_ite (c := r4 = 0) (w := xw_90) (i := 11) (a := 12) (b := 16) (st' := []) eT_90 rfl rfl (fun hc5 => ?_) (fun hc5 => ?_)
    · rw [if_pos hc5] at h
      refine xX_blk (w := xw_90) eT_90 2 12 (ls' := [.ref 0, .int a, .int b]) (st' := [.int (-2), .ref 0]) (σ' := σ) rfl ?_
      obtain ⟨r6, hr6, h⟩ := xbd_inv h
      refine xX_c1 (w := xw_90) (i := 14) (ls := [.ref 0, .int a, .int b]) (rest := []) eT_90 rfl (by omega) rfl rfl rfl (T_X10_counted (-2) σ (by omega) hr6) ?_
      obtain rfl := Option.some.inj h
      exact xX_ret (w := xw_90) (i := 15) eT_90 rfl rfl
    · rw [if_neg hc5] at h
      refine xX_blk (w := xw_90) eT_90 4 16 (ls' := [.ref 0, .int a, .int b]) (st' := [.int b, .int a, .ref 129]) (σ' := σ) rfl ?_
      obtain ⟨r7, hr7, h⟩ := xbd_inv h
      refine xX_c1 (w := xw_90) (i := 20) (ls := [.ref 0, .int a, .int b]) (rest := []) eT_90 rfl (by omega) rfl rfl rfl (T_X4_presentApparent a b σ (by omega) hr7) ?_
      obtain rfl := Option.some.inj h
      exact xX_ret (w := xw_90) (i := 21) eT_90 rfl rfl
def F_X7_add (a : Int32) (b : Int32) (c : Int32) (u : Int32) (σ : xM) : Option (Int32 × xM) :=
  xgd (xin (σ 14 0) 12) (
  xlet (xup σ 15 (σ 14 0).toNatClampNeg a) fun σ2 =>
  xgd (xin (σ2 14 0) 12) (
  xlet (xup σ2 16 (σ2 14 0).toNatClampNeg b) fun σ4 =>
  xgd (xin (σ4 14 0) 12) (
  xlet (xup σ4 17 (σ4 14 0).toNatClampNeg c) fun σ6 =>
  xgd (xin (σ6 14 0) 12) (
  xlet (xup σ6 18 (σ6 14 0).toNatClampNeg u) fun σ8 =>
  xlet (xup σ8 14 0 ((σ8 14 0) + 1)) fun σ9 =>
  some ((σ9 14 0), σ9)))))
set_option maxHeartbeats 1000000 in
set_option maxRecDepth 20000 in
theorem T_X7_add (a : Int32) (b : Int32) (c : Int32) (u : Int32) (σ : xM) {d : Nat} {q : Int32 × xM} (hd : 0 ≤ d) (h : F_X7_add a b c u σ = some q) : xR xT xLn d 62 [.ref 14, .int a, .int b, .int c, .int u] σ (some (.int q.1), q.2) := by
  unfold F_X7_add at h
  show xX xT xLn d 62 0 [.ref 14, .int a, .int b, .int c, .int u] [] σ _
  refine xX_blk (w := xw_62) eT_62 5 0 (ls' := [.ref 14, .int a, .int b, .int c, .int u]) (st' := [.int a, .int (σ 14 0), .ref 15]) (σ' := σ) rfl ?_
  obtain ⟨hi1, h⟩ := xgd_inv h
  refine xX_one (w := xw_62) (i := 5) (ls' := [.ref 14, .int a, .int b, .int c, .int u]) (st' := []) (σ' := xup σ 15 (σ 14 0).toNatClampNeg a) eT_62 rfl (e_iast xs_15 hi1) ?_
  obtain ⟨σ2, eσ2, h⟩ := xlet_inv h
  rw [← eσ2]
  refine xX_blk (w := xw_62) eT_62 5 6 (ls' := [.ref 14, .int a, .int b, .int c, .int u]) (st' := [.int b, .int (σ2 14 0), .ref 16]) (σ' := σ2) rfl ?_
  obtain ⟨hi3, h⟩ := xgd_inv h
  refine xX_one (w := xw_62) (i := 11) (ls' := [.ref 14, .int a, .int b, .int c, .int u]) (st' := []) (σ' := xup σ2 16 (σ2 14 0).toNatClampNeg b) eT_62 rfl (e_iast xs_16 hi3) ?_
  obtain ⟨σ4, eσ4, h⟩ := xlet_inv h
  rw [← eσ4]
  refine xX_blk (w := xw_62) eT_62 5 12 (ls' := [.ref 14, .int a, .int b, .int c, .int u]) (st' := [.int c, .int (σ4 14 0), .ref 17]) (σ' := σ4) rfl ?_
  obtain ⟨hi5, h⟩ := xgd_inv h
  refine xX_one (w := xw_62) (i := 17) (ls' := [.ref 14, .int a, .int b, .int c, .int u]) (st' := []) (σ' := xup σ4 17 (σ4 14 0).toNatClampNeg c) eT_62 rfl (e_iast xs_17 hi5) ?_
  obtain ⟨σ6, eσ6, h⟩ := xlet_inv h
  rw [← eσ6]
  refine xX_blk (w := xw_62) eT_62 5 18 (ls' := [.ref 14, .int a, .int b, .int c, .int u]) (st' := [.int u, .int (σ6 14 0), .ref 18]) (σ' := σ6) rfl ?_
  obtain ⟨hi7, h⟩ := xgd_inv h
  refine xX_one (w := xw_62) (i := 23) (ls' := [.ref 14, .int a, .int b, .int c, .int u]) (st' := []) (σ' := xup σ6 18 (σ6 14 0).toNatClampNeg u) eT_62 rfl (e_iast xs_18 hi7) ?_
  obtain ⟨σ8, eσ8, h⟩ := xlet_inv h
  rw [← eσ8]
  refine xX_blk (w := xw_62) eT_62 5 24 (ls' := [.ref 14, .int a, .int b, .int c, .int u]) (st' := [.int ((σ8 14 0) + 1), .ref 14]) (σ' := σ8) rfl ?_
  refine xX_blk (w := xw_62) eT_62 1 29 (ls' := [.ref 14, .int a, .int b, .int c, .int u]) (st' := []) (σ' := xup σ8 14 0 ((σ8 14 0) + 1)) rfl ?_
  obtain ⟨σ9, eσ9, h⟩ := xlet_inv h
  rw [← eσ9]
  refine xX_blk (w := xw_62) eT_62 2 30 (ls' := [.ref 14, .int a, .int b, .int c, .int u]) (st' := [.int (σ9 14 0)]) (σ' := σ9) rfl ?_
  obtain rfl := Option.some.inj h
  exact xX_ret (w := xw_62) (i := 32) eT_62 rfl rfl
def F_X0_openSession (a : Int32) (b : Int32) (c : Int32) (σ : xM) : Option (Int32 × xM) :=
  xbd (F_X1_has a σ) fun r1 =>
  if r1 = 0 then
    some ((-2), σ)
  else
    xbd (F_X10_within b 1 9 σ) fun r3 =>
    if r3 = 0 then
      some ((-2), σ)
    else
      xbd (F_X10_within c 1 30 σ) fun r5 =>
      if r5 = 0 then
        some ((-2), σ)
      else
        xbd (F_X4_presentCatch a σ) fun r7 =>
        if r7 = (-1) then
          some ((-3), σ)
        else
          if (σ 14 0) < 12 then
            xbd (F_X7_add a r7 b c σ) fun r10 =>
            some (r10.1, r10.2)
          else
            some ((-4), σ)
set_option maxHeartbeats 1000000 in
set_option maxRecDepth 20000 in
theorem T_X0_openSession (a : Int32) (b : Int32) (c : Int32) (σ : xM) {d : Nat} {q : Int32 × xM} (hd : 3 ≤ d) (h : F_X0_openSession a b c σ = some q) : xR xT xLn d 10 [.ref 136, .int a, .int b, .int c] σ (some (.int q.1), q.2) := by
  unfold F_X0_openSession at h
  show xX xT xLn d 10 0 [.ref 136, .int a, .int b, .int c, .null] [] σ _
  refine xX_blk (w := xw_10) eT_10 4 0 (ls' := [.ref 136, .int a, .int b, .int c, .null]) (st' := [.int a, .ref 2]) (σ' := σ) rfl ?_
  obtain ⟨r1, hr1, h⟩ := xbd_inv h
  refine xX_c1 (w := xw_10) (i := 4) (ls := [.ref 136, .int a, .int b, .int c, .null]) (rest := []) eT_10 rfl (by omega) rfl rfl rfl (T_X1_has a σ (by omega) hr1) ?_
  refine xX_ite (c := r1 = 0) (w := xw_10) (i := 5) (a := 16) (b := 6) (st' := []) eT_10 rfl rfl (fun hc2 => ?_) (fun hc2 => ?_)
  · rw [if_pos hc2] at h
    refine xX_blk (w := xw_10) eT_10 1 16 (ls' := [.ref 136, .int a, .int b, .int c, .null]) (st' := [.int (-2)]) (σ' := σ) rfl ?_
    obtain rfl := Option.some.inj h
    exact xX_ret (w := xw_10) (i := 17) eT_10 rfl rfl
  · rw [if_neg hc2] at h
    refine xX_blk (w := xw_10) eT_10 3 6 (ls' := [.ref 136, .int a, .int b, .int c, .null]) (st' := [.int 9, .int 1, .int b]) (σ' := σ) rfl ?_
    obtain ⟨r3, hr3, h⟩ := xbd_inv h
    refine xX_c1 (w := xw_10) (i := 9) (ls := [.ref 136, .int a, .int b, .int c, .null]) (rest := []) eT_10 rfl (by omega) rfl rfl rfl (T_X10_within b 1 9 σ (by omega) hr3) ?_
    refine xX_ite (c := r3 = 0) (w := xw_10) (i := 10) (a := 16) (b := 11) (st' := []) eT_10 rfl rfl (fun hc4 => ?_) (fun hc4 => ?_)
    · rw [if_pos hc4] at h
      refine xX_blk (w := xw_10) eT_10 1 16 (ls' := [.ref 136, .int a, .int b, .int c, .null]) (st' := [.int (-2)]) (σ' := σ) rfl ?_
      obtain rfl := Option.some.inj h
      exact xX_ret (w := xw_10) (i := 17) eT_10 rfl rfl
    · rw [if_neg hc4] at h
      refine xX_blk (w := xw_10) eT_10 3 11 (ls' := [.ref 136, .int a, .int b, .int c, .null]) (st' := [.int 30, .int 1, .int c]) (σ' := σ) rfl ?_
      obtain ⟨r5, hr5, h⟩ := xbd_inv h
      refine xX_c1 (w := xw_10) (i := 14) (ls := [.ref 136, .int a, .int b, .int c, .null]) (rest := []) eT_10 rfl (by omega) rfl rfl rfl (T_X10_within c 1 30 σ (by omega) hr5) ?_
      refine xX_ite (c := r5 = 0) (w := xw_10) (i := 15) (a := 16) (b := 18) (st' := []) eT_10 rfl rfl (fun hc6 => ?_) (fun hc6 => ?_)
      · rw [if_pos hc6] at h
        refine xX_blk (w := xw_10) eT_10 1 16 (ls' := [.ref 136, .int a, .int b, .int c, .null]) (st' := [.int (-2)]) (σ' := σ) rfl ?_
        obtain rfl := Option.some.inj h
        exact xX_ret (w := xw_10) (i := 17) eT_10 rfl rfl
      · rw [if_neg hc6] at h
        refine xX_blk (w := xw_10) eT_10 3 18 (ls' := [.ref 136, .int a, .int b, .int c, .null]) (st' := [.int a, .ref 129]) (σ' := σ) rfl ?_
        obtain ⟨r7, hr7, h⟩ := xbd_inv h
        refine xX_c1 (w := xw_10) (i := 21) (ls := [.ref 136, .int a, .int b, .int c, .null]) (rest := []) eT_10 rfl (by omega) rfl rfl rfl (T_X4_presentCatch a σ (by omega) hr7) ?_
        refine xX_blk (w := xw_10) eT_10 3 22 (ls' := [.ref 136, .int a, .int b, .int c, .int r7]) (st' := [.int (-1), .int r7]) (σ' := σ) rfl ?_
        refine xX_ite (c := r7 = (-1)) (w := xw_10) (i := 25) (a := 26) (b := 28) (st' := []) eT_10 rfl rfl (fun hc8 => ?_) (fun hc8 => ?_)
        · rw [if_pos hc8] at h
          refine xX_blk (w := xw_10) eT_10 1 26 (ls' := [.ref 136, .int a, .int b, .int c, .int r7]) (st' := [.int (-3)]) (σ' := σ) rfl ?_
          obtain rfl := Option.some.inj h
          exact xX_ret (w := xw_10) (i := 27) eT_10 rfl rfl
        · rw [if_neg hc8] at h
          refine xX_blk (w := xw_10) eT_10 5 28 (ls' := [.ref 136, .int a, .int b, .int c, .int r7]) (st' := [.int 12, .int (σ 14 0)]) (σ' := σ) rfl ?_
          refine xX_ite (c := (σ 14 0) < 12) (w := xw_10) (i := 33) (a := 36) (b := 34) (st' := []) eT_10 rfl rfl (fun hc9 => ?_) (fun hc9 => ?_)
          · rw [if_pos hc9] at h
            refine xX_blk (w := xw_10) eT_10 7 36 (ls' := [.ref 136, .int a, .int b, .int c, .int r7]) (st' := [.int c, .int b, .int r7, .int a, .ref 14]) (σ' := σ) rfl ?_
            obtain ⟨r10, hr10, h⟩ := xbd_inv h
            refine xX_c1 (w := xw_10) (i := 43) (ls := [.ref 136, .int a, .int b, .int c, .int r7]) (rest := []) eT_10 rfl (by omega) rfl rfl rfl (T_X7_add a r7 b c σ (by omega) hr10) ?_
            obtain rfl := Option.some.inj h
            exact xX_ret (w := xw_10) (i := 44) eT_10 rfl rfl
          · rw [if_neg hc9] at h
            refine xX_blk (w := xw_10) eT_10 1 34 (ls' := [.ref 136, .int a, .int b, .int c, .int r7]) (st' := [.int (-4)]) (σ' := σ) rfl ?_
            refine xX_jmp (w := xw_10) (i := 35) (a := 44) (st' := [.int (-4)]) eT_10 rfl rfl ?_
            obtain rfl := Option.some.inj h
            exact xX_ret (w := xw_10) (i := 44) eT_10 rfl rfl
def F_X10_opens (a : Int32) (b : Int32) (c : Int32) (σ : xM) : Option (Int32 × xM) :=
  xbd (F_X10_mark σ) fun r1 =>
  xbd (F_X0_openSession a b c r1) fun r2 =>
  xbd (F_X10_settled r2.1 r2.2) fun r3 =>
  some (r3.1, r3.2)
set_option maxHeartbeats 1000000 in
set_option maxRecDepth 20000 in
theorem T_X10_opens (a : Int32) (b : Int32) (c : Int32) (σ : xM) {d : Nat} {q : Int32 × xM} (hd : 4 ≤ d) (h : F_X10_opens a b c σ = some q) : xR xT xLn d 91 [.ref 0, .int a, .int b, .int c] σ (some (.int q.1), q.2) := by
  unfold F_X10_opens at h
  show xX xT xLn d 91 0 [.ref 0, .int a, .int b, .int c] [] σ _
  refine xX_blk (w := xw_91) eT_91 1 0 (ls' := [.ref 0, .int a, .int b, .int c]) (st' := [.ref 0]) (σ' := σ) rfl ?_
  obtain ⟨r1, hr1, h⟩ := xbd_inv h
  refine xX_c0 (w := xw_91) (i := 1) (ls := [.ref 0, .int a, .int b, .int c]) (rest := []) eT_91 rfl (by omega) rfl rfl rfl (T_X10_mark σ (by omega) hr1) ?_
  refine xX_blk (w := xw_91) eT_91 6 2 (ls' := [.ref 0, .int a, .int b, .int c]) (st' := [.int c, .int b, .int a, .ref 136, .ref 0]) (σ' := r1) rfl ?_
  obtain ⟨r2, hr2, h⟩ := xbd_inv h
  refine xX_c1 (w := xw_91) (i := 8) (ls := [.ref 0, .int a, .int b, .int c]) (rest := [.ref 0]) eT_91 rfl (by omega) rfl rfl rfl (T_X0_openSession a b c r1 (by omega) hr2) ?_
  obtain ⟨r3, hr3, h⟩ := xbd_inv h
  refine xX_c1 (w := xw_91) (i := 9) (ls := [.ref 0, .int a, .int b, .int c]) (rest := []) eT_91 rfl (by omega) rfl rfl rfl (T_X10_settled r2.1 r2.2 (by omega) hr3) ?_
  obtain rfl := Option.some.inj h
  exact xX_ret (w := xw_91) (i := 10) eT_91 rfl rfl
def F_X7_has (a : Int32) (σ : xM) : Option (Int32) :=
  xbd (F_X10_within a 0 ((σ 14 0) - 1) σ) fun r1 =>
  xgd (xzok true r1) (some r1)
set_option maxHeartbeats 1000000 in
set_option maxRecDepth 20000 in
theorem T_X7_has (a : Int32) (σ : xM) {d : Nat} {q : Int32} (hd : 1 ≤ d) (h : F_X7_has a σ = some q) : xR xT xLn d 61 [.ref 14, .int a] σ (some (.int q), σ) := by
  unfold F_X7_has at h
  show xX xT xLn d 61 0 [.ref 14, .int a] [] σ _
  refine xX_blk (w := xw_61) eT_61 6 0 (ls' := [.ref 14, .int a]) (st' := [.int ((σ 14 0) - 1), .int 0, .int a]) (σ' := σ) rfl ?_
  obtain ⟨r1, hr1, h⟩ := xbd_inv h
  refine xX_c1 (w := xw_61) (i := 6) (ls := [.ref 14, .int a]) (rest := []) eT_61 rfl (by omega) rfl rfl rfl (T_X10_within a 0 ((σ 14 0) - 1) σ (by omega) hr1) ?_
  obtain ⟨hi2, h⟩ := xgd_inv h
  obtain rfl := Option.some.inj h
  exact xX_ret (w := xw_61) (i := 7) eT_61 rfl (e_ret2 hi2)
def F_X10_sessionValue (a : Int32) (b : Int32) (σ : xM) : Option (Int32) :=
  if b = 0 then
    xgd (xin a 12) (
    some (σ 15 a.toNatClampNeg))
  else if b = 1 then
    xgd (xin a 12) (
    some (σ 16 a.toNatClampNeg))
  else if b = 2 then
    xgd (xin a 12) (
    some (σ 17 a.toNatClampNeg))
  else if b = 3 then
    xgd (xin a 12) (
    some (σ 18 a.toNatClampNeg))
  else 
  xgd (xin a 12) (
  xbd (F_X4_presentCatch (σ 15 a.toNatClampNeg) σ) fun r10 =>
  xgd (xin a 12) (
  if r10 = (σ 16 a.toNatClampNeg) then
    some 0
  else
    some 1))
set_option maxHeartbeats 1000000 in
set_option maxRecDepth 20000 in
theorem T_X10_sessionValue (a : Int32) (b : Int32) (σ : xM) {d : Nat} {q : Int32} (hd : 3 ≤ d) (h : F_X10_sessionValue a b σ = some q) : xR xT xLn d 109 [.ref 0, .int a, .int b] σ (some (.int q), σ) := by
  unfold F_X10_sessionValue at h
  show xX xT xLn d 109 0 [.ref 0, .int a, .int b] [] σ _
  refine xX_blk (w := xw_109) eT_109 1 0 (ls' := [.ref 0, .int a, .int b]) (st' := [.int b]) (σ' := σ) rfl ?_
  by_cases hc1 : b = 0
  · rw [if_pos hc1] at h
    refine xX_jmp (w := xw_109) (i := 1) (a := 2) (st' := []) eT_109 rfl (e_tsw (by rw [hc1]; decide)) ?_
    refine xX_blk (w := xw_109) eT_109 5 2 (ls' := [.ref 0, .int a, .int b]) (st' := [.int a, .ref 15]) (σ' := σ) rfl ?_
    obtain ⟨hi2, h⟩ := xgd_inv h
    refine xX_one (w := xw_109) (i := 7) (ls' := [.ref 0, .int a, .int b]) (st' := [.int (σ 15 a.toNatClampNeg)]) (σ' := σ) eT_109 rfl (e_iald xs_15 hi2) ?_
    obtain rfl := Option.some.inj h
    exact xX_ret (w := xw_109) (i := 8) eT_109 rfl rfl
  rw [if_neg hc1] at h
  by_cases hc3 : b = 1
  · rw [if_pos hc3] at h
    refine xX_jmp (w := xw_109) (i := 1) (a := 9) (st' := []) eT_109 rfl (e_tsw (by rw [hc3]; decide)) ?_
    refine xX_blk (w := xw_109) eT_109 5 9 (ls' := [.ref 0, .int a, .int b]) (st' := [.int a, .ref 16]) (σ' := σ) rfl ?_
    obtain ⟨hi4, h⟩ := xgd_inv h
    refine xX_one (w := xw_109) (i := 14) (ls' := [.ref 0, .int a, .int b]) (st' := [.int (σ 16 a.toNatClampNeg)]) (σ' := σ) eT_109 rfl (e_iald xs_16 hi4) ?_
    obtain rfl := Option.some.inj h
    exact xX_ret (w := xw_109) (i := 15) eT_109 rfl rfl
  rw [if_neg hc3] at h
  by_cases hc5 : b = 2
  · rw [if_pos hc5] at h
    refine xX_jmp (w := xw_109) (i := 1) (a := 16) (st' := []) eT_109 rfl (e_tsw (by rw [hc5]; decide)) ?_
    refine xX_blk (w := xw_109) eT_109 5 16 (ls' := [.ref 0, .int a, .int b]) (st' := [.int a, .ref 17]) (σ' := σ) rfl ?_
    obtain ⟨hi6, h⟩ := xgd_inv h
    refine xX_one (w := xw_109) (i := 21) (ls' := [.ref 0, .int a, .int b]) (st' := [.int (σ 17 a.toNatClampNeg)]) (σ' := σ) eT_109 rfl (e_iald xs_17 hi6) ?_
    obtain rfl := Option.some.inj h
    exact xX_ret (w := xw_109) (i := 22) eT_109 rfl rfl
  rw [if_neg hc5] at h
  by_cases hc7 : b = 3
  · rw [if_pos hc7] at h
    refine xX_jmp (w := xw_109) (i := 1) (a := 23) (st' := []) eT_109 rfl (e_tsw (by rw [hc7]; decide)) ?_
    refine xX_blk (w := xw_109) eT_109 5 23 (ls' := [.ref 0, .int a, .int b]) (st' := [.int a, .ref 18]) (σ' := σ) rfl ?_
    obtain ⟨hi8, h⟩ := xgd_inv h
    refine xX_one (w := xw_109) (i := 28) (ls' := [.ref 0, .int a, .int b]) (st' := [.int (σ 18 a.toNatClampNeg)]) (σ' := σ) eT_109 rfl (e_iald xs_18 hi8) ?_
    obtain rfl := Option.some.inj h
    exact xX_ret (w := xw_109) (i := 29) eT_109 rfl rfl
  rw [if_neg hc7] at h
  refine xX_jmp (w := xw_109) (i := 1) (a := 30) (st' := []) eT_109 rfl (e_tsw (e_tswd [0, 1, 2, 3] (by decide) (List.forall_mem_cons.mpr ⟨hc1, List.forall_mem_cons.mpr ⟨hc3, List.forall_mem_cons.mpr ⟨hc5, List.forall_mem_cons.mpr ⟨hc7, fun _ h => absurd h List.not_mem_nil⟩⟩⟩⟩))) ?_
  refine xX_blk (w := xw_109) eT_109 7 30 (ls' := [.ref 0, .int a, .int b]) (st' := [.int a, .ref 15, .ref 129]) (σ' := σ) rfl ?_
  obtain ⟨hi9, h⟩ := xgd_inv h
  refine xX_one (w := xw_109) (i := 37) (ls' := [.ref 0, .int a, .int b]) (st' := [.int (σ 15 a.toNatClampNeg), .ref 129]) (σ' := σ) eT_109 rfl (e_iald xs_15 hi9) ?_
  obtain ⟨r10, hr10, h⟩ := xbd_inv h
  refine xX_c1 (w := xw_109) (i := 38) (ls := [.ref 0, .int a, .int b]) (rest := []) eT_109 rfl (by omega) rfl rfl rfl (T_X4_presentCatch (σ 15 a.toNatClampNeg) σ (by omega) hr10) ?_
  refine xX_blk (w := xw_109) eT_109 5 39 (ls' := [.ref 0, .int a, .int b]) (st' := [.int a, .ref 16, .int r10]) (σ' := σ) rfl ?_
  obtain ⟨hi11, h⟩ := xgd_inv h
  refine xX_one (w := xw_109) (i := 44) (ls' := [.ref 0, .int a, .int b]) (st' := [.int (σ 16 a.toNatClampNeg), .int r10]) (σ' := σ) eT_109 rfl (e_iald xs_16 hi11) ?_
  refine xX_ite (c := r10 = (σ 16 a.toNatClampNeg)) (w := xw_109) (i := 45) (a := 46) (b := 48) (st' := []) eT_109 rfl rfl (fun hc12 => ?_) (fun hc12 => ?_)
  · rw [if_pos hc12] at h
    refine xX_blk (w := xw_109) eT_109 1 46 (ls' := [.ref 0, .int a, .int b]) (st' := [.int 0]) (σ' := σ) rfl ?_
    refine xX_jmp (w := xw_109) (i := 47) (a := 49) (st' := [.int 0]) eT_109 rfl rfl ?_
    obtain rfl := Option.some.inj h
    exact xX_ret (w := xw_109) (i := 49) eT_109 rfl rfl
  · rw [if_neg hc12] at h
    refine xX_blk (w := xw_109) eT_109 1 48 (ls' := [.ref 0, .int a, .int b]) (st' := [.int 1]) (σ' := σ) rfl ?_
    obtain rfl := Option.some.inj h
    exact xX_ret (w := xw_109) (i := 49) eT_109 rfl rfl
def F_X10_session (a : Int32) (b : Int32) (σ : xM) : Option (Int32 × xM) :=
  if a < 0 then
    xbd (F_X10_counted (-2) σ) fun r2 =>
    some (r2.1, r2.2)
  else
    xbd (F_X10_within b 0 4 σ) fun r3 =>
    if r3 = 0 then
      xbd (F_X10_counted (-2) σ) fun r5 =>
      some (r5.1, r5.2)
    else
      xbd (F_X7_has a σ) fun r6 =>
      if r6 = 0 then
        some ((-1), σ)
      else
        xbd (F_X10_sessionValue a b σ) fun r8 =>
        some (r8, σ)
set_option maxHeartbeats 1000000 in
set_option maxRecDepth 20000 in
theorem T_X10_session (a : Int32) (b : Int32) (σ : xM) {d : Nat} {q : Int32 × xM} (hd : 4 ≤ d) (h : F_X10_session a b σ = some q) : xR xT xLn d 92 [.ref 0, .int a, .int b] σ (some (.int q.1), q.2) := by
  unfold F_X10_session at h
  show xX xT xLn d 92 0 [.ref 0, .int a, .int b] [] σ _
  refine xX_blk (w := xw_92) eT_92 1 0 (ls' := [.ref 0, .int a, .int b]) (st' := [.int a]) (σ' := σ) rfl ?_
  refine xX_ite (c := a < 0) (w := xw_92) (i := 1) (a := 7) (b := 2) (st' := []) eT_92 rfl rfl (fun hc1 => ?_) (fun hc1 => ?_)
  · rw [if_pos hc1] at h
    refine xX_blk (w := xw_92) eT_92 2 7 (ls' := [.ref 0, .int a, .int b]) (st' := [.int (-2), .ref 0]) (σ' := σ) rfl ?_
    obtain ⟨r2, hr2, h⟩ := xbd_inv h
    refine xX_c1 (w := xw_92) (i := 9) (ls := [.ref 0, .int a, .int b]) (rest := []) eT_92 rfl (by omega) rfl rfl rfl (T_X10_counted (-2) σ (by omega) hr2) ?_
    obtain rfl := Option.some.inj h
    exact xX_ret (w := xw_92) (i := 10) eT_92 rfl rfl
  · rw [if_neg hc1] at h
    refine xX_blk (w := xw_92) eT_92 3 2 (ls' := [.ref 0, .int a, .int b]) (st' := [.int 4, .int 0, .int b]) (σ' := σ) rfl ?_
    obtain ⟨r3, hr3, h⟩ := xbd_inv h
    refine xX_c1 (w := xw_92) (i := 5) (ls := [.ref 0, .int a, .int b]) (rest := []) eT_92 rfl (by omega) rfl rfl rfl (T_X10_within b 0 4 σ (by omega) hr3) ?_
    refine xX_ite (c := r3 = 0) (w := xw_92) (i := 6) (a := 7) (b := 11) (st' := []) eT_92 rfl rfl (fun hc4 => ?_) (fun hc4 => ?_)
    · rw [if_pos hc4] at h
      refine xX_blk (w := xw_92) eT_92 2 7 (ls' := [.ref 0, .int a, .int b]) (st' := [.int (-2), .ref 0]) (σ' := σ) rfl ?_
      obtain ⟨r5, hr5, h⟩ := xbd_inv h
      refine xX_c1 (w := xw_92) (i := 9) (ls := [.ref 0, .int a, .int b]) (rest := []) eT_92 rfl (by omega) rfl rfl rfl (T_X10_counted (-2) σ (by omega) hr5) ?_
      obtain rfl := Option.some.inj h
      exact xX_ret (w := xw_92) (i := 10) eT_92 rfl rfl
    · rw [if_neg hc4] at h
      refine xX_blk (w := xw_92) eT_92 4 11 (ls' := [.ref 0, .int a, .int b]) (st' := [.int a, .ref 14]) (σ' := σ) rfl ?_
      obtain ⟨r6, hr6, h⟩ := xbd_inv h
      refine xX_c1 (w := xw_92) (i := 15) (ls := [.ref 0, .int a, .int b]) (rest := []) eT_92 rfl (by omega) rfl rfl rfl (T_X7_has a σ (by omega) hr6) ?_
      refine xX_ite (c := r6 = 0) (w := xw_92) (i := 16) (a := 22) (b := 17) (st' := []) eT_92 rfl rfl (fun hc7 => ?_) (fun hc7 => ?_)
      · rw [if_pos hc7] at h
        refine xX_blk (w := xw_92) eT_92 1 22 (ls' := [.ref 0, .int a, .int b]) (st' := [.int (-1)]) (σ' := σ) rfl ?_
        obtain rfl := Option.some.inj h
        exact xX_ret (w := xw_92) (i := 23) eT_92 rfl rfl
      · rw [if_neg hc7] at h
        refine xX_blk (w := xw_92) eT_92 3 17 (ls' := [.ref 0, .int a, .int b]) (st' := [.int b, .int a, .ref 0]) (σ' := σ) rfl ?_
        obtain ⟨r8, hr8, h⟩ := xbd_inv h
        refine xX_c1 (w := xw_92) (i := 20) (ls := [.ref 0, .int a, .int b]) (rest := []) eT_92 rfl (by omega) rfl rfl rfl (T_X10_sessionValue a b σ (by omega) hr8) ?_
        refine xX_jmp (w := xw_92) (i := 21) (a := 23) (st' := [.int r8]) eT_92 rfl rfl ?_
        obtain rfl := Option.some.inj h
        exact xX_ret (w := xw_92) (i := 23) eT_92 rfl rfl
def F_X7_move (a : Int32) (b : Int32) (σ : xM) : Option (xM) :=
  xgd (xin a 12) (
  xgd (xin b 12) (
  xlet (xup σ 15 b.toNatClampNeg (σ 15 a.toNatClampNeg)) fun σ3 =>
  xgd (xin a 12) (
  xgd (xin b 12) (
  xlet (xup σ3 16 b.toNatClampNeg (σ3 16 a.toNatClampNeg)) fun σ6 =>
  xgd (xin a 12) (
  xgd (xin b 12) (
  xlet (xup σ6 17 b.toNatClampNeg (σ6 17 a.toNatClampNeg)) fun σ9 =>
  xgd (xin a 12) (
  xgd (xin b 12) (
  xlet (xup σ9 18 b.toNatClampNeg (σ9 18 a.toNatClampNeg)) fun σ12 =>
  some σ12))))))))
set_option maxHeartbeats 1000000 in
set_option maxRecDepth 20000 in
theorem T_X7_move (a : Int32) (b : Int32) (σ : xM) {d : Nat} {q : xM} (hd : 0 ≤ d) (h : F_X7_move a b σ = some q) : xR xT xLn d 64 [.ref 14, .int a, .int b] σ (none, q) := by
  unfold F_X7_move at h
  show xX xT xLn d 64 0 [.ref 14, .int a, .int b] [] σ _
  refine xX_blk (w := xw_64) eT_64 6 0 (ls' := [.ref 14, .int a, .int b]) (st' := [.int a, .ref 15, .int b, .ref 15]) (σ' := σ) rfl ?_
  obtain ⟨hi1, h⟩ := xgd_inv h
  refine xX_one (w := xw_64) (i := 6) (ls' := [.ref 14, .int a, .int b]) (st' := [.int (σ 15 a.toNatClampNeg), .int b, .ref 15]) (σ' := σ) eT_64 rfl (e_iald xs_15 hi1) ?_
  obtain ⟨hi2, h⟩ := xgd_inv h
  refine xX_one (w := xw_64) (i := 7) (ls' := [.ref 14, .int a, .int b]) (st' := []) (σ' := xup σ 15 b.toNatClampNeg (σ 15 a.toNatClampNeg)) eT_64 rfl (e_iast xs_15 hi2) ?_
  obtain ⟨σ3, eσ3, h⟩ := xlet_inv h
  rw [← eσ3]
  refine xX_blk (w := xw_64) eT_64 6 8 (ls' := [.ref 14, .int a, .int b]) (st' := [.int a, .ref 16, .int b, .ref 16]) (σ' := σ3) rfl ?_
  obtain ⟨hi4, h⟩ := xgd_inv h
  refine xX_one (w := xw_64) (i := 14) (ls' := [.ref 14, .int a, .int b]) (st' := [.int (σ3 16 a.toNatClampNeg), .int b, .ref 16]) (σ' := σ3) eT_64 rfl (e_iald xs_16 hi4) ?_
  obtain ⟨hi5, h⟩ := xgd_inv h
  refine xX_one (w := xw_64) (i := 15) (ls' := [.ref 14, .int a, .int b]) (st' := []) (σ' := xup σ3 16 b.toNatClampNeg (σ3 16 a.toNatClampNeg)) eT_64 rfl (e_iast xs_16 hi5) ?_
  obtain ⟨σ6, eσ6, h⟩ := xlet_inv h
  rw [← eσ6]
  refine xX_blk (w := xw_64) eT_64 6 16 (ls' := [.ref 14, .int a, .int b]) (st' := [.int a, .ref 17, .int b, .ref 17]) (σ' := σ6) rfl ?_
  obtain ⟨hi7, h⟩ := xgd_inv h
  refine xX_one (w := xw_64) (i := 22) (ls' := [.ref 14, .int a, .int b]) (st' := [.int (σ6 17 a.toNatClampNeg), .int b, .ref 17]) (σ' := σ6) eT_64 rfl (e_iald xs_17 hi7) ?_
  obtain ⟨hi8, h⟩ := xgd_inv h
  refine xX_one (w := xw_64) (i := 23) (ls' := [.ref 14, .int a, .int b]) (st' := []) (σ' := xup σ6 17 b.toNatClampNeg (σ6 17 a.toNatClampNeg)) eT_64 rfl (e_iast xs_17 hi8) ?_
  obtain ⟨σ9, eσ9, h⟩ := xlet_inv h
  rw [← eσ9]
  refine xX_blk (w := xw_64) eT_64 6 24 (ls' := [.ref 14, .int a, .int b]) (st' := [.int a, .ref 18, .int b, .ref 18]) (σ' := σ9) rfl ?_
  obtain ⟨hi10, h⟩ := xgd_inv h
  refine xX_one (w := xw_64) (i := 30) (ls' := [.ref 14, .int a, .int b]) (st' := [.int (σ9 18 a.toNatClampNeg), .int b, .ref 18]) (σ' := σ9) eT_64 rfl (e_iald xs_18 hi10) ?_
  obtain ⟨hi11, h⟩ := xgd_inv h
  refine xX_one (w := xw_64) (i := 31) (ls' := [.ref 14, .int a, .int b]) (st' := []) (σ' := xup σ9 18 b.toNatClampNeg (σ9 18 a.toNatClampNeg)) eT_64 rfl (e_iast xs_18 hi11) ?_
  obtain ⟨σ12, eσ12, h⟩ := xlet_inv h
  rw [← eσ12]
  obtain rfl := Option.some.inj h
  exact xX_ret (w := xw_64) (i := 32) eT_64 rfl rfl
def B_X7_remove_4 (v2 : Int32) (σ : xM) : Option ((Int32 × xM) ⊕ ((xM))) :=
  if (σ 14 0) ≤ v2 then
    some (.inr σ)
  else
    xbd (F_X7_move v2 (v2 - 1) σ) fun r2 =>
    some (.inl ((v2 + 1), r2))
def L_X7_remove_4 (v2 : Int32) (σ : xM) : Option ((xM)) := xloop (fun s : Int32 × xM => B_X7_remove_4 s.1 s.2) 6000 (v2, σ)
set_option maxHeartbeats 1000000 in
set_option maxRecDepth 20000 in
theorem TB_X7_remove_4 {d : Nat} {o : Option Value × xM} (v2 : Int32) (σ : xM) {q : (Int32 × xM) ⊕ ((xM))} (hd : 1 ≤ d) (h : B_X7_remove_4 v2 σ = some q) (hB : ∀ s', q = .inl s' → ∀ (z1 : Value), xX xT xLn d 63 4 [.ref 14, z1, .int s'.1] [] s'.2 o) (hE : ∀ e', q = .inr e' → ∀ (z1 z2 : Value), xX xT xLn d 63 17 [.ref 14, z1, z2] [] e' o) (z1 : Value) : xX xT xLn d 63 4 [.ref 14, z1, .int v2] [] σ o := by
  unfold B_X7_remove_4 at h
  refine xX_blk (w := xw_63) eT_63 4 4 (ls' := [.ref 14, .null, .int v2]) (st' := [.int (σ 14 0), .int v2]) (σ' := σ) rfl ?_
  refine xX_ite (c := (σ 14 0) ≤ v2) (w := xw_63) (i := 8) (a := 17) (b := 9) (st' := []) eT_63 rfl rfl (fun hc1 => ?_) (fun hc1 => ?_)
  · rw [if_pos hc1] at h
    obtain rfl := Option.some.inj h
    exact hE σ rfl _ _
  · rw [if_neg hc1] at h
    refine xX_blk (w := xw_63) eT_63 5 9 (ls' := [.ref 14, .null, .int v2]) (st' := [.int (v2 - 1), .int v2, .ref 14]) (σ' := σ) rfl ?_
    obtain ⟨r2, hr2, h⟩ := xbd_inv h
    refine xX_c0 (w := xw_63) (i := 14) (ls := [.ref 14, .null, .int v2]) (rest := []) eT_63 rfl (by omega) rfl rfl rfl (T_X7_move v2 (v2 - 1) σ (by omega) hr2) ?_
    refine xX_blk (w := xw_63) eT_63 1 15 (ls' := [.ref 14, .null, .int (v2 + 1)]) (st' := []) (σ' := r2) rfl ?_
    refine xX_jmp (w := xw_63) (i := 16) (a := 4) (st' := []) eT_63 rfl rfl ?_
    obtain rfl := Option.some.inj h
    exact hB ((v2 + 1), r2) rfl _
set_option maxHeartbeats 1000000 in
set_option maxRecDepth 20000 in
theorem TL_X7_remove_4 {d : Nat} {o : Option Value × xM} (v2 : Int32) (σ : xM) {e : (xM)} (hd : 1 ≤ d) (h : L_X7_remove_4 v2 σ = some e) (hE : ∀ (z1 z2 : Value), xX xT xLn d 63 17 [.ref 14, z1, z2] [] e o) (z1 : Value) : xX xT xLn d 63 4 [.ref 14, z1, .int v2] [] σ o :=
  xloop_snd (X := fun s => ∀ (z1 : Value), xX xT xLn d 63 4 [.ref 14, z1, .int s.1] [] s.2 o) (Y := fun e' => ∀ (z1 z2 : Value), xX xT xLn d 63 17 [.ref 14, z1, z2] [] e' o) (fun s q hs hB hE z1 => TB_X7_remove_4 s.1 s.2 hd hs hB hE z1) _ _ _ h hE z1
def F_X7_remove (a : Int32) (σ : xM) : Option (xM) :=
  xbd (L_X7_remove_4 (a + 1) σ) fun e3 =>
  xlet (xup e3 14 0 ((e3 14 0) - 1)) fun σ4 =>
  some σ4
set_option maxHeartbeats 1000000 in
set_option maxRecDepth 20000 in
theorem T_X7_remove (a : Int32) (σ : xM) {d : Nat} {q : xM} (hd : 1 ≤ d) (h : F_X7_remove a σ = some q) : xR xT xLn d 63 [.ref 14, .int a] σ (none, q) := by
  unfold F_X7_remove at h
  show xX xT xLn d 63 0 [.ref 14, .int a, .null] [] σ _
  refine xX_blk (w := xw_63) eT_63 4 0 (ls' := [.ref 14, .int a, .int (a + 1)]) (st' := []) (σ' := σ) rfl ?_
  obtain ⟨e3, he3, h⟩ := xbd_inv h
  refine TL_X7_remove_4 (a + 1) σ (by omega) he3 (fun z1 z2 => ?_) _
  refine xX_blk (w := xw_63) eT_63 6 17 (ls' := [.ref 14, .null, .null]) (st' := [.int ((e3 14 0) - 1), .ref 14]) (σ' := e3) rfl ?_
  refine xX_blk (w := xw_63) eT_63 1 23 (ls' := [.ref 14, .null, .null]) (st' := []) (σ' := xup e3 14 0 ((e3 14 0) - 1)) rfl ?_
  obtain ⟨σ4, eσ4, h⟩ := xlet_inv h
  rw [← eσ4]
  obtain rfl := Option.some.inj h
  exact xX_ret (w := xw_63) (i := 24) eT_63 rfl rfl
def F_X0_endSession (a : Int32) (σ : xM) : Option (Int32 × xM) :=
  xbd (F_X7_has a σ) fun r1 =>
  if r1 = 0 then
    some ((-2), σ)
  else
    xbd (F_X7_remove a σ) fun r3 =>
    xlet (xup r3 1 4 ((r3 1 4) + 1)) fun σ4 =>
    some ((σ4 14 0), σ4)
set_option maxHeartbeats 1000000 in
set_option maxRecDepth 20000 in
theorem T_X0_endSession (a : Int32) (σ : xM) {d : Nat} {q : Int32 × xM} (hd : 2 ≤ d) (h : F_X0_endSession a σ = some q) : xR xT xLn d 11 [.ref 136, .int a] σ (some (.int q.1), q.2) := by
  unfold F_X0_endSession at h
  show xX xT xLn d 11 0 [.ref 136, .int a] [] σ _
  refine xX_blk (w := xw_11) eT_11 4 0 (ls' := [.ref 136, .int a]) (st' := [.int a, .ref 14]) (σ' := σ) rfl ?_
  obtain ⟨r1, hr1, h⟩ := xbd_inv h
  refine xX_c1 (w := xw_11) (i := 4) (ls := [.ref 136, .int a]) (rest := []) eT_11 rfl (by omega) rfl rfl rfl (T_X7_has a σ (by omega) hr1) ?_
  refine xX_ite (c := r1 = 0) (w := xw_11) (i := 5) (a := 6) (b := 8) (st' := []) eT_11 rfl rfl (fun hc2 => ?_) (fun hc2 => ?_)
  · rw [if_pos hc2] at h
    refine xX_blk (w := xw_11) eT_11 1 6 (ls' := [.ref 136, .int a]) (st' := [.int (-2)]) (σ' := σ) rfl ?_
    obtain rfl := Option.some.inj h
    exact xX_ret (w := xw_11) (i := 7) eT_11 rfl rfl
  · rw [if_neg hc2] at h
    refine xX_blk (w := xw_11) eT_11 4 8 (ls' := [.ref 136, .int a]) (st' := [.int a, .ref 14]) (σ' := σ) rfl ?_
    obtain ⟨r3, hr3, h⟩ := xbd_inv h
    refine xX_c0 (w := xw_11) (i := 12) (ls := [.ref 136, .int a]) (rest := []) eT_11 rfl (by omega) rfl rfl rfl (T_X7_remove a σ (by omega) hr3) ?_
    refine xX_blk (w := xw_11) eT_11 6 13 (ls' := [.ref 136, .int a]) (st' := [.int ((r3 1 4) + 1), .ref 1]) (σ' := r3) rfl ?_
    refine xX_blk (w := xw_11) eT_11 1 19 (ls' := [.ref 136, .int a]) (st' := []) (σ' := xup r3 1 4 ((r3 1 4) + 1)) rfl ?_
    obtain ⟨σ4, eσ4, h⟩ := xlet_inv h
    rw [← eσ4]
    refine xX_blk (w := xw_11) eT_11 4 20 (ls' := [.ref 136, .int a]) (st' := [.int (σ4 14 0)]) (σ' := σ4) rfl ?_
    obtain rfl := Option.some.inj h
    exact xX_ret (w := xw_11) (i := 24) eT_11 rfl rfl
def F_X10_ends (a : Int32) (σ : xM) : Option (Int32 × xM) :=
  xbd (F_X10_mark σ) fun r1 =>
  xbd (F_X0_endSession a r1) fun r2 =>
  xbd (F_X10_settled r2.1 r2.2) fun r3 =>
  some (r3.1, r3.2)
set_option maxHeartbeats 1000000 in
set_option maxRecDepth 20000 in
theorem T_X10_ends (a : Int32) (σ : xM) {d : Nat} {q : Int32 × xM} (hd : 4 ≤ d) (h : F_X10_ends a σ = some q) : xR xT xLn d 93 [.ref 0, .int a] σ (some (.int q.1), q.2) := by
  unfold F_X10_ends at h
  show xX xT xLn d 93 0 [.ref 0, .int a] [] σ _
  refine xX_blk (w := xw_93) eT_93 1 0 (ls' := [.ref 0, .int a]) (st' := [.ref 0]) (σ' := σ) rfl ?_
  obtain ⟨r1, hr1, h⟩ := xbd_inv h
  refine xX_c0 (w := xw_93) (i := 1) (ls := [.ref 0, .int a]) (rest := []) eT_93 rfl (by omega) rfl rfl rfl (T_X10_mark σ (by omega) hr1) ?_
  refine xX_blk (w := xw_93) eT_93 4 2 (ls' := [.ref 0, .int a]) (st' := [.int a, .ref 136, .ref 0]) (σ' := r1) rfl ?_
  obtain ⟨r2, hr2, h⟩ := xbd_inv h
  refine xX_c1 (w := xw_93) (i := 6) (ls := [.ref 0, .int a]) (rest := [.ref 0]) eT_93 rfl (by omega) rfl rfl rfl (T_X0_endSession a r1 (by omega) hr2) ?_
  obtain ⟨r3, hr3, h⟩ := xbd_inv h
  refine xX_c1 (w := xw_93) (i := 7) (ls := [.ref 0, .int a]) (rest := []) eT_93 rfl (by omega) rfl rfl rfl (T_X10_settled r2.1 r2.2 (by omega) hr3) ?_
  obtain rfl := Option.some.inj h
  exact xX_ret (w := xw_93) (i := 8) eT_93 rfl rfl
def F_X0_outlives (a : Int32) (b : Int32) (σ : xM) : Option (Int32 × xM) :=
  xgd (xin a 12) (
  xgd (xin a 12) (
  xlet (xup σ 18 a.toNatClampNeg ((σ 18 a.toNatClampNeg) - 1)) fun σ3 =>
  xgd (xin a 12) (
  if 0 < (σ3 18 a.toNatClampNeg) then
    xgd (xin a 12) (
    xbd (F_X4_contains b (σ3 16 a.toNatClampNeg) σ3) fun r7 =>
    if r7 = 0 then
      xlet (xup σ3 1 5 ((σ3 1 5) + 1)) fun σ9 =>
      xgd (xin a 12) (
      xbd (F_X4_catchOf_11 (σ9 15 a.toNatClampNeg) b σ9) fun r11 =>
      if r11 = (-1) then
        some (0, σ9)
      else
        xgd (xin a 12) (
        xlet (xup σ9 16 a.toNatClampNeg r11) fun σ14 =>
        some (1, σ14)))
    else
      some (1, σ3))
  else
    some (0, σ3))))
set_option maxHeartbeats 1000000 in
set_option maxRecDepth 20000 in
theorem T_X0_outlives (a : Int32) (b : Int32) (σ : xM) {d : Nat} {q : Int32 × xM} (hd : 2 ≤ d) (h : F_X0_outlives a b σ = some q) : xR xT xLn d 15 [.ref 136, .int a, .int b] σ (some (.int q.1), q.2) := by
  unfold F_X0_outlives at h
  show xX xT xLn d 15 0 [.ref 136, .int a, .int b, .null, .null] [] σ _
  refine xX_blk (w := xw_15) eT_15 8 0 (ls' := [.ref 136, .int a, .int b, .ref 14, .null]) (st' := [.int a, .ref 18, .int a, .ref 18]) (σ' := σ) rfl ?_
  obtain ⟨hi1, h⟩ := xgd_inv h
  refine xX_one (w := xw_15) (i := 8) (ls' := [.ref 136, .int a, .int b, .ref 14, .null]) (st' := [.int (σ 18 a.toNatClampNeg), .int a, .ref 18]) (σ' := σ) eT_15 rfl (e_iald xs_18 hi1) ?_
  refine xX_blk (w := xw_15) eT_15 2 9 (ls' := [.ref 136, .int a, .int b, .ref 14, .null]) (st' := [.int ((σ 18 a.toNatClampNeg) - 1), .int a, .ref 18]) (σ' := σ) rfl ?_
  obtain ⟨hi2, h⟩ := xgd_inv h
  refine xX_one (w := xw_15) (i := 11) (ls' := [.ref 136, .int a, .int b, .ref 14, .null]) (st' := []) (σ' := xup σ 18 a.toNatClampNeg ((σ 18 a.toNatClampNeg) - 1)) eT_15 rfl (e_iast xs_18 hi2) ?_
  obtain ⟨σ3, eσ3, h⟩ := xlet_inv h
  rw [← eσ3]
  refine xX_blk (w := xw_15) eT_15 3 12 (ls' := [.ref 136, .int a, .int b, .ref 14, .null]) (st' := [.int a, .ref 18]) (σ' := σ3) rfl ?_
  obtain ⟨hi4, h⟩ := xgd_inv h
  refine xX_one (w := xw_15) (i := 15) (ls' := [.ref 136, .int a, .int b, .ref 14, .null]) (st' := [.int (σ3 18 a.toNatClampNeg)]) (σ' := σ3) eT_15 rfl (e_iald xs_18 hi4) ?_
  refine xX_ite (c := 0 < (σ3 18 a.toNatClampNeg)) (w := xw_15) (i := 16) (a := 19) (b := 17) (st' := []) eT_15 rfl rfl (fun hc5 => ?_) (fun hc5 => ?_)
  · rw [if_pos hc5] at h
    refine xX_blk (w := xw_15) eT_15 4 19 (ls' := [.ref 136, .int a, .int b, .ref 14, .null]) (st' := [.int a, .ref 16, .int b]) (σ' := σ3) rfl ?_
    obtain ⟨hi6, h⟩ := xgd_inv h
    refine xX_one (w := xw_15) (i := 23) (ls' := [.ref 136, .int a, .int b, .ref 14, .null]) (st' := [.int (σ3 16 a.toNatClampNeg), .int b]) (σ' := σ3) eT_15 rfl (e_iald xs_16 hi6) ?_
    obtain ⟨r7, hr7, h⟩ := xbd_inv h
    refine xX_c1 (w := xw_15) (i := 24) (ls := [.ref 136, .int a, .int b, .ref 14, .null]) (rest := []) eT_15 rfl (by omega) rfl rfl rfl (T_X4_contains b (σ3 16 a.toNatClampNeg) σ3 (by omega) hr7) ?_
    refine xX_ite (c := r7 = 0) (w := xw_15) (i := 25) (a := 28) (b := 26) (st' := []) eT_15 rfl rfl (fun hc8 => ?_) (fun hc8 => ?_)
    · rw [if_pos hc8] at h
      refine xX_blk (w := xw_15) eT_15 6 28 (ls' := [.ref 136, .int a, .int b, .ref 14, .null]) (st' := [.int ((σ3 1 5) + 1), .ref 1]) (σ' := σ3) rfl ?_
      refine xX_blk (w := xw_15) eT_15 1 34 (ls' := [.ref 136, .int a, .int b, .ref 14, .null]) (st' := []) (σ' := xup σ3 1 5 ((σ3 1 5) + 1)) rfl ?_
      obtain ⟨σ9, eσ9, h⟩ := xlet_inv h
      rw [← eσ9]
      refine xX_blk (w := xw_15) eT_15 5 35 (ls' := [.ref 136, .int a, .int b, .ref 14, .null]) (st' := [.int a, .ref 15, .ref 129]) (σ' := σ9) rfl ?_
      obtain ⟨hi10, h⟩ := xgd_inv h
      refine xX_one (w := xw_15) (i := 40) (ls' := [.ref 136, .int a, .int b, .ref 14, .null]) (st' := [.int (σ9 15 a.toNatClampNeg), .ref 129]) (σ' := σ9) eT_15 rfl (e_iald xs_15 hi10) ?_
      refine xX_blk (w := xw_15) eT_15 5 41 (ls' := [.ref 136, .int a, .int b, .ref 14, .null]) (st' := [.ref 11, .int b, .int (σ9 15 a.toNatClampNeg), .ref 129]) (σ' := σ9) rfl ?_
      obtain ⟨r11, hr11, h⟩ := xbd_inv h
      refine xX_c1 (w := xw_15) (i := 46) (ls := [.ref 136, .int a, .int b, .ref 14, .null]) (rest := []) eT_15 rfl (by omega) rfl rfl rfl (T_X4_catchOf_11 (σ9 15 a.toNatClampNeg) b σ9 (by omega) hr11) ?_
      refine xX_blk (w := xw_15) eT_15 3 47 (ls' := [.ref 136, .int a, .int b, .ref 14, .int r11]) (st' := [.int (-1), .int r11]) (σ' := σ9) rfl ?_
      refine xX_ite (c := r11 = (-1)) (w := xw_15) (i := 50) (a := 51) (b := 53) (st' := []) eT_15 rfl rfl (fun hc12 => ?_) (fun hc12 => ?_)
      · rw [if_pos hc12] at h
        refine xX_blk (w := xw_15) eT_15 1 51 (ls' := [.ref 136, .int a, .int b, .ref 14, .int r11]) (st' := [.int 0]) (σ' := σ9) rfl ?_
        obtain rfl := Option.some.inj h
        exact xX_ret (w := xw_15) (i := 52) eT_15 rfl (e_ret2 (by decide))
      · rw [if_neg hc12] at h
        refine xX_blk (w := xw_15) eT_15 4 53 (ls' := [.ref 136, .int a, .int b, .ref 14, .int r11]) (st' := [.int r11, .int a, .ref 16]) (σ' := σ9) rfl ?_
        obtain ⟨hi13, h⟩ := xgd_inv h
        refine xX_one (w := xw_15) (i := 57) (ls' := [.ref 136, .int a, .int b, .ref 14, .int r11]) (st' := []) (σ' := xup σ9 16 a.toNatClampNeg r11) eT_15 rfl (e_iast xs_16 hi13) ?_
        obtain ⟨σ14, eσ14, h⟩ := xlet_inv h
        rw [← eσ14]
        refine xX_blk (w := xw_15) eT_15 1 58 (ls' := [.ref 136, .int a, .int b, .ref 14, .int r11]) (st' := [.int 1]) (σ' := σ14) rfl ?_
        obtain rfl := Option.some.inj h
        exact xX_ret (w := xw_15) (i := 59) eT_15 rfl (e_ret2 (by decide))
    · rw [if_neg hc8] at h
      refine xX_blk (w := xw_15) eT_15 1 26 (ls' := [.ref 136, .int a, .int b, .ref 14, .null]) (st' := [.int 1]) (σ' := σ3) rfl ?_
      obtain rfl := Option.some.inj h
      exact xX_ret (w := xw_15) (i := 27) eT_15 rfl (e_ret2 (by decide))
  · rw [if_neg hc5] at h
    refine xX_blk (w := xw_15) eT_15 1 17 (ls' := [.ref 136, .int a, .int b, .ref 14, .null]) (st' := [.int 0]) (σ' := σ3) rfl ?_
    obtain rfl := Option.some.inj h
    exact xX_ret (w := xw_15) (i := 18) eT_15 rfl (e_ret2 (by decide))
def B_X0_ageSessions_13 (p2 : Int32) (v3 : Int32) (v4 : Int32) (σ : xM) : Option ((Int32 × Int32 × xM) ⊕ ((Int32 × xM))) :=
  if (σ 14 0) ≤ v4 then
    some (.inr (v3, σ))
  else
    xbd (F_X0_outlives v4 p2 σ) fun r3 =>
    if r3.1 = 0 then
      some (.inl (v3, (v4 + 1), r3.2))
    else
      xbd (F_X7_move v4 v3 r3.2) fun r5 =>
      some (.inl ((v3 + 1), (v4 + 1), r5))
def L_X0_ageSessions_13 (p2 : Int32) (v3 : Int32) (v4 : Int32) (σ : xM) : Option ((Int32 × xM)) := xloop (fun s : Int32 × Int32 × xM => B_X0_ageSessions_13 p2 s.1 s.2.1 s.2.2) 6000 (v3, v4, σ)
set_option maxHeartbeats 1000000 in
set_option maxRecDepth 20000 in
theorem TB_X0_ageSessions_13 {d : Nat} {o : Option Value × xM} (p2 : Int32) (v3 : Int32) (v4 : Int32) (σ : xM) {q : (Int32 × Int32 × xM) ⊕ ((Int32 × xM))} (hd : 3 ≤ d) (h : B_X0_ageSessions_13 p2 v3 v4 σ = some q) (hB : ∀ s', q = .inl s' → xX xT xLn d 14 13 [.ref 136, .ref 14, .int p2, .int s'.1, .int s'.2.1] [] s'.2.2 o) (hE : ∀ e', q = .inr e' → ∀ (z2 z4 : Value), xX xT xLn d 14 30 [.ref 136, .ref 14, z2, .int e'.1, z4] [] e'.2 o) : xX xT xLn d 14 13 [.ref 136, .ref 14, .int p2, .int v3, .int v4] [] σ o := by
  unfold B_X0_ageSessions_13 at h
  refine xX_blk (w := xw_14) eT_14 4 13 (ls' := [.ref 136, .ref 14, .int p2, .int v3, .int v4]) (st' := [.int (σ 14 0), .int v4]) (σ' := σ) rfl ?_
  refine xX_ite (c := (σ 14 0) ≤ v4) (w := xw_14) (i := 17) (a := 30) (b := 18) (st' := []) eT_14 rfl rfl (fun hc2 => ?_) (fun hc2 => ?_)
  · rw [if_pos hc2] at h
    obtain rfl := Option.some.inj h
    exact hE (v3, σ) rfl _ _
  · rw [if_neg hc2] at h
    refine xX_blk (w := xw_14) eT_14 3 18 (ls' := [.ref 136, .ref 14, .int p2, .int v3, .int v4]) (st' := [.int p2, .int v4, .ref 136]) (σ' := σ) rfl ?_
    obtain ⟨r3, hr3, h⟩ := xbd_inv h
    refine xX_c1 (w := xw_14) (i := 21) (ls := [.ref 136, .ref 14, .int p2, .int v3, .int v4]) (rest := []) eT_14 rfl (by omega) rfl rfl rfl (T_X0_outlives v4 p2 σ (by omega) hr3) ?_
    refine xX_ite (c := r3.1 = 0) (w := xw_14) (i := 22) (a := 28) (b := 23) (st' := []) eT_14 rfl rfl (fun hc4 => ?_) (fun hc4 => ?_)
    · rw [if_pos hc4] at h
      refine xX_blk (w := xw_14) eT_14 1 28 (ls' := [.ref 136, .ref 14, .int p2, .int v3, .int (v4 + 1)]) (st' := []) (σ' := r3.2) rfl ?_
      refine xX_jmp (w := xw_14) (i := 29) (a := 13) (st' := []) eT_14 rfl rfl ?_
      obtain rfl := Option.some.inj h
      exact hB (v3, (v4 + 1), r3.2) rfl
    · rw [if_neg hc4] at h
      refine xX_blk (w := xw_14) eT_14 3 23 (ls' := [.ref 136, .ref 14, .int p2, .int v3, .int v4]) (st' := [.int v3, .int v4, .ref 14]) (σ' := r3.2) rfl ?_
      obtain ⟨r5, hr5, h⟩ := xbd_inv h
      refine xX_c0 (w := xw_14) (i := 26) (ls := [.ref 136, .ref 14, .int p2, .int v3, .int v4]) (rest := []) eT_14 rfl (by omega) rfl rfl rfl (T_X7_move v4 v3 r3.2 (by omega) hr5) ?_
      refine xX_blk (w := xw_14) eT_14 2 27 (ls' := [.ref 136, .ref 14, .int p2, .int (v3 + 1), .int (v4 + 1)]) (st' := []) (σ' := r5) rfl ?_
      refine xX_jmp (w := xw_14) (i := 29) (a := 13) (st' := []) eT_14 rfl rfl ?_
      obtain rfl := Option.some.inj h
      exact hB ((v3 + 1), (v4 + 1), r5) rfl
set_option maxHeartbeats 1000000 in
set_option maxRecDepth 20000 in
theorem TL_X0_ageSessions_13 {d : Nat} {o : Option Value × xM} (p2 : Int32) (v3 : Int32) (v4 : Int32) (σ : xM) {e : (Int32 × xM)} (hd : 3 ≤ d) (h : L_X0_ageSessions_13 p2 v3 v4 σ = some e) (hE : ∀ (z2 z4 : Value), xX xT xLn d 14 30 [.ref 136, .ref 14, z2, .int e.1, z4] [] e.2 o) : xX xT xLn d 14 13 [.ref 136, .ref 14, .int p2, .int v3, .int v4] [] σ o :=
  xloop_snd (X := fun s => xX xT xLn d 14 13 [.ref 136, .ref 14, .int p2, .int s.1, .int s.2.1] [] s.2.2 o) (Y := fun e' => ∀ (z2 z4 : Value), xX xT xLn d 14 30 [.ref 136, .ref 14, z2, .int e'.1, z4] [] e'.2 o) (fun s q hs hB hE => TB_X0_ageSessions_13 p2 s.1 s.2.1 s.2.2 hd hs hB hE) _ _ _ h hE
def F_X0_ageSessions (σ : xM) : Option (xM) :=
  xbd (F_X8_notOff σ) fun r1 =>
  xbd (L_X0_ageSessions_13 r1 0 0 σ) fun e6 =>
  xlet (xup e6.2 1 4 ((e6.2 1 4) + ((e6.2 14 0) - e6.1))) fun σ7 =>
  xlet (xup σ7 14 0 e6.1) fun σ8 =>
  some σ8
set_option maxHeartbeats 1000000 in
set_option maxRecDepth 20000 in
theorem T_X0_ageSessions (σ : xM) {d : Nat} {q : xM} (hd : 3 ≤ d) (h : F_X0_ageSessions σ = some q) : xR xT xLn d 14 [.ref 136] σ (none, q) := by
  unfold F_X0_ageSessions at h
  show xX xT xLn d 14 0 [.ref 136, .null, .null, .null, .null] [] σ _
  refine xX_blk (w := xw_14) eT_14 7 0 (ls' := [.ref 136, .ref 14, .null, .null, .null]) (st' := [.ref 8]) (σ' := σ) rfl ?_
  obtain ⟨r1, hr1, h⟩ := xbd_inv h
  refine xX_c1 (w := xw_14) (i := 7) (ls := [.ref 136, .ref 14, .null, .null, .null]) (rest := []) eT_14 rfl (by omega) rfl rfl rfl (T_X8_notOff σ (by omega) hr1) ?_
  refine xX_blk (w := xw_14) eT_14 5 8 (ls' := [.ref 136, .ref 14, .int r1, .int 0, .int 0]) (st' := []) (σ' := σ) rfl ?_
  obtain ⟨e6, he6, h⟩ := xbd_inv h
  refine TL_X0_ageSessions_13 r1 0 0 σ (by omega) he6 (fun z2 z4 => ?_)
  refine xX_blk (w := xw_14) eT_14 10 30 (ls' := [.ref 136, .ref 14, .null, .int e6.1, .null]) (st' := [.int ((e6.2 1 4) + ((e6.2 14 0) - e6.1)), .ref 1]) (σ' := e6.2) rfl ?_
  refine xX_blk (w := xw_14) eT_14 1 40 (ls' := [.ref 136, .ref 14, .null, .int e6.1, .null]) (st' := []) (σ' := xup e6.2 1 4 ((e6.2 1 4) + ((e6.2 14 0) - e6.1))) rfl ?_
  obtain ⟨σ7, eσ7, h⟩ := xlet_inv h
  rw [← eσ7]
  refine xX_blk (w := xw_14) eT_14 2 41 (ls' := [.ref 136, .ref 14, .null, .int e6.1, .null]) (st' := [.int e6.1, .ref 14]) (σ' := σ7) rfl ?_
  refine xX_blk (w := xw_14) eT_14 1 43 (ls' := [.ref 136, .ref 14, .null, .int e6.1, .null]) (st' := []) (σ' := xup σ7 14 0 e6.1) rfl ?_
  obtain ⟨σ8, eσ8, h⟩ := xlet_inv h
  rw [← eσ8]
  obtain rfl := Option.some.inj h
  exact xX_ret (w := xw_14) (i := 44) eT_14 rfl rfl
def F_X0_advanceDrain (σ : xM) : Option (xM) :=
  if (σ 8 1) = 0 then
    some σ
  else
    xgd (xin (σ 13 0) 5) (
    xbd (F_X8_notOff σ) fun r3 =>
    xbd (F_X4_look_11 r3 σ) fun r4 =>
    if 4 ≤ (σ 11 (σ 13 0).toNatClampNeg) then
      xbd (F_X4_look_11 (r3 &&& (((1 : Int32) <<< ((σ 13 0) &&& 31)) ^^^ (-1))) r4.2) fun r6 =>
      if ((r6.1 &&& (r4.1 ^^^ (-1))) &&& (((1 : Int32) <<< ((σ 13 0) &&& 31)) ^^^ (-1))) = 0 then
        xbd (F_X8_turnOff (σ 13 0) r6.2) fun r8 =>
        some r8
      else
        xgd (xin (σ 13 0) 5) (
        xlet (xup r6.2 11 (σ 13 0).toNatClampNeg (σ 11 (σ 13 0).toNatClampNeg)) fun σ10 =>
        xlet (xup σ10 1 6 ((σ10 1 6) + 1)) fun σ11 =>
        some σ11)
    else
      xbd (F_X4_caughtBy (σ 13 0) r4.2) fun r12 =>
      if r12 = 0 then
        xbd (F_X4_look_11 (r3 &&& (((1 : Int32) <<< ((σ 13 0) &&& 31)) ^^^ (-1))) r4.2) fun r14 =>
        if ((r14.1 &&& (r4.1 ^^^ (-1))) &&& (((1 : Int32) <<< ((σ 13 0) &&& 31)) ^^^ (-1))) = 0 then
          xbd (F_X8_turnOff (σ 13 0) r14.2) fun r16 =>
          some r16
        else
          xgd (xin (σ 13 0) 5) (
          xlet (xup r14.2 11 (σ 13 0).toNatClampNeg (σ 11 (σ 13 0).toNatClampNeg)) fun σ18 =>
          xlet (xup σ18 1 6 ((σ18 1 6) + 1)) fun σ19 =>
          some σ19)
      else
        xgd (xin (σ 13 0) 5) (
        xlet (xup r4.2 11 (σ 13 0).toNatClampNeg ((σ 11 (σ 13 0).toNatClampNeg) + 1)) fun σ21 =>
        xbd (F_X4_look_11 r3 σ21) fun r22 =>
        if ((r22.1 &&& (r4.1 ^^^ (-1))) &&& (((1 : Int32) <<< ((σ 13 0) &&& 31)) ^^^ (-1))) = 0 then
          some r22.2
        else
          xgd (xin (σ 13 0) 5) (
          xlet (xup r22.2 11 (σ 13 0).toNatClampNeg (σ 11 (σ 13 0).toNatClampNeg)) fun σ25 =>
          xlet (xup σ25 1 6 ((σ25 1 6) + 1)) fun σ26 =>
          some σ26)))
set_option maxHeartbeats 1000000 in
set_option maxRecDepth 20000 in
theorem T_X0_advanceDrain (σ : xM) {d : Nat} {q : xM} (hd : 3 ≤ d) (h : F_X0_advanceDrain σ = some q) : xR xT xLn d 16 [.ref 136] σ (none, q) := by
  unfold F_X0_advanceDrain at h
  show xX xT xLn d 16 0 [.ref 136, .null, .null, .null, .null, .null, .null, .null] [] σ _
  refine xX_blk (w := xw_16) eT_16 6 0 (ls' := [.ref 136, .ref 8, .null, .null, .null, .null, .null, .null]) (st' := [.int (σ 8 1)]) (σ' := σ) rfl ?_
  refine xX_ite (c := (σ 8 1) = 0) (w := xw_16) (i := 6) (a := 7) (b := 8) (st' := []) eT_16 rfl rfl (fun hc1 => ?_) (fun hc1 => ?_)
  · rw [if_pos hc1] at h
    obtain rfl := Option.some.inj h
    exact xX_ret (w := xw_16) (i := 7) eT_16 rfl rfl
  · rw [if_neg hc1] at h
    refine xX_blk (w := xw_16) eT_16 3 8 (ls' := [.ref 136, .ref 8, .null, .null, .null, .null, .null, .null]) (st' := [.int 0, .ref 13]) (σ' := σ) rfl ?_
    refine xX_one (w := xw_16) (i := 11) (ls' := [.ref 136, .ref 8, .null, .null, .null, .null, .null, .null]) (st' := [.int (σ 13 0)]) (σ' := σ) eT_16 rfl (e_ialK xs_13 (by decide) (by decide)) ?_
    refine xX_blk (w := xw_16) eT_16 4 12 (ls' := [.ref 136, .ref 8, .int (σ 13 0), .null, .null, .null, .null, .null]) (st' := [.int (σ 13 0), .ref 11]) (σ' := σ) rfl ?_
    obtain ⟨hi2, h⟩ := xgd_inv h
    refine xX_one (w := xw_16) (i := 16) (ls' := [.ref 136, .ref 8, .int (σ 13 0), .null, .null, .null, .null, .null]) (st' := [.int (σ 11 (σ 13 0).toNatClampNeg)]) (σ' := σ) eT_16 rfl (e_iald xs_11 hi2) ?_
    refine xX_blk (w := xw_16) eT_16 2 17 (ls' := [.ref 136, .ref 8, .int (σ 13 0), .int (σ 11 (σ 13 0).toNatClampNeg), .null, .null, .null, .null]) (st' := [.ref 8]) (σ' := σ) rfl ?_
    obtain ⟨r3, hr3, h⟩ := xbd_inv h
    refine xX_c1 (w := xw_16) (i := 19) (ls := [.ref 136, .ref 8, .int (σ 13 0), .int (σ 11 (σ 13 0).toNatClampNeg), .null, .null, .null, .null]) (rest := []) eT_16 rfl (by omega) rfl rfl rfl (T_X8_notOff σ (by omega) hr3) ?_
    refine xX_blk (w := xw_16) eT_16 6 20 (ls' := [.ref 136, .ref 8, .int (σ 13 0), .int (σ 11 (σ 13 0).toNatClampNeg), .int r3, .null, .null, .null]) (st' := [.ref 11, .int r3, .ref 129]) (σ' := σ) rfl ?_
    obtain ⟨r4, hr4, h⟩ := xbd_inv h
    refine xX_c1 (w := xw_16) (i := 26) (ls := [.ref 136, .ref 8, .int (σ 13 0), .int (σ 11 (σ 13 0).toNatClampNeg), .int r3, .null, .null, .null]) (rest := []) eT_16 rfl (by omega) rfl rfl rfl (T_X4_look_11 r3 σ (by omega) hr4) ?_
    refine xX_blk (w := xw_16) eT_16 3 27 (ls' := [.ref 136, .ref 8, .int (σ 13 0), .int (σ 11 (σ 13 0).toNatClampNeg), .int r3, .int r4.1, .null, .null]) (st' := [.int 4, .int (σ 11 (σ 13 0).toNatClampNeg)]) (σ' := r4.2) rfl ?_
    refine xX_ite (c := 4 ≤ (σ 11 (σ 13 0).toNatClampNeg)) (w := xw_16) (i := 30) (a := 36) (b := 31) (st' := []) eT_16 rfl rfl (fun hc5 => ?_) (fun hc5 => ?_)
    · rw [if_pos hc5] at h
      refine xX_blk (w := xw_16) eT_16 1 36 (ls' := [.ref 136, .ref 8, .int (σ 13 0), .int (σ 11 (σ 13 0).toNatClampNeg), .int r3, .int r4.1, .null, .null]) (st' := [.int 1]) (σ' := r4.2) rfl ?_
      refine xX_jmp (w := xw_16) (i := 37) (a := 39) (st' := [.int 1]) eT_16 rfl rfl ?_
      refine xX_blk (w := xw_16) eT_16 2 39 (ls' := [.ref 136, .ref 8, .int (σ 13 0), .int (σ 11 (σ 13 0).toNatClampNeg), .int r3, .int r4.1, .int 1, .null]) (st' := [.int 1]) (σ' := r4.2) rfl ?_
      refine xX_ite (c := (1 : Int32) = 0) (w := xw_16) (i := 41) (a := 51) (b := 42) (st' := []) eT_16 rfl rfl (fun hc => absurd hc (by decide)) (fun _ => ?_)
      refine xX_blk (w := xw_16) eT_16 8 42 (ls' := [.ref 136, .ref 8, .int (σ 13 0), .int (σ 11 (σ 13 0).toNatClampNeg), .int (r3 &&& (((1 : Int32) <<< ((σ 13 0) &&& 31)) ^^^ (-1))), .int r4.1, .int 1, .null]) (st' := []) (σ' := r4.2) rfl ?_
      refine xX_jmp (w := xw_16) (i := 50) (a := 58) (st' := []) eT_16 rfl rfl ?_
      refine xX_blk (w := xw_16) eT_16 5 58 (ls' := [.ref 136, .ref 8, .int (σ 13 0), .int (σ 11 (σ 13 0).toNatClampNeg), .int (r3 &&& (((1 : Int32) <<< ((σ 13 0) &&& 31)) ^^^ (-1))), .int r4.1, .int 1, .null]) (st' := [.ref 11, .int (r3 &&& (((1 : Int32) <<< ((σ 13 0) &&& 31)) ^^^ (-1))), .ref 129]) (σ' := r4.2) rfl ?_
      obtain ⟨r6, hr6, h⟩ := xbd_inv h
      refine xX_c1 (w := xw_16) (i := 63) (ls := [.ref 136, .ref 8, .int (σ 13 0), .int (σ 11 (σ 13 0).toNatClampNeg), .int (r3 &&& (((1 : Int32) <<< ((σ 13 0) &&& 31)) ^^^ (-1))), .int r4.1, .int 1, .null]) (rest := []) eT_16 rfl (by omega) rfl rfl rfl (T_X4_look_11 (r3 &&& (((1 : Int32) <<< ((σ 13 0) &&& 31)) ^^^ (-1))) r4.2 (by omega) hr6) ?_
      refine xX_blk (w := xw_16) eT_16 12 64 (ls' := [.ref 136, .ref 8, .int (σ 13 0), .int (σ 11 (σ 13 0).toNatClampNeg), .int (r3 &&& (((1 : Int32) <<< ((σ 13 0) &&& 31)) ^^^ (-1))), .int r4.1, .int 1, .int r6.1]) (st' := [.int ((r6.1 &&& (r4.1 ^^^ (-1))) &&& (((1 : Int32) <<< ((σ 13 0) &&& 31)) ^^^ (-1)))]) (σ' := r6.2) rfl ?_
      refine xX_ite (c := ((r6.1 &&& (r4.1 ^^^ (-1))) &&& (((1 : Int32) <<< ((σ 13 0) &&& 31)) ^^^ (-1))) = 0) (w := xw_16) (i := 76) (a := 90) (b := 77) (st' := []) eT_16 rfl rfl (fun hc7 => ?_) (fun hc7 => ?_)
      · rw [if_pos hc7] at h
        refine xX_blk (w := xw_16) eT_16 1 90 (ls' := [.ref 136, .ref 8, .int (σ 13 0), .int (σ 11 (σ 13 0).toNatClampNeg), .int (r3 &&& (((1 : Int32) <<< ((σ 13 0) &&& 31)) ^^^ (-1))), .int r4.1, .int 1, .int r6.1]) (st' := [.int 1]) (σ' := r6.2) rfl ?_
        refine xX_ite (c := (1 : Int32) = 0) (w := xw_16) (i := 91) (a := 95) (b := 92) (st' := []) eT_16 rfl rfl (fun hc => absurd hc (by decide)) (fun _ => ?_)
        refine xX_blk (w := xw_16) eT_16 2 92 (ls' := [.ref 136, .ref 8, .int (σ 13 0), .int (σ 11 (σ 13 0).toNatClampNeg), .int (r3 &&& (((1 : Int32) <<< ((σ 13 0) &&& 31)) ^^^ (-1))), .int r4.1, .int 1, .int r6.1]) (st' := [.int (σ 13 0), .ref 8]) (σ' := r6.2) rfl ?_
        obtain ⟨r8, hr8, h⟩ := xbd_inv h
        refine xX_c0 (w := xw_16) (i := 94) (ls := [.ref 136, .ref 8, .int (σ 13 0), .int (σ 11 (σ 13 0).toNatClampNeg), .int (r3 &&& (((1 : Int32) <<< ((σ 13 0) &&& 31)) ^^^ (-1))), .int r4.1, .int 1, .int r6.1]) (rest := []) eT_16 rfl (by omega) rfl rfl rfl (T_X8_turnOff (σ 13 0) r6.2 (by omega) hr8) ?_
        obtain rfl := Option.some.inj h
        exact xX_ret (w := xw_16) (i := 95) eT_16 rfl rfl
      · rw [if_neg hc7] at h
        refine xX_blk (w := xw_16) eT_16 4 77 (ls' := [.ref 136, .ref 8, .int (σ 13 0), .int (σ 11 (σ 13 0).toNatClampNeg), .int (r3 &&& (((1 : Int32) <<< ((σ 13 0) &&& 31)) ^^^ (-1))), .int r4.1, .int 1, .int r6.1]) (st' := [.int (σ 11 (σ 13 0).toNatClampNeg), .int (σ 13 0), .ref 11]) (σ' := r6.2) rfl ?_
        obtain ⟨hi9, h⟩ := xgd_inv h
        refine xX_one (w := xw_16) (i := 81) (ls' := [.ref 136, .ref 8, .int (σ 13 0), .int (σ 11 (σ 13 0).toNatClampNeg), .int (r3 &&& (((1 : Int32) <<< ((σ 13 0) &&& 31)) ^^^ (-1))), .int r4.1, .int 1, .int r6.1]) (st' := []) (σ' := xup r6.2 11 (σ 13 0).toNatClampNeg (σ 11 (σ 13 0).toNatClampNeg)) eT_16 rfl (e_iast xs_11 hi9) ?_
        obtain ⟨σ10, eσ10, h⟩ := xlet_inv h
        rw [← eσ10]
        refine xX_blk (w := xw_16) eT_16 6 82 (ls' := [.ref 136, .ref 8, .int (σ 13 0), .int (σ 11 (σ 13 0).toNatClampNeg), .int (r3 &&& (((1 : Int32) <<< ((σ 13 0) &&& 31)) ^^^ (-1))), .int r4.1, .int 1, .int r6.1]) (st' := [.int ((σ10 1 6) + 1), .ref 1]) (σ' := σ10) rfl ?_
        refine xX_blk (w := xw_16) eT_16 1 88 (ls' := [.ref 136, .ref 8, .int (σ 13 0), .int (σ 11 (σ 13 0).toNatClampNeg), .int (r3 &&& (((1 : Int32) <<< ((σ 13 0) &&& 31)) ^^^ (-1))), .int r4.1, .int 1, .int r6.1]) (st' := []) (σ' := xup σ10 1 6 ((σ10 1 6) + 1)) rfl ?_
        obtain ⟨σ11, eσ11, h⟩ := xlet_inv h
        rw [← eσ11]
        refine xX_jmp (w := xw_16) (i := 89) (a := 95) (st' := []) eT_16 rfl rfl ?_
        obtain rfl := Option.some.inj h
        exact xX_ret (w := xw_16) (i := 95) eT_16 rfl rfl
    · rw [if_neg hc5] at h
      refine xX_blk (w := xw_16) eT_16 3 31 (ls' := [.ref 136, .ref 8, .int (σ 13 0), .int (σ 11 (σ 13 0).toNatClampNeg), .int r3, .int r4.1, .null, .null]) (st' := [.int (σ 13 0), .ref 129]) (σ' := r4.2) rfl ?_
      obtain ⟨r12, hr12, h⟩ := xbd_inv h
      refine xX_c1 (w := xw_16) (i := 34) (ls := [.ref 136, .ref 8, .int (σ 13 0), .int (σ 11 (σ 13 0).toNatClampNeg), .int r3, .int r4.1, .null, .null]) (rest := []) eT_16 rfl (by omega) rfl rfl rfl (T_X4_caughtBy (σ 13 0) r4.2 (by omega) hr12) ?_
      refine xX_ite (c := r12 = 0) (w := xw_16) (i := 35) (a := 36) (b := 38) (st' := []) eT_16 rfl rfl (fun hc13 => ?_) (fun hc13 => ?_)
      · rw [if_pos hc13] at h
        refine xX_blk (w := xw_16) eT_16 1 36 (ls' := [.ref 136, .ref 8, .int (σ 13 0), .int (σ 11 (σ 13 0).toNatClampNeg), .int r3, .int r4.1, .null, .null]) (st' := [.int 1]) (σ' := r4.2) rfl ?_
        refine xX_jmp (w := xw_16) (i := 37) (a := 39) (st' := [.int 1]) eT_16 rfl rfl ?_
        refine xX_blk (w := xw_16) eT_16 2 39 (ls' := [.ref 136, .ref 8, .int (σ 13 0), .int (σ 11 (σ 13 0).toNatClampNeg), .int r3, .int r4.1, .int 1, .null]) (st' := [.int 1]) (σ' := r4.2) rfl ?_
        refine xX_ite (c := (1 : Int32) = 0) (w := xw_16) (i := 41) (a := 51) (b := 42) (st' := []) eT_16 rfl rfl (fun hc => absurd hc (by decide)) (fun _ => ?_)
        refine xX_blk (w := xw_16) eT_16 8 42 (ls' := [.ref 136, .ref 8, .int (σ 13 0), .int (σ 11 (σ 13 0).toNatClampNeg), .int (r3 &&& (((1 : Int32) <<< ((σ 13 0) &&& 31)) ^^^ (-1))), .int r4.1, .int 1, .null]) (st' := []) (σ' := r4.2) rfl ?_
        refine xX_jmp (w := xw_16) (i := 50) (a := 58) (st' := []) eT_16 rfl rfl ?_
        refine xX_blk (w := xw_16) eT_16 5 58 (ls' := [.ref 136, .ref 8, .int (σ 13 0), .int (σ 11 (σ 13 0).toNatClampNeg), .int (r3 &&& (((1 : Int32) <<< ((σ 13 0) &&& 31)) ^^^ (-1))), .int r4.1, .int 1, .null]) (st' := [.ref 11, .int (r3 &&& (((1 : Int32) <<< ((σ 13 0) &&& 31)) ^^^ (-1))), .ref 129]) (σ' := r4.2) rfl ?_
        obtain ⟨r14, hr14, h⟩ := xbd_inv h
        refine xX_c1 (w := xw_16) (i := 63) (ls := [.ref 136, .ref 8, .int (σ 13 0), .int (σ 11 (σ 13 0).toNatClampNeg), .int (r3 &&& (((1 : Int32) <<< ((σ 13 0) &&& 31)) ^^^ (-1))), .int r4.1, .int 1, .null]) (rest := []) eT_16 rfl (by omega) rfl rfl rfl (T_X4_look_11 (r3 &&& (((1 : Int32) <<< ((σ 13 0) &&& 31)) ^^^ (-1))) r4.2 (by omega) hr14) ?_
        refine xX_blk (w := xw_16) eT_16 12 64 (ls' := [.ref 136, .ref 8, .int (σ 13 0), .int (σ 11 (σ 13 0).toNatClampNeg), .int (r3 &&& (((1 : Int32) <<< ((σ 13 0) &&& 31)) ^^^ (-1))), .int r4.1, .int 1, .int r14.1]) (st' := [.int ((r14.1 &&& (r4.1 ^^^ (-1))) &&& (((1 : Int32) <<< ((σ 13 0) &&& 31)) ^^^ (-1)))]) (σ' := r14.2) rfl ?_
        refine xX_ite (c := ((r14.1 &&& (r4.1 ^^^ (-1))) &&& (((1 : Int32) <<< ((σ 13 0) &&& 31)) ^^^ (-1))) = 0) (w := xw_16) (i := 76) (a := 90) (b := 77) (st' := []) eT_16 rfl rfl (fun hc15 => ?_) (fun hc15 => ?_)
        · rw [if_pos hc15] at h
          refine xX_blk (w := xw_16) eT_16 1 90 (ls' := [.ref 136, .ref 8, .int (σ 13 0), .int (σ 11 (σ 13 0).toNatClampNeg), .int (r3 &&& (((1 : Int32) <<< ((σ 13 0) &&& 31)) ^^^ (-1))), .int r4.1, .int 1, .int r14.1]) (st' := [.int 1]) (σ' := r14.2) rfl ?_
          refine xX_ite (c := (1 : Int32) = 0) (w := xw_16) (i := 91) (a := 95) (b := 92) (st' := []) eT_16 rfl rfl (fun hc => absurd hc (by decide)) (fun _ => ?_)
          refine xX_blk (w := xw_16) eT_16 2 92 (ls' := [.ref 136, .ref 8, .int (σ 13 0), .int (σ 11 (σ 13 0).toNatClampNeg), .int (r3 &&& (((1 : Int32) <<< ((σ 13 0) &&& 31)) ^^^ (-1))), .int r4.1, .int 1, .int r14.1]) (st' := [.int (σ 13 0), .ref 8]) (σ' := r14.2) rfl ?_
          obtain ⟨r16, hr16, h⟩ := xbd_inv h
          refine xX_c0 (w := xw_16) (i := 94) (ls := [.ref 136, .ref 8, .int (σ 13 0), .int (σ 11 (σ 13 0).toNatClampNeg), .int (r3 &&& (((1 : Int32) <<< ((σ 13 0) &&& 31)) ^^^ (-1))), .int r4.1, .int 1, .int r14.1]) (rest := []) eT_16 rfl (by omega) rfl rfl rfl (T_X8_turnOff (σ 13 0) r14.2 (by omega) hr16) ?_
          obtain rfl := Option.some.inj h
          exact xX_ret (w := xw_16) (i := 95) eT_16 rfl rfl
        · rw [if_neg hc15] at h
          refine xX_blk (w := xw_16) eT_16 4 77 (ls' := [.ref 136, .ref 8, .int (σ 13 0), .int (σ 11 (σ 13 0).toNatClampNeg), .int (r3 &&& (((1 : Int32) <<< ((σ 13 0) &&& 31)) ^^^ (-1))), .int r4.1, .int 1, .int r14.1]) (st' := [.int (σ 11 (σ 13 0).toNatClampNeg), .int (σ 13 0), .ref 11]) (σ' := r14.2) rfl ?_
          obtain ⟨hi17, h⟩ := xgd_inv h
          refine xX_one (w := xw_16) (i := 81) (ls' := [.ref 136, .ref 8, .int (σ 13 0), .int (σ 11 (σ 13 0).toNatClampNeg), .int (r3 &&& (((1 : Int32) <<< ((σ 13 0) &&& 31)) ^^^ (-1))), .int r4.1, .int 1, .int r14.1]) (st' := []) (σ' := xup r14.2 11 (σ 13 0).toNatClampNeg (σ 11 (σ 13 0).toNatClampNeg)) eT_16 rfl (e_iast xs_11 hi17) ?_
          obtain ⟨σ18, eσ18, h⟩ := xlet_inv h
          rw [← eσ18]
          refine xX_blk (w := xw_16) eT_16 6 82 (ls' := [.ref 136, .ref 8, .int (σ 13 0), .int (σ 11 (σ 13 0).toNatClampNeg), .int (r3 &&& (((1 : Int32) <<< ((σ 13 0) &&& 31)) ^^^ (-1))), .int r4.1, .int 1, .int r14.1]) (st' := [.int ((σ18 1 6) + 1), .ref 1]) (σ' := σ18) rfl ?_
          refine xX_blk (w := xw_16) eT_16 1 88 (ls' := [.ref 136, .ref 8, .int (σ 13 0), .int (σ 11 (σ 13 0).toNatClampNeg), .int (r3 &&& (((1 : Int32) <<< ((σ 13 0) &&& 31)) ^^^ (-1))), .int r4.1, .int 1, .int r14.1]) (st' := []) (σ' := xup σ18 1 6 ((σ18 1 6) + 1)) rfl ?_
          obtain ⟨σ19, eσ19, h⟩ := xlet_inv h
          rw [← eσ19]
          refine xX_jmp (w := xw_16) (i := 89) (a := 95) (st' := []) eT_16 rfl rfl ?_
          obtain rfl := Option.some.inj h
          exact xX_ret (w := xw_16) (i := 95) eT_16 rfl rfl
      · rw [if_neg hc13] at h
        refine xX_blk (w := xw_16) eT_16 3 38 (ls' := [.ref 136, .ref 8, .int (σ 13 0), .int (σ 11 (σ 13 0).toNatClampNeg), .int r3, .int r4.1, .int 0, .null]) (st' := [.int 0]) (σ' := r4.2) rfl ?_
        refine xX_ite (c := (0 : Int32) = 0) (w := xw_16) (i := 41) (a := 51) (b := 42) (st' := []) eT_16 rfl rfl (fun _ => ?_) (fun hc => absurd (by decide) hc)
        refine xX_blk (w := xw_16) eT_16 6 51 (ls' := [.ref 136, .ref 8, .int (σ 13 0), .int (σ 11 (σ 13 0).toNatClampNeg), .int r3, .int r4.1, .int 0, .null]) (st' := [.int ((σ 11 (σ 13 0).toNatClampNeg) + 1), .int (σ 13 0), .ref 11]) (σ' := r4.2) rfl ?_
        obtain ⟨hi20, h⟩ := xgd_inv h
        refine xX_one (w := xw_16) (i := 57) (ls' := [.ref 136, .ref 8, .int (σ 13 0), .int (σ 11 (σ 13 0).toNatClampNeg), .int r3, .int r4.1, .int 0, .null]) (st' := []) (σ' := xup r4.2 11 (σ 13 0).toNatClampNeg ((σ 11 (σ 13 0).toNatClampNeg) + 1)) eT_16 rfl (e_iast xs_11 hi20) ?_
        obtain ⟨σ21, eσ21, h⟩ := xlet_inv h
        rw [← eσ21]
        refine xX_blk (w := xw_16) eT_16 5 58 (ls' := [.ref 136, .ref 8, .int (σ 13 0), .int (σ 11 (σ 13 0).toNatClampNeg), .int r3, .int r4.1, .int 0, .null]) (st' := [.ref 11, .int r3, .ref 129]) (σ' := σ21) rfl ?_
        obtain ⟨r22, hr22, h⟩ := xbd_inv h
        refine xX_c1 (w := xw_16) (i := 63) (ls := [.ref 136, .ref 8, .int (σ 13 0), .int (σ 11 (σ 13 0).toNatClampNeg), .int r3, .int r4.1, .int 0, .null]) (rest := []) eT_16 rfl (by omega) rfl rfl rfl (T_X4_look_11 r3 σ21 (by omega) hr22) ?_
        refine xX_blk (w := xw_16) eT_16 12 64 (ls' := [.ref 136, .ref 8, .int (σ 13 0), .int (σ 11 (σ 13 0).toNatClampNeg), .int r3, .int r4.1, .int 0, .int r22.1]) (st' := [.int ((r22.1 &&& (r4.1 ^^^ (-1))) &&& (((1 : Int32) <<< ((σ 13 0) &&& 31)) ^^^ (-1)))]) (σ' := r22.2) rfl ?_
        refine xX_ite (c := ((r22.1 &&& (r4.1 ^^^ (-1))) &&& (((1 : Int32) <<< ((σ 13 0) &&& 31)) ^^^ (-1))) = 0) (w := xw_16) (i := 76) (a := 90) (b := 77) (st' := []) eT_16 rfl rfl (fun hc23 => ?_) (fun hc23 => ?_)
        · rw [if_pos hc23] at h
          refine xX_blk (w := xw_16) eT_16 1 90 (ls' := [.ref 136, .ref 8, .int (σ 13 0), .int (σ 11 (σ 13 0).toNatClampNeg), .int r3, .int r4.1, .int 0, .int r22.1]) (st' := [.int 0]) (σ' := r22.2) rfl ?_
          refine xX_ite (c := (0 : Int32) = 0) (w := xw_16) (i := 91) (a := 95) (b := 92) (st' := []) eT_16 rfl rfl (fun _ => ?_) (fun hc => absurd (by decide) hc)
          obtain rfl := Option.some.inj h
          exact xX_ret (w := xw_16) (i := 95) eT_16 rfl rfl
        · rw [if_neg hc23] at h
          refine xX_blk (w := xw_16) eT_16 4 77 (ls' := [.ref 136, .ref 8, .int (σ 13 0), .int (σ 11 (σ 13 0).toNatClampNeg), .int r3, .int r4.1, .int 0, .int r22.1]) (st' := [.int (σ 11 (σ 13 0).toNatClampNeg), .int (σ 13 0), .ref 11]) (σ' := r22.2) rfl ?_
          obtain ⟨hi24, h⟩ := xgd_inv h
          refine xX_one (w := xw_16) (i := 81) (ls' := [.ref 136, .ref 8, .int (σ 13 0), .int (σ 11 (σ 13 0).toNatClampNeg), .int r3, .int r4.1, .int 0, .int r22.1]) (st' := []) (σ' := xup r22.2 11 (σ 13 0).toNatClampNeg (σ 11 (σ 13 0).toNatClampNeg)) eT_16 rfl (e_iast xs_11 hi24) ?_
          obtain ⟨σ25, eσ25, h⟩ := xlet_inv h
          rw [← eσ25]
          refine xX_blk (w := xw_16) eT_16 6 82 (ls' := [.ref 136, .ref 8, .int (σ 13 0), .int (σ 11 (σ 13 0).toNatClampNeg), .int r3, .int r4.1, .int 0, .int r22.1]) (st' := [.int ((σ25 1 6) + 1), .ref 1]) (σ' := σ25) rfl ?_
          refine xX_blk (w := xw_16) eT_16 1 88 (ls' := [.ref 136, .ref 8, .int (σ 13 0), .int (σ 11 (σ 13 0).toNatClampNeg), .int r3, .int r4.1, .int 0, .int r22.1]) (st' := []) (σ' := xup σ25 1 6 ((σ25 1 6) + 1)) rfl ?_
          obtain ⟨σ26, eσ26, h⟩ := xlet_inv h
          rw [← eσ26]
          refine xX_jmp (w := xw_16) (i := 89) (a := 95) (st' := []) eT_16 rfl rfl ?_
          obtain rfl := Option.some.inj h
          exact xX_ret (w := xw_16) (i := 95) eT_16 rfl rfl
