def R_law : String := "AnySitesLaw"
def lw_P (b : Addr) (xs : List Int32) (args : Array Value) (s : State) : Prop := args = #[.ref b] ∧ s.IntsAt b xs ∧ xs.length ≤ 2048 ∧ (Jvm.Cond.and given_1 narrow_1).before args s = true
def lw_Q (_ : Array Value) (s : State) (o : Outcome) (t : State) : Prop := o = .returned (some (.int 1)) ∧ Framed s o t [] 600000 7302250
def lw_Z (below : List Frame) (a : Array Value) (s : State) : State → Prop := fun t => ∃ o, t.status = .running ∧ Ended t below o ∧ lw_Q a s o t
theorem lw_ret {p : Program} {l : Launch} {e : Env} {s : State} {m : MethodId} {below : List Frame} {meth : Method} {c : Code} {b : Nat} (hx : p.tables.exec = Jvm.exec) (hb : c.code = code) (hr : meth.sig.returnType = ret) (hlocks : meth.locks = false) {pc : Nat} {H : Heap} {ls : Array Slot} (hdg : decode code pc = .ok (.ireturn, 1)) : W p l e room_1 s m #[Value.ref b] below meth c H [] 600000 7302250 (lw_Z below #[Value.ref b] s) (F0 m pc ls [.int 1]) := by
  intro T hT X
  obtain ⟨fs, hret, hrun, hended, hW, hframe⟩ := X.leave (v := some (.int 1)) (hlocks := hlocks) (fun h => by rw [hr] at h; cases h)
  have hmeth' : T.vm.method? m = some meth := X.method'
  refine ⟨T.setFrames fs, ?_, .returned (some (.int 1)), hrun, hended, rfl, ⟨_, rfl⟩, hW, hframe⟩
  jvm_step X.here [X.here.top, hx, hb, hdg, hmeth', hr, ret, narrow_b1]
  (try refine ⟨rfl, ?_⟩); (try refine ⟨rfl, ?_⟩)
  first | (intro acts; rw [hret _ acts rfl rfl rfl]) | rw [hret _ _ rfl rfl rfl]
  exact Steps.refl _
def lw_At (p : Program) (s : State) (m : MethodId) (meth : Method) (c : Code) (b L : Nat) (xs : Nat → Int32) : Prop :=
  p.tables.exec = Jvm.exec ∧ c.code = code ∧ meth.sig.returnType = ret ∧ c.maxLocals = 4 ∧ s.vm.findClass R_law = some m.cls ∧ (∀ w ∈ lw_tbl, w.before #[Value.ref b] s = true) ∧ va_X b L xs s s.heap ∧ b < s.heap.size ∧ meth.locks = false ∧ (Jvm.Cond.and given_1 narrow_1).before #[Value.ref b] s = true

theorem x_met {l : Launch} {D : va_G} {cI cS : ClassId} {b d mid : Nat} {vs : List Value} {σ σ' : xM} {r : Option Value} (h : xR xT xLn d mid vs σ (r, σ')) (hlen : (lg_sl vs).length ≤ xLn mid) : xMt l D cI cS b d (xY mid) (xB mid) (xLn mid) (xRt mid) vs σ r σ' := by
  obtain ⟨n, hs⟩ := h
  have V := x_valid
  refine Met.ofW (cc := xB mid) (maxL := xLn mid) (ret := xRt mid) (V mid).1 rfl ?_
  intro p1 e1 s1 m1 args1 below1 meth1 c1 s₁ B1 hml1 hv1
  obtain ⟨rfl, hP1, hK1, hN1⟩ := hv1
  have hts1 := atoms_spec (ws := Cond.code (xY mid) (xB mid) (xLn mid) (xRt mid) :: x_tb) B1.pre
  have hown1 : s1.vm.findClass (xY mid).cls = some m1.cls := findClass_of_methodNamed B1.named
  have g := x_sound V n d mid 0 _ [] σ r σ' hs p1 l e1 s1 m1 _ below1 meth1 c1 D cI cS b ⟨B1.exec, B1.bytes, B1.returns, hml1, hown1, fun w hw => hts1 w (List.mem_cons_of_mem _ hw), B1.notSynchronized, hK1, hN1, by simp [xroom], by simp only [xroom]; omega⟩
  rw [(V mid).2.1] at g
  rw [lg_entry_eq]
  exact g s1.heap [] _ hP1 va_S.rf (xls_L hlen)
section LW
variable {p : Program} {l : Launch} {e : Env} {s : State} {m : MethodId} {args : Array Value} {below : List Frame} {meth : Method} {c : Code} {H : Heap} {locs : List Loc} {kc ks : Nat} {Q : State → Prop} {D : va_G} {cI cS : ClassId} {b pc : Nat} {arr : Array Slot}
theorem lw_cv {mid ci n N index a : Nat} {T : u_T} {fks : List (Option Nat)} {As : List Value} {rest : List Value} {v : Value} {σ σ' : xM} (C : gCx p s m args c D cI cS R_law code 4 b) (hB : xBV mid ci n N T) (hlk : Cond.methodLink R_law index (xY mid) ∈ x_tb) (hsh : x_sh a = some (.inl (ci, fks))) (hlen : (lg_sl (.ref a :: As)).length ≤ xLn mid) (hAs : As.length = n)
    (h : xR xT xLn 30 mid (.ref a :: As) σ (some v, σ')) (hP : va_P D vwCl (xW b cI cS σ) H) (hS : va_S (gA b) s.heap H locs) (hsz : arr.size = 4) (h8 : (rest.map fun v => v.category).sum ≤ 8) (hkc : kc ≤ 600000) (hks : ks ≤ 7302250) (hd : decode code pc = .ok (.invokevirtual index, 3))
    (kk : ∀ (H1 : Heap) (locs1 : List Loc), va_P D vwCl (xW b cI cS σ') H1 → va_S (gA b) s.heap H1 locs1 → W p l e room_1 s m args below meth c H1 locs1 kc ks Q (F0 m (pc + 3) arr (xv b v :: rest))) : W p l e room_1 s m args below meth c H locs kc ks Q (F0 m pc arr ((As.map (xv b)).reverse ++ .ref (b + a) :: rest)) := by
  obtain ⟨hx, hb, hml, hown, hts, hK, hN, hO, hbs⟩ := C
  have hM := x_met (l := l) (D := D) (cI := cI) (cS := cS) (b := b) h hlen
  have hg := xW_get (b := b) (cI := cI) (cS := cS) (σ := σ) hsh
  have hr : va_Run p l e room_1 s m args below meth c H locs kc ks 0 0 (F0 m pc arr ((As.map (xv b)).reverse ++ .ref (b + a) :: rest)) rest (xQc D cI cS b (some v) σ' (Value.ref (b + a) :: As.map (xv b)).toArray) (xA b) :=
    va_runV (As := As.map (xv b)) (rest := rest) (n := n) (Ts := x_tb) (b := b + a) (C := (xY mid).cls) ⟨hx, hb, hml, hown, hts⟩ hM ⟨callB_of n hts (x_gi hB.2.2.2.1) rfl rfl rfl (hts _ hB.2.2.1) (hts _ hlk) hB.2.2.2.2.2.1 ⟨by simp [xroom, room_1], by have := hB.2.2.2.2.2.2; simp only [xroom, room_1]; omega⟩, hts _ hB.1, hts _ hB.2.1⟩ ⟨xPc_blind D cI cS b _ σ, va_recv hK hP hB.2.2.2.2.1 hg, fun U hU hW => ⟨rfl, by rw [hU]; exact hP, va_K.moved hW.alike hK, x_N_warm hW hN⟩⟩ rfl (by rw [List.length_map]; exact hAs) hsz rfl (lv_room h8) hd ⟨by simp only [room_1]; omega, by simp only [room_1]; omega⟩
  intro T0 hT X
  obtain ⟨v1, st₀, t, T', L, h0, X', hL, e1, e2, ⟨hv, hP', hz, hk⟩, st⟩ := hr T0 hT X
  cases hv
  rw [h0] at hz hk
  obtain ⟨t2, a1, b1⟩ := kk T'.heap (locs ++ L) (by rw [e1]; exact hP')
    ⟨Nat.le_trans hS.1 (by rw [e1]; exact hz), fun q h1 h2 => by rw [e1, hk q (Nat.lt_of_lt_of_le h1 hS.1) (fun z => h2 z.1)]; exact hS.2.1 q h1 h2, fun q hq => by
      rcases List.mem_append.mp hq with h | h
      · exact hS.2.2 q h
      · exact (hL q h).1⟩ T' rfl X'
  exact ⟨t2, st t2 a1, b1⟩
theorem lw_arg {bS L i k : Nat} {n : Int} {xs : Nat → Int32} {lv : List (Nat × Value)} {rest : List Value} (C : gCx p s m args c D cI cS R_law code 4 b) (hX : va_X bS L xs s s.heap) (hbS : bS < s.heap.size) (hbA : ¬ gA b bS) (hS : va_S (gA b) s.heap H locs) (h0 : arr[0]? = some (.val (.ref bS))) (h3 : arr[3]? = some (.val (.int (nI i)))) (hL : L ≤ 2048) (hk : i + k < L) (hn : Int32.ofInt n = nI k)
    (d0 : decode code pc = .ok (.aload_n 0, 1)) (d1 : decode code (pc + 1) = .ok (.iload_n 3, 1)) (d2 : decode code (pc + 1 + 1) = .ok (.iconst n, 1)) (d3 : decode code (pc + 1 + 1 + 1) = .ok (.iadd, 1)) (d4 : decode code (pc + 1 + 1 + 1 + 1) = .ok (.iaload, 1))
    (kk : W p l e room_1 s m args below meth c H locs kc ks Q (F0 m (pc + 1 + 1 + 1 + 1 + 1) arr (.int (xs (i + k)) :: rest))) : W p l e room_1 s m args below meth c H locs kc ks Q (F0 m pc arr rest) := by
  refine lv_aload_n C.1 C.2.1 d0 rfl h0 ?_
  refine lv_iload_n C.1 C.2.1 d1 rfl h3 ?_
  refine lv_iconst C.1 C.2.1 d2 hn ?_
  refine lv_iadd C.1 C.2.1 d3 ?_
  rw [nI_add]
  refine va_sld C.1 C.2.1 hX hbS hbA hS (vp_in_nI hk (by omega)) d4 ?_
  rw [nI_clamp (by omega)]
  exact kk
theorem lw_new (C : gCx p s m args c D cI cS R_law code 4 b) {Cn : String} {T : u_T} {N ci index : Nat} {es : List gE} {rest : List Value} {fs : List (Option (Option Nat))} (hcl : Cond.classLink R_law index Cn ∈ x_tb) (hinst : Cond.instantiable Cn N ∈ x_tb) (hini : Cond.initialized Cn ∈ x_tb) (hw : ∀ w ∈ u_ws Cn T N, w ∈ x_tb) (ty : Nat → FieldType) (hty : ∀ k, k < N → parseFieldDescriptor (T k).2.2.1 = some (ty k)) (hc : vwCl[ci]? = some (Cn, T, N)) (hfs : ∀ j, j < N → defaultValue (ty j) = vp_V (fs.map (g_v 0)) j) (hf0 : ∀ f ∈ fs, f = none ∨ f = some none)
    (hcells : kc + 1 ≤ room_1.cells) (hslots : ks + N ≤ room_1.slots) (hdg : decode code pc = .ok (.new index, 3)) (hz : H.size = b + es.length) (hP : va_P D vwCl (gW b cI cS es) H) (hS : va_S (gA b) s.heap H locs)
    (kk : ∀ H1 : Heap, H1.size = b + (es ++ [Sum.inl (ci, fs)]).length → va_P D vwCl (gW b cI cS (es ++ [.inl (ci, fs)])) H1 → va_S (gA b) s.heap H1 locs → W p l e room_1 s m args below meth c H1 locs (kc + 1) (ks + N) Q (F0 m (pc + 3) arr (.ref (b + es.length) :: rest))) : W p l e room_1 s m args below meth c H locs kc ks Q (F0 m pc arr rest) := by
  obtain ⟨hx, hb, hml, hown, hts, hK, hN, hO, hbs⟩ := C
  have hKn := hK.1 ci _ hc
  refine W.newcK hx hb hown (hts _ hcl) (hts _ hinst) (hts _ hini) rfl hdg hcells hslots hKn.2.1 hz fun H1 kC hkC e1 z1 o1 => ?_
  rw [← hz] at o1
  have hfm : fs.map (g_v 0) = fs.map (g_v b) := List.map_congr_left (fun f hf => by rcases hf0 f hf with rfl | rfl <;> rfl)
  refine kk H1 (by rw [z1, List.length_append]; simp; omega) (g_push hz hP o1 ?_) (gS hS (by omega) o1)
  exact ⟨_, hc, (u_born ty hts hw hKn hkC e1 hty).to (by rw [← hfm]; exact hfs)⟩
theorem lw_ci (C : gCx p s m args c D cI cS R_law code 4 b) {index maxL mc ms a : Nat} {y : MethodName} {bytes : ByteArray} {rm : Room} {rest : List Value} {es es' : List gE} (hlk : Cond.methodLink R_law index y ∈ x_tb) (him : Cond.instanceMethod y ∈ x_tb) (hin : Cond.initialized y.cls ∈ x_tb) (hcd : Cond.code y bytes maxL none ∈ x_tb) (hnm : y.name = "<init>")
    (hy : y.cls ≠ "java/lang/invoke/MethodHandle" ∧ y.cls ≠ "java/lang/invoke/VarHandle" ∧ (parseMethodDescriptor y.desc).map (fun d => d.parameters.length) = some 0) (hR : rm.frames + 1 ≤ room_1.frames ∧ 8 + (maxL + 11) + rm.locals ≤ room_1.locals) (hrc : rm.cells = mc) (hrs : rm.slots = ms) (hcs : kc + mc ≤ room_1.cells ∧ ks + ms ≤ room_1.slots) (h8 : (rest.map fun v => v.category).sum ≤ 8) (hsz : arr.size = 4)
    (hM : gMt l D cI cS b y bytes maxL rm [.ref a] es es' mc ms) (hd : decode code pc = .ok (.invokespecial index, 3)) (hz : H.size = b + es.length) (hP : va_P D vwCl (gW b cI cS es) H) (hS : va_S (gA b) s.heap H locs)
    (kk : ∀ (H1 : Heap) (locs1 : List Loc), H1.size = b + es'.length → va_P D vwCl (gW b cI cS es') H1 → va_S (gA b) s.heap H1 locs1 → W p l e room_1 s m args below meth c H1 locs1 (kc + mc) (ks + ms) Q (F0 m (pc + 3) arr rest)) : W p l e room_1 s m args below meth c H locs kc ks Q (F0 m pc arr (.ref (b + a) :: rest)) := by
  obtain ⟨hx, hb, hml, hown, hts, hK, hN, hO, hbs⟩ := C
  exact g_cont (va_runI (As := []) (rest := rest) (b := b + a) (n := 0) (Ts := x_tb) ⟨hx, hb, hml, hown, hts⟩ hM ⟨callB_of 0 hts (x_gi hcd) rfl hrc hrs (hts _ hin) (hts _ hlk) hy hR, hnm, hts _ him⟩ ⟨gPc_blind D cI cS b _ es, fun U hU hW => ⟨rfl, by rw [hU]; exact hz, by rw [hU]; exact hP, va_K.moved hW.alike hK, x_N_warm hW hN, va_AO.moved hW.alike hO⟩⟩ rfl rfl hsz rfl (lv_room h8) hd hcs) hS kk
end LW
def g_ofk : xK → gE
  | .inl (ci, fks) => .inl (ci, fks.map (fun o => o.map some))
  | .inr (.inl n) => .inr (.inl n)
  | .inr (.inr rs) => .inr (.inr (rs.map some))
theorem x_fl0 (b : Nat) : ∀ (fks : List (Option Nat)) (k : Nat), x_fl b (fun _ => 0) k fks = (fks.map (fun o => o.map some)).map (g_v b)
  | [], k => rfl
  | none :: r, k => by
    simp only [x_fl, List.map_cons, Option.map_none, g_v]
    rw [x_fl0 b r (k + 1)]
  | some q :: r, k => by
    simp only [x_fl, List.map_cons, Option.map_some, g_v]
    rw [x_fl0 b r (k + 1)]
theorem g_ofk_en (b : Nat) (cI cS : ClassId) (k : xK) : g_en b cI cS (g_ofk k) = x_en b cI cS (fun _ => 0) k := by
  rcases k with ⟨ci, fks⟩ | n | rs
  · simp only [g_ofk, g_en, x_en]
    rw [x_fl0]
  · rfl
  · simp only [g_ofk, g_en, x_en, List.length_map]
    congr 7
    funext i
    rw [List.getElem?_map]
    cases rs[i]? <;> rfl
def xM0 : xM := fun _ _ => 0
theorem gW_x {b : Nat} {cI cS : ClassId} {es : List gE} (h : es = x_shl.map g_ofk) : gW b cI cS es = xW b cI cS xM0 := by
  subst h
  unfold gW xW
  apply List.ext_getElem?
  intro i
  rw [List.getElem?_mapIdx, List.getElem?_mapIdx, List.getElem?_map]
  cases x_shl[i]? with
  | none => rfl
  | some k =>
    simp only [Option.map_some]
    rw [g_ofk_en]
    rfl
theorem x_ne27 {x : Int32} (h : ∀ k : Nat, k < 27 → ¬ x = nI k) : x.toInt < 0 ∨ 26 < x.toInt := by
  by_cases h1 : x.toInt < 0
  · exact Or.inl h1
  · right
    apply Int.not_le.mp
    intro h2
    refine h x.toInt.toNat (by omega) ?_
    have e : ((x.toInt.toNat : Nat) : Int) = x.toInt := by omega
    show x = Int32.ofNat x.toInt.toNat
    have e2 : Int32.ofNat x.toInt.toNat = Int32.ofInt ((x.toInt.toNat : Nat) : Int) := rfl
    rw [e2, e, Int32.ofInt_toInt]

