def gPc (D : va_G) (cI cS : ClassId) (b : Nat) (vs : List Value) (es : List gE) : Array Value → State → Prop := va_Pc (vs.map (xv b)) (fun U => U.heap.size = b + es.length ∧ va_P D vwCl (gW b cI cS es) U.heap ∧ va_K D vwCl (x_tys cI cS) U ∧ x_N U ∧ va_AO "AnySites$State" U)
def gQc (D : va_G) (cI cS : ClassId) (b : Nat) (es : List gE) : Array Value → State → Outcome → State → Prop := fun _ st oc t => oc = .returned none ∧ t.heap.size = b + es.length ∧ va_P D vwCl (gW b cI cS es) t.heap ∧ va_F (gA b) st t
def gMt (l : Launch) (D : va_G) (cI cS : ClassId) (b : Nat) (y : MethodName) (bytes : ByteArray) (maxL : Nat) (rm : Room) (vs : List Value) (es es' : List gE) (mc ms : Nat) : Prop := Met l y (Cond.code y bytes maxL none :: x_tb) rm (gPc D cI cS b vs es) (gQc D cI cS b es') mc ms (gA b)
theorem gPc_blind (D : va_G) (cI cS : ClassId) (b : Nat) (vs : List Value) (es : List gE) : FrameBlind (gPc D cI cS b vs es) := by
  intro a U g mk q
  obtain ⟨q0, qz, qP, qK, qN, qO⟩ := q
  exact ⟨q0, qz, qP, va_K.moved (u := U) (U := U.calling g mk a) (Vm.Alike.refl U.vm) qK, x_N_same (u := U) (U := U.calling g mk a) rfl qN, va_AO.moved (u := U) (U := U.calling g mk a) (Vm.Alike.refl U.vm) qO⟩
theorem g_met {l : Launch} {D : va_G} {cI cS : ClassId} {b : Nat} {y : MethodName} {bytes : ByteArray} {maxL : Nat} {rm : Room} {vs : List Value} {es es' : List gE} {mc ms : Nat} (hpl : plainName y.cls = true) (hnm : y.name = "<init>") (hlen : (lg_sl vs).length ≤ maxL)
    (H : ∀ (p : Program) (e : Env) (s : State) (m : MethodId) (below : List Frame) (meth : Method) (c : Code), gCx p s m (vs.map (xv b)).toArray c D cI cS y.cls bytes maxL b → meth.name = "<init>" → meth.sig.returnType = none → meth.locks = false →
      gG p l e rm s m (vs.map (xv b)).toArray below meth c D cI cS b maxL (MQ below (gQc D cI cS b es') (vs.map (xv b)).toArray s mc ms (gA b)) 0 (xls maxL vs) [] es 0 0) : gMt l D cI cS b y bytes maxL rm vs es es' mc ms := by
  refine Met.ofW (cc := bytes) (maxL := maxL) (ret := none) hpl rfl ?_
  intro p1 e1 s1 m1 args1 below1 meth1 c1 s₁ B1 hml1 hv1
  obtain ⟨rfl, hz1, hP1, hK1, hN1, hO1⟩ := hv1
  have hts1 := atoms_spec (ws := Cond.code y bytes maxL none :: x_tb) B1.pre
  have hown1 : s1.vm.findClass y.cls = some m1.cls := findClass_of_methodNamed B1.named
  have hin : meth1.name = y.name := (name_of_methodNamed B1.named B1.method).1
  have g := H p1 e1 s1 m1 below1 meth1 c1 ⟨B1.exec, B1.bytes, hml1, hown1, fun w hw => hts1 w (List.mem_cons_of_mem _ hw), hK1, hN1, hO1, by omega⟩ (hin.trans hnm) B1.returns B1.notSynchronized
  rw [lg_entry_eq]
  exact g s1.heap [] _ hz1 hP1 va_S.rf (xls_L hlen) (by omega)
section GC
variable {p : Program} {l : Launch} {e : Env} {R : Room} {s : State} {m : MethodId} {args : Array Value} {below : List Frame} {meth : Method} {c : Code} {D : va_G} {cI cS : ClassId} {b nL : Nat} {Q : State → Prop} {own : String} {cc : ByteArray} {pc : Nat} {ls st : List Value} {es : List gE} {kc ks : Nat}
theorem g_cast {st' : List Value} {es' : List gE} (h1 : st = st') (h2 : es = es') (kk : gG p l e R s m args below meth c D cI cS b nL Q pc ls st' es' kc ks) : gG p l e R s m args below meth c D cI cS b nL Q pc ls st es kc ks := by
  subst h1
  subst h2
  exact kk
theorem g_ret (C : gCx p s m args c D cI cS own cc nL b) (hr : meth.sig.returnType = none) (hlk : meth.locks = false) {mc ms : Nat} (h1 : kc ≤ mc) (h2 : ks ≤ ms) (hd : decode cc pc = .ok (.return_, 1)) : gG p l e R s m args below meth c D cI cS b nL (MQ below (gQc D cI cS b es) args s mc ms (gA b)) pc ls [] es kc ks := by
  intro H locs arr hz hP hS hl hcn
  refine W.widen h1 h2 ?_
  exact W.vret C.1 C.2.1 hr (fun t ht hW => ⟨rfl, by rw [ht]; exact hz, by rw [ht]; exact hP, hS.F ht⟩) hS.2.2 hd hlk
theorem g_cont {H : Heap} {locs : List Loc} {arr : Array Slot} {st0 rest : List Value} {a : Array Value} {es' : List gE} {mc ms : Nat} (hr : va_Run p l e R s m args below meth c H locs kc ks mc ms (F0 m pc arr st0) rest (gQc D cI cS b es' a) (gA b)) (hS : va_S (gA b) s.heap H locs)
    (kk : ∀ (H1 : Heap) (locs1 : List Loc), H1.size = b + es'.length → va_P D vwCl (gW b cI cS es') H1 → va_S (gA b) s.heap H1 locs1 → W p l e R s m args below meth c H1 locs1 (kc + mc) (ks + ms) Q (F0 m (pc + 3) arr rest)) : W p l e R s m args below meth c H locs kc ks Q (F0 m pc arr st0) := by
  intro T hT X
  obtain ⟨v, st₀, t, T', L, h0, X', hL, e1, e2, ⟨hv, hz', hP', hz, hk⟩, st⟩ := hr T hT X
  cases hv
  rw [h0] at hz hk
  obtain ⟨t2, a1, b1⟩ := kk T'.heap (locs ++ L) (by rw [e1]; exact hz') (by rw [e1]; exact hP')
    ⟨Nat.le_trans hS.1 (by rw [e1]; exact hz), fun q h1 h2 => by rw [e1, hk q (Nat.lt_of_lt_of_le h1 hS.1) h2]; exact hS.2.1 q h1 h2, fun q hq => by
      rcases List.mem_append.mp hq with h | h
      · exact hS.2.2 q h
      · exact hL q h⟩ T' rfl X'
  exact ⟨t2, st t2 a1, b1⟩
theorem g_callI (C : gCx p s m args c D cI cS own cc nL b) {index n maxL mc ms a : Nat} {y : MethodName} {bytes : ByteArray} {rm : Room} {As rest : List Value} {es' : List gE} (hlk : Cond.methodLink own index y ∈ x_tb) (him : Cond.instanceMethod y ∈ x_tb) (hin : Cond.initialized y.cls ∈ x_tb) (hcd : Cond.code y bytes maxL none ∈ x_tb) (hnm : y.name = "<init>")
    (hy : y.cls ≠ "java/lang/invoke/MethodHandle" ∧ y.cls ≠ "java/lang/invoke/VarHandle" ∧ (parseMethodDescriptor y.desc).map (fun d => d.parameters.length) = some n) (hR : rm.frames + 1 ≤ R.frames ∧ 8 + (maxL + 11) + rm.locals ≤ R.locals) (hrc : rm.cells = mc) (hrs : rm.slots = ms) (hcs : kc + mc ≤ R.cells ∧ ks + ms ≤ R.slots) (hlen : es'.length = es.length + mc) (hn : As.length = n) (h8 : xcat rest ≤ 8)
    (hM : gMt l D cI cS b y bytes maxL rm (.ref a :: As) es es' mc ms) (hst : st = As.reverse ++ .ref a :: rest) (hd : decode cc pc = .ok (.invokespecial index, 3)) (kk : gG p l e R s m args below meth c D cI cS b nL Q (pc + 3) ls rest es' (kc + mc) (ks + ms)) : gG p l e R s m args below meth c D cI cS b nL Q pc ls st es kc ks := by
  intro H locs arr hz hP hS hl hcn
  obtain ⟨hx, hb, hml, hown, hts, hK, hN, hO, hbs⟩ := C
  subst hst
  refine g_cont (va_runI (As := As.map (xv b)) (rest := rest.map (xv b)) (b := b + a) (n := n) (Ts := x_tb) ⟨hx, hb, hml, hown, hts⟩ hM ⟨callB_of n hts (x_gi hcd) rfl hrc hrs (hts _ hin) (hts _ hlk) hy hR, hnm, hts _ him⟩ ⟨gPc_blind D cI cS b _ es, fun U hU hW => ⟨rfl, by rw [hU]; exact hz, by rw [hU]; exact hP, va_K.moved hW.alike hK, x_N_warm hW hN, va_AO.moved hW.alike hO⟩⟩ rfl (by rw [List.length_map]; exact hn) hl.1 (by simp [xv]) (lv_room (by rw [xcat_v]; exact h8)) hd hcs) hS (fun H1 locs1 hz1 hP1 hS1 => ?_)
  exact kk H1 locs1 arr hz1 hP1 hS1 hl (by omega)
theorem g_callN (C : gCx p s m args c D cI cS own cc nL b) {index n maxL mc ms a : Nat} {y : MethodName} {bytes : ByteArray} {rm : Room} {As rest : List Value} {es' : List gE} (hlk : (own, index, y) ∈ x_nest) (him : Cond.instanceMethod y ∈ x_tb) (hin : Cond.initialized y.cls ∈ x_tb) (hcd : Cond.code y bytes maxL none ∈ x_tb) (hnm : y.name = "<init>")
    (hy : y.cls ≠ "java/lang/invoke/MethodHandle" ∧ y.cls ≠ "java/lang/invoke/VarHandle" ∧ (parseMethodDescriptor y.desc).map (fun d => d.parameters.length) = some n) (hR : rm.frames + 1 ≤ R.frames ∧ 8 + (maxL + 11) + rm.locals ≤ R.locals) (hrc : rm.cells = mc) (hrs : rm.slots = ms) (hcs : kc + mc ≤ R.cells ∧ ks + ms ≤ R.slots) (hlen : es'.length = es.length + mc) (hn : As.length = n) (h8 : xcat rest ≤ 8)
    (hM : gMt l D cI cS b y bytes maxL rm (.ref a :: As) es es' mc ms) (hst : st = As.reverse ++ .ref a :: rest) (hd : decode cc pc = .ok (.invokespecial index, 3)) (kk : gG p l e R s m args below meth c D cI cS b nL Q (pc + 3) ls rest es' (kc + mc) (ks + ms)) : gG p l e R s m args below meth c D cI cS b nL Q pc ls st es kc ks := by
  intro H locs arr hz hP hS hl hcn
  obtain ⟨hx, hb, hml, hown, hts, hK, hN, hO, hbs⟩ := C
  subst hst
  refine g_cont (va_runIN (As := As.map (xv b)) (rest := rest.map (xv b)) (b := b + a) (n := n) (Ts := x_tb) (host := "AnySites") ⟨hx, hb, hml, hown, hts⟩ hM ⟨va_cnB n hts (x_gi hcd) rfl hrc hrs (hN _ hlk) (hts _ hin) hy hR, hnm, hts _ him⟩ ⟨gPc_blind D cI cS b _ es, fun U hU hW => ⟨rfl, by rw [hU]; exact hz, by rw [hU]; exact hP, va_K.moved hW.alike hK, x_N_warm hW hN, va_AO.moved hW.alike hO⟩⟩ rfl (by rw [List.length_map]; exact hn) hl.1 (by simp [xv]) (lv_room (by rw [xcat_v]; exact h8)) hd hcs) hS (fun H1 locs1 hz1 hP1 hS1 => ?_)
  exact kk H1 locs1 arr hz1 hP1 hS1 hl (by omega)
end GC
section GP
variable {pre : List gE} {n : Nat}
theorem pr_set {t : List gE} {x : gE} (hn : pre.length = n) (j : Nat) : (pre ++ t).set (n + j) x = pre ++ t.set j x := by
  subst hn
  rw [List.set_append_right _ _ (by omega)]
  congr 2
  omega
theorem pr_get {t : List gE} (hn : pre.length = n) (j : Nat) : (pre ++ t)[n + j]? = t[j]? := by
  subst hn
  rw [List.getElem?_append_right (by omega)]
  congr 1
  omega
theorem pr_len {t : List gE} (hn : pre.length = n) : (pre ++ t).length = n + t.length := by
  rw [List.length_append, hn]
theorem pr_app {t u : List gE} : (pre ++ t) ++ u = pre ++ (t ++ u) := List.append_assoc _ _ _
end GP
def gAreas (n : Nat) : List gE := [.inl (1, [none, some (some (n + 1)), some (some (n + 2)), some (some (n + 3)), some (some (n + 4)), some (some (n + 5))]), .inr (.inl 8), .inr (.inl 8), .inr (.inl 8), .inr (.inl 64), .inr (.inl 64)]
def gSites (n : Nat) : List gE := [.inl (8, [none, none, some (some (n + 1)), some (some (n + 2)), some (some (n + 3)), some (some (n + 4)), some (some (n + 5))]), .inr (.inl 5), .inr (.inl 5), .inr (.inl 5), .inr (.inl 5), .inr (.inl 5)]
def gSess (n : Nat) : List gE := [.inl (7, [none, some (some (n + 1)), some (some (n + 2)), some (some (n + 3)), some (some (n + 4))]), .inr (.inl 12), .inr (.inl 12), .inr (.inl 12), .inr (.inl 12)]
def gState (n : Nat) : List gE := .inl (9, [some (some (n + 1)), some (some (n + 7)), some (some (n + 13)), none, none, none, none]) :: (gAreas (n + 1) ++ (gSites (n + 7) ++ gSess (n + 13)))
