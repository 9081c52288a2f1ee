abbrev gE : Type := (Nat × List (Option (Option Nat))) ⊕ (Nat ⊕ List (Option Nat))
def g_v (b : Nat) : Option (Option Nat) → Value
  | none => .int 0
  | some none => .null
  | some (some q) => .ref (b + q)
def g_en (b : Nat) (cI cS : ClassId) : gE → va_E
  | .inl (ci, fs) => .inr (ci, fs.map (g_v b))
  | .inr (.inl n) => .inl (cI, n, .inl (fun _ => 0))
  | .inr (.inr rs) => .inl (cS, rs.length, .inr (.inr (.inr (.inr (fun i => ((rs[i]?).getD none).map (fun q => b + q))))))
def gW (b : Nat) (cI cS : ClassId) (es : List gE) : va_W := es.mapIdx (fun i e => (b + i, g_en b cI cS e))
def gA (b : Nat) : Nat → Prop := fun q => b ≤ q
theorem gW_get {b : Nat} {cI cS : ClassId} {es : List gE} {c : Nat} {e : gE} (h : es[c]? = some e) : (gW b cI cS es)[c]? = some (b + c, g_en b cI cS e) := by
  unfold gW
  rw [List.getElem?_mapIdx, h]
  rfl
theorem gW_of {b : Nat} {cI cS : ClassId} {es : List gE} {i : Nat} {q : Nat × va_E} (h : (gW b cI cS es)[i]? = some q) : q.1 = b + i ∧ i < es.length := by
  unfold gW at h
  rw [List.getElem?_mapIdx] at h
  cases hk : es[i]? with
  | none => rw [hk] at h; cases h
  | some k =>
    rw [hk] at h
    cases h
    exact ⟨rfl, (List.getElem?_eq_some_iff.mp hk).1⟩
theorem gW_set {b : Nat} {cI cS : ClassId} {es : List gE} {c : Nat} {e0 e : gE} (h : es[c]? = some e0) : (gW b cI cS es).set c (b + c, g_en b cI cS e) = gW b cI cS (es.set c e) := by
  apply List.ext_getElem?
  intro i
  have hg := gW_get (b := b) (cI := cI) (cS := cS) h
  have hlen := (List.getElem?_eq_some_iff.mp hg).1
  have hl2 := (List.getElem?_eq_some_iff.mp h).1
  by_cases hi : i = c
  · subst hi
    rw [List.getElem?_set_self hlen, gW_get (List.getElem?_set_self hl2)]
  · rw [List.getElem?_set_ne (Ne.symm hi)]
    unfold gW
    rw [List.getElem?_mapIdx, List.getElem?_mapIdx, List.getElem?_set_ne (Ne.symm hi)]
theorem gW_push {b : Nat} {cI cS : ClassId} {es : List gE} {e : gE} : gW b cI cS es ++ [(b + es.length, g_en b cI cS e)] = gW b cI cS (es ++ [e]) := by
  unfold gW
  rw [List.mapIdx_concat]
theorem gW_D (b : Nat) (cI cS : ClassId) (es : List gE) : va_D (gA b) (gW b cI cS es) := by
  refine ⟨fun i j p q hi hj e => ?_, fun k q hk => ?_⟩
  · have h1 := (gW_of hi).1
    have h2 := (gW_of hj).1
    omega
  · obtain ⟨h1, h2⟩ := gW_of hk
    unfold gA
    omega
def gCx (p : Program) (s : State) (m : MethodId) (args : Array Value) (c : Code) (D : va_G) (cI cS : ClassId) (own : String) (cc : ByteArray) (nL b : Nat) : Prop :=
  p.tables.exec = Jvm.exec ∧ c.code = cc ∧ c.maxLocals = nL ∧ s.vm.findClass own = some m.cls ∧ (∀ w ∈ x_tb, w.before args s = true) ∧ va_K D vwCl (x_tys cI cS) s ∧ x_N s ∧ va_AO "AnySites$State" s ∧ b ≤ s.heap.size
def gG (p : Program) (l : Launch) (e : Env) (R : Room) (s : State) (m : MethodId) (args : Array Value) (below : List Frame) (meth : Method) (c : Code) (D : va_G) (cI cS : ClassId) (b nL : Nat) (Q : State → Prop) (pc : Nat) (ls st : List Value) (es : List gE) (kc ks : Nat) : Prop :=
  ∀ (H : Heap) (locs : List Loc) (arr : Array Slot), H.size = b + es.length → va_P D vwCl (gW b cI cS es) H → va_S (gA b) s.heap H locs → xL b nL ls arr → s.heap.size + kc = b + es.length → W p l e R s m args below meth c H locs kc ks Q (F0 m pc arr (st.map (xv b)))
section GR
variable {p : Program} {l : Launch} {e : Env} {R : Room} {s : State} {m : MethodId} {args : Array Value} {below : List Frame} {meth : Method} {c : Code} {D : va_G} {cI cS : ClassId} {b nL : Nat} {Q : State → Prop} {own : String} {cc : ByteArray} {pc : Nat} {ls st : List Value} {es : List gE} {kc ks : Nat}
theorem gS {H0 H H1 : Heap} {locs : List Loc} (hS : va_S (gA b) H0 H locs) (z : H.size ≤ H1.size) (o : ∀ q : Nat, q < H.size → H1[q]? = H[q]?) : va_S (gA b) H0 H1 locs :=
  ⟨Nat.le_trans hS.1 z, fun q h1 h2 => (o q (Nat.lt_of_lt_of_le h1 hS.1)).trans (hS.2.1 q h1 h2), hS.2.2⟩
theorem g_push {H H1 : Heap} {x : gE} (hz : H.size = b + es.length) (hP : va_P D vwCl (gW b cI cS es) H) (o1 : ∀ q : Nat, q < H.size → H1[q]? = H[q]?) (ha : va_at D vwCl (b + es.length, g_en b cI cS x) H1) : va_P D vwCl (gW b cI cS (es ++ [x])) H1 := by
  rw [← gW_push]
  refine (hP.kept (fun k q hq => o1 q.1 ((hP k q hq).lt))).app (fun k q hk => ?_)
  have h0 : k < 1 := (List.getElem?_eq_some_iff.mp hk).1
  rw [show k = 0 by omega] at hk
  cases hk
  exact ha
theorem g_new (C : gCx p s m args c D cI cS own cc nL b) {Cn : String} {T : u_T} {N ci index : Nat} {fs : List (Option (Option Nat))} (hcl : Cond.classLink own index Cn ∈ x_tb) (hinst : Cond.instantiable Cn N ∈ x_tb) (hini : Cond.initialized Cn ∈ x_tb) (hw : ∀ w ∈ u_ws Cn T N, w ∈ x_tb) (ty : Nat → FieldType) (hty : ∀ k, k < N → parseFieldDescriptor (T k).2.2.1 = some (ty k)) (hc : vwCl[ci]? = some (Cn, T, N)) (hfs : ∀ j, j < N → defaultValue (ty j) = vp_V (fs.map (g_v 0)) j) (hf0 : ∀ f ∈ fs, f = none ∨ f = some none)
    (hcells : kc + 1 ≤ R.cells) (hslots : ks + N ≤ R.slots) (hdg : decode cc pc = .ok (.new index, 3)) (kk : gG p l e R s m args below meth c D cI cS b nL Q (pc + 3) ls (.ref es.length :: st) (es ++ [.inl (ci, fs)]) (kc + 1) (ks + N)) : gG p l e R s m args below meth c D cI cS b nL Q pc ls st es kc ks := by
  intro H locs arr hz hP hS hl hcn
  obtain ⟨hx, hb, hml, hown, hts, hK, hN, hO, hbs⟩ := C
  have hKn := hK.1 ci _ hc
  refine W.newcK hx hb hown (hts _ hcl) (hts _ hinst) (hts _ hini) rfl hdg hcells hslots hKn.2.1 hz fun H1 kC hkC e1 z1 o1 => ?_
  rw [← hz] at o1
  have hfm : fs.map (g_v 0) = fs.map (g_v b) := List.map_congr_left (fun f hf => by rcases hf0 f hf with rfl | rfl <;> rfl)
  refine kk H1 locs arr (by rw [z1, List.length_append]; simp; omega) (g_push hz hP o1 ?_) (gS hS (by omega) o1) hl (by rw [List.length_append]; simp; omega)
  exact ⟨_, hc, (u_born ty hts hw hKn hkC e1 hty).to (by rw [← hfm]; exact hfs)⟩
theorem g_newa (C : gCx p s m args c D cI cS own cc nL b) (harr : Cond.arrayClass .int ∈ x_tb) {n : Int32} {N : Nat} (hn : ¬ n < 0) (hN : n.toNatClampNeg = N) (hb4 : N ≤ 1000)
    (hcells : kc + 1 ≤ R.cells) (hslots : ks + N ≤ R.slots) (hdg : decode cc pc = .ok (.newarray .int, 2)) (kk : gG p l e R s m args below meth c D cI cS b nL Q (pc + 2) ls (.ref es.length :: st) (es ++ [.inr (.inl N)]) (kc + 1) (ks + N)) : gG p l e R s m args below meth c D cI cS b nL Q pc ls (.int n :: st) es kc ks := by
  intro H locs arr hz hP hS hl hcn
  obtain ⟨hx, hb, hml, hown, hts, hK, hN', hO, hbs⟩ := C
  refine va_newaK (atype := .int) hx hb (hts _ harr) rfl hdg rfl hn hN (by show N * 4 ≤ 536870912; omega) hcells hslots hz fun H1 cA e1 z1 o1 hAr hNm => ?_
  rw [← hz] at o1
  have hcA : cA = cI := by
    have h1 : va_RA s cI .int := (hK.2 0 _ rfl).2
    have h2 : s.vm.findClass ("[" ++ FieldType.int.toString) = some cI := h1
    have h3 : s.vm.findClass ("[" ++ FieldType.int.toString) = some cA := hNm
    rw [h2] at h3
    exact (Option.some.inj h3).symm
  subst hcA
  refine kk H1 locs arr (by rw [z1, List.length_append]; simp; omega) (g_push hz hP o1 ?_) (gS hS (by omega) o1) hl (by rw [List.length_append]; simp; omega)
  exact e1
theorem g_anew (C : gCx p s m args c D cI cS own cc nL b) {index : Nat} (hcl : Cond.classLink own index "AnySites$State" ∈ x_tb) {n : Int32} {N : Nat} (hn : ¬ n < 0) (hN : n.toNatClampNeg = N) (hb4 : N ≤ 1000)
    (hcells : kc + 1 ≤ R.cells) (hslots : ks + N ≤ R.slots) (hdg : decode cc pc = .ok (.anewarray index, 3)) (kk : gG p l e R s m args below meth c D cI cS b nL Q (pc + 3) ls (.ref es.length :: st) (es ++ [.inr (.inr (List.replicate N none))]) (kc + 1) (ks + N)) : gG p l e R s m args below meth c D cI cS b nL Q pc ls (.int n :: st) es kc ks := by
  intro H locs arr hz hP hS hl hcn
  obtain ⟨hx, hb, hml, hown, hts, hK, hN', hO, hbs⟩ := C
  subst hN
  refine W.anew hx hb hown (hts _ hcl) (va_AO.use hO) rfl hdg rfl hn (by omega) hcells hslots fun cA kA comp f1 f2 f3 f4 => ?_
  have hcA : cA = cS := by
    obtain ⟨_, _, -, -, -, h4⟩ := (hK.2 1 _ rfl).2
    exact (Option.some.inj (h4.symm.trans f1)).symm
  subst hcA
  rw [hz]
  generalize hH1 : H.push ({ cls := cA, slots := Array.replicate n.toNatClampNeg .null, vm := .none } : Cell) = H1
  have z1 : H1.size = H.size + 1 := by rw [← hH1, Array.size_push]
  have e1 : H1[H.size]? = some (arrV cA n.toNatClampNeg (fun _ => .null)) := by rw [← hH1, Array.getElem?_push_size, ← arrV_new]
  have o1 : ∀ q : Nat, q < H.size → H1[q]? = H[q]? := fun q hq => by rw [← hH1, Array.getElem?_push, if_neg (Nat.ne_of_lt hq)]
  refine kk H1 locs arr (by rw [z1, List.length_append]; simp; omega) (g_push hz hP o1 ?_) (gS hS (by omega) o1) hl (by rw [List.length_append]; simp; omega)
  show H1[b + es.length]? = some (vp_cell cA _)
  rw [← hz, e1]
  congr 1
  dsimp only
  rw [vp_cell_q, List.length_replicate]
  congr 1
  funext i
  by_cases hi : i < n.toNatClampNeg
  · simp [List.getElem?_replicate, hi, va_rf]
  · simp [List.getElem?_replicate, hi, va_rf]
theorem W_sz {H : Heap} {locs : List Loc} {g : JFrame} (h : H.size ≤ s.heap.size + kc → W p l e R s m args below meth c H locs kc ks Q g) : W p l e R s m args below meth c H locs kc ks Q g := fun T hT X => h (by rw [← hT]; exact X.heapSize) T hT X
theorem g_putF (C : gCx p s m args c D cI cS own cc nL b) (hin2 : meth.name = "<init>") {Cn : String} {T : u_T} {ty0 : Nat → FieldType} {N ci k index a q : Nat} {fs : List (Option (Option Nat))} {ty : FieldType} (hw : ∀ w ∈ u_ws Cn T N, w ∈ x_tb) (hty : ∀ k, k < N → parseFieldDescriptor (T k).2.2.1 = some (ty0 k)) (hnm : ∀ a, a < N → ∀ b, b < N → a ≠ b → (T a).2.1 ≠ (T b).2.1) (hc : vwCl[ci]? = some (Cn, T, N)) (hk : k < N) (hlk : Cond.fieldLink own index own (T k).2.1 (T k).2.2.1 ∈ x_tb) (hdecl : (T k).1 = own) (hfin : (T k).2.2.2 = true) (hd : parseFieldDescriptor (T k).2.2.1 = some ty) (hn : ∀ z : Nat, narrow ty (.ref z) = .ref z) (hfit : ∀ z : Nat, fits ty (.ref z) = true) (hl : k < fs.length)
    (he : es[a]? = some (.inl (ci, fs))) (hdg : decode cc pc = .ok (.putfield index, 3)) (kk : gG p l e R s m args below meth c D cI cS b nL Q (pc + 3) ls st (es.set a (.inl (ci, fs.set k (some (some q))))) kc ks) : gG p l e R s m args below meth c D cI cS b nL Q pc ls (.ref q :: .ref a :: st) es kc ks := by
  intro H locs arr hz hP hS hl2 hcn
  obtain ⟨hx, hb, hml, hown, hts, hK, hN', hO, hbs⟩ := C
  have hS' : va_S (gA b) H H [] := va_S.rf
  refine va_putF (H0 := s.heap) hx hb hts hw ty0 hty hnm hown hK hP (gW_D b cI cS es) hS a (gW_get he) hc k hk (hts _ hlk) (by rw [hdecl]; exact fun x h => h) hfin hin2 hdecl (v := .ref (b + q)) hd (hn _) (hfit _) (by rw [List.length_map]; exact hl) hdg (fun H1 locs1 hP1 hD1 hS1 => ?_)
  have e2 : (fs.map (g_v b)).set k (.ref (b + q)) = (fs.set k (some (some q))).map (g_v b) := by rw [List.map_set]; rfl
  rw [e2] at hP1
  have e3 : (gW b cI cS es).set a (b + a, .inr (ci, (fs.set k (some (some q))).map (g_v b))) = gW b cI cS (es.set a (.inl (ci, fs.set k (some (some q))))) := gW_set (e := .inl (ci, fs.set k (some (some q)))) he
  rw [e3] at hP1
  have hlt : b + (es.length - 1) < H1.size := by
    have hlast : es.length - 1 < (es.set a (.inl (ci, fs.set k (some (some q))))).length := by
      have := (List.getElem?_eq_some_iff.mp he).1
      rw [List.length_set]
      omega
    exact (hP1 (es.length - 1) _ (gW_get (List.getElem?_eq_getElem hlast))).lt
  have hne := (List.getElem?_eq_some_iff.mp he).1
  refine W_sz (fun hsz => ?_)
  exact kk H1 locs1 arr (by rw [List.length_set]; omega) hP1 hS1 hl2 (by rw [List.length_set]; exact hcn)
theorem g_get (C : gCx p s m args c D cI cS own cc nL b) {ref Cn : String} {T : u_T} {N ci k index a q : Nat} {fs : List (Option (Option Nat))} (hw : ∀ w ∈ u_ws Cn T N, w ∈ x_tb) (hc : vwCl[ci]? = some (Cn, T, N)) (hk : k < N) (hlk : Cond.fieldLink own index ref (T k).2.1 (T k).2.2.1 ∈ x_tb) (href : (T k).1 = ref)
    (he : es[a]? = some (.inl (ci, fs))) (hf : fs[k]? = some (some (some q))) (hdg : decode cc pc = .ok (.getfield index, 3)) (kk : gG p l e R s m args below meth c D cI cS b nL Q (pc + 3) ls (.ref q :: st) es kc ks) : gG p l e R s m args below meth c D cI cS b nL Q pc ls (.ref a :: st) es kc ks := by
  intro H locs arr hz hP hS hl hcn
  obtain ⟨hx, hb, hml, hown, hts, hK, hN', hO, hbs⟩ := C
  exact va_get hx hb hts hw hown hK hP a (gW_get he) hc k hk (hts _ hlk) (by rw [href]; exact fun x h => h) (v := .ref (b + q)) (by rw [List.getElem?_map, hf]; rfl) hdg (kk H locs arr hz hP hS hl hcn)
theorem g_aast (C : gCx p s m args c D cI cS own cc nL b) {a q : Nat} {i : Int32} {j : Nat} {rs : List (Option Nat)} {fs : List (Option (Option Nat))} (he : es[a]? = some (.inr (.inr rs))) (hq : es[q]? = some (.inl (9, fs))) (hj : i = nI j) (hjl : j < rs.length) (hj2 : rs.length < 1000) (hdg : decode cc pc = .ok (.aastore, 1)) (kk : gG p l e R s m args below meth c D cI cS b nL Q (pc + 1) ls st (es.set a (.inr (.inr (rs.set j (some q))))) kc ks) : gG p l e R s m args below meth c D cI cS b nL Q pc ls (.ref q :: .int i :: .ref a :: st) es kc ks := by
  intro H locs arr hz hP hS hl hcn
  obtain ⟨hx, hb, hml, hown, hts, hK, hN', hO, hbs⟩ := C
  subst hj
  have hcl : (nI j).toNatClampNeg = j := nI_clamp (by omega)
  refine va_astq hx hb hK hP (gW_D b cI cS es) hS a 1 q 9 (r := (RX9, TX9, 7)) (gW_get he) rfl (gW_get hq) rfl (vp_in_nI hjl (by omega)) hdg (fun H1 locs1 hP1 hD1 hS1 => ?_)
  rw [hcl] at hP1
  have e0 : (va_up (fun i => ((rs[i]?).getD none).map (fun q => b + q)) j (some (b + q)) : Nat → Option Nat) = (fun i => (((rs.set j (some q))[i]?).getD none).map (fun q => b + q)) := by
    funext i
    by_cases hi : i = j
    · subst hi
      rw [List.getElem?_set_self hjl]
      simp [va_up]
    · rw [List.getElem?_set_ne (Ne.symm hi)]
      simp [va_up, hi]
  rw [e0] at hP1
  have e3 : (gW b cI cS es).set a (b + a, .inl (cS, rs.length, .inr (.inr (.inr (.inr (fun i => (((rs.set j (some q))[i]?).getD none).map (fun q => b + q))))))) = gW b cI cS (es.set a (.inr (.inr (rs.set j (some q))))) := by
    rw [← gW_set (e := .inr (.inr (rs.set j (some q)))) he]
    unfold g_en
    simp only [List.length_set]
  rw [e3] at hP1
  have hne := (List.getElem?_eq_some_iff.mp he).1
  have hlt : b + (es.length - 1) < H1.size := by
    have hlast : es.length - 1 < (es.set a (.inr (.inr (rs.set j (some q))))).length := by
      rw [List.length_set]
      omega
    exact (hP1 (es.length - 1) _ (gW_get (List.getElem?_eq_getElem hlast))).lt
  refine W_sz (fun hsz => ?_)
  exact kk H1 locs1 arr (by rw [List.length_set]; omega) hP1 hS1 hl (by rw [List.length_set]; exact hcn)
theorem g_ald (C : gCx p s m args c D cI cS own cc nL b) {k : Fin 4} {j a : Nat} (hk : (k : Nat) = j) (h : ls[j]? = some (.ref a)) (hd : decode cc pc = .ok (.aload_n k, 1)) (kk : gG p l e R s m args below meth c D cI cS b nL Q (pc + 1) ls (.ref a :: st) es kc ks) : gG p l e R s m args below meth c D cI cS b nL Q pc ls st es kc ks := by
  intro H locs arr hz hP hS hl hcn
  subst hk
  exact lv_aload_n C.1 C.2.1 hd rfl (hl.2.2 _ _ h (fun z => by cases z)) (kk H locs arr hz hP hS hl hcn)
theorem g_ild (C : gCx p s m args c D cI cS own cc nL b) {k : Fin 4} {j : Nat} {a : Int32} (hk : (k : Nat) = j) (h : ls[j]? = some (.int a)) (hd : decode cc pc = .ok (.iload_n k, 1)) (kk : gG p l e R s m args below meth c D cI cS b nL Q (pc + 1) ls (.int a :: st) es kc ks) : gG p l e R s m args below meth c D cI cS b nL Q pc ls st es kc ks := by
  intro H locs arr hz hP hS hl hcn
  subst hk
  exact lv_iload_n C.1 C.2.1 hd rfl (hl.2.2 _ _ h (fun z => by cases z)) (kk H locs arr hz hP hS hl hcn)
theorem g_ist (C : gCx p s m args c D cI cS own cc nL b) {k : Fin 4} {j : Nat} {a : Int32} {ls' : List Value} (hk : (k : Nat) = j) (hj : j < nL) (h : xst ls j (.int a) = some ls') (hd : decode cc pc = .ok (.istore_n k, 1)) (kk : gG p l e R s m args below meth c D cI cS b nL Q (pc + 1) ls' st es kc ks) : gG p l e R s m args below meth c D cI cS b nL Q pc ls (.int a :: st) es kc ks := by
  intro H locs arr hz hP hS hl hcn
  subst hk
  exact lv_istore_n C.1 C.2.1 hd rfl (xL_has hl) hj rfl (fun arr' ha => kk H locs arr' hz hP hS (xst_L (v := .int a) (fun z => by cases z) h ha) hcn)
theorem g_ast (C : gCx p s m args c D cI cS own cc nL b) {k : Fin 4} {j a : Nat} {ls' : List Value} (hk : (k : Nat) = j) (hj : j < nL) (h : xst ls j (.ref a) = some ls') (hd : decode cc pc = .ok (.astore_n k, 1)) (kk : gG p l e R s m args below meth c D cI cS b nL Q (pc + 1) ls' st es kc ks) : gG p l e R s m args below meth c D cI cS b nL Q pc ls (.ref a :: st) es kc ks := by
  intro H locs arr hz hP hS hl hcn
  subst hk
  exact lv_astore_n C.1 C.2.1 hd rfl (xL_has hl) hj rfl (fun arr' ha => kk H locs arr' hz hP hS (xst_L (v := .ref a) (fun z => by cases z) h ha) hcn)
theorem g_iinc (C : gCx p s m args c D cI cS own cc nL b) {k : Nat} {n : Int} {a v : Int32} {ls' : List Value} (hj : k < nL) (h0 : ls[k]? = some (.int a)) (hv : a + Int32.ofInt n = v) (h : xst ls k (.int v) = some ls') (hd : decode cc pc = .ok (.iinc k n, 3)) (kk : gG p l e R s m args below meth c D cI cS b nL Q (pc + 3) ls' st es kc ks) : gG p l e R s m args below meth c D cI cS b nL Q pc ls st es kc ks := by
  intro H locs arr hz hP hS hl hcn
  have hm := xfc_in b ls 0 k (.int a) h0 (fun z => by cases z)
  rw [Nat.zero_add] at hm
  obtain ⟨i, hi⟩ := List.getElem?_of_mem hm
  exact lv_iinc C.1 C.2.1 hd (xL_has hl) hi hv hj rfl (fun arr' ha => kk H locs arr' hz hP hS (xst_L (v := .int v) (fun z => by cases z) h ha) hcn)
theorem g_bip (C : gCx p s m args c D cI cS own cc nL b) {n : Int} {v : Int32} (hv : (Int8.ofInt n).toInt32 = v) (hd : decode cc pc = .ok (.bipush n, 2)) (kk : gG p l e R s m args below meth c D cI cS b nL Q (pc + 2) ls (.int v :: st) es kc ks) : gG p l e R s m args below meth c D cI cS b nL Q pc ls st es kc ks := by
  intro H locs arr hz hP hS hl hcn
  exact lv_bipush C.1 C.2.1 hd hv (kk H locs arr hz hP hS hl hcn)
theorem g_sip (C : gCx p s m args c D cI cS own cc nL b) {n : Int} {v : Int32} (hv : (Int16.ofInt n).toInt32 = v) (hd : decode cc pc = .ok (.sipush n, 3)) (kk : gG p l e R s m args below meth c D cI cS b nL Q (pc + 3) ls (.int v :: st) es kc ks) : gG p l e R s m args below meth c D cI cS b nL Q pc ls st es kc ks := by
  intro H locs arr hz hP hS hl hcn
  exact lv_sipush C.1 C.2.1 hd hv (kk H locs arr hz hP hS hl hcn)
theorem g_ico (C : gCx p s m args c D cI cS own cc nL b) {n : Int} {v : Int32} (hv : Int32.ofInt n = v) (hd : decode cc pc = .ok (.iconst n, 1)) (kk : gG p l e R s m args below meth c D cI cS b nL Q (pc + 1) ls (.int v :: st) es kc ks) : gG p l e R s m args below meth c D cI cS b nL Q pc ls st es kc ks := by
  intro H locs arr hz hP hS hl hcn
  exact lv_iconst C.1 C.2.1 hd hv (kk H locs arr hz hP hS hl hcn)
theorem g_dup (C : gCx p s m args c D cI cS own cc nL b) {a : Nat} (hd : decode cc pc = .ok (.dup, 1)) (kk : gG p l e R s m args below meth c D cI cS b nL Q (pc + 1) ls (.ref a :: .ref a :: st) es kc ks) : gG p l e R s m args below meth c D cI cS b nL Q pc ls (.ref a :: st) es kc ks := by
  intro H locs arr hz hP hS hl hcn
  exact lv_dup (va := .ref (b + a)) C.1 C.2.1 hd rfl (kk H locs arr hz hP hS hl hcn)
theorem g_goto (C : gCx p s m args c D cI cS own cc nL b) {off : Int} {tgt : Nat} (ht : (pc : Int) + off = (tgt : Int)) (hd : decode cc pc = .ok (.goto off, 3)) (kk : gG p l e R s m args below meth c D cI cS b nL Q tgt ls st es kc ks) : gG p l e R s m args below meth c D cI cS b nL Q pc ls st es kc ks := by
  intro H locs arr hz hP hS hl hcn
  exact lv_goto C.1 C.2.1 hd ht (kk H locs arr hz hP hS hl hcn)
theorem g_ige (C : gCx p s m args c D cI cS own cc nL b) {off : Int} {tgt : Nat} {x y : Int32} (ht : (pc : Int) + off = (tgt : Int)) (hd : decode cc pc = .ok (.if_icmp .ge off, 3)) (kt : y ≤ x → gG p l e R s m args below meth c D cI cS b nL Q tgt ls st es kc ks) (kf : ¬ y ≤ x → gG p l e R s m args below meth c D cI cS b nL Q (pc + 3) ls st es kc ks) : gG p l e R s m args below meth c D cI cS b nL Q pc ls (.int y :: .int x :: st) es kc ks := by
  intro H locs arr hz hP hS hl hcn
  exact lv_icmp_ge C.1 C.2.1 hd ht (fun h => kt h H locs arr hz hP hS hl hcn) (fun h => kf h H locs arr hz hP hS hl hcn)
theorem g_obj (C : gCx p s m args c D cI cS own cc nL b) {idx a : Nat} (hlk : Cond.methodLink own idx Lib.objectInit ∈ x_tb) (him : Cond.instanceMethod Lib.objectInit ∈ x_tb) (hcd : Cond.code Lib.objectInit ⟨#[0xb1]⟩ 1 none ∈ x_tb) (hd : decode cc pc = .ok (.invokespecial idx, 3)) (hR : 1 ≤ R.frames ∧ 12 ≤ R.locals) (kk : gG p l e R s m args below meth c D cI cS b nL Q (pc + 3) ls [] es kc ks) : gG p l e R s m args below meth c D cI cS b nL Q pc ls [.ref a] es kc ks := by
  intro H locs arr hz hP hS hl hcn
  obtain ⟨hx, hb, hml, hown, hts, hK, hN', hO, hbs⟩ := C
  refine W.objInit hx hb hown (hts _ hlk) (hts _ him) (hts _ hcd) rfl (by rw [hml]; exact hl.1) (rest := []) rfl hd hR.1 hR.2 ?_
  exact kk H locs arr hz hP hS hl hcn
end GR
