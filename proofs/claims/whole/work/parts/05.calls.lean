def xroom (d : Nat) : Room := { frames := d + 1, cells := 0, slots := 0, locals := 60 * (d + 1) }
def xPc (D : va_G) (cI cS : ClassId) (b : Nat) (vs : List Value) (σ : xM) : Array Value → State → Prop := va_Pc (vs.map (xv b)) (fun U => va_P D vwCl (xW b cI cS σ) U.heap ∧ va_K D vwCl (x_tys cI cS) U ∧ x_N U)
def xQc (D : va_G) (cI cS : ClassId) (b : Nat) (r : Option Value) (σ' : xM) : Array Value → State → Outcome → State → Prop := fun _ st oc t => oc = .returned (r.map (xv b)) ∧ va_P D vwCl (xW b cI cS σ') t.heap ∧ va_F (xA b) st t
theorem xPc_blind (D : va_G) (cI cS : ClassId) (b : Nat) (vs : List Value) (σ : xM) : FrameBlind (xPc D cI cS b vs σ) := by
  intro a U g mk q
  obtain ⟨q0, qP, qK, qN⟩ := q
  exact ⟨q0, qP, va_K.moved (u := U) (U := U.calling g mk a) (Vm.Alike.refl U.vm) qK, x_N_same (u := U) (U := U.calling g mk a) rfl qN⟩
def xMt (l : Launch) (D : va_G) (cI cS : ClassId) (b d : Nat) (y : MethodName) (bytes : ByteArray) (maxL : Nat) (rt : Option FieldType) (vs : List Value) (σ : xM) (r : Option Value) (σ' : xM) : Prop :=
  Met l y (Cond.code y bytes maxL rt :: x_tb) (xroom d) (xPc D cI cS b vs σ) (xQc D cI cS b r σ') 0 0 (xA b)
section XC
variable {p : Program} {l : Launch} {e : Env} {R : Room} {s : State} {m : MethodId} {args : Array Value} {below : List Frame} {meth : Method} {c : Code} {H : Heap} {locs : List Loc} {Q : State → Prop} {D : va_G} {cI cS : ClassId} {b pc : Nat} {arr : Array Slot} {st0 rest : List Value} {a : Array Value} {r : Option Value} {σ' : xM}
theorem x_call (hr : va_Run p l e R s m args below meth c H locs 0 0 0 0 (F0 m pc arr st0) rest (xQc D cI cS b r σ' a) (xA b)) (hS : va_S (xA b) s.heap H locs)
    (kk : ∀ (H1 : Heap) (locs1 : List Loc), va_P D vwCl (xW b cI cS σ') H1 → va_S (xA b) s.heap H1 locs1 → W p l e R s m args below meth c H1 locs1 0 0 Q (F0 m (pc + 3) arr ((r.map (xv b)).toList ++ rest))) : W p l e R s m args below meth c H locs 0 0 Q (F0 m pc arr st0) := by
  intro T hT X
  obtain ⟨v, st₀, t, T', L, h0, X', hL, e1, e2, ⟨hv, hP', hz, hk⟩, st⟩ := hr T hT X
  cases hv
  rw [h0] at hz hk
  obtain ⟨t2, a1, b1⟩ := kk T'.heap (locs ++ L) (by rw [e1]; exact hP')
    ⟨Nat.le_trans hS.1 (by rw [e1]; exact hz), fun q h1 h2 => by rw [e1, hk q (Nat.lt_of_lt_of_le h1 hS.1) h2]; exact hS.2.1 q h1 h2, fun q hq => by
      rcases List.mem_append.mp hq with h | h
      · exact hS.2.2 q h
      · exact hL q h⟩ T' rfl X'
  exact ⟨t2, st t2 a1, b1⟩
end XC
def xrc (rc : Nat) (vs : List Value) : Bool := match rc with
  | 0 => true
  | ci + 1 => match vs with
    | .ref c :: _ => match x_sh c with
      | some (.inl (ci', _)) => ci' == ci
      | _ => false
    | _ => false
def xcat (st : List Value) : Nat := (st.map fun v => v.category).sum
theorem xcat_v (b : Nat) (st : List Value) : ((st.map (xv b)).map fun v => v.category).sum = xcat st := by
  unfold xcat
  rw [List.map_map]
  congr 1
  apply List.map_congr_left
  intro v _
  exact xv_cat b v
def xCK (own : String) (cc : ByteArray) (nL pc pc' rc k : Nat) (y : MethodName) (bytes : ByteArray) (maxL : Nat) (rt1 : Option FieldType) : Prop :=
  ∀ (p : Program) (l : Launch) (e : Env) (d : Nat) (s : State) (m : MethodId) (args : Array Value) (below : List Frame) (meth : Method) (c : Code) (D : va_G) (cI cS : ClassId) (b : Nat) (Q : State → Prop) (rt : Option FieldType), xCx p (xroom (d + 1)) s m args meth c D cI cS own cc nL rt →
    ∀ (ls vs rest : List Value) (σ : xM) (r : Option Value) (σ' : xM), vs.length = k → xrc rc vs = true → xcat rest ≤ 8 → xMt l D cI cS b d y bytes maxL rt1 vs σ r σ' → xG p l e (xroom (d + 1)) s m args below meth c D cI cS b nL Q pc' ls (r.toList ++ rest) σ' → xG p l e (xroom (d + 1)) s m args below meth c D cI cS b nL Q pc ls (vs.reverse ++ rest) σ
theorem x_stk (b : Nat) (r : Option Value) (rest : List Value) : (r.map (xv b)).toList ++ rest.map (xv b) = (r.toList ++ rest).map (xv b) := by cases r <;> simp
section XD
variable {own : String} {cc : ByteArray} {nL pc : Nat} {pcs : List Nat}
theorem s_callS {index n maxL : Nat} {y : MethodName} {bytes : ByteArray} {rt1 : Option FieldType} (hlk : Cond.methodLink own index y ∈ x_tb) (hst : Cond.static y ∈ x_tb) (hin : Cond.initialized y.cls ∈ x_tb) (hcd : Cond.code y bytes maxL rt1 ∈ x_tb)
    (hy : y.cls ≠ "java/lang/invoke/MethodHandle" ∧ y.cls ≠ "java/lang/invoke/VarHandle" ∧ (parseMethodDescriptor y.desc).map (fun d => d.parameters.length) = some n) (hmx : maxL ≤ 30) (hd : decode cc pc = .ok (.invokestatic index, 3)) : xCK own cc nL pc (pc + 3) 0 n y bytes maxL rt1 := by
  intro p l e d s m args below meth c D cI cS b Q rt C0 ls vs rest σ r σ' hk hrc h8 hM G H locs arr hP hS hl
  obtain ⟨hx, hb, hr, hml, hown, hts, hlocks, hK, hN, hR⟩ := C0
  refine x_call (va_runS (As := vs.map (xv b)) (rest := rest.map (xv b)) (n := n) (Ts := x_tb) ⟨hx, hb, hml, hown, hts⟩ hM ⟨callB_of n hts (x_gi hcd) rfl rfl rfl (hts _ hin) (hts _ hlk) hy ⟨by simp [xroom], by simp only [xroom]; omega⟩, hts _ hst⟩ ⟨xPc_blind D cI cS b vs σ, fun U hU hW => ⟨rfl, by rw [hU]; exact hP, va_K.moved hW.alike hK, x_N_warm hW hN⟩⟩ rfl (by rw [List.length_map]; exact hk) hl.1 (by simp) (lv_room (by rw [xcat_v]; exact h8)) hd ⟨Nat.zero_le _, Nat.zero_le _⟩) hS (fun H1 locs1 hP1 hS1 => ?_)
  rw [x_stk]
  exact G H1 locs1 arr hP1 hS1 hl
theorem s_callSN {index n maxL : Nat} {y : MethodName} {bytes : ByteArray} {rt1 : Option FieldType} (hlk : (own, index, y) ∈ x_nest) (hst : Cond.static y ∈ x_tb) (hin : Cond.initialized y.cls ∈ x_tb) (hcd : Cond.code y bytes maxL rt1 ∈ x_tb)
    (hy : y.cls ≠ "java/lang/invoke/MethodHandle" ∧ y.cls ≠ "java/lang/invoke/VarHandle" ∧ (parseMethodDescriptor y.desc).map (fun d => d.parameters.length) = some n) (hmx : maxL ≤ 30) (hd : decode cc pc = .ok (.invokestatic index, 3)) : xCK own cc nL pc (pc + 3) 0 n y bytes maxL rt1 := by
  intro p l e d s m args below meth c D cI cS b Q rt C0 ls vs rest σ r σ' hk hrc h8 hM G H locs arr hP hS hl
  obtain ⟨hx, hb, hr, hml, hown, hts, hlocks, hK, hN, hR⟩ := C0
  refine x_call (va_runSN (As := vs.map (xv b)) (rest := rest.map (xv b)) (n := n) (Ts := x_tb) (host := "AnySites") ⟨hx, hb, hml, hown, hts⟩ hM ⟨va_cnB n hts (x_gi hcd) rfl rfl rfl (hN _ hlk) (hts _ hin) hy ⟨by simp [xroom], by simp only [xroom]; omega⟩, hts _ hst, trivial⟩ ⟨xPc_blind D cI cS b vs σ, fun U hU hW => ⟨rfl, by rw [hU]; exact hP, va_K.moved hW.alike hK, x_N_warm hW hN⟩⟩ rfl (by rw [List.length_map]; exact hk) hl.1 (by simp) (lv_room (by rw [xcat_v]; exact h8)) hd ⟨Nat.zero_le _, Nat.zero_le _⟩) hS (fun H1 locs1 hP1 hS1 => ?_)
  rw [x_stk]
  exact G H1 locs1 arr hP1 hS1 hl
theorem s_callV {index n maxL ci N : Nat} {T : u_T} {y : MethodName} {bytes : ByteArray} {rt1 : Option FieldType} (hlk : Cond.methodLink own index y ∈ x_tb) (him : Cond.instanceMethod y ∈ x_tb) (hse : Cond.selects y.cls y y ∈ x_tb) (hin : Cond.initialized y.cls ∈ x_tb) (hcd : Cond.code y bytes maxL rt1 ∈ x_tb) (hcl : vwCl[ci]? = some (y.cls, T, N))
    (hy : y.cls ≠ "java/lang/invoke/MethodHandle" ∧ y.cls ≠ "java/lang/invoke/VarHandle" ∧ (parseMethodDescriptor y.desc).map (fun d => d.parameters.length) = some n) (hmx : maxL ≤ 30) (hd : decode cc pc = .ok (.invokevirtual index, 3)) : xCK own cc nL pc (pc + 3) (ci + 1) (n + 1) y bytes maxL rt1 := by
  intro p l e d s m args below meth c D cI cS b Q rt C0 ls vs rest σ r σ' hk hrc h8 hM G H locs arr hP hS hl
  obtain ⟨hx, hb, hr, hml, hown, hts, hlocks, hK, hN, hR⟩ := C0
  cases vs with
  | nil => cases hk
  | cons v0 As =>
  unfold xrc at hrc
  simp only at hrc
  split at hrc
  · next a r0 heq =>
    cases heq
    split at hrc
    · next ci' fks hsh =>
      have hci : ci' = ci := by simpa using hrc
      subst hci
      have hg := xW_get (b := b) (cI := cI) (cS := cS) (σ := σ) hsh
      have hlen : As.length = n := by simpa using hk
      refine x_call (va_runV (As := As.map (xv b)) (rest := rest.map (xv b)) (n := n) (Ts := x_tb) (b := b + a) (C := y.cls) ⟨hx, hb, hml, hown, hts⟩ hM ⟨callB_of n hts (x_gi hcd) rfl rfl rfl (hts _ hin) (hts _ hlk) hy ⟨by simp [xroom], by simp only [xroom]; omega⟩, hts _ him, hts _ hse⟩ ⟨xPc_blind D cI cS b _ σ, va_recv hK hP hcl hg, fun U hU hW => ⟨rfl, by rw [hU]; exact hP, va_K.moved hW.alike hK, x_N_warm hW hN⟩⟩ rfl (by rw [List.length_map]; exact hlen) hl.1 (by simp [xv]) (lv_room (by rw [xcat_v]; exact h8)) hd ⟨Nat.zero_le _, Nat.zero_le _⟩) hS (fun H1 locs1 hP1 hS1 => ?_)
      rw [x_stk]
      exact G H1 locs1 arr hP1 hS1 hl
    · cases hrc
  · cases hrc
def xret (k : Nat) (st : List Value) (σ : xM) : Option (Option Value × xM) := match k, st with
  | 0, [] => some (none, σ)
  | 1, [.int v] => some (some (.int v), σ)
  | 2, [.int v] => if xzok true v = true then some (some (.int v), σ) else none
  | 3, [.long v] => some (some (.long v), σ)
  | _, _ => none
def xRK (own : String) (cc : ByteArray) (nL pc k : Nat) (rt : Option FieldType) : Prop :=
  ∀ (p : Program) (l : Launch) (e : Env) (R : Room) (s : State) (m : MethodId) (args : Array Value) (below : List Frame) (meth : Method) (c : Code) (D : va_G) (cI cS : ClassId) (b : Nat), xCx p R s m args meth c D cI cS own cc nL rt →
    ∀ (ls st : List Value) (σ : xM) (r : Option Value) (σ' : xM), xret k st σ = some (r, σ') → xG p l e R s m args below meth c D cI cS b nL (MQ below (xQc D cI cS b r σ') args s 0 0 (xA b)) pc ls st σ
theorem s_ret0 (hd : decode cc pc = .ok (.return_, 1)) : xRK own cc nL pc 0 none := by
  intro p l e R s m args below meth c D cI cS b C0 ls st σ r σ' h H locs arr hP hS hl
  obtain ⟨hx, hb, hr, hml, hown, hts, hlocks, hK, hN, hR⟩ := C0
  unfold xret at h
  split at h <;> first | contradiction | skip
  cases h
  exact W.vret hx hb hr (fun t ht hW => ⟨rfl, by rw [ht]; exact hP, hS.F ht⟩) hS.2.2 hd hlocks
theorem s_ret1 (hd : decode cc pc = .ok (.ireturn, 1)) : xRK own cc nL pc 1 (some .int) := by
  intro p l e R s m args below meth c D cI cS b C0 ls st σ r σ' h H locs arr hP hS hl
  obtain ⟨hx, hb, hr, hml, hown, hts, hlocks, hK, hN, hR⟩ := C0
  unfold xret at h
  split at h <;> first | contradiction | skip
  cases h
  exact W.iret hx hb hr (fun t ht hW => ⟨rfl, by rw [ht]; exact hP, hS.F ht⟩) hS.2.2 hd hlocks
theorem s_ret2 (hd : decode cc pc = .ok (.ireturn, 1)) : xRK own cc nL pc 2 (some .boolean) := by
  intro p l e R s m args below meth c D cI cS b C0 ls st σ r σ' h H locs arr hP hS hl
  obtain ⟨hx, hb, hr, hml, hown, hts, hlocks, hK, hN, hR⟩ := C0
  unfold xret at h
  split at h <;> first | contradiction | skip
  split at h
  · next hz =>
    cases h
    exact W.zret hx hb hr (xzok_fit (z := true) (by simp) hz).1 (fun t ht hW => ⟨rfl, by rw [ht]; exact hP, hS.F ht⟩) hS.2.2 hd hlocks
  · cases h
theorem s_ret3 (hd : decode cc pc = .ok (.lreturn, 1)) : xRK own cc nL pc 3 (some .long) := by
  intro p l e R s m args below meth c D cI cS b C0 ls st σ r σ' h H locs arr hP hS hl
  obtain ⟨hx, hb, hr, hml, hown, hts, hlocks, hK, hN, hR⟩ := C0
  unfold xret at h
  split at h <;> first | contradiction | skip
  cases h
  exact W.lret hx hb hr (fun t ht hW => ⟨rfl, by rw [ht]; exact hP, hS.F ht⟩) hS.2.2 hd hlocks
end XD
abbrev xTb : Type := Nat → List xIn
def xEv (T : xTb) (L : Nat → Nat) : Nat → Nat → Nat → Nat → List Value → List Value → xM → Option (Option Value × xM)
  | 0, _, _, _, _, _, _ => none
  | n + 1, d, mid, i, ls, st, σ =>
    match (T mid)[i]? with
    | none => none
    | some (.inl f) => match f ls st σ with
      | none => none
      | some (ls', st', σ') => xEv T L n d mid (i + 1) ls' st' σ'
    | some (.inr (.inl j)) => match j st with
      | none => none
      | some (i', st') => xEv T L n d mid i' ls st' σ
    | some (.inr (.inr (.inl (cm, k, rc)))) => match d with
      | 0 => none
      | d' + 1 =>
        if k ≤ st.length ∧ xrc rc (st.take k).reverse = true ∧ xcat (st.drop k) ≤ 8 ∧ (lg_sl (st.take k).reverse).length ≤ L cm then
          match xEv T L n d' cm 0 (xls (L cm) (st.take k).reverse) [] σ with
          | none => none
          | some (r, σ') => xEv T L n (d' + 1) mid (i + 1) ls (r.toList ++ st.drop k) σ'
        else none
    | some (.inr (.inr (.inr k))) => xret k st σ
def xEnt (Y : Nat → MethodName) (B : Nat → ByteArray) (L : Nat → Nat) (Rt : Nat → Option FieldType) (pcs : List Nat) (mid i : Nat) (ins : xIn) : Prop := match ins with
  | .inl f => xOK (Y mid).cls (B mid) (L mid) (pcs.getD i 0) (pcs.getD (i + 1) 0) f
  | .inr (.inl j) => xJK (Y mid).cls (B mid) (L mid) pcs (pcs.getD i 0) j
  | .inr (.inr (.inl (cm, k, rc))) => xCK (Y mid).cls (B mid) (L mid) (pcs.getD i 0) (pcs.getD (i + 1) 0) rc k (Y cm) (B cm) (L cm) (Rt cm)
  | .inr (.inr (.inr k)) => xRK (Y mid).cls (B mid) (L mid) (pcs.getD i 0) k (Rt mid)
def xVal (T : xTb) (Y : Nat → MethodName) (B : Nat → ByteArray) (L : Nat → Nat) (Rt : Nat → Option FieldType) (Pcs : Nat → List Nat) : Prop :=
  ∀ mid, plainName (Y mid).cls = true ∧ (Pcs mid).getD 0 0 = 0 ∧ ∀ (i : Nat) (ins : xIn), (T mid)[i]? = some ins → xEnt Y B L Rt (Pcs mid) mid i ins
set_option maxHeartbeats 1000000 in
theorem x_sound {T : xTb} {Y : Nat → MethodName} {B : Nat → ByteArray} {L : Nat → Nat} {Rt : Nat → Option FieldType} {Pcs : Nat → List Nat} (V : xVal T Y B L Rt Pcs) :
    ∀ (n d mid i : Nat) (ls st : List Value) (σ : xM) (r : Option Value) (σ' : xM), xEv T L n d mid i ls st σ = some (r, σ') →
      ∀ (p : Program) (l : Launch) (e : Env) (s : State) (m : MethodId) (args : Array Value) (below : List Frame) (meth : Method) (c : Code) (D : va_G) (cI cS : ClassId) (b : Nat), xCx p (xroom d) s m args meth c D cI cS (Y mid).cls (B mid) (L mid) (Rt mid) →
        xG p l e (xroom d) s m args below meth c D cI cS b (L mid) (MQ below (xQc D cI cS b r σ') args s 0 0 (xA b)) ((Pcs mid).getD i 0) ls st σ := by
  intro n
  induction n with
  | zero => intro d mid i ls st σ r σ' h; cases h
  | succ n ih =>
    intro d mid i ls st σ r σ' h p l e s m args below meth c D cI cS b C0
    unfold xEv at h
    have hV := (V mid).2.2 i
    split at h
    · cases h
    · next f hf =>
      have hE := hV _ hf
      split at h
      · cases h
      · next ls' st' σ1 hs => exact hE p l e _ s m args below meth c D cI cS b _ _ C0 ls st σ ls' st' σ1 hs (ih d mid (i + 1) ls' st' σ1 r σ' h p l e s m args below meth c D cI cS b C0)
    · next j hf =>
      have hE := hV _ hf
      split at h
      · cases h
      · next i' st' hs => exact hE p l e _ s m args below meth c D cI cS b _ _ C0 ls st σ i' st' hs (ih d mid i' ls st' σ r σ' h p l e s m args below meth c D cI cS b C0)
    · next cm k rc hf =>
      have hE := hV _ hf
      split at h
      · cases h
      · next d' =>
        split at h
        · next hc =>
          obtain ⟨h1, h2, h3, h4⟩ := hc
          split at h
          · cases h
          · next r1 σ1 hs =>
            have hM : xMt l D cI cS b d' (Y cm) (B cm) (L cm) (Rt cm) (st.take k).reverse σ r1 σ1 := by
              refine Met.ofW (cc := B cm) (maxL := L cm) (ret := Rt cm) (V cm).1 rfl ?_
              intro p1 e1 s1 m1 args1 below1 meth1 c1 s₁ B1 hml1 hv1
              obtain ⟨rfl, hP1, hK1, hN1⟩ := hv1
              have hts1 := atoms_spec (ws := Cond.code (Y cm) (B cm) (L cm) (Rt cm) :: x_tb) B1.pre
              have hown1 : s1.vm.findClass (Y cm).cls = some m1.cls := findClass_of_methodNamed B1.named
              have g := ih d' cm 0 _ [] σ r1 σ1 hs p1 l e1 s1 m1 _ below1 meth1 c1 D cI cS b ⟨B1.exec, B1.bytes, B1.returns, hml1, hown1, fun w hw => hts1 w (List.mem_cons_of_mem _ hw), B1.notSynchronized, hK1, hN1, by simp [xroom], by simp only [xroom]; omega⟩
              rw [(V cm).2.1] at g
              rw [lg_entry_eq]
              exact g s1.heap [] _ hP1 va_S.rf (xls_L h4)
            have g := ih (d' + 1) mid (i + 1) ls (r1.toList ++ st.drop k) σ1 r σ' h p l e s m args below meth c D cI cS b C0
            have hlen : (st.take k).reverse.length = k := by simp; omega
            have g2 := hE p l e d' s m args below meth c D cI cS b _ _ C0 ls (st.take k).reverse (st.drop k) σ r1 σ1 hlen h2 h3 hM g
            rw [List.reverse_reverse, List.take_append_drop] at g2
            exact g2
        · cases h
    · next k hf =>
      have hE := hV _ hf
      exact hE p l e _ s m args below meth c D cI cS b C0 ls st σ r σ' h
