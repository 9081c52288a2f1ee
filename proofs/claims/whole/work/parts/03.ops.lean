abbrev x_tys (cI cS : ClassId) : List (ClassId × FieldType) := [(cI, .int), (cS, .object "AnySites$State")]
def x_nest : List (String × Nat × MethodName) := [("AnySites", 9, ⟨"AnySites$State", "<init>", "()V"⟩), ("AnySites$State", 9, ⟨"AnySites$Areas", "<init>", "()V"⟩), ("AnySites$State", 18, ⟨"AnySites$Sites", "<init>", "()V"⟩), ("AnySites$State", 25, ⟨"AnySites$Sessions", "<init>", "()V"⟩), ("AnySites$History", 17, ⟨"AnySites$State", "<init>", "()V"⟩), ("AnySites", 59, ⟨"AnySites$Script", "<init>", "()V"⟩), ("AnySites$Acts", 53, ⟨"AnySites", "within", "(III)Z"⟩), ("AnySites$Areas", 31, ⟨"AnySites", "within", "(III)Z"⟩), ("AnySites$Sites", 31, ⟨"AnySites", "within", "(III)Z"⟩), ("AnySites$Sessions", 28, ⟨"AnySites", "within", "(III)Z"⟩), ("AnySites$Script", 46, ⟨"AnySites", "within", "(III)Z"⟩)]
def x_N (U : State) : Prop := ∀ q ∈ x_nest, va_Nw (.methodLinkNest q.1 q.2.1 q.2.2 "AnySites") U
theorem x_N_warm {s U : State} (hW : s.WarmedH U.vm) (h : x_N s) : x_N U := fun q hq => va_Nw.warmM hW (h q hq)
theorem x_N_same {u U : State} (hv : u.vm = U.vm) (h : x_N u) : x_N U := fun q hq => va_Nw.same rfl hv (h q hq)
def xCx (p : Program) (R : Room) (s : State) (m : MethodId) (args : Array Value) (meth : Method) (c : Code) (D : va_G) (cI cS : ClassId) (own : String) (cc : ByteArray) (nL : Nat) (rt : Option FieldType) : Prop :=
  p.tables.exec = Jvm.exec ∧ c.code = cc ∧ meth.sig.returnType = rt ∧ c.maxLocals = nL ∧ s.vm.findClass own = some m.cls ∧ (∀ w ∈ x_tb, w.before args s = true) ∧ meth.locks = false ∧ va_K D vwCl (x_tys cI cS) s ∧ x_N s ∧ (1 ≤ R.frames ∧ 60 ≤ R.locals)
def xG (p : Program) (l : Launch) (e : Env) (R : Room) (s : State) (m : MethodId) (args : Array Value) (below : List Frame) (meth : Method) (c : Code) (D : va_G) (cI cS : ClassId) (b nL : Nat) (Q : State → Prop) (pc : Nat) (ls st : List Value) (σ : xM) : Prop :=
  ∀ (H : Heap) (locs : List Loc) (arr : Array Slot), va_P D vwCl (xW b cI cS σ) H → va_S (xA b) s.heap H locs → xL b nL ls arr → W p l e R s m args below meth c H locs 0 0 Q (F0 m pc arr (st.map (xv b)))
def xOK (own : String) (cc : ByteArray) (nL pc pc' : Nat) (f : xOp) : Prop :=
  ∀ (p : Program) (l : Launch) (e : Env) (R : Room) (s : State) (m : MethodId) (args : Array Value) (below : List Frame) (meth : Method) (c : Code) (D : va_G) (cI cS : ClassId) (b : Nat) (Q : State → Prop) (rt : Option FieldType), xCx p R s m args meth c D cI cS own cc nL rt →
    ∀ (ls st : List Value) (σ : xM) (ls' st' : List Value) (σ' : xM), f ls st σ = some (ls', st', σ') → xG p l e R s m args below meth c D cI cS b nL Q pc' ls' st' σ' → xG p l e R s m args below meth c D cI cS b nL Q pc ls st σ
def xJK (own : String) (cc : ByteArray) (nL : Nat) (pcs : List Nat) (pc : Nat) (f : xJp) : Prop :=
  ∀ (p : Program) (l : Launch) (e : Env) (R : Room) (s : State) (m : MethodId) (args : Array Value) (below : List Frame) (meth : Method) (c : Code) (D : va_G) (cI cS : ClassId) (b : Nat) (Q : State → Prop) (rt : Option FieldType), xCx p R s m args meth c D cI cS own cc nL rt →
    ∀ (ls st : List Value) (σ : xM) (i' : Nat) (st' : List Value), f st = some (i', st') → xG p l e R s m args below meth c D cI cS b nL Q (pcs.getD i' 0) ls st' σ → xG p l e R s m args below meth c D cI cS b nL Q pc ls st σ
section XO
variable {own : String} {cc : ByteArray} {nL pc : Nat} {pcs : List Nat}
def o_push (v : Value) : xOp := fun ls st σ => some (ls, v :: st, σ)
theorem s_iconst {n : Int} {v : Int32} (hd : decode cc pc = .ok (.iconst n, 1)) (hv : Int32.ofInt n = v) : xOK own cc nL pc (pc + 1) (o_push (.int v)) := by
  intro p l e R s m args below meth c D cI cS b Q rt C ls st σ ls' st' σ' h G H locs arr hP hS hl
  cases h
  exact lv_iconst C.1 C.2.1 hd hv (G H locs arr hP hS hl)
theorem s_bipush {n : Int} {v : Int32} (hd : decode cc pc = .ok (.bipush n, 2)) (hv : (Int8.ofInt n).toInt32 = v) : xOK own cc nL pc (pc + 2) (o_push (.int v)) := by
  intro p l e R s m args below meth c D cI cS b Q rt C ls st σ ls' st' σ' h G H locs arr hP hS hl
  cases h
  exact lv_bipush C.1 C.2.1 hd hv (G H locs arr hP hS hl)
theorem s_sipush {n : Int} {v : Int32} (hd : decode cc pc = .ok (.sipush n, 3)) (hv : (Int16.ofInt n).toInt32 = v) : xOK own cc nL pc (pc + 3) (o_push (.int v)) := by
  intro p l e R s m args below meth c D cI cS b Q rt C ls st σ ls' st' σ' h G H locs arr hP hS hl
  cases h
  exact lv_sipush C.1 C.2.1 hd hv (G H locs arr hP hS hl)
theorem s_ldcw {n : Nat} {v : Int32} (hw : Cond.constant own n v ∈ x_tb) (hd : decode cc pc = .ok (.ldc_w n, 3)) : xOK own cc nL pc (pc + 3) (o_push (.int v)) := by
  intro p l e R s m args below meth c D cI cS b Q rt C ls st σ ls' st' σ' h G H locs arr hP hS hl
  cases h
  exact lv_ldcw C.1 C.2.1 C.2.2.2.2.1 (C.2.2.2.2.2.1 _ hw) hd (G H locs arr hP hS hl)
theorem s_ldc2 {n : Nat} {v : Int64} (hw : Cond.constantLong own n v ∈ x_tb) (hd : decode cc pc = .ok (.ldc2_w n, 3)) : xOK own cc nL pc (pc + 3) (o_push (.long v)) := by
  intro p l e R s m args below meth c D cI cS b Q rt C ls st σ ls' st' σ' h G H locs arr hP hS hl
  cases h
  exact lv_ldc2 C.1 C.2.1 C.2.2.2.2.1 (C.2.2.2.2.2.1 _ hw) hd (G H locs arr hP hS hl)
theorem s_lconst {n : Fin 2} {v : Int64} (hd : decode cc pc = .ok (.lconst n, 1)) (hv : Int64.ofNat (n : Nat) = v) : xOK own cc nL pc (pc + 1) (o_push (.long v)) := by
  intro p l e R s m args below meth c D cI cS b Q rt C ls st σ ls' st' σ' h G H locs arr hP hS hl
  cases h
  exact lv_lconst C.1 C.2.1 hd hv (G H locs arr hP hS hl)
def o_ild (k : Nat) : xOp := fun ls st σ => match ls[k]? with
  | some (.int x) => some (ls, .int x :: st, σ)
  | _ => none
theorem s_iload_n {k : Fin 4} (hd : decode cc pc = .ok (.iload_n k, 1)) : xOK own cc nL pc (pc + 1) (o_ild k) := by
  intro p l e R s m args below meth c D cI cS b Q rt C ls st σ ls' st' σ' h G H locs arr hP hS hl
  unfold o_ild at h
  split at h
  · next x hx => cases h; exact lv_iload_n C.1 C.2.1 hd rfl (hl.2.2 _ _ hx (fun z => by cases z)) (G H locs arr hP hS hl)
  · cases h
theorem s_iload {k : Nat} (hd : decode cc pc = .ok (.iload k, 2)) : xOK own cc nL pc (pc + 2) (o_ild k) := by
  intro p l e R s m args below meth c D cI cS b Q rt C ls st σ ls' st' σ' h G H locs arr hP hS hl
  unfold o_ild at h
  split at h
  · next x hx => cases h; exact lv_iload C.1 C.2.1 hd (hl.2.2 _ _ hx (fun z => by cases z)) (G H locs arr hP hS hl)
  · cases h
def o_ald (k : Nat) : xOp := fun ls st σ => match ls[k]? with
  | some (.ref x) => some (ls, .ref x :: st, σ)
  | _ => none
theorem s_aload_n {k : Fin 4} (hd : decode cc pc = .ok (.aload_n k, 1)) : xOK own cc nL pc (pc + 1) (o_ald k) := by
  intro p l e R s m args below meth c D cI cS b Q rt C ls st σ ls' st' σ' h G H locs arr hP hS hl
  unfold o_ald at h
  split at h
  · next x hx => cases h; exact lv_aload_n C.1 C.2.1 hd rfl (hl.2.2 _ _ hx (fun z => by cases z)) (G H locs arr hP hS hl)
  · cases h
theorem s_aload {k : Nat} (hd : decode cc pc = .ok (.aload k, 2)) : xOK own cc nL pc (pc + 2) (o_ald k) := by
  intro p l e R s m args below meth c D cI cS b Q rt C ls st σ ls' st' σ' h G H locs arr hP hS hl
  unfold o_ald at h
  split at h
  · next x hx => cases h; exact lv_aload C.1 C.2.1 hd (hl.2.2 _ _ hx (fun z => by cases z)) (G H locs arr hP hS hl)
  · cases h
def o_lld (k : Nat) : xOp := fun ls st σ => match ls[k]? with
  | some (.long x) => some (ls, .long x :: st, σ)
  | _ => none
theorem s_lload_n {k : Fin 4} (hd : decode cc pc = .ok (.lload_n k, 1)) : xOK own cc nL pc (pc + 1) (o_lld k) := by
  intro p l e R s m args below meth c D cI cS b Q rt C ls st σ ls' st' σ' h G H locs arr hP hS hl
  unfold o_lld at h
  split at h
  · next x hx => cases h; exact lv_lload_n C.1 C.2.1 hd rfl (hl.2.2 _ _ hx (fun z => by cases z)) (G H locs arr hP hS hl)
  · cases h
theorem s_lload {k : Nat} (hd : decode cc pc = .ok (.lload k, 2)) : xOK own cc nL pc (pc + 2) (o_lld k) := by
  intro p l e R s m args below meth c D cI cS b Q rt C ls st σ ls' st' σ' h G H locs arr hP hS hl
  unfold o_lld at h
  split at h
  · next x hx => cases h; exact lv_lload C.1 C.2.1 hd (hl.2.2 _ _ hx (fun z => by cases z)) (G H locs arr hP hS hl)
  · cases h
def o_ist (k : Nat) : xOp := fun ls st σ => match st with
  | .int x :: r => (xst ls k (.int x)).map (fun ls' => (ls', r, σ))
  | _ => none
theorem s_istore_n {k : Fin 4} (hk : (k : Nat) < nL) (hd : decode cc pc = .ok (.istore_n k, 1)) : xOK own cc nL pc (pc + 1) (o_ist k) := by
  intro p l e R s m args below meth c D cI cS b Q rt C ls st σ ls' st' σ' h G H locs arr hP hS hl
  unfold o_ist at h
  split at h
  · next x r =>
    obtain ⟨l1, h1, h2⟩ := Option.map_eq_some_iff.mp h
    cases h2
    exact lv_istore_n C.1 C.2.1 hd rfl (xL_has hl) hk rfl (fun arr' ha => G H locs arr' hP hS (xst_L (fun z => by cases z) h1 ha))
  · cases h
theorem s_istore {k : Nat} (hk : k < nL) (hd : decode cc pc = .ok (.istore k, 2)) : xOK own cc nL pc (pc + 2) (o_ist k) := by
  intro p l e R s m args below meth c D cI cS b Q rt C ls st σ ls' st' σ' h G H locs arr hP hS hl
  unfold o_ist at h
  split at h
  · next x r =>
    obtain ⟨l1, h1, h2⟩ := Option.map_eq_some_iff.mp h
    cases h2
    exact lv_istore C.1 C.2.1 hd (xL_has hl) hk rfl (fun arr' ha => G H locs arr' hP hS (xst_L (fun z => by cases z) h1 ha))
  · cases h
def o_ast (k : Nat) : xOp := fun ls st σ => match st with
  | .ref x :: r => (xst ls k (.ref x)).map (fun ls' => (ls', r, σ))
  | _ => none
theorem s_astore_n {k : Fin 4} (hk : (k : Nat) < nL) (hd : decode cc pc = .ok (.astore_n k, 1)) : xOK own cc nL pc (pc + 1) (o_ast k) := by
  intro p l e R s m args below meth c D cI cS b Q rt C ls st σ ls' st' σ' h G H locs arr hP hS hl
  unfold o_ast at h
  split at h
  · next x r =>
    obtain ⟨l1, h1, h2⟩ := Option.map_eq_some_iff.mp h
    cases h2
    exact lv_astore_n C.1 C.2.1 hd rfl (xL_has hl) hk rfl (fun arr' ha => G H locs arr' hP hS (xst_L (v := .ref x) (fun z => by cases z) h1 ha))
  · cases h
theorem s_astore {k : Nat} (hk : k < nL) (hd : decode cc pc = .ok (.astore k, 2)) : xOK own cc nL pc (pc + 2) (o_ast k) := by
  intro p l e R s m args below meth c D cI cS b Q rt C ls st σ ls' st' σ' h G H locs arr hP hS hl
  unfold o_ast at h
  split at h
  · next x r =>
    obtain ⟨l1, h1, h2⟩ := Option.map_eq_some_iff.mp h
    cases h2
    exact lv_astore C.1 C.2.1 hd (xL_has hl) hk rfl (fun arr' ha => G H locs arr' hP hS (xst_L (v := .ref x) (fun z => by cases z) h1 ha))
  · cases h
def o_lst (k : Nat) : xOp := fun ls st σ => match st with
  | .long x :: r => (xst2 ls k (.long x)).map (fun ls' => (ls', r, σ))
  | _ => none
theorem s_lstore_n {k : Fin 4} (hk : (k : Nat) + 1 < nL) (hd : decode cc pc = .ok (.lstore_n k, 1)) : xOK own cc nL pc (pc + 1) (o_lst k) := by
  intro p l e R s m args below meth c D cI cS b Q rt C ls st σ ls' st' σ' h G H locs arr hP hS hl
  unfold o_lst at h
  split at h
  · next x r =>
    obtain ⟨l1, h1, h2⟩ := Option.map_eq_some_iff.mp h
    cases h2
    exact lv_lstore_n C.1 C.2.1 hd rfl (xL_has hl) hk rfl (fun arr' ha => G H locs arr' hP hS (xst2_L (v := .long x) h1 ha))
  · cases h
def o_iinc (k : Nat) (n : Int32) : xOp := fun ls st σ => match ls[k]? with
  | some (.int x) => (xst ls k (.int (x + n))).map (fun ls' => (ls', st, σ))
  | _ => none
theorem s_iinc {k : Nat} {n : Int} {v : Int32} (hk : k < nL) (hv : Int32.ofInt n = v) (hd : decode cc pc = .ok (.iinc k n, 3)) : xOK own cc nL pc (pc + 3) (o_iinc k v) := by
  intro p l e R s m args below meth c D cI cS b Q rt C ls st σ ls' st' σ' h G H locs arr hP hS hl
  subst hv
  unfold o_iinc at h
  split at h
  · next x hx =>
    obtain ⟨l1, h1, h2⟩ := Option.map_eq_some_iff.mp h
    cases h2
    have hm := xfc_in b ls 0 k (.int x) hx (fun z => by cases z)
    rw [Nat.zero_add] at hm
    obtain ⟨i, hi⟩ := List.getElem?_of_mem hm
    exact lv_iinc C.1 C.2.1 hd (xL_has hl) hi rfl hk rfl (fun arr' ha => G H locs arr' hP hS (xst_L (v := .int (x + Int32.ofInt n)) (fun z => by cases z) h1 ha))
  · cases h
def o_fgt (ks : List Nat) : xOp := fun ls st σ => some (ks.foldl (fun l k => l.set k .null) ls, st, σ)
theorem xL_fgt {b nL : Nat} {arr : Array Slot} : ∀ (ks : List Nat) (ls : List Value), xL b nL ls arr → xL b nL (ks.foldl (fun l k => l.set k .null) ls) arr
  | [], ls, h => h
  | k :: r, ls, h => by
    refine xL_fgt r (ls.set k .null) ⟨h.1, h.2.1, fun j v hj hv => ?_⟩
    by_cases hjk : j = k
    · subst hjk
      have hlt : j < ls.length := by
        have := (List.getElem?_eq_some_iff.mp hj).1
        simpa using this
      rw [List.getElem?_set_self hlt] at hj
      cases hj
      exact absurd rfl hv
    · rw [List.getElem?_set_ne (Ne.symm hjk)] at hj
      exact h.2.2 j v hj hv
theorem s_fgt {ks : List Nat} : xOK own cc nL pc pc (o_fgt ks) := by
  intro p l e R s m args below meth c D cI cS b Q rt C ls st σ ls' st' σ' h G H locs arr hP hS hl
  cases h
  exact G H locs arr hP hS (xL_fgt ks ls hl)
def o_iadd : xOp := fun ls st σ => match st with
  | .int y :: .int x :: r => some (ls, .int (x + y) :: r, σ)
  | _ => none
theorem s_iadd (hd : decode cc pc = .ok (.iadd, 1)) : xOK own cc nL pc (pc + 1) o_iadd := by
  intro p l e R s m args below meth c D cI cS b Q rt C ls st σ ls' st' σ' h G H locs arr hP hS hl
  unfold o_iadd at h
  split at h
  · next y x r => cases h; exact lv_iadd C.1 C.2.1 hd (G H locs arr hP hS hl)
  · cases h
def o_isub : xOp := fun ls st σ => match st with
  | .int y :: .int x :: r => some (ls, .int (x - y) :: r, σ)
  | _ => none
theorem s_isub (hd : decode cc pc = .ok (.isub, 1)) : xOK own cc nL pc (pc + 1) o_isub := by
  intro p l e R s m args below meth c D cI cS b Q rt C ls st σ ls' st' σ' h G H locs arr hP hS hl
  unfold o_isub at h
  split at h
  · next y x r => cases h; exact lv_isub C.1 C.2.1 hd (G H locs arr hP hS hl)
  · cases h
def o_imul : xOp := fun ls st σ => match st with
  | .int y :: .int x :: r => some (ls, .int (x * y) :: r, σ)
  | _ => none
theorem s_imul (hd : decode cc pc = .ok (.imul, 1)) : xOK own cc nL pc (pc + 1) o_imul := by
  intro p l e R s m args below meth c D cI cS b Q rt C ls st σ ls' st' σ' h G H locs arr hP hS hl
  unfold o_imul at h
  split at h
  · next y x r => cases h; exact lv_imul C.1 C.2.1 hd (G H locs arr hP hS hl)
  · cases h
def o_iand : xOp := fun ls st σ => match st with
  | .int y :: .int x :: r => some (ls, .int (x &&& y) :: r, σ)
  | _ => none
theorem s_iand (hd : decode cc pc = .ok (.iand, 1)) : xOK own cc nL pc (pc + 1) o_iand := by
  intro p l e R s m args below meth c D cI cS b Q rt C ls st σ ls' st' σ' h G H locs arr hP hS hl
  unfold o_iand at h
  split at h
  · next y x r => cases h; exact lv_iand C.1 C.2.1 hd (G H locs arr hP hS hl)
  · cases h
def o_ior : xOp := fun ls st σ => match st with
  | .int y :: .int x :: r => some (ls, .int (x ||| y) :: r, σ)
  | _ => none
theorem s_ior (hd : decode cc pc = .ok (.ior, 1)) : xOK own cc nL pc (pc + 1) o_ior := by
  intro p l e R s m args below meth c D cI cS b Q rt C ls st σ ls' st' σ' h G H locs arr hP hS hl
  unfold o_ior at h
  split at h
  · next y x r => cases h; exact lv_ior C.1 C.2.1 hd (G H locs arr hP hS hl)
  · cases h
def o_ixor : xOp := fun ls st σ => match st with
  | .int y :: .int x :: r => some (ls, .int (x ^^^ y) :: r, σ)
  | _ => none
theorem s_ixor (hd : decode cc pc = .ok (.ixor, 1)) : xOK own cc nL pc (pc + 1) o_ixor := by
  intro p l e R s m args below meth c D cI cS b Q rt C ls st σ ls' st' σ' h G H locs arr hP hS hl
  unfold o_ixor at h
  split at h
  · next y x r => cases h; exact lv_ixor C.1 C.2.1 hd (G H locs arr hP hS hl)
  · cases h
def o_ishl : xOp := fun ls st σ => match st with
  | .int y :: .int x :: r => some (ls, .int (x <<< (y &&& 31)) :: r, σ)
  | _ => none
theorem s_ishl (hd : decode cc pc = .ok (.ishl, 1)) : xOK own cc nL pc (pc + 1) o_ishl := by
  intro p l e R s m args below meth c D cI cS b Q rt C ls st σ ls' st' σ' h G H locs arr hP hS hl
  unfold o_ishl at h
  split at h
  · next y x r => cases h; exact lv_ishl C.1 C.2.1 hd (G H locs arr hP hS hl)
  · cases h
def o_ishr : xOp := fun ls st σ => match st with
  | .int y :: .int x :: r => some (ls, .int (x >>> (y &&& 31)) :: r, σ)
  | _ => none
theorem s_ishr (hd : decode cc pc = .ok (.ishr, 1)) : xOK own cc nL pc (pc + 1) o_ishr := by
  intro p l e R s m args below meth c D cI cS b Q rt C ls st σ ls' st' σ' h G H locs arr hP hS hl
  unfold o_ishr at h
  split at h
  · next y x r => cases h; exact lv_ishr C.1 C.2.1 hd (G H locs arr hP hS hl)
  · cases h
def o_iushr : xOp := fun ls st σ => match st with
  | .int y :: .int x :: r => some (ls, .int ((x.toUInt32 >>> (y.toUInt32 &&& Int32.toUInt32 31)).toInt32) :: r, σ)
  | _ => none
theorem s_iushr (hd : decode cc pc = .ok (.iushr, 1)) : xOK own cc nL pc (pc + 1) o_iushr := by
  intro p l e R s m args below meth c D cI cS b Q rt C ls st σ ls' st' σ' h G H locs arr hP hS hl
  unfold o_iushr at h
  split at h
  · next y x r => cases h; exact lv_iushr C.1 C.2.1 hd rfl (G H locs arr hP hS hl)
  · cases h
def o_ladd : xOp := fun ls st σ => match st with
  | .long y :: .long x :: r => some (ls, .long (x + y) :: r, σ)
  | _ => none
theorem s_ladd (hd : decode cc pc = .ok (.ladd, 1)) : xOK own cc nL pc (pc + 1) o_ladd := by
  intro p l e R s m args below meth c D cI cS b Q rt C ls st σ ls' st' σ' h G H locs arr hP hS hl
  unfold o_ladd at h
  split at h
  · next y x r => cases h; exact lv_ladd C.1 C.2.1 hd (G H locs arr hP hS hl)
  · cases h
def o_lmul : xOp := fun ls st σ => match st with
  | .long y :: .long x :: r => some (ls, .long (x * y) :: r, σ)
  | _ => none
theorem s_lmul (hd : decode cc pc = .ok (.lmul, 1)) : xOK own cc nL pc (pc + 1) o_lmul := by
  intro p l e R s m args below meth c D cI cS b Q rt C ls st σ ls' st' σ' h G H locs arr hP hS hl
  unfold o_lmul at h
  split at h
  · next y x r => cases h; exact lv_lmul C.1 C.2.1 hd (G H locs arr hP hS hl)
  · cases h
def o_idiv : xOp := fun ls st σ => match st with
  | .int y :: .int x :: r => if y = 0 then none else some (ls, .int (x / y) :: r, σ)
  | _ => none
theorem s_idiv (hd : decode cc pc = .ok (.idiv, 1)) : xOK own cc nL pc (pc + 1) o_idiv := by
  intro p l e R s m args below meth c D cI cS b Q rt C ls st σ ls' st' σ' h G H locs arr hP hS hl
  unfold o_idiv at h
  split at h
  · next y x r =>
    split at h
    · cases h
    · next hy => cases h; exact lv_idiv C.1 C.2.1 hd hy (G H locs arr hP hS hl)
  · cases h
def o_irem : xOp := fun ls st σ => match st with
  | .int y :: .int x :: r => if y = 0 then none else some (ls, .int (x - x / y * y) :: r, σ)
  | _ => none
theorem s_irem (hd : decode cc pc = .ok (.irem, 1)) : xOK own cc nL pc (pc + 1) o_irem := by
  intro p l e R s m args below meth c D cI cS b Q rt C ls st σ ls' st' σ' h G H locs arr hP hS hl
  unfold o_irem at h
  split at h
  · next y x r =>
    split at h
    · cases h
    · next hy => cases h; exact lv_irem C.1 C.2.1 hd hy (G H locs arr hP hS hl)
  · cases h
def o_i2l : xOp := fun ls st σ => match st with
  | .int x :: r => some (ls, .long x.toInt64 :: r, σ)
  | _ => none
theorem s_i2l (hd : decode cc pc = .ok (.i2l, 1)) : xOK own cc nL pc (pc + 1) o_i2l := by
  intro p l e R s m args below meth c D cI cS b Q rt C ls st σ ls' st' σ' h G H locs arr hP hS hl
  unfold o_i2l at h
  split at h
  · next x r => cases h; exact lv_i2l C.1 C.2.1 hd rfl (G H locs arr hP hS hl)
  · cases h
def o_lcmp : xOp := fun ls st σ => match st with
  | .long y :: .long x :: r => some (ls, .int (lg_cmp x y) :: r, σ)
  | _ => none
theorem s_lcmp (hd : decode cc pc = .ok (.lcmp, 1)) : xOK own cc nL pc (pc + 1) o_lcmp := by
  intro p l e R s m args below meth c D cI cS b Q rt C ls st σ ls' st' σ' h G H locs arr hP hS hl
  unfold o_lcmp at h
  split at h
  · next x r => cases h; exact W.lcmp C.1 C.2.1 hd (G H locs arr hP hS hl)
  · cases h
def o_pop : xOp := fun ls st σ => match st with
  | .int _ :: r => some (ls, r, σ)
  | _ => none
theorem s_pop (hd : decode cc pc = .ok (.pop, 1)) : xOK own cc nL pc (pc + 1) o_pop := by
  intro p l e R s m args below meth c D cI cS b Q rt C ls st σ ls' st' σ' h G H locs arr hP hS hl
  unfold o_pop at h
  split at h
  · next x r => cases h; exact lv_pop (va := .int x) C.1 C.2.1 hd rfl (G H locs arr hP hS hl)
  · cases h
def o_dup : xOp := fun ls st σ => match st with
  | .int x :: r => some (ls, .int x :: .int x :: r, σ)
  | .ref x :: r => some (ls, .ref x :: .ref x :: r, σ)
  | _ => none
theorem s_dup (hd : decode cc pc = .ok (.dup, 1)) : xOK own cc nL pc (pc + 1) o_dup := by
  intro p l e R s m args below meth c D cI cS b Q rt C ls st σ ls' st' σ' h G H locs arr hP hS hl
  unfold o_dup at h
  split at h
  · next x r => cases h; exact lv_dup (va := .int x) C.1 C.2.1 hd rfl (G H locs arr hP hS hl)
  · next x r => cases h; exact lv_dup (va := .ref (b + x)) C.1 C.2.1 hd rfl (G H locs arr hP hS hl)
  · cases h
def o_dup2 : xOp := fun ls st σ => match st with
  | .int y :: .ref x :: r => some (ls, .int y :: .ref x :: .int y :: .ref x :: r, σ)
  | _ => none
theorem s_dup2 (hd : decode cc pc = .ok (.dup2, 1)) : xOK own cc nL pc (pc + 1) o_dup2 := by
  intro p l e R s m args below meth c D cI cS b Q rt C ls st σ ls' st' σ' h G H locs arr hP hS hl
  unfold o_dup2 at h
  split at h
  · next y x r => cases h; exact lv_dup2_11 (va := .int y) (vb := .ref (b + x)) C.1 C.2.1 hd rfl rfl (G H locs arr hP hS hl)
  · cases h
def o_ic_eq (t n : Nat) : xJp := fun st => match st with
  | .int y :: .int x :: r => some (if x = y then t else n, r)
  | _ => none
theorem s_ic_eq {off : Int} {t n : Nat} (hd : decode cc pc = .ok (.if_icmp .eq off, 3)) (ht : (pc : Int) + off = (pcs.getD t 0 : Nat)) (hn : pcs.getD n 0 = pc + 3) : xJK own cc nL pcs pc (o_ic_eq t n) := by
  intro p l e R s m args below meth c D cI cS b Q rt C ls st σ i' st' h G H locs arr hP hS hl
  unfold o_ic_eq at h
  split at h
  · next y x r =>
    cases h
    refine lv_icmp_eq C.1 C.2.1 hd ht (fun hc => ?_) (fun hc => ?_)
    · rw [if_pos hc] at G
      exact G H locs arr hP hS hl
    · rw [if_neg hc, hn] at G
      exact G H locs arr hP hS hl
  · cases h
def o_ic_ne (t n : Nat) : xJp := fun st => match st with
  | .int y :: .int x :: r => some (if x = y then n else t, r)
  | _ => none
theorem s_ic_ne {off : Int} {t n : Nat} (hd : decode cc pc = .ok (.if_icmp .ne off, 3)) (ht : (pc : Int) + off = (pcs.getD t 0 : Nat)) (hn : pcs.getD n 0 = pc + 3) : xJK own cc nL pcs pc (o_ic_ne t n) := by
  intro p l e R s m args below meth c D cI cS b Q rt C ls st σ i' st' h G H locs arr hP hS hl
  unfold o_ic_ne at h
  split at h
  · next y x r =>
    cases h
    refine lv_icmp_ne C.1 C.2.1 hd ht (fun hc => ?_) (fun hc => ?_)
    · rw [if_neg hc] at G
      exact G H locs arr hP hS hl
    · rw [if_pos hc, hn] at G
      exact G H locs arr hP hS hl
  · cases h
def o_ic_lt (t n : Nat) : xJp := fun st => match st with
  | .int y :: .int x :: r => some (if x < y then t else n, r)
  | _ => none
theorem s_ic_lt {off : Int} {t n : Nat} (hd : decode cc pc = .ok (.if_icmp .lt off, 3)) (ht : (pc : Int) + off = (pcs.getD t 0 : Nat)) (hn : pcs.getD n 0 = pc + 3) : xJK own cc nL pcs pc (o_ic_lt t n) := by
  intro p l e R s m args below meth c D cI cS b Q rt C ls st σ i' st' h G H locs arr hP hS hl
  unfold o_ic_lt at h
  split at h
  · next y x r =>
    cases h
    refine lv_icmp_lt C.1 C.2.1 hd ht (fun hc => ?_) (fun hc => ?_)
    · rw [if_pos hc] at G
      exact G H locs arr hP hS hl
    · rw [if_neg hc, hn] at G
      exact G H locs arr hP hS hl
  · cases h
def o_ic_ge (t n : Nat) : xJp := fun st => match st with
  | .int y :: .int x :: r => some (if y ≤ x then t else n, r)
  | _ => none
theorem s_ic_ge {off : Int} {t n : Nat} (hd : decode cc pc = .ok (.if_icmp .ge off, 3)) (ht : (pc : Int) + off = (pcs.getD t 0 : Nat)) (hn : pcs.getD n 0 = pc + 3) : xJK own cc nL pcs pc (o_ic_ge t n) := by
  intro p l e R s m args below meth c D cI cS b Q rt C ls st σ i' st' h G H locs arr hP hS hl
  unfold o_ic_ge at h
  split at h
  · next y x r =>
    cases h
    refine lv_icmp_ge C.1 C.2.1 hd ht (fun hc => ?_) (fun hc => ?_)
    · rw [if_pos hc] at G
      exact G H locs arr hP hS hl
    · rw [if_neg hc, hn] at G
      exact G H locs arr hP hS hl
  · cases h
def o_ic_gt (t n : Nat) : xJp := fun st => match st with
  | .int y :: .int x :: r => some (if y < x then t else n, r)
  | _ => none
theorem s_ic_gt {off : Int} {t n : Nat} (hd : decode cc pc = .ok (.if_icmp .gt off, 3)) (ht : (pc : Int) + off = (pcs.getD t 0 : Nat)) (hn : pcs.getD n 0 = pc + 3) : xJK own cc nL pcs pc (o_ic_gt t n) := by
  intro p l e R s m args below meth c D cI cS b Q rt C ls st σ i' st' h G H locs arr hP hS hl
  unfold o_ic_gt at h
  split at h
  · next y x r =>
    cases h
    refine lv_icmp_gt C.1 C.2.1 hd ht (fun hc => ?_) (fun hc => ?_)
    · rw [if_pos hc] at G
      exact G H locs arr hP hS hl
    · rw [if_neg hc, hn] at G
      exact G H locs arr hP hS hl
  · cases h
def o_ic_le (t n : Nat) : xJp := fun st => match st with
  | .int y :: .int x :: r => some (if x ≤ y then t else n, r)
  | _ => none
theorem s_ic_le {off : Int} {t n : Nat} (hd : decode cc pc = .ok (.if_icmp .le off, 3)) (ht : (pc : Int) + off = (pcs.getD t 0 : Nat)) (hn : pcs.getD n 0 = pc + 3) : xJK own cc nL pcs pc (o_ic_le t n) := by
  intro p l e R s m args below meth c D cI cS b Q rt C ls st σ i' st' h G H locs arr hP hS hl
  unfold o_ic_le at h
  split at h
  · next y x r =>
    cases h
    refine lv_icmp_le C.1 C.2.1 hd ht (fun hc => ?_) (fun hc => ?_)
    · rw [if_pos hc] at G
      exact G H locs arr hP hS hl
    · rw [if_neg hc, hn] at G
      exact G H locs arr hP hS hl
  · cases h
def o_if_eq (t n : Nat) : xJp := fun st => match st with
  | .int x :: r => some (if x = 0 then t else n, r)
  | _ => none
theorem s_if_eq {off : Int} {t n : Nat} (hd : decode cc pc = .ok (.ifCond .eq off, 3)) (ht : (pc : Int) + off = (pcs.getD t 0 : Nat)) (hn : pcs.getD n 0 = pc + 3) : xJK own cc nL pcs pc (o_if_eq t n) := by
  intro p l e R s m args below meth c D cI cS b Q rt C ls st σ i' st' h G H locs arr hP hS hl
  unfold o_if_eq at h
  split at h
  · next x r =>
    cases h
    refine lv_if_eq C.1 C.2.1 hd ht (fun hc => ?_) (fun hc => ?_)
    · rw [if_pos hc] at G
      exact G H locs arr hP hS hl
    · rw [if_neg hc, hn] at G
      exact G H locs arr hP hS hl
  · cases h
def o_if_ne (t n : Nat) : xJp := fun st => match st with
  | .int x :: r => some (if x = 0 then n else t, r)
  | _ => none
theorem s_if_ne {off : Int} {t n : Nat} (hd : decode cc pc = .ok (.ifCond .ne off, 3)) (ht : (pc : Int) + off = (pcs.getD t 0 : Nat)) (hn : pcs.getD n 0 = pc + 3) : xJK own cc nL pcs pc (o_if_ne t n) := by
  intro p l e R s m args below meth c D cI cS b Q rt C ls st σ i' st' h G H locs arr hP hS hl
  unfold o_if_ne at h
  split at h
  · next x r =>
    cases h
    refine lv_if_ne C.1 C.2.1 hd ht (fun hc => ?_) (fun hc => ?_)
    · rw [if_neg hc] at G
      exact G H locs arr hP hS hl
    · rw [if_pos hc, hn] at G
      exact G H locs arr hP hS hl
  · cases h
def o_if_lt (t n : Nat) : xJp := fun st => match st with
  | .int x :: r => some (if x < 0 then t else n, r)
  | _ => none
theorem s_if_lt {off : Int} {t n : Nat} (hd : decode cc pc = .ok (.ifCond .lt off, 3)) (ht : (pc : Int) + off = (pcs.getD t 0 : Nat)) (hn : pcs.getD n 0 = pc + 3) : xJK own cc nL pcs pc (o_if_lt t n) := by
  intro p l e R s m args below meth c D cI cS b Q rt C ls st σ i' st' h G H locs arr hP hS hl
  unfold o_if_lt at h
  split at h
  · next x r =>
    cases h
    refine lv_if_lt C.1 C.2.1 hd ht (fun hc => ?_) (fun hc => ?_)
    · rw [if_pos hc] at G
      exact G H locs arr hP hS hl
    · rw [if_neg hc, hn] at G
      exact G H locs arr hP hS hl
  · cases h
def o_if_ge (t n : Nat) : xJp := fun st => match st with
  | .int x :: r => some (if 0 ≤ x then t else n, r)
  | _ => none
theorem s_if_ge {off : Int} {t n : Nat} (hd : decode cc pc = .ok (.ifCond .ge off, 3)) (ht : (pc : Int) + off = (pcs.getD t 0 : Nat)) (hn : pcs.getD n 0 = pc + 3) : xJK own cc nL pcs pc (o_if_ge t n) := by
  intro p l e R s m args below meth c D cI cS b Q rt C ls st σ i' st' h G H locs arr hP hS hl
  unfold o_if_ge at h
  split at h
  · next x r =>
    cases h
    refine lv_if_ge C.1 C.2.1 hd ht (fun hc => ?_) (fun hc => ?_)
    · rw [if_pos hc] at G
      exact G H locs arr hP hS hl
    · rw [if_neg hc, hn] at G
      exact G H locs arr hP hS hl
  · cases h
def o_if_gt (t n : Nat) : xJp := fun st => match st with
  | .int x :: r => some (if 0 < x then t else n, r)
  | _ => none
theorem s_if_gt {off : Int} {t n : Nat} (hd : decode cc pc = .ok (.ifCond .gt off, 3)) (ht : (pc : Int) + off = (pcs.getD t 0 : Nat)) (hn : pcs.getD n 0 = pc + 3) : xJK own cc nL pcs pc (o_if_gt t n) := by
  intro p l e R s m args below meth c D cI cS b Q rt C ls st σ i' st' h G H locs arr hP hS hl
  unfold o_if_gt at h
  split at h
  · next x r =>
    cases h
    refine lv_if_gt C.1 C.2.1 hd ht (fun hc => ?_) (fun hc => ?_)
    · rw [if_pos hc] at G
      exact G H locs arr hP hS hl
    · rw [if_neg hc, hn] at G
      exact G H locs arr hP hS hl
  · cases h
def o_if_le (t n : Nat) : xJp := fun st => match st with
  | .int x :: r => some (if x ≤ 0 then t else n, r)
  | _ => none
theorem s_if_le {off : Int} {t n : Nat} (hd : decode cc pc = .ok (.ifCond .le off, 3)) (ht : (pc : Int) + off = (pcs.getD t 0 : Nat)) (hn : pcs.getD n 0 = pc + 3) : xJK own cc nL pcs pc (o_if_le t n) := by
  intro p l e R s m args below meth c D cI cS b Q rt C ls st σ i' st' h G H locs arr hP hS hl
  unfold o_if_le at h
  split at h
  · next x r =>
    cases h
    refine lv_if_le C.1 C.2.1 hd ht (fun hc => ?_) (fun hc => ?_)
    · rw [if_pos hc] at G
      exact G H locs arr hP hS hl
    · rw [if_neg hc, hn] at G
      exact G H locs arr hP hS hl
  · cases h
def o_goto (t : Nat) : xJp := fun st => some (t, st)
theorem s_goto {off : Int} {t : Nat} (hd : decode cc pc = .ok (.goto off, 3)) (ht : (pc : Int) + off = (pcs.getD t 0 : Nat)) : xJK own cc nL pcs pc (o_goto t) := by
  intro p l e R s m args below meth c D cI cS b Q rt C ls st σ i' st' h G H locs arr hP hS hl
  cases h
  exact lv_goto C.1 C.2.1 hd ht (G H locs arr hP hS hl)
def o_nxt (t : Nat) : xJp := fun st => some (t, st)
theorem s_nxt {t : Nat} (ht : pcs.getD t 0 = pc) : xJK own cc nL pcs pc (o_nxt t) := by
  intro p l e R s m args below meth c D cI cS b Q rt C ls st σ i' st' h G H locs arr hP hS hl
  cases h
  rw [ht] at G
  exact G H locs arr hP hS hl
def o_tsw (lo : Int) (ts : List Nat) (df : Nat) : xJp := fun st => match st with
  | .int x :: r => some (if x.toInt < lo then df else (ts[(x.toInt - lo).toNat]?).getD df, r)
  | _ => none
theorem s_tsw {dflt lo hi : Int} {offs : Array Int} {len : Nat} {ts : List Nat} {df : Nat} (hd : decode cc pc = .ok (.tableswitch dflt lo hi offs, len)) (hn : lo + ts.length = hi + 1) (hdf : (pc : Int) + dflt = (pcs.getD df 0 : Nat))
    (hts : ts.map (fun t => some ((pcs.getD t 0 : Nat) - (pc : Int))) = (List.range ts.length).map (fun j => offs[j]?)) : xJK own cc nL pcs pc (o_tsw lo ts df) := by
  intro p l e R s m args below meth c D cI cS b Q rt C ls st σ i' st' h G H locs arr hP hS hl
  unfold o_tsw at h
  split at h
  · next x r =>
    by_cases h1 : x.toInt < lo
    · rw [if_pos h1] at h
      cases h
      exact lv_tableOut C.1 C.2.1 hd (Or.inl h1) hdf (G H locs arr hP hS hl)
    · rw [if_neg h1] at h
      by_cases h2 : hi < x.toInt
      · have e : ts[(x.toInt - lo).toNat]? = none := by
          rw [List.getElem?_eq_none_iff]
          omega
        rw [e] at h
        cases h
        exact lv_tableOut C.1 C.2.1 hd (Or.inr h2) hdf (G H locs arr hP hS hl)
      · have hlt : (x.toInt - lo).toNat < ts.length := by omega
        have e1 := congrArg (fun l => l[(x.toInt - lo).toNat]?) hts
        simp only [List.getElem?_map] at e1
        rw [List.getElem?_eq_getElem hlt, List.getElem?_range hlt] at e1
        simp only [Option.map_some, Option.some.injEq] at e1
        rw [List.getElem?_eq_getElem hlt] at h
        cases h
        exact lv_tableIn C.1 C.2.1 hd h1 h2 e1.symm (by simp only [Option.getD_some]; omega) (G H locs arr hP hS hl)
  · cases h
end XO
