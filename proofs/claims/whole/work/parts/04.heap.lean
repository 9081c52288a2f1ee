theorem xW_setA {b : Nat} {cI cS : ClassId} {σ : xM} {c n : Nat} {f : Nat → Int32} (h : x_sh c = some (.inr (.inl n))) : (xW b cI cS σ).set c (b + c, .inl (cI, n, .inl f)) = xW b cI cS (xset σ c f) := xW_set (k := .inr (.inl n)) h
theorem xW_setO {b : Nat} {cI cS : ClassId} {σ : xM} {c ci : Nat} {fks : List (Option Nat)} {f : Nat → Int32} (h : x_sh c = some (.inl (ci, fks))) : (xW b cI cS σ).set c (b + c, .inr (ci, x_fl b f 0 fks)) = xW b cI cS (xset σ c f) := xW_set (k := .inl (ci, fks)) h
section XH
variable {own : String} {cc : ByteArray} {nL pc : Nat} {pcs : List Nat}
def o_get (ci k : Nat) : xOp := fun ls st σ => match st with
  | .ref c :: r => match x_sh c with
    | some (.inl (ci', fks)) => if ci' = ci then match fks[k]? with
        | some none => some (ls, .int (σ c k) :: r, σ)
        | some (some q) => some (ls, .ref q :: r, σ)
        | none => none
      else none
    | _ => none
  | _ => none
theorem s_get {ref C : String} {T : u_T} {N ci k index : Nat} (hw : ∀ w ∈ u_ws C T N, w ∈ x_tb) (hc : vwCl[ci]? = some (C, T, N)) (hk : k < N) (hlk : Cond.fieldLink own index ref (T k).2.1 (T k).2.2.1 ∈ x_tb) (href : (T k).1 = ref) (hd : decode cc pc = .ok (.getfield index, 3)) : xOK own cc nL pc (pc + 3) (o_get ci k) := by
  intro p l e R s m args below meth c D cI cS b Q rt C0 ls st σ ls' st' σ' h G H locs arr hP hS hl
  obtain ⟨hx, hb, hr, hml, hown, hts, hlocks, hK, hN, hR⟩ := C0
  unfold o_get at h
  split at h
  · next a r =>
    split at h
    · next ci' fks hsh =>
      split at h
      · next hci =>
        subst hci
        have hg := xW_get (b := b) (cI := cI) (cS := cS) (σ := σ) hsh
        split at h
        · next hf =>
          cases h
          refine va_get hx hb hts hw hown hK hP a hg hc k hk (hts _ hlk) (by rw [href]; exact fun x h => h) (v := .int (σ a k)) ?_ hd (G H locs arr hP hS hl)
          have := x_fl_get b (σ a) fks 0 k none hf
          rw [Nat.zero_add] at this
          exact this
        · next q hf =>
          cases h
          refine va_get hx hb hts hw hown hK hP a hg hc k hk (hts _ hlk) (by rw [href]; exact fun x h => h) (v := .ref (b + q)) ?_ hd (G H locs arr hP hS hl)
          exact x_fl_get b (σ a) fks 0 k (some q) hf
        · cases h
      · cases h
    · cases h
  · cases h
def xzok (z : Bool) (v : Int32) : Bool := match z with
  | false => true
  | true => v == 0 || v == 1
theorem xzok_fit {z : Bool} {v : Int32} {ty : FieldType} (hz : ty = if z = true then .boolean else .int) (h : xzok z v = true) : narrow ty (.int v) = .int v ∧ fits ty (.int v) = true := by
  cases z with
  | false =>
    simp at hz
    subst hz
    exact ⟨rfl, rfl⟩
  | true =>
    simp at hz
    subst hz
    simp only [xzok, Bool.or_eq_true, beq_iff_eq] at h
    rcases h with rfl | rfl
    · exact ⟨by decide, by decide⟩
    · exact ⟨by decide, by decide⟩
def o_put (ci k : Nat) (z : Bool) : xOp := fun ls st σ => match st with
  | .int v :: .ref c :: r => match x_sh c with
    | some (.inl (ci', fks)) => if ci' = ci then match fks[k]? with
        | some none => if xzok z v = true then some (ls, r, xup σ c k v) else none
        | _ => none
      else none
    | _ => none
  | _ => none
theorem s_put {ref C : String} {T : u_T} {ty0 : Nat → FieldType} {N ci k index : Nat} {z : Bool} (hw : ∀ w ∈ u_ws C T N, w ∈ x_tb) (hty : ∀ k, k < N → parseFieldDescriptor (T k).2.2.1 = some (ty0 k)) (hnm : ∀ a, a < N → ∀ b, b < N → a ≠ b → (T a).2.1 ≠ (T b).2.1) (hc : vwCl[ci]? = some (C, T, N)) (hk : k < N) (hlk : Cond.fieldLink own index ref (T k).2.1 (T k).2.2.1 ∈ x_tb) (href : (T k).1 = ref) (hfin : (T k).2.2.2 = false) (hz : ty0 k = if z = true then .boolean else .int) (hd : decode cc pc = .ok (.putfield index, 3)) : xOK own cc nL pc (pc + 3) (o_put ci k z) := by
  intro p l e R s m args below meth c D cI cS b Q rt C0 ls st σ ls' st' σ' h G H locs arr hP hS hl
  obtain ⟨hx, hb, hr, hml, hown, hts, hlocks, hK, hN, hR⟩ := C0
  unfold o_put at h
  split at h
  · next v a r =>
    split at h
    · next ci' fks hsh =>
      split at h
      · next hci =>
        subst hci
        have hg := xW_get (b := b) (cI := cI) (cS := cS) (σ := σ) hsh
        split at h
        · next hf =>
          split at h
          · next hzo =>
            cases h
            obtain ⟨hn1, hn2⟩ := xzok_fit hz hzo
            have hlen : k < (x_fl b (σ a) 0 fks).length := by
              rw [x_fl_len]
              exact (List.getElem?_eq_some_iff.mp hf).1
            refine va_put hx hb hts hw ty0 hty hnm hown hK hP (xW_D b cI cS σ) hS a hg hc k hk (hts _ hlk) (by rw [href]; exact fun x h => h) hfin (v := .int v) (hty k hk) hn1 hn2 hlen hd (fun H1 locs1 hP1 hD1 hS1 => ?_)
            have e2 := x_fl_set b (σ a) v fks 0 k hf
            rw [Nat.zero_add] at e2
            rw [e2, xW_setO hsh] at hP1
            exact G H1 locs1 arr hP1 hS1 hl
          · cases h
        · cases h
      · cases h
    · cases h
  · cases h
def xin (i : Int32) (n : Nat) : Bool := decide (0 ≤ i) && decide (i.toNatClampNeg < n)
theorem vp_in_dec (i : Int32) (n : Nat) : vp_in i n ↔ xin i n = true := by
  unfold vp_in xin
  simp [Bool.and_eq_true, not_or]
def o_iald : xOp := fun ls st σ => match st with
  | .int i :: .ref c :: r => match x_sh c with
    | some (.inr (.inl n)) => if xin i n = true then some (ls, .int (σ c i.toNatClampNeg) :: r, σ) else none
    | _ => none
  | _ => none
theorem s_iald (hd : decode cc pc = .ok (.iaload, 1)) : xOK own cc nL pc (pc + 1) o_iald := by
  intro p l e R s m args below meth c D cI cS b Q rt C0 ls st σ ls' st' σ' h G H locs arr hP hS hl
  obtain ⟨hx, hb, hr, hml, hown, hts, hlocks, hK, hN, hR⟩ := C0
  unfold o_iald at h
  split at h
  · next i a r =>
    split at h
    · next n hsh =>
      split at h
      · next hi =>
        cases h
        exact va_iald hx hb hK hP a 0 (xW_get hsh) rfl ((vp_in_dec i n).mpr hi) hd (G H locs arr hP hS hl)
      · cases h
    · cases h
  · cases h
def o_iast : xOp := fun ls st σ => match st with
  | .int v :: .int i :: .ref c :: r => match x_sh c with
    | some (.inr (.inl n)) => if xin i n = true then some (ls, r, xup σ c i.toNatClampNeg v) else none
    | _ => none
  | _ => none
theorem s_iast (hd : decode cc pc = .ok (.iastore, 1)) : xOK own cc nL pc (pc + 1) o_iast := by
  intro p l e R s m args below meth c D cI cS b Q rt C0 ls st σ ls' st' σ' h G H locs arr hP hS hl
  obtain ⟨hx, hb, hr, hml, hown, hts, hlocks, hK, hN, hR⟩ := C0
  unfold o_iast at h
  split at h
  · next v i a r =>
    split at h
    · next n hsh =>
      split at h
      · next hi =>
        cases h
        refine va_iast hx hb hK hP (xW_D b cI cS σ) hS a 0 (xW_get hsh) rfl ((vp_in_dec i n).mpr hi) hd (fun H1 locs1 hP1 hD1 hS1 => ?_)
        rw [xW_setA hsh] at hP1
        exact G H1 locs1 arr hP1 hS1 hl
      · cases h
    · cases h
  · cases h
def o_aald : xOp := fun ls st σ => match st with
  | .int i :: .ref c :: r => match x_sh c with
    | some (.inr (.inr rs)) => if i < 0 then none else match rs[i.toNatClampNeg]? with
        | some q => some (ls, .ref q :: r, σ)
        | none => none
    | _ => none
  | _ => none
theorem s_aald (hd : decode cc pc = .ok (.aaload, 1)) : xOK own cc nL pc (pc + 1) o_aald := by
  intro p l e R s m args below meth c D cI cS b Q rt C0 ls st σ ls' st' σ' h G H locs arr hP hS hl
  obtain ⟨hx, hb, hr, hml, hown, hts, hlocks, hK, hN, hR⟩ := C0
  unfold o_aald at h
  split at h
  · next i a r =>
    split at h
    · next rs hsh =>
      split at h
      · cases h
      · next hi =>
        split at h
        · next q hq =>
          cases h
          have hlt := (List.getElem?_eq_some_iff.mp hq).1
          refine va_aldq hx hb hK hP a 1 (xW_get hsh) rfl (by unfold vp_in; exact fun z => z.elim hi (fun z => absurd hlt (by omega))) hd ?_
          rw [hq]
          exact G H locs arr hP hS hl
        · cases h
    · cases h
  · cases h
def o_copy : xOp := fun ls st σ => match st with
  | .int n :: .int dp :: .ref c :: .int sp :: .ref a :: r => match x_sh a, x_sh c with
    | some (.inr (.inl na)), some (.inr (.inl nc)) => if (decide (sp = 0) && decide (dp = 0) && decide (n = nI nc) && decide (na = nc) && decide (nc < 1000) && decide ((r.map fun v => v.category).sum ≤ 8)) = true then some (ls, r, xset σ c (va_cpy (σ a) (σ c) 0 0 nc)) else none
    | _, _ => none
  | _ => none
theorem s_copy {index : Nat} (hlk : Cond.methodLink own index arraycopyName ∈ x_tb) (hnat : Cond.native arraycopyName ∈ x_tb) (hsta : Cond.static arraycopyName ∈ x_tb) (hini : Cond.initialized "java/lang/System" ∈ x_tb) (hd : decode cc pc = .ok (.invokestatic index, 3)) : xOK own cc nL pc (pc + 3) o_copy := by
  intro p l e R s m args below meth c D cI cS b Q rt C0 ls st σ ls' st' σ' h G H locs arr hP hS hl
  obtain ⟨hx, hb, hr, hml, hown, hts, hlocks, hK, hN, hR⟩ := C0
  unfold o_copy at h
  split at h
  · next n dp cc0 sp a r =>
    split at h
    · next na nc hsa hsc =>
      split at h
      · next hi =>
        simp only [Bool.and_eq_true, decide_eq_true_eq] at hi
        obtain ⟨⟨⟨⟨⟨rfl, rfl⟩, rfl⟩, rfl⟩, hn⟩, hr8⟩ := hi
        cases h
        have hcl : (nI na).toNatClampNeg = na := nI_clamp (by omega)
        have h0 : (0 : Int32).toNatClampNeg = 0 := rfl
        refine va_copyi hx hb (by rw [hml]; exact hl.1.symm) hown (hts _ hlk) (hts _ hnat) (hts _ hsta) (hts _ hini) hK hP (xW_D b cI cS σ) hS a cc0 0 0 (xW_get hsa) (xW_get hsc) rfl rfl rfl (by decide) (by decide) (nI_pos (by omega)) (by rw [hcl, h0]; omega) (by rw [hcl, h0]; omega) (fun _ _ => rfl) hR.1 ?_ hd (fun H1 locs1 hP1 hD1 hS1 => ?_)
        · have e : ((st'.map (xv b)).map fun v => v.category).sum = (st'.map fun v => v.category).sum := by
            rw [List.map_map]
            congr 1
            apply List.map_congr_left
            intro v _
            exact xv_cat b v
          have e2 : nativeFrameWords "java/lang/System" "arraycopy" 5 = 7 := by decide
          rw [e, e2]
          have := hR.2
          omega
        · rw [hcl, h0] at hP1
          rw [xW_setA hsc] at hP1
          exact G H1 locs1 arr hP1 hS1 hl
      · cases h
    · cases h
  · cases h
end XH
