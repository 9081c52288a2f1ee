abbrev xM : Type := Nat → Nat → Int32
abbrev xOp : Type := List Value → List Value → xM → Option (List Value × List Value × xM)
abbrev xJp : Type := List Value → Option (Nat × List Value)
abbrev xIn : Type := xOp ⊕ (xJp ⊕ ((Nat × Nat × Nat) ⊕ Nat))
abbrev xK : Type := (Nat × List (Option Nat)) ⊕ (Nat ⊕ List Nat)
def xv (b : Nat) : Value → Value
  | .ref a => .ref (b + a)
  | v => v
theorem xv_cat (b : Nat) (v : Value) : (xv b v).category = v.category := by cases v <;> rfl
def x_shl : List xK := [.inl (10, [some 1, some 19, some 129, some 132, some 134, some 136, some 137, none, none, none]), .inl (9, [some 2, some 8, some 14, none, none, none, none]), .inl (1, [none, some 3, some 4, some 5, some 6, some 7]), .inr (.inl 8), .inr (.inl 8), .inr (.inl 8), .inr (.inl 64), .inr (.inl 64), .inl (8, [none, none, some 9, some 10, some 11, some 12, some 13]), .inr (.inl 5), .inr (.inl 5), .inr (.inl 5), .inr (.inl 5), .inr (.inl 5), .inl (7, [none, some 15, some 16, some 17, some 18]), .inr (.inl 12), .inr (.inl 12), .inr (.inl 12), .inr (.inl 12), .inl (3, [none, none, some 20]), .inr (.inr [21, 39, 57, 75, 93, 111]), .inl (9, [some 22, some 28, some 34, none, none, none, none]), .inl (1, [none, some 23, some 24, some 25, some 26, some 27]), .inr (.inl 8), .inr (.inl 8), .inr (.inl 8), .inr (.inl 64), .inr (.inl 64), .inl (8, [none, none, some 29, some 30, some 31, some 32, some 33]), .inr (.inl 5), .inr (.inl 5), .inr (.inl 5), .inr (.inl 5), .inr (.inl 5), .inl (7, [none, some 35, some 36, some 37, some 38]), .inr (.inl 12), .inr (.inl 12), .inr (.inl 12), .inr (.inl 12), .inl (9, [some 40, some 46, some 52, none, none, none, none]), .inl (1, [none, some 41, some 42, some 43, some 44, some 45]), .inr (.inl 8), .inr (.inl 8), .inr (.inl 8), .inr (.inl 64), .inr (.inl 64), .inl (8, [none, none, some 47, some 48, some 49, some 50, some 51]), .inr (.inl 5), .inr (.inl 5), .inr (.inl 5), .inr (.inl 5), .inr (.inl 5), .inl (7, [none, some 53, some 54, some 55, some 56]), .inr (.inl 12), .inr (.inl 12), .inr (.inl 12), .inr (.inl 12), .inl (9, [some 58, some 64, some 70, none, none, none, none]), .inl (1, [none, some 59, some 60, some 61, some 62, some 63]), .inr (.inl 8), .inr (.inl 8), .inr (.inl 8), .inr (.inl 64), .inr (.inl 64), .inl (8, [none, none, some 65, some 66, some 67, some 68, some 69]), .inr (.inl 5), .inr (.inl 5), .inr (.inl 5), .inr (.inl 5), .inr (.inl 5), .inl (7, [none, some 71, some 72, some 73, some 74]), .inr (.inl 12), .inr (.inl 12), .inr (.inl 12), .inr (.inl 12), .inl (9, [some 76, some 82, some 88, none, none, none, none]), .inl (1, [none, some 77, some 78, some 79, some 80, some 81]), .inr (.inl 8), .inr (.inl 8), .inr (.inl 8), .inr (.inl 64), .inr (.inl 64), .inl (8, [none, none, some 83, some 84, some 85, some 86, some 87]), .inr (.inl 5), .inr (.inl 5), .inr (.inl 5), .inr (.inl 5), .inr (.inl 5), .inl (7, [none, some 89, some 90, some 91, some 92]), .inr (.inl 12), .inr (.inl 12), .inr (.inl 12), .inr (.inl 12), .inl (9, [some 94, some 100, some 106, none, none, none, none]), .inl (1, [none, some 95, some 96, some 97, some 98, some 99]), .inr (.inl 8), .inr (.inl 8), .inr (.inl 8), .inr (.inl 64), .inr (.inl 64), .inl (8, [none, none, some 101, some 102, some 103, some 104, some 105]), .inr (.inl 5), .inr (.inl 5), .inr (.inl 5), .inr (.inl 5), .inr (.inl 5), .inl (7, [none, some 107, some 108, some 109, some 110]), .inr (.inl 12), .inr (.inl 12), .inr (.inl 12), .inr (.inl 12), .inl (9, [some 112, some 118, some 124, none, none, none, none]), .inl (1, [none, some 113, some 114, some 115, some 116, some 117]), .inr (.inl 8), .inr (.inl 8), .inr (.inl 8), .inr (.inl 64), .inr (.inl 64), .inl (8, [none, none, some 119, some 120, some 121, some 122, some 123]), .inr (.inl 5), .inr (.inl 5), .inr (.inl 5), .inr (.inl 5), .inr (.inl 5), .inl (7, [none, some 125, some 126, some 127, some 128]), .inr (.inl 12), .inr (.inl 12), .inr (.inl 12), .inr (.inl 12), .inl (4, [some 130, some 131, some 1]), .inr (.inl 8), .inr (.inl 5), .inl (5, [some 1, some 129, some 133, none, none]), .inr (.inl 5), .inl (2, [some 1, some 129, some 135]), .inr (.inl 5), .inl (0, [some 1, some 129, some 132]), .inl (6, [none, none, none, none, some 138, some 139, some 140]), .inr (.inl 120), .inr (.inl 120), .inr (.inl 360), .inl (11, [some 142, some 143, some 144, none, some 145, some 146, some 147, some 148, some 149, some 150, some 151, some 152, some 153, none, none, some 154, none]), .inr (.inl 169), .inr (.inl 845), .inr (.inl 169), .inr (.inl 3), .inr (.inl 64), .inr (.inl 8), .inr (.inl 169), .inr (.inl 5), .inr (.inl 5), .inr (.inl 5), .inr (.inl 5), .inr (.inl 120), .inr (.inl 3)]
def x_sh (c : Nat) : Option xK := x_shl[c]?
def x_fl (b : Nat) (f : Nat → Int32) : Nat → List (Option Nat) → List Value
  | _, [] => []
  | k, none :: r => .int (f k) :: x_fl b f (k + 1) r
  | k, some q :: r => .ref (b + q) :: x_fl b f (k + 1) r
def x_en (b : Nat) (cI cS : ClassId) (f : Nat → Int32) : xK → va_E
  | .inl (ci, fks) => .inr (ci, x_fl b f 0 fks)
  | .inr (.inl n) => .inl (cI, n, .inl f)
  | .inr (.inr rs) => .inl (cS, rs.length, .inr (.inr (.inr (.inr (fun i => (rs[i]?).map (fun q => b + q))))))
def xW (b : Nat) (cI cS : ClassId) (σ : xM) : va_W := x_shl.mapIdx (fun c k => (b + c, x_en b cI cS (σ c) k))
def xset (σ : xM) (c : Nat) (f : Nat → Int32) : xM := fun c' => if c' = c then f else σ c'
def xup (σ : xM) (c k : Nat) (v : Int32) : xM := xset σ c (upd (σ c) k v)
def xA (b : Nat) : Nat → Prop := fun q => b ≤ q ∧ q < b + x_shl.length
theorem xW_get {b : Nat} {cI cS : ClassId} {σ : xM} {c : Nat} {k : xK} (h : x_sh c = some k) : (xW b cI cS σ)[c]? = some (b + c, x_en b cI cS (σ c) k) := by
  unfold xW
  rw [List.getElem?_mapIdx]
  unfold x_sh at h
  rw [h]
  rfl
theorem xW_of {b : Nat} {cI cS : ClassId} {σ : xM} {i : Nat} {q : Nat × va_E} (h : (xW b cI cS σ)[i]? = some q) : q.1 = b + i ∧ i < x_shl.length := by
  unfold xW at h
  rw [List.getElem?_mapIdx] at h
  cases hk : x_shl[i]? with
  | none => rw [hk] at h; cases h
  | some k =>
    rw [hk] at h
    cases h
    exact ⟨rfl, (List.getElem?_eq_some_iff.mp hk).1⟩
theorem xW_set {b : Nat} {cI cS : ClassId} {σ : xM} {c : Nat} {k : xK} {f : Nat → Int32} (h : x_sh c = some k) : (xW b cI cS σ).set c (b + c, x_en b cI cS f k) = xW b cI cS (xset σ c f) := by
  apply List.ext_getElem?
  intro i
  have hg := xW_get (b := b) (cI := cI) (cS := cS) (σ := σ) h
  have hlen := (List.getElem?_eq_some_iff.mp hg).1
  by_cases hi : i = c
  · subst hi
    rw [List.getElem?_set_self hlen, xW_get (σ := xset σ i f) h]
    simp [xset]
  · rw [List.getElem?_set_ne (Ne.symm hi)]
    unfold xW
    rw [List.getElem?_mapIdx, List.getElem?_mapIdx]
    simp [xset, hi]
theorem xW_D (b : Nat) (cI cS : ClassId) (σ : xM) : va_D (xA b) (xW b cI cS σ) := by
  refine ⟨fun i j p q hi hj e => ?_, fun k q hk => ?_⟩
  · have h1 := (xW_of hi).1
    have h2 := (xW_of hj).1
    omega
  · obtain ⟨h1, h2⟩ := xW_of hk
    unfold xA
    omega
theorem x_fl_get (b : Nat) (f : Nat → Int32) : ∀ (fks : List (Option Nat)) (k j : Nat) (o : Option Nat), fks[j]? = some o → (x_fl b f k fks)[j]? = some (match o with | none => .int (f (k + j)) | some q => .ref (b + q))
  | [], k, j, o, h => by simp at h
  | none :: r, k, 0, o, h => by
    simp at h
    subst h
    simp [x_fl]
  | some q :: r, k, 0, o, h => by
    simp at h
    subst h
    simp [x_fl]
  | none :: r, k, j + 1, o, h => by
    simp at h
    have := x_fl_get b f r (k + 1) j o h
    simp only [x_fl, List.getElem?_cons_succ]
    rw [this]
    have e : k + 1 + j = k + (j + 1) := by omega
    rw [e]
  | some q :: r, k, j + 1, o, h => by
    simp at h
    have := x_fl_get b f r (k + 1) j o h
    simp only [x_fl, List.getElem?_cons_succ]
    rw [this]
    have e : k + 1 + j = k + (j + 1) := by omega
    rw [e]
theorem x_fl_len (b : Nat) (f : Nat → Int32) : ∀ (fks : List (Option Nat)) (k : Nat), (x_fl b f k fks).length = fks.length
  | [], k => rfl
  | none :: r, k => by simp [x_fl, x_fl_len b f r]
  | some q :: r, k => by simp [x_fl, x_fl_len b f r]
theorem x_fl_congr (b : Nat) (f g : Nat → Int32) : ∀ (fks : List (Option Nat)) (k : Nat), (∀ i, k ≤ i → f i = g i) → x_fl b f k fks = x_fl b g k fks
  | [], k, h => rfl
  | none :: r, k, h => by
    simp only [x_fl]
    rw [h k (Nat.le_refl k), x_fl_congr b f g r (k + 1) (fun i hi => h i (by omega))]
  | some q :: r, k, h => by
    simp only [x_fl]
    rw [x_fl_congr b f g r (k + 1) (fun i hi => h i (by omega))]
theorem x_fl_set (b : Nat) (f : Nat → Int32) (v : Int32) : ∀ (fks : List (Option Nat)) (k j : Nat), fks[j]? = some none → (x_fl b f k fks).set j (.int v) = x_fl b (upd f (k + j) v) k fks
  | [], k, j, h => by simp at h
  | none :: r, k, 0, h => by
    simp only [x_fl, List.set_cons_zero, Nat.add_zero]
    rw [x_fl_congr b f (upd f k v) r (k + 1) (fun i hi => by simp [upd]; intro e; omega)]
    simp [upd]
  | some q :: r, k, 0, h => by simp at h
  | none :: r, k, j + 1, h => by
    simp at h
    simp only [x_fl, List.set_cons_succ]
    rw [x_fl_set b f v r (k + 1) j h]
    have e : k + 1 + j = k + (j + 1) := by omega
    rw [e]
    have e2 : upd f (k + (j + 1)) v k = f k := by simp [upd]
    rw [e2]
  | some q :: r, k, j + 1, h => by
    simp at h
    simp only [x_fl, List.set_cons_succ]
    rw [x_fl_set b f v r (k + 1) j h]
    have e : k + 1 + j = k + (j + 1) := by omega
    rw [e]
def xL (b nL : Nat) (ls : List Value) (arr : Array Slot) : Prop := arr.size = nL ∧ lv_wf arr ∧ ∀ (k : Nat) (v : Value), ls[k]? = some v → v ≠ .null → arr[k]? = some (.val (xv b v))
def xfc (b : Nat) : Nat → List Value → List (Nat × Value)
  | _, [] => []
  | k, v :: r => if v = .null then xfc b (k + 1) r else (k, xv b v) :: xfc b (k + 1) r
theorem xfc_mem (b : Nat) : ∀ (ls : List Value) (k : Nat) (q : Nat × Value), q ∈ xfc b k ls → ∃ (i : Nat) (v : Value), ls[i]? = some v ∧ v ≠ .null ∧ q = (k + i, xv b v)
  | [], k, q, h => by simp [xfc] at h
  | v :: r, k, q, h => by
    unfold xfc at h
    split at h
    · obtain ⟨i, w, h1, h2, h3⟩ := xfc_mem b r (k + 1) q h
      exact ⟨i + 1, w, by simpa using h1, h2, by rw [h3]; congr 1; omega⟩
    · rcases List.mem_cons.mp h with h | h
      · exact ⟨0, v, by simp, by assumption, by rw [h]; rfl⟩
      · obtain ⟨i, w, h1, h2, h3⟩ := xfc_mem b r (k + 1) q h
        exact ⟨i + 1, w, by simpa using h1, h2, by rw [h3]; congr 1; omega⟩
theorem xfc_in (b : Nat) : ∀ (ls : List Value) (k i : Nat) (v : Value), ls[i]? = some v → v ≠ .null → (k + i, xv b v) ∈ xfc b k ls
  | [], k, i, v, h, hv => by simp at h
  | w :: r, k, 0, v, h, hv => by
    simp at h
    subst h
    unfold xfc
    rw [if_neg hv]
    exact List.mem_cons_self
  | w :: r, k, i + 1, v, h, hv => by
    simp at h
    have h1 := xfc_in b r (k + 1) i v h hv
    have e : k + 1 + i = k + (i + 1) := by omega
    rw [e] at h1
    unfold xfc
    split
    · exact h1
    · exact List.mem_cons_of_mem _ h1
theorem xL_has {b nL : Nat} {ls : List Value} {arr : Array Slot} (h : xL b nL ls arr) : lv_has arr nL (xfc b 0 ls) := by
  refine ⟨h.1, h.2.1, fun q hq => ?_⟩
  obtain ⟨i, v, h1, h2, h3⟩ := xfc_mem b ls 0 q hq
  rw [h3]
  simpa using h.2.2 i v h1 h2
def x2 : Value → Bool
  | .long _ => true
  | .double _ => true
  | _ => false
theorem x2_cat (v : Value) : v.category = 2 ↔ x2 v = true := by cases v <;> simp [Value.category, x2]
def xpr (ls : List Value) (k : Nat) : Bool := match k with
  | 0 => true
  | j + 1 => match ls[j]? with
    | some v => !x2 v
    | none => true
def xst (ls : List Value) (k : Nat) (v : Value) : Option (List Value) := if xpr ls k = true then some (ls.set k v) else none
theorem xst_L {b nL k : Nat} {ls ls' : List Value} {arr : Array Slot} {v : Value} (hv : v ≠ .null) (h : xst ls k v = some ls') (ha : lv_has arr nL ((k, xv b v) :: (xfc b 0 ls).filter (fun q => !(q.1 == k) && !(q.1 + 1 == k && q.2.category == 2)))) : xL b nL ls' arr := by
  unfold xst at h
  split at h
  · next hp =>
    cases h
    refine ⟨ha.1, ha.2.1, fun j w hj hw => ?_⟩
    by_cases hjk : j = k
    · subst hjk
      have hlt : j < ls.length := by
        have := (List.getElem?_eq_some_iff.mp hj).1
        simpa using this
      rw [List.getElem?_set_self hlt] at hj
      cases hj
      exact ha.2.2 (j, xv b v) List.mem_cons_self
    · rw [List.getElem?_set_ne (Ne.symm hjk)] at hj
      refine ha.2.2 (j, xv b w) (List.mem_cons_of_mem _ (List.mem_filter.mpr ⟨by simpa using xfc_in b ls 0 j w hj hw, ?_⟩))
      have h1 : (j == k) = false := by simpa using hjk
      simp only [h1, Bool.not_false, Bool.true_and, Bool.not_eq_true', Bool.and_eq_false_iff, beq_eq_false_iff_ne]
      by_cases hj1 : j + 1 = k
      · right
        subst hj1
        simp only [xpr, hj] at hp
        rw [xv_cat]
        intro h2
        rw [x2_cat] at h2
        rw [h2] at hp
        cases hp
      · left
        exact hj1
  · cases h
def xst2 (ls : List Value) (k : Nat) (v : Value) : Option (List Value) := if xpr ls k = true then some ((ls.set k v).set (k + 1) .null) else none
theorem xst2_L {b nL k : Nat} {ls ls' : List Value} {arr : Array Slot} {v : Value} (h : xst2 ls k v = some ls') (ha : lv_has arr nL ((k, xv b v) :: (xfc b 0 ls).filter (fun q => !(q.1 == k) && (!(q.1 == k + 1) && !(q.1 + 1 == k && q.2.category == 2))))) : xL b nL ls' arr := by
  unfold xst2 at h
  split at h
  · next hp =>
    cases h
    refine ⟨ha.1, ha.2.1, fun j w hj hw => ?_⟩
    by_cases hj2 : j = k + 1
    · subst hj2
      have hlt : k + 1 < ls.length := by
        have := (List.getElem?_eq_some_iff.mp hj).1
        simpa using this
      rw [List.getElem?_set_self (by simpa using hlt)] at hj
      cases hj
      exact absurd rfl hw
    rw [List.getElem?_set_ne (Ne.symm hj2)] at hj
    by_cases hjk : j = k
    · subst hjk
      have hlt : j < ls.length := by
        have := (List.getElem?_eq_some_iff.mp hj).1
        simpa using this
      rw [List.getElem?_set_self hlt] at hj
      cases hj
      exact ha.2.2 (j, xv b v) List.mem_cons_self
    · rw [List.getElem?_set_ne (Ne.symm hjk)] at hj
      refine ha.2.2 (j, xv b w) (List.mem_cons_of_mem _ (List.mem_filter.mpr ⟨by simpa using xfc_in b ls 0 j w hj hw, ?_⟩))
      have h1 : (j == k) = false := by simpa using hjk
      have h2 : (j == k + 1) = false := by simpa using hj2
      simp only [h1, h2, Bool.not_false, Bool.true_and, Bool.not_eq_true', Bool.and_eq_false_iff, beq_eq_false_iff_ne]
      by_cases hj1 : j + 1 = k
      · right
        subst hj1
        simp only [xpr, hj] at hp
        rw [xv_cat]
        intro h2
        rw [x2_cat] at h2
        rw [h2] at hp
        cases hp
      · left
        exact hj1
  · cases h
def xsv : Slot → Value
  | .val v => v
  | _ => .null
def xls (n : Nat) (vs : List Value) : List Value := (lg_sl vs ++ List.replicate (n - (lg_sl vs).length) Slot.unset).map xsv
theorem lg_sl_map (b : Nat) : ∀ vs : List Value, lg_sl (vs.map (xv b)) = (lg_sl vs).map (fun q => match q with | .val v => .val (xv b v) | q => q)
  | [] => rfl
  | v :: r => by
    have ih := lg_sl_map b r
    unfold lg_sl at ih ⊢
    simp only [List.map_cons, List.flatMap_cons, List.map_append]
    rw [ih, xv_cat]
    congr 1
    split <;> simp
theorem xls_L {b n : Nat} {vs : List Value} (hn : (lg_sl vs).length ≤ n) : xL b n (xls n vs) ((lg_sl (vs.map (xv b)) ++ List.replicate (n - (lg_sl (vs.map (xv b))).length) Slot.unset).toArray) := by
  have e : (lg_sl (vs.map (xv b))).length = (lg_sl vs).length := by rw [lg_sl_map, List.length_map]
  obtain ⟨h1, h2, -⟩ := lv_entry (vs.map (xv b)) (n := n) (by rw [e]; exact hn)
  refine ⟨h1, h2, fun k v hk hv => ?_⟩
  unfold xls at hk
  rw [List.getElem?_map] at hk
  rw [List.getElem?_toArray, e, lg_sl_map]
  have e2 : List.map (fun q => match q with | .val v => .val (xv b v) | q => q) (lg_sl vs) ++ List.replicate (n - (lg_sl vs).length) Slot.unset = List.map (fun q => match q with | .val v => .val (xv b v) | q => q) (lg_sl vs ++ List.replicate (n - (lg_sl vs).length) Slot.unset) := by
    simp
  rw [e2, List.getElem?_map]
  cases hq : (lg_sl vs ++ List.replicate (n - (lg_sl vs).length) Slot.unset)[k]? with
  | none => rw [hq] at hk; cases hk
  | some q =>
    rw [hq] at hk
    cases q with
    | val w => cases hk; rfl
    | unset => cases hk; exact absurd rfl hv
    | second => cases hk; exact absurd rfl hv
