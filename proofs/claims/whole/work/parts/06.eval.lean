theorem xEv_mono {T : xTb} {L : Nat → Nat} : ∀ (n d mid i : Nat) (ls st : List Value) (σ : xM) (o : Option Value × xM), xEv T L n d mid i ls st σ = some o → xEv T L (n + 1) d mid i ls st σ = some o := by
  intro n
  induction n with
  | zero => intro d mid i ls st σ o h; cases h
  | succ n ih =>
    intro d mid i ls st σ o h
    unfold xEv at h ⊢
    cases hf : (T mid)[i]? with
    | none => rw [hf] at h; cases h
    | some ins =>
      rw [hf] at h
      rcases ins with f | j | ⟨cm, k, rc⟩ | k
      · dsimp only at h ⊢
        cases hs : f ls st σ with
        | none => rw [hs] at h; cases h
        | some q =>
          rw [hs] at h
          obtain ⟨ls', st', σ'⟩ := q
          exact ih _ _ _ _ _ _ _ h
      · dsimp only at h ⊢
        cases hs : j st with
        | none => rw [hs] at h; cases h
        | some q =>
          rw [hs] at h
          obtain ⟨i', st'⟩ := q
          exact ih _ _ _ _ _ _ _ h
      · dsimp only at h ⊢
        cases d with
        | zero => cases h
        | succ d' =>
          dsimp only at h ⊢
          split at h
          · next hc =>
            rw [if_pos hc]
            cases hs : xEv T L n d' cm 0 (xls (L cm) (st.take k).reverse) [] σ with
            | none => rw [hs] at h; cases h
            | some q =>
              rw [hs] at h
              obtain ⟨r, σ'⟩ := q
              rw [ih _ _ _ _ _ _ _ hs]
              exact ih _ _ _ _ _ _ _ h
          · cases h
      · exact h
theorem xEv_le {T : xTb} {L : Nat → Nat} {d mid i : Nat} {ls st : List Value} {σ : xM} {o : Option Value × xM} {n : Nat} (h : xEv T L n d mid i ls st σ = some o) : ∀ k, xEv T L (n + k) d mid i ls st σ = some o
  | 0 => h
  | k + 1 => xEv_mono _ _ _ _ _ _ _ _ (xEv_le h k)
abbrev xRw : Type := Nat × Nat × xIn
def xrun : Nat → List xRw → List Value → List Value → xM → Option (List Value × List Value × xM)
  | 0, _, ls, st, σ => some (ls, st, σ)
  | _ + 1, [], _, _, _ => none
  | k + 1, (_, _, ins) :: r, ls, st, σ => match ins with
    | .inl f => match f ls st σ with
      | some (ls', st', σ') => xrun k r ls' st' σ'
      | none => none
    | _ => none
section XX
variable (T : xTb) (L : Nat → Nat)
def xX (d mid i : Nat) (ls st : List Value) (σ : xM) (o : Option Value × xM) : Prop := ∃ n, xEv T L n d mid i ls st σ = some o
def xR (d mid : Nat) (vs : List Value) (σ : xM) (o : Option Value × xM) : Prop := xX T L d mid 0 (xls (L mid) vs) [] σ o
end XX
section XY
variable {T : xTb} {L : Nat → Nat} {d mid i : Nat} {ls st : List Value} {σ : xM} {o : Option Value × xM} {w : List xRw}
theorem xX_op {f : xOp} {ls' st' : List Value} {σ' : xM} (hf : (T mid)[i]? = some (.inl f)) (h : f ls st σ = some (ls', st', σ')) (k : xX T L d mid (i + 1) ls' st' σ' o) : xX T L d mid i ls st σ o := by
  obtain ⟨n, k⟩ := k
  refine ⟨n + 1, ?_⟩
  unfold xEv
  rw [hf]
  dsimp only
  rw [h]
  exact k
theorem xX_jp {j : xJp} {i' : Nat} {st' : List Value} (hf : (T mid)[i]? = some (.inr (.inl j))) (h : j st = some (i', st')) (k : xX T L d mid i' ls st' σ o) : xX T L d mid i ls st σ o := by
  obtain ⟨n, k⟩ := k
  refine ⟨n + 1, ?_⟩
  unfold xEv
  rw [hf]
  dsimp only
  rw [h]
  exact k
theorem xX_blk (hw : T mid = w.map (fun q => q.2.2)) : ∀ (k i : Nat) {ls st ls' st' : List Value} {σ σ' : xM}, xrun k (w.drop i) ls st σ = some (ls', st', σ') → xX T L d mid (i + k) ls' st' σ' o → xX T L d mid i ls st σ o
  | 0, i, ls, st, ls', st', σ, σ', h, kk => by
    cases h
    exact kk
  | k + 1, i, ls, st, ls', st', σ, σ', h, kk => by
    cases hd : w.drop i with
    | nil => rw [hd] at h; cases h
    | cons q r =>
      rw [hd] at h
      obtain ⟨p1, p2, ins⟩ := q
      have hi : w[i]? = some (p1, p2, ins) := by
        have h0 := List.getElem?_drop (xs := w) (i := i) (j := 0)
        rw [hd] at h0
        simpa using h0.symm
      have hr : w.drop (i + 1) = r := by
        rw [← List.drop_drop, hd]
        rfl
      unfold xrun at h
      split at h
      · next f =>
        split at h
        · next ls1 st1 σ1 hs =>
          refine xX_op (f := f) (by rw [hw, List.getElem?_map, hi]; rfl) hs ?_
          rw [← hr] at h
          have e : i + (k + 1) = i + 1 + k := by omega
          rw [e] at kk
          exact xX_blk hw k (i + 1) h kk
        · cases h
      · cases h
theorem xX_ite {c : Prop} [Decidable c] {j : xJp} {a b : Nat} {st' : List Value} (hw : T mid = w.map (fun q => q.2.2)) (hf : (w[i]?).map (fun q => q.2.2) = some (.inr (.inl j))) (h : j st = some (if c then a else b, st')) (h1 : c → xX T L d mid a ls st' σ o) (h2 : ¬ c → xX T L d mid b ls st' σ o) : xX T L d mid i ls st σ o := by
  refine xX_jp (j := j) (by rw [hw, List.getElem?_map]; exact hf) h ?_
  by_cases hc : c
  · rw [if_pos hc]; exact h1 hc
  · rw [if_neg hc]; exact h2 hc
theorem xX_jmp {j : xJp} {a : Nat} {st' : List Value} (hw : T mid = w.map (fun q => q.2.2)) (hf : (w[i]?).map (fun q => q.2.2) = some (.inr (.inl j))) (h : j st = some (a, st')) (h1 : xX T L d mid a ls st' σ o) : xX T L d mid i ls st σ o :=
  xX_jp (j := j) (by rw [hw, List.getElem?_map]; exact hf) h h1
theorem xX_one {f : xOp} {ls' st' : List Value} {σ' : xM} (hw : T mid = w.map (fun q => q.2.2)) (hf : (w[i]?).map (fun q => q.2.2) = some (.inl f)) (h : f ls st σ = some (ls', st', σ')) (k : xX T L d mid (i + 1) ls' st' σ' o) : xX T L d mid i ls st σ o :=
  xX_op (f := f) (by rw [hw, List.getElem?_map]; exact hf) h k
def xcc (rc k Lc : Nat) (st : List Value) : Bool := decide (k ≤ st.length) && (xrc rc (st.take k).reverse && (decide (xcat (st.drop k) ≤ 8) && decide ((lg_sl (st.take k).reverse).length ≤ Lc)))
theorem xX_call {cm k rc : Nat} {vs rest : List Value} {r : Option Value} {σ1 : xM} (hw : T mid = w.map (fun q => q.2.2)) (hf : (w[i]?).map (fun q => q.2.2) = some (.inr (.inr (.inl (cm, k, rc))))) (hd : 1 ≤ d) (hcc : xcc rc k (L cm) st = true) (hvs : (st.take k).reverse = vs) (hrest : st.drop k = rest)
    (hc : xR T L (d - 1) cm vs σ (r, σ1)) (kk : xX T L d mid (i + 1) ls (r.toList ++ rest) σ1 o) : xX T L d mid i ls st σ o := by
  subst hvs
  subst hrest
  obtain ⟨d', rfl⟩ : ∃ d', d = d' + 1 := ⟨d - 1, by omega⟩
  rw [Nat.add_sub_cancel] at hc
  obtain ⟨n1, h1⟩ := hc
  obtain ⟨n2, h2⟩ := kk
  refine ⟨n1 + n2 + 1, ?_⟩
  unfold xEv
  rw [show (T mid)[i]? = some (.inr (.inr (.inl (cm, k, rc)))) by rw [hw, List.getElem?_map]; exact hf]
  dsimp only
  unfold xcc at hcc
  simp only [Bool.and_eq_true, decide_eq_true_eq] at hcc
  rw [if_pos hcc, xEv_le h1 n2]
  dsimp only
  rw [Nat.add_comm]
  exact xEv_le h2 n1
theorem xX_ret {k : Nat} (hw : T mid = w.map (fun q => q.2.2)) (hf : (w[i]?).map (fun q => q.2.2) = some (.inr (.inr (.inr k)))) (h : xret k st σ = some o) : xX T L d mid i ls st σ o := by
  refine ⟨1, ?_⟩
  unfold xEv
  rw [show (T mid)[i]? = some (.inr (.inr (.inr k))) by rw [hw, List.getElem?_map]; exact hf]
  exact h
end XY
theorem e_iald {c n : Nat} {i : Int32} {r ls : List Value} {σ : xM} (hs : x_sh c = some (.inr (.inl n))) (hi : xin i n = true) : o_iald ls (.int i :: .ref c :: r) σ = some (ls, .int (σ c i.toNatClampNeg) :: r, σ) := by
  unfold o_iald
  simp only [hs, hi, if_true]
theorem e_iast {c n : Nat} {i v : Int32} {r ls : List Value} {σ : xM} (hs : x_sh c = some (.inr (.inl n))) (hi : xin i n = true) : o_iast ls (.int v :: .int i :: .ref c :: r) σ = some (ls, r, xup σ c i.toNatClampNeg v) := by
  unfold o_iast
  simp only [hs, hi, if_true]
theorem e_aald {c q : Nat} {rs : List Nat} {i : Int32} {r ls : List Value} {σ : xM} (hs : x_sh c = some (.inr (.inr rs))) (hi : ¬ i < 0) (hq : rs[i.toNatClampNeg]? = some q) : o_aald ls (.int i :: .ref c :: r) σ = some (ls, .ref q :: r, σ) := by
  unfold o_aald
  simp only [hs, hi, hq, if_false]
theorem e_idiv {x y : Int32} {r ls : List Value} {σ : xM} (hy : ¬ y = 0) : o_idiv ls (.int y :: .int x :: r) σ = some (ls, .int (x / y) :: r, σ) := by
  unfold o_idiv
  simp only [hy, if_false]
theorem e_irem {x y : Int32} {r ls : List Value} {σ : xM} (hy : ¬ y = 0) : o_irem ls (.int y :: .int x :: r) σ = some (ls, .int (x - x / y * y) :: r, σ) := by
  unfold o_irem
  simp only [hy, if_false]
theorem e_ret2 {v : Int32} {σ : xM} (h : xzok true v = true) : xret 2 [.int v] σ = some (some (.int v), σ) := by
  unfold xret
  simp only [h, if_true]
def xgd {α : Type} (c : Bool) (a : Option α) : Option α := if c = true then a else none
theorem xgd_inv {α : Type} {c : Bool} {a : Option α} {q : α} (h : xgd c a = some q) : c = true ∧ a = some q := by
  unfold xgd at h
  split at h
  · next hc => exact ⟨hc, h⟩
  · cases h
def xbd {α β : Type} (m : Option α) (f : α → Option β) : Option β := match m with
  | none => none
  | some a => f a
theorem xbd_inv {α β : Type} {m : Option α} {f : α → Option β} {q : β} (h : xbd m f = some q) : ∃ a, m = some a ∧ f a = some q := by
  cases m with
  | none => cases h
  | some a => exact ⟨a, rfl, h⟩
def xlet {α β : Type} (a : α) (f : α → β) : β := f a
def xloop {S E : Type} (f : S → Option (S ⊕ E)) : Nat → S → Option E
  | 0, _ => none
  | n + 1, s => match f s with
    | none => none
    | some (.inl s') => xloop f n s'
    | some (.inr e) => some e
theorem xloop_snd {S E : Type} {f : S → Option (S ⊕ E)} {X : S → Prop} {Y : E → Prop} (body : ∀ s q, f s = some q → (∀ s', q = .inl s' → X s') → (∀ e', q = .inr e' → Y e') → X s) : ∀ (n : Nat) (s : S) (e : E), xloop f n s = some e → Y e → X s
  | 0, s, e, h, hY => by cases h
  | n + 1, s, e, h, hY => by
    unfold xloop at h
    split at h
    · cases h
    · next s' hs => exact body s _ hs (fun s1 e1 => by cases e1; exact xloop_snd body n s' e h hY) (fun e1 h1 => by cases h1)
    · next e' hs =>
      cases h
      exact body s _ hs (fun s1 e1 => by cases e1) (fun e1 h1 => by cases h1; exact hY)
theorem xloop_run {S E : Type} {f : S → Option (S ⊕ E)} (g : Nat → S) (e : E) : ∀ (k m fu : Nat), (∀ j, m ≤ j → j < m + k → f (g j) = some (.inl (g (j + 1)))) → f (g (m + k)) = some (.inr e) → k < fu → xloop f fu (g m) = some e
  | k, m, 0, h, he, hf => by omega
  | 0, m, fu + 1, h, he, hf => by
    unfold xloop
    rw [Nat.add_zero] at he
    rw [he]
  | k + 1, m, fu + 1, h, he, hf => by
    unfold xloop
    rw [h m (Nat.le_refl m) (by omega)]
    have e1 : m + (k + 1) = m + 1 + k := by omega
    exact xloop_run g e k (m + 1) fu (fun j h1 h2 => h j (by omega) (by omega)) (by rw [← e1]; exact he) (by omega)
