section XMM
variable {own : String} {cc : ByteArray} {nL pc : Nat}
def o_mmax : xOp := fun ls st σ => match st with
  | .int y :: .int x :: r => if Nat.ble (xcat r) 8 = true then some (ls, .int (if x < y then y else x) :: r, σ) else none
  | _ => none
theorem s_mmax {index : Nat} (hlk : Cond.methodLink own index Lib.Math.max.name ∈ x_tb) (hst : Cond.static Lib.Math.max.name ∈ x_tb) (hin : Cond.initialized "java/lang/Math" ∈ x_tb) (hcd : Cond.code Lib.Math.max.name Lib.Math.max.code 2 (some .int) ∈ x_tb) (hd : decode cc pc = .ok (.invokestatic index, 3)) : xOK own cc nL pc (pc + 3) o_mmax := by
  intro p l e R s m args below meth c D cI cS b Q rt C0 ls st σ ls' st' σ' h G H locs arr hP hS hl
  obtain ⟨hx, hb, hr, hml, hown, hts, hlocks, hK, hN, hR⟩ := C0
  unfold o_mmax at h
  split at h
  · next y x r =>
    split at h
    · next hc =>
      cases h
      have h8 := Nat.le_of_ble_eq_true hc
      refine va_mmax hx hb (by rw [hml]; exact hl.1.symm) hown (hts _ hlk) (hts _ hst) (hts _ hin) (hts _ hcd) hR.1 ?_ (Nat.zero_le _) (Nat.zero_le _) hd (G H locs arr hP hS hl)
      have := hR.2
      have e := xcat_v b r
      rw [e]
      omega
    · cases h
  · cases h
def o_mmin : xOp := fun ls st σ => match st with
  | .int y :: .int x :: r => if Nat.ble (xcat r) 8 = true then some (ls, .int (if y < x then y else x) :: r, σ) else none
  | _ => none
theorem s_mmin {index : Nat} (hlk : Cond.methodLink own index Lib.Math.min.name ∈ x_tb) (hst : Cond.static Lib.Math.min.name ∈ x_tb) (hin : Cond.initialized "java/lang/Math" ∈ x_tb) (hcd : Cond.code Lib.Math.min.name Lib.Math.min.code 2 (some .int) ∈ x_tb) (hd : decode cc pc = .ok (.invokestatic index, 3)) : xOK own cc nL pc (pc + 3) o_mmin := by
  intro p l e R s m args below meth c D cI cS b Q rt C0 ls st σ ls' st' σ' h G H locs arr hP hS hl
  obtain ⟨hx, hb, hr, hml, hown, hts, hlocks, hK, hN, hR⟩ := C0
  unfold o_mmin at h
  split at h
  · next y x r =>
    split at h
    · next hc =>
      cases h
      have h8 := Nat.le_of_ble_eq_true hc
      refine va_mmin hx hb (by rw [hml]; exact hl.1.symm) hown (hts _ hlk) (hts _ hst) (hts _ hin) (hts _ hcd) hR.1 ?_ (Nat.zero_le _) (Nat.zero_le _) hd (G H locs arr hP hS hl)
      have := hR.2
      have e := xcat_v b r
      rw [e]
      omega
    · cases h
  · cases h
end XMM
theorem e_ialK {c n k : Nat} {i : Int32} {r ls : List Value} {σ : xM} (hs : x_sh c = some (.inr (.inl n))) (hi : xin i n = true) (hk : i.toNatClampNeg = k) : o_iald ls (.int i :: .ref c :: r) σ = some (ls, .int (σ c k) :: r, σ) := by
  subst hk
  exact e_iald hs hi
theorem e_iasK {c n k : Nat} {i v : Int32} {r ls : List Value} {σ : xM} (hs : x_sh c = some (.inr (.inl n))) (hi : xin i n = true) (hk : i.toNatClampNeg = k) : o_iast ls (.int v :: .int i :: .ref c :: r) σ = some (ls, r, xup σ c k v) := by
  subst hk
  exact e_iast hs hi
theorem e_copy {a c n : Nat} {nn : Int32} {r ls : List Value} {σ : xM} (ha : x_sh a = some (.inr (.inl n))) (hc : x_sh c = some (.inr (.inl n))) (hn : nn = nI n) (hlt : n < 1000) (h8 : xcat r ≤ 8) : o_copy ls (.int nn :: .int 0 :: .ref c :: .int 0 :: .ref a :: r) σ = some (ls, r, xset σ c (va_cpy (σ a) (σ c) 0 0 n)) := by
  unfold o_copy
  unfold xcat at h8
  simp only [ha, hc]
  rw [if_pos]
  simp [hn, hlt, h8]
theorem e_tsw {lo : Int} {ts : List Nat} {df t : Nat} {x : Int32} {r : List Value} (h : (if x.toInt < lo then df else (ts[(x.toInt - lo).toNat]?).getD df) = t) : o_tsw lo ts df (.int x :: r) = some (t, r) := by
  unfold o_tsw
  simp only [h]
theorem e_tswd {lo : Int} {ts : List Nat} {df : Nat} {x : Int32} (cs : List Int32) (hc : (List.range ts.length).all (fun (j : Nat) => ts.getD j df == df || cs.contains (Int32.ofInt (lo + (j : Int)))) = true) (hx : ∀ v ∈ cs, ¬ x = v) : (if x.toInt < lo then df else (ts[(x.toInt - lo).toNat]?).getD df) = df := by
  by_cases h1 : x.toInt < lo
  · rw [if_pos h1]
  · rw [if_neg h1]
    by_cases h2 : (x.toInt - lo).toNat < ts.length
    · have h3 := List.all_eq_true.mp hc (x.toInt - lo).toNat (List.mem_range.mpr h2)
      simp only [Bool.or_eq_true, beq_iff_eq] at h3
      rcases h3 with h3 | h3
      · rw [List.getD_eq_getElem?_getD] at h3
        exact h3
      · exfalso
        have e : lo + (((x.toInt - lo).toNat : Nat) : Int) = x.toInt := by omega
        rw [e, Int32.ofInt_toInt] at h3
        exact hx x (List.contains_iff_mem.mp h3) rfl
    · rw [List.getElem?_eq_none_iff.mpr (by omega)]
      rfl
theorem xlet_inv {α β : Type} {a : α} {f : α → Option β} {q : β} (h : xlet a f = some q) : ∃ v, v = a ∧ f v = some q := ⟨a, rfl, h⟩
def xsm {α β γ : Type} (s : α ⊕ β) (f : α → γ) (g : β → γ) : γ := match s with
  | .inl a => f a
  | .inr b => g b
theorem xsm_l {α β γ : Type} {a : α} {f : α → γ} {g : β → γ} : xsm (.inl a) f g = f a := rfl
theorem xsm_r {α β γ : Type} {b : β} {f : α → γ} {g : β → γ} : xsm (.inr b) f g = g b := rfl
theorem xnz {y : Int32} (h : (!decide (y = 0)) = true) : ¬ y = 0 := by simpa using h
section XZ
variable {T : xTb} {L : Nat → Nat} {d mid i : Nat} {ls st : List Value} {σ : xM} {o : Option Value × xM} {w : List xRw}
theorem xX_c1 {cm k rc : Nat} {vs rest : List Value} {v : Value} {σ1 : xM} (hw : T mid = w.map (fun q => q.2.2)) (hf : (w[i]?).map (fun q => q.2.2) = some (.inr (.inr (.inl (cm, k, rc))))) (hd : 1 ≤ d) (hcc : xcc rc k (L cm) st = true) (hvs : (st.take k).reverse = vs) (hrest : st.drop k = rest)
    (hc : xR T L (d - 1) cm vs σ (some v, σ1)) (kk : xX T L d mid (i + 1) ls (v :: rest) σ1 o) : xX T L d mid i ls st σ o := xX_call hw hf hd hcc hvs hrest hc kk
theorem xX_c0 {cm k rc : Nat} {vs rest : List Value} {σ1 : xM} (hw : T mid = w.map (fun q => q.2.2)) (hf : (w[i]?).map (fun q => q.2.2) = some (.inr (.inr (.inl (cm, k, rc))))) (hd : 1 ≤ d) (hcc : xcc rc k (L cm) st = true) (hvs : (st.take k).reverse = vs) (hrest : st.drop k = rest)
    (hc : xR T L (d - 1) cm vs σ (none, σ1)) (kk : xX T L d mid (i + 1) ls rest σ1 o) : xX T L d mid i ls st σ o := xX_call hw hf hd hcc hvs hrest hc kk
end XZ
theorem xs_3 : x_sh 3 = some (.inr (.inl 8)) := rfl
theorem xs_4 : x_sh 4 = some (.inr (.inl 8)) := rfl
theorem xs_5 : x_sh 5 = some (.inr (.inl 8)) := rfl
theorem xs_6 : x_sh 6 = some (.inr (.inl 64)) := rfl
theorem xs_7 : x_sh 7 = some (.inr (.inl 64)) := rfl
theorem xs_9 : x_sh 9 = some (.inr (.inl 5)) := rfl
theorem xs_10 : x_sh 10 = some (.inr (.inl 5)) := rfl
theorem xs_11 : x_sh 11 = some (.inr (.inl 5)) := rfl
theorem xs_12 : x_sh 12 = some (.inr (.inl 5)) := rfl
theorem xs_13 : x_sh 13 = some (.inr (.inl 5)) := rfl
theorem xs_15 : x_sh 15 = some (.inr (.inl 12)) := rfl
theorem xs_16 : x_sh 16 = some (.inr (.inl 12)) := rfl
theorem xs_17 : x_sh 17 = some (.inr (.inl 12)) := rfl
theorem xs_18 : x_sh 18 = some (.inr (.inl 12)) := rfl
theorem xs_20 : x_sh 20 = some (.inr (.inr [21, 39, 57, 75, 93, 111])) := rfl
theorem xs_23 : x_sh 23 = some (.inr (.inl 8)) := rfl
theorem xs_24 : x_sh 24 = some (.inr (.inl 8)) := rfl
theorem xs_25 : x_sh 25 = some (.inr (.inl 8)) := rfl
theorem xs_26 : x_sh 26 = some (.inr (.inl 64)) := rfl
theorem xs_27 : x_sh 27 = some (.inr (.inl 64)) := rfl
theorem xs_29 : x_sh 29 = some (.inr (.inl 5)) := rfl
theorem xs_30 : x_sh 30 = some (.inr (.inl 5)) := rfl
theorem xs_31 : x_sh 31 = some (.inr (.inl 5)) := rfl
theorem xs_32 : x_sh 32 = some (.inr (.inl 5)) := rfl
theorem xs_33 : x_sh 33 = some (.inr (.inl 5)) := rfl
theorem xs_35 : x_sh 35 = some (.inr (.inl 12)) := rfl
theorem xs_36 : x_sh 36 = some (.inr (.inl 12)) := rfl
theorem xs_37 : x_sh 37 = some (.inr (.inl 12)) := rfl
theorem xs_38 : x_sh 38 = some (.inr (.inl 12)) := rfl
theorem xs_41 : x_sh 41 = some (.inr (.inl 8)) := rfl
theorem xs_42 : x_sh 42 = some (.inr (.inl 8)) := rfl
theorem xs_43 : x_sh 43 = some (.inr (.inl 8)) := rfl
theorem xs_44 : x_sh 44 = some (.inr (.inl 64)) := rfl
theorem xs_45 : x_sh 45 = some (.inr (.inl 64)) := rfl
theorem xs_47 : x_sh 47 = some (.inr (.inl 5)) := rfl
theorem xs_48 : x_sh 48 = some (.inr (.inl 5)) := rfl
theorem xs_49 : x_sh 49 = some (.inr (.inl 5)) := rfl
theorem xs_50 : x_sh 50 = some (.inr (.inl 5)) := rfl
theorem xs_51 : x_sh 51 = some (.inr (.inl 5)) := rfl
theorem xs_53 : x_sh 53 = some (.inr (.inl 12)) := rfl
theorem xs_54 : x_sh 54 = some (.inr (.inl 12)) := rfl
theorem xs_55 : x_sh 55 = some (.inr (.inl 12)) := rfl
theorem xs_56 : x_sh 56 = some (.inr (.inl 12)) := rfl
theorem xs_59 : x_sh 59 = some (.inr (.inl 8)) := rfl
theorem xs_60 : x_sh 60 = some (.inr (.inl 8)) := rfl
theorem xs_61 : x_sh 61 = some (.inr (.inl 8)) := rfl
theorem xs_62 : x_sh 62 = some (.inr (.inl 64)) := rfl
theorem xs_63 : x_sh 63 = some (.inr (.inl 64)) := rfl
theorem xs_65 : x_sh 65 = some (.inr (.inl 5)) := rfl
theorem xs_66 : x_sh 66 = some (.inr (.inl 5)) := rfl
theorem xs_67 : x_sh 67 = some (.inr (.inl 5)) := rfl
theorem xs_68 : x_sh 68 = some (.inr (.inl 5)) := rfl
theorem xs_69 : x_sh 69 = some (.inr (.inl 5)) := rfl
theorem xs_71 : x_sh 71 = some (.inr (.inl 12)) := rfl
theorem xs_72 : x_sh 72 = some (.inr (.inl 12)) := rfl
theorem xs_73 : x_sh 73 = some (.inr (.inl 12)) := rfl
theorem xs_74 : x_sh 74 = some (.inr (.inl 12)) := rfl
theorem xs_77 : x_sh 77 = some (.inr (.inl 8)) := rfl
theorem xs_78 : x_sh 78 = some (.inr (.inl 8)) := rfl
theorem xs_79 : x_sh 79 = some (.inr (.inl 8)) := rfl
theorem xs_80 : x_sh 80 = some (.inr (.inl 64)) := rfl
theorem xs_81 : x_sh 81 = some (.inr (.inl 64)) := rfl
theorem xs_83 : x_sh 83 = some (.inr (.inl 5)) := rfl
theorem xs_84 : x_sh 84 = some (.inr (.inl 5)) := rfl
theorem xs_85 : x_sh 85 = some (.inr (.inl 5)) := rfl
theorem xs_86 : x_sh 86 = some (.inr (.inl 5)) := rfl
theorem xs_87 : x_sh 87 = some (.inr (.inl 5)) := rfl
theorem xs_89 : x_sh 89 = some (.inr (.inl 12)) := rfl
theorem xs_90 : x_sh 90 = some (.inr (.inl 12)) := rfl
theorem xs_91 : x_sh 91 = some (.inr (.inl 12)) := rfl
theorem xs_92 : x_sh 92 = some (.inr (.inl 12)) := rfl
theorem xs_95 : x_sh 95 = some (.inr (.inl 8)) := rfl
theorem xs_96 : x_sh 96 = some (.inr (.inl 8)) := rfl
theorem xs_97 : x_sh 97 = some (.inr (.inl 8)) := rfl
theorem xs_98 : x_sh 98 = some (.inr (.inl 64)) := rfl
theorem xs_99 : x_sh 99 = some (.inr (.inl 64)) := rfl
theorem xs_101 : x_sh 101 = some (.inr (.inl 5)) := rfl
theorem xs_102 : x_sh 102 = some (.inr (.inl 5)) := rfl
theorem xs_103 : x_sh 103 = some (.inr (.inl 5)) := rfl
theorem xs_104 : x_sh 104 = some (.inr (.inl 5)) := rfl
theorem xs_105 : x_sh 105 = some (.inr (.inl 5)) := rfl
theorem xs_107 : x_sh 107 = some (.inr (.inl 12)) := rfl
theorem xs_108 : x_sh 108 = some (.inr (.inl 12)) := rfl
theorem xs_109 : x_sh 109 = some (.inr (.inl 12)) := rfl
theorem xs_110 : x_sh 110 = some (.inr (.inl 12)) := rfl
theorem xs_113 : x_sh 113 = some (.inr (.inl 8)) := rfl
theorem xs_114 : x_sh 114 = some (.inr (.inl 8)) := rfl
theorem xs_115 : x_sh 115 = some (.inr (.inl 8)) := rfl
theorem xs_116 : x_sh 116 = some (.inr (.inl 64)) := rfl
theorem xs_117 : x_sh 117 = some (.inr (.inl 64)) := rfl
theorem xs_119 : x_sh 119 = some (.inr (.inl 5)) := rfl
theorem xs_120 : x_sh 120 = some (.inr (.inl 5)) := rfl
theorem xs_121 : x_sh 121 = some (.inr (.inl 5)) := rfl
theorem xs_122 : x_sh 122 = some (.inr (.inl 5)) := rfl
theorem xs_123 : x_sh 123 = some (.inr (.inl 5)) := rfl
theorem xs_125 : x_sh 125 = some (.inr (.inl 12)) := rfl
theorem xs_126 : x_sh 126 = some (.inr (.inl 12)) := rfl
theorem xs_127 : x_sh 127 = some (.inr (.inl 12)) := rfl
theorem xs_128 : x_sh 128 = some (.inr (.inl 12)) := rfl
theorem xs_130 : x_sh 130 = some (.inr (.inl 8)) := rfl
theorem xs_131 : x_sh 131 = some (.inr (.inl 5)) := rfl
theorem xs_133 : x_sh 133 = some (.inr (.inl 5)) := rfl
theorem xs_135 : x_sh 135 = some (.inr (.inl 5)) := rfl
theorem xs_138 : x_sh 138 = some (.inr (.inl 120)) := rfl
theorem xs_139 : x_sh 139 = some (.inr (.inl 120)) := rfl
theorem xs_140 : x_sh 140 = some (.inr (.inl 360)) := rfl
theorem xs_142 : x_sh 142 = some (.inr (.inl 169)) := rfl
theorem xs_143 : x_sh 143 = some (.inr (.inl 845)) := rfl
theorem xs_144 : x_sh 144 = some (.inr (.inl 169)) := rfl
theorem xs_145 : x_sh 145 = some (.inr (.inl 3)) := rfl
theorem xs_146 : x_sh 146 = some (.inr (.inl 64)) := rfl
theorem xs_147 : x_sh 147 = some (.inr (.inl 8)) := rfl
theorem xs_148 : x_sh 148 = some (.inr (.inl 169)) := rfl
theorem xs_149 : x_sh 149 = some (.inr (.inl 5)) := rfl
theorem xs_150 : x_sh 150 = some (.inr (.inl 5)) := rfl
theorem xs_151 : x_sh 151 = some (.inr (.inl 5)) := rfl
theorem xs_152 : x_sh 152 = some (.inr (.inl 5)) := rfl
theorem xs_153 : x_sh 153 = some (.inr (.inl 120)) := rfl
theorem xs_154 : x_sh 154 = some (.inr (.inl 3)) := rfl
