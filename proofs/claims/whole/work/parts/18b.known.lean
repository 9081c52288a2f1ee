theorem wq_0 : Cond.instantiable RX0 3 ∈ x_tb := x_mt (w := Cond.instantiable RX0 3) 278 (by decide +kernel) rfl
theorem wq_1 : Cond.instantiable RX1 6 ∈ x_tb := x_mt (w := Cond.instantiable RX1 6) 31 (by decide +kernel) rfl
theorem wq_2 : Cond.instantiable RX2 3 ∈ x_tb := x_mt (w := Cond.instantiable RX2 3) 262 (by decide +kernel) rfl
theorem wq_3 : Cond.instantiable RX3 3 ∈ x_tb := x_mt (w := Cond.instantiable RX3 3) 202 (by decide +kernel) rfl
theorem wq_4 : Cond.instantiable RX4 3 ∈ x_tb := x_mt (w := Cond.instantiable RX4 3) 222 (by decide +kernel) rfl
theorem wq_5 : Cond.instantiable RX5 5 ∈ x_tb := x_mt (w := Cond.instantiable RX5 5) 240 (by decide +kernel) rfl
theorem wq_6 : Cond.instantiable RX6 7 ∈ x_tb := x_mt (w := Cond.instantiable RX6 7) 294 (by decide +kernel) rfl
theorem wq_7 : Cond.instantiable RX7 5 ∈ x_tb := x_mt (w := Cond.instantiable RX7 5) 125 (by decide +kernel) rfl
theorem wq_8 : Cond.instantiable RX8 7 ∈ x_tb := x_mt (w := Cond.instantiable RX8 7) 72 (by decide +kernel) rfl
theorem wq_9 : Cond.instantiable RX9 7 ∈ x_tb := x_mt (w := Cond.instantiable RX9 7) 25 (by decide +kernel) rfl
theorem wq_10 : Cond.instantiable RX10 10 ∈ x_tb := x_mt (w := Cond.instantiable RX10 10) 17 (by decide +kernel) rfl
theorem wq_11 : Cond.instantiable RX11 17 ∈ x_tb := x_mt (w := Cond.instantiable RX11 17) 874 (by decide +kernel) rfl
theorem lw_kn {s : State} {args : Array Value} {C : String} {T : u_T} {N : Nat} (hts : ∀ w ∈ x_tb, w.before args s = true) (hw : ∀ w ∈ u_ws C T N, w ∈ x_tb) (hi : Cond.instantiable C N ∈ x_tb) : ∃ (cC : ClassId) (iS : Nat → Nat), u_Kn s C T N cC iS := u_known hts hw (hts _ hi)
theorem lw_K {s : State} {args : Array Value} (hts : ∀ w ∈ x_tb, w.before args s = true) (hO : va_AO "AnySites$State" s) : ∃ (D : va_G) (cI cS : ClassId), va_K D vwCl (x_tys cI cS) s := by
  have hall : ∀ q ∈ vwCl, ∃ (cC : ClassId) (iS : Nat → Nat), u_Kn s q.1 q.2.1 q.2.2 cC iS := List.forall_mem_cons.mpr ⟨lw_kn hts x_iw0 (wq_0), List.forall_mem_cons.mpr ⟨lw_kn hts x_iw1 (wq_1), List.forall_mem_cons.mpr ⟨lw_kn hts x_iw2 (wq_2), List.forall_mem_cons.mpr ⟨lw_kn hts x_iw3 (wq_3), List.forall_mem_cons.mpr ⟨lw_kn hts x_iw4 (wq_4), List.forall_mem_cons.mpr ⟨lw_kn hts x_iw5 (wq_5), List.forall_mem_cons.mpr ⟨lw_kn hts x_iw6 (wq_6), List.forall_mem_cons.mpr ⟨lw_kn hts x_iw7 (wq_7), List.forall_mem_cons.mpr ⟨lw_kn hts x_iw8 (wq_8), List.forall_mem_cons.mpr ⟨lw_kn hts x_iw9 (wq_9), List.forall_mem_cons.mpr ⟨lw_kn hts x_iw10 (wq_10), List.forall_mem_cons.mpr ⟨lw_kn hts x_iw11 (wq_11), fun _ h => absurd h List.not_mem_nil⟩⟩⟩⟩⟩⟩⟩⟩⟩⟩⟩⟩
  have h : ∀ k : Nat, ∃ x : ClassId × (Nat → Nat), ∀ q : vw_C, vwCl[k]? = some q → u_Kn s q.1 q.2.1 q.2.2 x.1 x.2 := by
    intro k
    cases hk : vwCl[k]? with
    | none => exact ⟨(0, fun _ => 0), fun q hq => by cases hq⟩
    | some q0 =>
      obtain ⟨cC, iS, h1⟩ := hall q0 (List.mem_of_getElem? hk)
      exact ⟨(cC, iS), fun q hq => by cases hq; exact h1⟩
  obtain ⟨cI, kI, compI, a1, a2, a3⟩ := Cond.arrayClass_spec (hts _ wArr)
  obtain ⟨compS, cS, kS, b1, b2, b3, b4, b5⟩ := Cond.arrayOver_spec hO
  refine ⟨(fun k => (Classical.choose (h k)).1, fun k => (Classical.choose (h k)).2), cI, cS, fun k q hq => Classical.choose_spec (h k) q hq, fun k q hq => ?_⟩
  match k, hq with
  | 0, hq =>
    cases hq
    exact ⟨fun n z => ⟨fun k h => (by cases h), kI, a2, compI, a3⟩, a1⟩
  | 1, hq =>
    cases hq
    exact ⟨fun n z => ⟨fun k h => (by cases h), kS, b3, compS, b4⟩, kS, compS, b3, b4, b1, b5⟩
  | k + 2, hq => simp [x_tys] at hq
