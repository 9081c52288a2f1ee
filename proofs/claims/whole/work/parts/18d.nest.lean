theorem lw_nst : x_nest.all (fun q => decide (Cond.methodLinkNest q.1 q.2.1 q.2.2 "AnySites" ∈ tables_1)) = true := by decide +kernel
theorem lw_hN {s : State} {args : Array Value} (hts : ∀ w ∈ lw_tbl, w.before args s = true) : x_N s := by
  intro q hq
  have h1 := List.all_eq_true.mp lw_nst q hq
  exact va_Nw.of rfl (hts _ (List.mem_append_right _ (of_decide_eq_true h1)))
theorem lw_aom : Cond.arrayOver (.object "AnySites$State") ∈ tables_1 := List.mem_of_getElem? (i := 208) (by decide +kernel)
theorem lw_hO {s : State} {args : Array Value} (hts : ∀ w ∈ lw_tbl, w.before args s = true) : va_AO "AnySites$State" s := va_AO.of (hts _ (List.mem_append_right _ lw_aom))
