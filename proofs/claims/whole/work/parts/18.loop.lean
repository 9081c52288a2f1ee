theorem lw_gt {i L : Nat} (h : L < i + 4) (hL : L ≤ 2048) (hi : i ≤ L + 4) : Int32.ofNat L - 4 < nI i := by
  rw [Int32.lt_iff_toInt_lt]
  have e1 : (Int32.ofNat L - 4 : Int32) = nI L - nI 4 := rfl
  rw [e1, pk_sub_toInt (by omega) (by omega), nI_toInt (by omega)]
  omega
theorem lw_ngt {i L : Nat} (h : i + 4 ≤ L) (hL : L ≤ 2048) : ¬ Int32.ofNat L - 4 < nI i := by
  rw [Int32.lt_iff_toInt_lt]
  have e1 : (Int32.ofNat L - 4 : Int32) = nI L - nI 4 := rfl
  rw [e1, pk_sub_toInt (by omega) (by omega), nI_toInt (by omega)]
  omega
def lw_OK (Inv : xM → Prop) : Prop :=
  (∀ (σ : xM) (a : Int32), Inv σ → ∃ (r : Int32) (σ1 σ2 : xM), F_X10_area a σ = some (r, σ1) ∧ F_X11_area a σ1 = some (r, σ2) ∧ Inv σ2) ∧
  (∀ (σ : xM) (a : Int32) (b : Int32), Inv σ → ∃ (r : Int32) (σ1 σ2 : xM), F_X10_wants a b σ = some (r, σ1) ∧ F_X11_wants a b σ1 = some (r, σ2) ∧ Inv σ2) ∧
  (∀ (σ : xM) (a : Int32) (b : Int32) (c : Int32), Inv σ → ∃ (r : Int32) (σ1 σ2 : xM), F_X10_line a b c σ = some (r, σ1) ∧ F_X11_line a b c σ1 = some (r, σ2) ∧ Inv σ2) ∧
  (∀ (σ : xM) (a : Int32) (b : Int32), Inv σ → ∃ (r : Int32) (σ1 σ2 : xM), F_X10_mood a b σ = some (r, σ1) ∧ F_X11_mood a b σ1 = some (r, σ2) ∧ Inv σ2) ∧
  (∀ (σ : xM) (a : Int32) (b : Int32), Inv σ → ∃ (r : Int32) (σ1 σ2 : xM), F_X10_site a b σ = some (r, σ1) ∧ F_X11_site a b σ1 = some (r, σ2) ∧ Inv σ2) ∧
  (∀ (σ : xM) (a : Int32) (b : Int32), Inv σ → ∃ (r : Int32) (σ1 σ2 : xM), F_X10_rooms a b σ = some (r, σ1) ∧ F_X11_rooms a b σ1 = some (r, σ2) ∧ Inv σ2) ∧
  (∀ (σ : xM) (a : Int32) (b : Int32), Inv σ → ∃ (r : Int32) (σ1 σ2 : xM), F_X10_steps a b σ = some (r, σ1) ∧ F_X11_steps a b σ1 = some (r, σ2) ∧ Inv σ2) ∧
  (∀ (σ : xM) (a : Int32), Inv σ → ∃ (r : Int32) (σ1 σ2 : xM), F_X10_drains a σ = some (r, σ1) ∧ F_X11_drains a σ1 = some (r, σ2) ∧ Inv σ2) ∧
  (∀ (σ : xM) (a : Int32), Inv σ → ∃ (r : Int32) (σ1 σ2 : xM), F_X10_cuts a σ = some (r, σ1) ∧ F_X11_cuts a σ1 = some (r, σ2) ∧ Inv σ2) ∧
  (∀ (σ : xM) (a : Int32) (b : Int32), Inv σ → ∃ (r : Int32) (σ1 σ2 : xM), F_X10_far a b σ = some (r, σ1) ∧ F_X11_far a b σ1 = some (r, σ2) ∧ Inv σ2) ∧
  (∀ (σ : xM) (a : Int32) (b : Int32), Inv σ → ∃ (r : Int32) (σ1 σ2 : xM), F_X10_of a b σ = some (r, σ1) ∧ F_X11_of a b σ1 = some (r, σ2) ∧ Inv σ2) ∧
  (∀ (σ : xM) (a : Int32) (b : Int32), Inv σ → ∃ (r : Int32) (σ1 σ2 : xM), F_X10_siteOf a b σ = some (r, σ1) ∧ F_X11_siteOf a b σ1 = some (r, σ2) ∧ Inv σ2) ∧
  (∀ (σ : xM) (a : Int32) (b : Int32), Inv σ → ∃ (r : Int32) (σ1 σ2 : xM), F_X10_seems a b σ = some (r, σ1) ∧ F_X11_seems a b σ1 = some (r, σ2) ∧ Inv σ2) ∧
  (∀ (σ : xM) (a : Int32) (b : Int32) (c : Int32), Inv σ → ∃ (r : Int32) (σ1 σ2 : xM), F_X10_opens a b c σ = some (r, σ1) ∧ F_X11_opens a b c σ1 = some (r, σ2) ∧ Inv σ2) ∧
  (∀ (σ : xM) (a : Int32) (b : Int32), Inv σ → ∃ (r : Int32) (σ1 σ2 : xM), F_X10_session a b σ = some (r, σ1) ∧ F_X11_session a b σ1 = some (r, σ2) ∧ Inv σ2) ∧
  (∀ (σ : xM) (a : Int32), Inv σ → ∃ (r : Int32) (σ1 σ2 : xM), F_X10_ends a σ = some (r, σ1) ∧ F_X11_ends a σ1 = some (r, σ2) ∧ Inv σ2) ∧
  (∀ (σ : xM) (a : Int32), Inv σ → ∃ (r : Int32) (σ1 σ2 : xM), F_X10_ticks a σ = some (r, σ1) ∧ F_X11_ticks a σ1 = some (r, σ2) ∧ Inv σ2) ∧
  (∀ (σ : xM) (a : Int32), Inv σ → ∃ (r : Int32) (σ1 σ2 : xM), F_X10_plan a σ = some (r, σ1) ∧ F_X11_plan a σ1 = some (r, σ2) ∧ Inv σ2) ∧
  (∀ (σ : xM) , Inv σ → ∃ (r : Int32) (σ1 σ2 : xM), F_X10_lays σ = some (r, σ1) ∧ F_X11_lays σ1 = some (r, σ2) ∧ Inv σ2) ∧
  (∀ (σ : xM) (a : Int32) (b : Int32), Inv σ → ∃ (r : Int32) (σ1 σ2 : xM), F_X10_order a b σ = some (r, σ1) ∧ F_X11_order a b σ1 = some (r, σ2) ∧ Inv σ2) ∧
  (∀ (σ : xM) (a : Int32) (b : Int32), Inv σ → ∃ (r : Int32) (σ1 σ2 : xM), F_X10_worst a b σ = some (r, σ1) ∧ F_X11_worst a b σ1 = some (r, σ2) ∧ Inv σ2) ∧
  (∀ (σ : xM) (a : Int32), Inv σ → ∃ (r : Int32) (σ1 σ2 : xM), F_X10_type a σ = some (r, σ1) ∧ F_X11_type a σ1 = some (r, σ2) ∧ Inv σ2) ∧
  (∀ (σ : xM) , Inv σ → ∃ (r : Int32) (σ1 σ2 : xM), F_X10_clear σ = some (r, σ1) ∧ F_X11_clear σ1 = some (r, σ2) ∧ Inv σ2) ∧
  (∀ (σ : xM) , Inv σ → ∃ (r : Int32) (σ1 σ2 : xM), F_X10_reads σ = some (r, σ1) ∧ F_X11_reads σ1 = some (r, σ2) ∧ Inv σ2) ∧
  (∀ (σ : xM) , Inv σ → ∃ (r : Int32) (σ1 σ2 : xM), F_X10_back σ = some (r, σ1) ∧ F_X11_back σ1 = some (r, σ2) ∧ Inv σ2) ∧
  (∀ (σ : xM) (a : Int32), Inv σ → ∃ (r : Int32) (σ1 σ2 : xM), F_X10_told a σ = some (r, σ1) ∧ F_X11_told a σ1 = some (r, σ2) ∧ Inv σ2) ∧
  (∀ (σ : xM) , Inv σ → ∃ (r : Int64) (σ1 σ2 : xM), F_X10_digest σ = some (r, σ1) ∧ F_X11_digest σ1 = some (r, σ2) ∧ Inv σ2)
set_option maxHeartbeats 4000000 in
theorem law_loop {Inv : xM → Prop} (hok : lw_OK Inv) {p : Program} {l : Launch} {e : Env} {s : State} {m : MethodId} {below : List Frame} {meth : Method} {c : Code} {D : va_G} {cI cS : ClassId} {b bS L : Nat} {xs : Nat → Int32} {kc ks : Nat} (hkc : kc ≤ 600000) (hks : ks ≤ 7302250) (C : gCx p s m #[Value.ref bS] c D cI cS R_law code 4 b) (hr : meth.sig.returnType = ret) (hlocks : meth.locks = false) (hX : va_X bS L xs s s.heap) (hbS : bS < s.heap.size) (hbe : b = s.heap.size) (hL : L ≤ 2048) :
    ∀ (n i : Nat), L + 4 ≤ n + i → ∀ (σ : xM), Inv σ → ∀ (H : Heap) (locs : List Loc) (arr : Array Slot), va_P D vwCl (xW b cI cS σ) H → va_S (gA b) s.heap H locs → i ≤ L + 4 → lv_has arr 4 [(0, .ref bS), (1, .ref (b + 0)), (2, .ref (b + 141)), (3, .int (nI i))] → W p l e room_1 s m #[Value.ref bS] below meth c H locs kc ks (lw_Z below #[Value.ref bS] s) (F0 m 18 arr []) := by
  intro n
  induction n with
  | zero =>
    intro i hn σ hI H locs arr hP hS hi4 hl
    have hbA : ¬ gA b bS := by unfold gA; omega
    refine lv_iload_n (i := 3) C.1 C.2.1 (show decode code 18 = .ok (.iload_n 3, 1) by decide +kernel) rfl (lv_at hl 3 rfl) ?_
    refine lv_aload_n (i := 0) C.1 C.2.1 (show decode code 19 = .ok (.aload_n 0, 1) by decide +kernel) rfl (lv_at hl 0 rfl) ?_
    refine va_slen C.1 C.2.1 hX hbS hbA hS (by decide +kernel) ?_
    refine lv_iconst (v := 4) C.1 C.2.1 (n := 4) (by decide +kernel) (by decide) ?_
    refine lv_isub C.1 C.2.1 (by decide +kernel) ?_
    refine lv_icmp_gt (off := 871) (tgt := 894) C.1 C.2.1 (by decide +kernel) (by decide) (fun _ => ?_) (fun hc => absurd (lw_gt (by omega) hL (by omega)) hc)
    refine lv_iconst (v := 1) C.1 C.2.1 (n := 1) (by decide +kernel) (by decide) ?_
    refine va_forget (fun q hq => by have := hS.2.2 q hq; unfold gA at this; omega) ?_
    refine W.widen (k := 600000) (n := 7302250) hkc hks ?_
    exact lw_ret C.1 C.2.1 hr hlocks (by decide +kernel)
  | succ n ih =>
    intro i hn σ hI H locs arr hP hS hi4 hl
    have hbA : ¬ gA b bS := by unfold gA; omega
    refine lv_iload_n (i := 3) C.1 C.2.1 (show decode code 18 = .ok (.iload_n 3, 1) by decide +kernel) rfl (lv_at hl 3 rfl) ?_
    refine lv_aload_n (i := 0) C.1 C.2.1 (show decode code 19 = .ok (.aload_n 0, 1) by decide +kernel) rfl (lv_at hl 0 rfl) ?_
    refine va_slen C.1 C.2.1 hX hbS hbA hS (by decide +kernel) ?_
    refine lv_iconst (v := 4) C.1 C.2.1 (n := 4) (by decide +kernel) (by decide) ?_
    refine lv_isub C.1 C.2.1 (by decide +kernel) ?_
    by_cases hlt : i + 4 ≤ L
    case neg =>
      refine lv_icmp_gt (off := 871) (tgt := 894) C.1 C.2.1 (by decide +kernel) (by decide) (fun _ => ?_) (fun hc => absurd (lw_gt (by omega) hL (by omega)) hc)
      refine lv_iconst (v := 1) C.1 C.2.1 (n := 1) (by decide +kernel) (by decide) ?_
      refine va_forget (fun q hq => by have := hS.2.2 q hq; unfold gA at this; omega) ?_
      refine W.widen (k := 600000) (n := 7302250) hkc hks ?_
      exact lw_ret C.1 C.2.1 hr hlocks (by decide +kernel)
    refine lv_icmp_gt (off := 871) (tgt := 894) C.1 C.2.1 (by decide +kernel) (by decide) (fun hc => absurd hc (lw_ngt hlt hL)) (fun _ => ?_)
    refine lv_aload_n (i := 0) C.1 C.2.1 (show decode code 26 = .ok (.aload_n 0, 1) by decide +kernel) rfl (lv_at hl 0 rfl) ?_
    refine lv_iload_n (i := 3) C.1 C.2.1 (show decode code 27 = .ok (.iload_n 3, 1) by decide +kernel) rfl (lv_at hl 3 rfl) ?_
    refine va_sld C.1 C.2.1 hX hbS hbA hS (vp_in_nI (show i < L by omega) (by omega)) (by decide +kernel) ?_
    rw [nI_clamp (show i < 2 ^ 31 by omega)]
    refine lv_bipush (v := 31) C.1 C.2.1 (n := 31) (by decide +kernel) (by decide) ?_
    refine lv_iand C.1 C.2.1 (by decide +kernel) ?_
    have latch : ∀ (σ2 : xM), Inv σ2 → ∀ (H : Heap) (locs : List Loc), va_P D vwCl (xW b cI cS σ2) H → va_S (gA b) s.heap H locs → W p l e room_1 s m #[Value.ref bS] below meth c H locs kc ks (lw_Z below #[Value.ref bS] s) (F0 m 888 arr []) := by
      intro σ2 hI2 H locs hP hS
      refine lv_iinc (v := nI (i + 4)) (lv' := [(3, .int (nI (i + 4))), (0, .ref bS), (1, .ref (b + 0)), (2, .ref (b + 141))]) C.1 C.2.1 (pc := 888) (n := 4) (by decide +kernel) hl (k := 3) rfl (nI_add i 4) (by decide) rfl (fun arr hl => ?_)
      refine lv_goto (off := -873) (tgt := 18) C.1 C.2.1 (by decide +kernel) (by decide) ?_
      exact ih (i + 4) (by omega) σ2 hI2 H locs arr hP hS (by omega) (lv_sub hl [1, 2, 3, 0] rfl)
    by_cases h0 : (xs i &&& 31) = nI 0
    · obtain ⟨r, σ1, σ2, hc, hm, hI2⟩ := hok.1 σ (xs (i + 1)) hI
      refine lv_tableIn (pc := 32) (off := 124) (tgt := 156) C.1 C.2.1 (by decide +kernel) (by rw [h0]; decide) (by rw [h0]; decide) (by rw [h0]; decide) (by decide) ?_
      exact lc_0 hkc hks C hX hbS hbA hL (by omega) hc hm hP hS hl (fun H locs hP hS => latch σ2 hI2 H locs hP hS)
    by_cases h1 : (xs i &&& 31) = nI 1
    · obtain ⟨r, σ1, σ2, hc, hm, hI2⟩ := hok.2.1 σ (xs (i + 1)) (xs (i + 2)) hI
      refine lv_tableIn (pc := 32) (off := 147) (tgt := 179) C.1 C.2.1 (by decide +kernel) (by rw [h1]; decide) (by rw [h1]; decide) (by rw [h1]; decide) (by decide) ?_
      exact lc_1 hkc hks C hX hbS hbA hL (by omega) hc hm hP hS hl (fun H locs hP hS => latch σ2 hI2 H locs hP hS)
    by_cases h2 : (xs i &&& 31) = nI 2
    · obtain ⟨r, σ1, σ2, hc, hm, hI2⟩ := hok.2.2.1 σ (xs (i + 1)) (xs (i + 2)) (xs (i + 3)) hI
      refine lv_tableIn (pc := 32) (off := 180) (tgt := 212) C.1 C.2.1 (by decide +kernel) (by rw [h2]; decide) (by rw [h2]; decide) (by rw [h2]; decide) (by decide) ?_
      exact lc_2 hkc hks C hX hbS hbA hL (by omega) hc hm hP hS hl (fun H locs hP hS => latch σ2 hI2 H locs hP hS)
    by_cases h3 : (xs i &&& 31) = nI 3
    · obtain ⟨r, σ1, σ2, hc, hm, hI2⟩ := hok.2.2.2.1 σ (xs (i + 1)) (xs (i + 2)) hI
      refine lv_tableIn (pc := 32) (off := 223) (tgt := 255) C.1 C.2.1 (by decide +kernel) (by rw [h3]; decide) (by rw [h3]; decide) (by rw [h3]; decide) (by decide) ?_
      exact lc_3 hkc hks C hX hbS hbA hL (by omega) hc hm hP hS hl (fun H locs hP hS => latch σ2 hI2 H locs hP hS)
    by_cases h4 : (xs i &&& 31) = nI 4
    · obtain ⟨r, σ1, σ2, hc, hm, hI2⟩ := hok.2.2.2.2.1 σ (xs (i + 1)) (xs (i + 2)) hI
      refine lv_tableIn (pc := 32) (off := 256) (tgt := 288) C.1 C.2.1 (by decide +kernel) (by rw [h4]; decide) (by rw [h4]; decide) (by rw [h4]; decide) (by decide) ?_
      exact lc_4 hkc hks C hX hbS hbA hL (by omega) hc hm hP hS hl (fun H locs hP hS => latch σ2 hI2 H locs hP hS)
    by_cases h5 : (xs i &&& 31) = nI 5
    · obtain ⟨r, σ1, σ2, hc, hm, hI2⟩ := hok.2.2.2.2.2.1 σ (xs (i + 1)) (xs (i + 2)) hI
      refine lv_tableIn (pc := 32) (off := 289) (tgt := 321) C.1 C.2.1 (by decide +kernel) (by rw [h5]; decide) (by rw [h5]; decide) (by rw [h5]; decide) (by decide) ?_
      exact lc_5 hkc hks C hX hbS hbA hL (by omega) hc hm hP hS hl (fun H locs hP hS => latch σ2 hI2 H locs hP hS)
    by_cases h6 : (xs i &&& 31) = nI 6
    · obtain ⟨r, σ1, σ2, hc, hm, hI2⟩ := hok.2.2.2.2.2.2.1 σ (xs (i + 1)) (xs (i + 2)) hI
      refine lv_tableIn (pc := 32) (off := 322) (tgt := 354) C.1 C.2.1 (by decide +kernel) (by rw [h6]; decide) (by rw [h6]; decide) (by rw [h6]; decide) (by decide) ?_
      exact lc_6 hkc hks C hX hbS hbA hL (by omega) hc hm hP hS hl (fun H locs hP hS => latch σ2 hI2 H locs hP hS)
    by_cases h7 : (xs i &&& 31) = nI 7
    · obtain ⟨r, σ1, σ2, hc, hm, hI2⟩ := hok.2.2.2.2.2.2.2.1 σ (xs (i + 1)) hI
      refine lv_tableIn (pc := 32) (off := 355) (tgt := 387) C.1 C.2.1 (by decide +kernel) (by rw [h7]; decide) (by rw [h7]; decide) (by rw [h7]; decide) (by decide) ?_
      exact lc_7 hkc hks C hX hbS hbA hL (by omega) hc hm hP hS hl (fun H locs hP hS => latch σ2 hI2 H locs hP hS)
    by_cases h8 : (xs i &&& 31) = nI 8
    · obtain ⟨r, σ1, σ2, hc, hm, hI2⟩ := hok.2.2.2.2.2.2.2.2.1 σ (xs (i + 1)) hI
      refine lv_tableIn (pc := 32) (off := 378) (tgt := 410) C.1 C.2.1 (by decide +kernel) (by rw [h8]; decide) (by rw [h8]; decide) (by rw [h8]; decide) (by decide) ?_
      exact lc_8 hkc hks C hX hbS hbA hL (by omega) hc hm hP hS hl (fun H locs hP hS => latch σ2 hI2 H locs hP hS)
    by_cases h9 : (xs i &&& 31) = nI 9
    · obtain ⟨r, σ1, σ2, hc, hm, hI2⟩ := hok.2.2.2.2.2.2.2.2.2.1 σ (xs (i + 1)) (xs (i + 2)) hI
      refine lv_tableIn (pc := 32) (off := 401) (tgt := 433) C.1 C.2.1 (by decide +kernel) (by rw [h9]; decide) (by rw [h9]; decide) (by rw [h9]; decide) (by decide) ?_
      exact lc_9 hkc hks C hX hbS hbA hL (by omega) hc hm hP hS hl (fun H locs hP hS => latch σ2 hI2 H locs hP hS)
    by_cases h10 : (xs i &&& 31) = nI 10
    · obtain ⟨r, σ1, σ2, hc, hm, hI2⟩ := hok.2.2.2.2.2.2.2.2.2.2.1 σ (xs (i + 1)) (xs (i + 2)) hI
      refine lv_tableIn (pc := 32) (off := 434) (tgt := 466) C.1 C.2.1 (by decide +kernel) (by rw [h10]; decide) (by rw [h10]; decide) (by rw [h10]; decide) (by decide) ?_
      exact lc_10 hkc hks C hX hbS hbA hL (by omega) hc hm hP hS hl (fun H locs hP hS => latch σ2 hI2 H locs hP hS)
    by_cases h11 : (xs i &&& 31) = nI 11
    · obtain ⟨r, σ1, σ2, hc, hm, hI2⟩ := hok.2.2.2.2.2.2.2.2.2.2.2.1 σ (xs (i + 1)) (xs (i + 2)) hI
      refine lv_tableIn (pc := 32) (off := 467) (tgt := 499) C.1 C.2.1 (by decide +kernel) (by rw [h11]; decide) (by rw [h11]; decide) (by rw [h11]; decide) (by decide) ?_
      exact lc_11 hkc hks C hX hbS hbA hL (by omega) hc hm hP hS hl (fun H locs hP hS => latch σ2 hI2 H locs hP hS)
    by_cases h12 : (xs i &&& 31) = nI 12
    · obtain ⟨r, σ1, σ2, hc, hm, hI2⟩ := hok.2.2.2.2.2.2.2.2.2.2.2.2.1 σ (xs (i + 1)) (xs (i + 2)) hI
      refine lv_tableIn (pc := 32) (off := 500) (tgt := 532) C.1 C.2.1 (by decide +kernel) (by rw [h12]; decide) (by rw [h12]; decide) (by rw [h12]; decide) (by decide) ?_
      exact lc_12 hkc hks C hX hbS hbA hL (by omega) hc hm hP hS hl (fun H locs hP hS => latch σ2 hI2 H locs hP hS)
    by_cases h13 : (xs i &&& 31) = nI 13
    · obtain ⟨r, σ1, σ2, hc, hm, hI2⟩ := hok.2.2.2.2.2.2.2.2.2.2.2.2.2.1 σ (xs (i + 1)) (xs (i + 2)) (xs (i + 3)) hI
      refine lv_tableIn (pc := 32) (off := 533) (tgt := 565) C.1 C.2.1 (by decide +kernel) (by rw [h13]; decide) (by rw [h13]; decide) (by rw [h13]; decide) (by decide) ?_
      exact lc_13 hkc hks C hX hbS hbA hL (by omega) hc hm hP hS hl (fun H locs hP hS => latch σ2 hI2 H locs hP hS)
    by_cases h14 : (xs i &&& 31) = nI 14
    · obtain ⟨r, σ1, σ2, hc, hm, hI2⟩ := hok.2.2.2.2.2.2.2.2.2.2.2.2.2.2.1 σ (xs (i + 1)) (xs (i + 2)) hI
      refine lv_tableIn (pc := 32) (off := 576) (tgt := 608) C.1 C.2.1 (by decide +kernel) (by rw [h14]; decide) (by rw [h14]; decide) (by rw [h14]; decide) (by decide) ?_
      exact lc_14 hkc hks C hX hbS hbA hL (by omega) hc hm hP hS hl (fun H locs hP hS => latch σ2 hI2 H locs hP hS)
    by_cases h15 : (xs i &&& 31) = nI 15
    · obtain ⟨r, σ1, σ2, hc, hm, hI2⟩ := hok.2.2.2.2.2.2.2.2.2.2.2.2.2.2.2.1 σ (xs (i + 1)) hI
      refine lv_tableIn (pc := 32) (off := 609) (tgt := 641) C.1 C.2.1 (by decide +kernel) (by rw [h15]; decide) (by rw [h15]; decide) (by rw [h15]; decide) (by decide) ?_
      exact lc_15 hkc hks C hX hbS hbA hL (by omega) hc hm hP hS hl (fun H locs hP hS => latch σ2 hI2 H locs hP hS)
    by_cases h16 : (xs i &&& 31) = nI 16
    · obtain ⟨r, σ1, σ2, hc, hm, hI2⟩ := hok.2.2.2.2.2.2.2.2.2.2.2.2.2.2.2.2.1 σ (xs (i + 1)) hI
      refine lv_tableIn (pc := 32) (off := 632) (tgt := 664) C.1 C.2.1 (by decide +kernel) (by rw [h16]; decide) (by rw [h16]; decide) (by rw [h16]; decide) (by decide) ?_
      exact lc_16 hkc hks C hX hbS hbA hL (by omega) hc hm hP hS hl (fun H locs hP hS => latch σ2 hI2 H locs hP hS)
    by_cases h17 : (xs i &&& 31) = nI 17
    · obtain ⟨r, σ1, σ2, hc, hm, hI2⟩ := hok.2.2.2.2.2.2.2.2.2.2.2.2.2.2.2.2.2.1 σ (xs (i + 1)) hI
      refine lv_tableIn (pc := 32) (off := 655) (tgt := 687) C.1 C.2.1 (by decide +kernel) (by rw [h17]; decide) (by rw [h17]; decide) (by rw [h17]; decide) (by decide) ?_
      exact lc_17 hkc hks C hX hbS hbA hL (by omega) hc hm hP hS hl (fun H locs hP hS => latch σ2 hI2 H locs hP hS)
    by_cases h18 : (xs i &&& 31) = nI 18
    · obtain ⟨r, σ1, σ2, hc, hm, hI2⟩ := hok.2.2.2.2.2.2.2.2.2.2.2.2.2.2.2.2.2.2.1 σ hI
      refine lv_tableIn (pc := 32) (off := 678) (tgt := 710) C.1 C.2.1 (by decide +kernel) (by rw [h18]; decide) (by rw [h18]; decide) (by rw [h18]; decide) (by decide) ?_
      exact lc_18 hkc hks C hX hbS hbA hL (by omega) hc hm hP hS hl (fun H locs hP hS => latch σ2 hI2 H locs hP hS)
    by_cases h19 : (xs i &&& 31) = nI 19
    · obtain ⟨r, σ1, σ2, hc, hm, hI2⟩ := hok.2.2.2.2.2.2.2.2.2.2.2.2.2.2.2.2.2.2.2.1 σ (xs (i + 1)) (xs (i + 2)) hI
      refine lv_tableIn (pc := 32) (off := 691) (tgt := 723) C.1 C.2.1 (by decide +kernel) (by rw [h19]; decide) (by rw [h19]; decide) (by rw [h19]; decide) (by decide) ?_
      exact lc_19 hkc hks C hX hbS hbA hL (by omega) hc hm hP hS hl (fun H locs hP hS => latch σ2 hI2 H locs hP hS)
    by_cases h20 : (xs i &&& 31) = nI 20
    · obtain ⟨r, σ1, σ2, hc, hm, hI2⟩ := hok.2.2.2.2.2.2.2.2.2.2.2.2.2.2.2.2.2.2.2.2.1 σ (xs (i + 1)) (xs (i + 2)) hI
      refine lv_tableIn (pc := 32) (off := 724) (tgt := 756) C.1 C.2.1 (by decide +kernel) (by rw [h20]; decide) (by rw [h20]; decide) (by rw [h20]; decide) (by decide) ?_
      exact lc_20 hkc hks C hX hbS hbA hL (by omega) hc hm hP hS hl (fun H locs hP hS => latch σ2 hI2 H locs hP hS)
    by_cases h21 : (xs i &&& 31) = nI 21
    · obtain ⟨r, σ1, σ2, hc, hm, hI2⟩ := hok.2.2.2.2.2.2.2.2.2.2.2.2.2.2.2.2.2.2.2.2.2.1 σ (xs (i + 1)) hI
      refine lv_tableIn (pc := 32) (off := 757) (tgt := 789) C.1 C.2.1 (by decide +kernel) (by rw [h21]; decide) (by rw [h21]; decide) (by rw [h21]; decide) (by decide) ?_
      exact lc_21 hkc hks C hX hbS hbA hL (by omega) hc hm hP hS hl (fun H locs hP hS => latch σ2 hI2 H locs hP hS)
    by_cases h22 : (xs i &&& 31) = nI 22
    · obtain ⟨r, σ1, σ2, hc, hm, hI2⟩ := hok.2.2.2.2.2.2.2.2.2.2.2.2.2.2.2.2.2.2.2.2.2.2.1 σ hI
      refine lv_tableIn (pc := 32) (off := 780) (tgt := 812) C.1 C.2.1 (by decide +kernel) (by rw [h22]; decide) (by rw [h22]; decide) (by rw [h22]; decide) (by decide) ?_
      exact lc_22 hkc hks C hX hbS hbA hL (by omega) hc hm hP hS hl (fun H locs hP hS => latch σ2 hI2 H locs hP hS)
    by_cases h23 : (xs i &&& 31) = nI 23
    · obtain ⟨r, σ1, σ2, hc, hm, hI2⟩ := hok.2.2.2.2.2.2.2.2.2.2.2.2.2.2.2.2.2.2.2.2.2.2.2.1 σ hI
      refine lv_tableIn (pc := 32) (off := 793) (tgt := 825) C.1 C.2.1 (by decide +kernel) (by rw [h23]; decide) (by rw [h23]; decide) (by rw [h23]; decide) (by decide) ?_
      exact lc_23 hkc hks C hX hbS hbA hL (by omega) hc hm hP hS hl (fun H locs hP hS => latch σ2 hI2 H locs hP hS)
    by_cases h24 : (xs i &&& 31) = nI 24
    · obtain ⟨r, σ1, σ2, hc, hm, hI2⟩ := hok.2.2.2.2.2.2.2.2.2.2.2.2.2.2.2.2.2.2.2.2.2.2.2.2.1 σ hI
      refine lv_tableIn (pc := 32) (off := 806) (tgt := 838) C.1 C.2.1 (by decide +kernel) (by rw [h24]; decide) (by rw [h24]; decide) (by rw [h24]; decide) (by decide) ?_
      exact lc_24 hkc hks C hX hbS hbA hL (by omega) hc hm hP hS hl (fun H locs hP hS => latch σ2 hI2 H locs hP hS)
    by_cases h25 : (xs i &&& 31) = nI 25
    · obtain ⟨r, σ1, σ2, hc, hm, hI2⟩ := hok.2.2.2.2.2.2.2.2.2.2.2.2.2.2.2.2.2.2.2.2.2.2.2.2.2.1 σ (xs (i + 1)) hI
      refine lv_tableIn (pc := 32) (off := 819) (tgt := 851) C.1 C.2.1 (by decide +kernel) (by rw [h25]; decide) (by rw [h25]; decide) (by rw [h25]; decide) (by decide) ?_
      exact lc_25 hkc hks C hX hbS hbA hL (by omega) hc hm hP hS hl (fun H locs hP hS => latch σ2 hI2 H locs hP hS)
    by_cases h26 : (xs i &&& 31) = nI 26
    · obtain ⟨r, σ1, σ2, hc, hm, hI2⟩ := hok.2.2.2.2.2.2.2.2.2.2.2.2.2.2.2.2.2.2.2.2.2.2.2.2.2.2 σ hI
      refine lv_tableIn (pc := 32) (off := 842) (tgt := 874) C.1 C.2.1 (by decide +kernel) (by rw [h26]; decide) (by rw [h26]; decide) (by rw [h26]; decide) (by decide) ?_
      exact lc_26 hkc hks C hX hbS hbA hL (by omega) hc hm hP hS hl (fun H locs hP hS => latch σ2 hI2 H locs hP hS)
    refine lv_tableOut (pc := 32) (tgt := 888) C.1 C.2.1 (by decide +kernel) (x_ne27 (fun k hk => by
      have hk2 : k = 0 ∨ k = 1 ∨ k = 2 ∨ k = 3 ∨ k = 4 ∨ k = 5 ∨ k = 6 ∨ k = 7 ∨ k = 8 ∨ k = 9 ∨ k = 10 ∨ k = 11 ∨ k = 12 ∨ k = 13 ∨ k = 14 ∨ k = 15 ∨ k = 16 ∨ k = 17 ∨ k = 18 ∨ k = 19 ∨ k = 20 ∨ k = 21 ∨ k = 22 ∨ k = 23 ∨ k = 24 ∨ k = 25 ∨ k = 26 := by omega
      rcases hk2 with rfl | rfl | rfl | rfl | rfl | rfl | rfl | rfl | rfl | rfl | rfl | rfl | rfl | rfl | rfl | rfl | rfl | rfl | rfl | rfl | rfl | rfl | rfl | rfl | rfl | rfl | rfl <;> assumption)) (by decide) ?_
    exact latch σ hI H locs hP hS
theorem wq_0 : Cond.instantiable RX0 3 ∈ x_tb := x_mt (w := Cond.instantiable RX0 3) 278 (by decide +kernel) rfl
theorem wq_1 : Cond.instantiable RX1 6 ∈ x_tb := x_mt (w := Cond.instantiable RX1 6) 31 (by decide +kernel) rfl
theorem wq_2 : Cond.instantiable RX2 3 ∈ x_tb := x_mt (w := Cond.instantiable RX2 3) 262 (by decide +kernel) rfl
theorem wq_3 : Cond.instantiable RX3 3 ∈ x_tb := x_mt (w := Cond.instantiable RX3 3) 202 (by decide +kernel) rfl
theorem wq_4 : Cond.instantiable RX4 3 ∈ x_tb := x_mt (w := Cond.instantiable RX4 3) 222 (by decide +kernel) rfl
theorem wq_5 : Cond.instantiable RX5 5 ∈ x_tb := x_mt (w := Cond.instantiable RX5 5) 240 (by decide +kernel) rfl
theorem wq_6 : Cond.instantiable RX6 7 ∈ x_tb := x_mt (w := Cond.instantiable RX6 7) 294 (by decide +kernel) rfl
theorem wq_7 : Cond.instantiable RX7 5 ∈ x_tb := x_mt (w := Cond.instantiable RX7 5) 125 (by decide +kernel) rfl
theorem wq_8 : Cond.instantiable RX8 7 ∈ x_tb := x_mt (w := Cond.instantiable RX8 7) 72 (by decide +kernel) rfl
theorem wq_9 : Cond.instantiable RX9 7 ∈ x_tb := x_mt (w := Cond.instantiable RX9 7) 25 (by decide +kernel) rfl
theorem wq_10 : Cond.instantiable RX10 10 ∈ x_tb := x_mt (w := Cond.instantiable RX10 10) 17 (by decide +kernel) rfl
theorem wq_11 : Cond.instantiable RX11 17 ∈ x_tb := x_mt (w := Cond.instantiable RX11 17) 874 (by decide +kernel) rfl
theorem lw_kn {s : State} {args : Array Value} {C : String} {T : u_T} {N : Nat} (hts : ∀ w ∈ x_tb, w.before args s = true) (hw : ∀ w ∈ u_ws C T N, w ∈ x_tb) (hi : Cond.instantiable C N ∈ x_tb) : ∃ (cC : ClassId) (iS : Nat → Nat), u_Kn s C T N cC iS := u_known hts hw (hts _ hi)
theorem lw_K {s : State} {args : Array Value} (hts : ∀ w ∈ x_tb, w.before args s = true) (hO : va_AO "AnySites$State" s) : ∃ (D : va_G) (cI cS : ClassId), va_K D vwCl (x_tys cI cS) s := by
  have hall : ∀ q ∈ vwCl, ∃ (cC : ClassId) (iS : Nat → Nat), u_Kn s q.1 q.2.1 q.2.2 cC iS := List.forall_mem_cons.mpr ⟨lw_kn hts x_iw0 (wq_0), List.forall_mem_cons.mpr ⟨lw_kn hts x_iw1 (wq_1), List.forall_mem_cons.mpr ⟨lw_kn hts x_iw2 (wq_2), List.forall_mem_cons.mpr ⟨lw_kn hts x_iw3 (wq_3), List.forall_mem_cons.mpr ⟨lw_kn hts x_iw4 (wq_4), List.forall_mem_cons.mpr ⟨lw_kn hts x_iw5 (wq_5), List.forall_mem_cons.mpr ⟨lw_kn hts x_iw6 (wq_6), List.forall_mem_cons.mpr ⟨lw_kn hts x_iw7 (wq_7), List.forall_mem_cons.mpr ⟨lw_kn hts x_iw8 (wq_8), List.forall_mem_cons.mpr ⟨lw_kn hts x_iw9 (wq_9), List.forall_mem_cons.mpr ⟨lw_kn hts x_iw10 (wq_10), List.forall_mem_cons.mpr ⟨lw_kn hts x_iw11 (wq_11), fun _ h => absurd h List.not_mem_nil⟩⟩⟩⟩⟩⟩⟩⟩⟩⟩⟩⟩
  have h : ∀ k : Nat, ∃ x : ClassId × (Nat → Nat), ∀ q : vw_C, vwCl[k]? = some q → u_Kn s q.1 q.2.1 q.2.2 x.1 x.2 := by
    intro k
    cases hk : vwCl[k]? with
    | none => exact ⟨(0, fun _ => 0), fun q hq => by cases hq⟩
    | some q0 =>
      obtain ⟨cC, iS, h1⟩ := hall q0 (List.mem_of_getElem? hk)
      exact ⟨(cC, iS), fun q hq => by cases hq; exact h1⟩
  obtain ⟨cI, kI, compI, a1, a2, a3⟩ := Cond.arrayClass_spec (hts _ wArr)
  obtain ⟨compS, cS, kS, b1, b2, b3, b4, b5⟩ := Cond.arrayOver_spec hO
  refine ⟨(fun k => (Classical.choose (h k)).1, fun k => (Classical.choose (h k)).2), cI, cS, fun k q hq => Classical.choose_spec (h k) q hq, fun k q hq => ?_⟩
  match k, hq with
  | 0, hq =>
    cases hq
    exact ⟨fun n z => ⟨fun k h => (by cases h), kI, a2, compI, a3⟩, a1⟩
  | 1, hq =>
    cases hq
    exact ⟨fun n z => ⟨fun k h => (by cases h), kS, b3, compS, b4⟩, kS, compS, b3, b4, b1, b5⟩
  | k + 2, hq => simp [x_tys] at hq
theorem lw_es : ([] ++ gP_X10_init 0) ++ gP_X11_init 141 = x_shl.map g_ofk := by decide +kernel
set_option maxHeartbeats 4000000 in
set_option maxRecDepth 100000 in
theorem whole_of {Inv : xM → Prop} (h0 : Inv xM0) (hok : lw_OK Inv) {p : Program} {e : Env} {s : State} {m : MethodId} {below : List Frame} {meth : Method} {c : Code} (l : Launch) {b L : Nat} {xs : Nat → Int32} (hL : L ≤ 2048) (C0 : lw_At p s m meth c b L xs) : W p l e room_1 s m #[Value.ref b] below meth c s.heap [] 0 0 (lw_Z below #[Value.ref b] s) (entryFrame m ([Value.ref b] : List Value).toArray 4) := by
  obtain ⟨hx, hb, hr, hml, hown, hts, hX, hbl, hlocks, hgv⟩ := id C0
  have hts2 : ∀ w ∈ x_tb, w.before #[Value.ref b] s = true := fun w hw => hts w (x_tb_lw hw)
  have hN : x_N s := List.forall_mem_cons.mpr ⟨va_Nw.of rfl (hts _ (List.mem_append_right _ (List.mem_of_getElem? (i := 26) (by decide +kernel)))), List.forall_mem_cons.mpr ⟨va_Nw.of rfl (hts _ (List.mem_append_right _ (List.mem_of_getElem? (i := 32) (by decide +kernel)))), List.forall_mem_cons.mpr ⟨va_Nw.of rfl (hts _ (List.mem_append_right _ (List.mem_of_getElem? (i := 73) (by decide +kernel)))), List.forall_mem_cons.mpr ⟨va_Nw.of rfl (hts _ (List.mem_append_right _ (List.mem_of_getElem? (i := 126) (by decide +kernel)))), List.forall_mem_cons.mpr ⟨va_Nw.of rfl (hts _ (List.mem_append_right _ (List.mem_of_getElem? (i := 209) (by decide +kernel)))), List.forall_mem_cons.mpr ⟨va_Nw.of rfl (hts _ (List.mem_append_right _ (List.mem_of_getElem? (i := 295) (by decide +kernel)))), List.forall_mem_cons.mpr ⟨va_Nw.of rfl (hts _ (List.mem_append_right _ (List.mem_of_getElem? (i := 395) (by decide +kernel)))), List.forall_mem_cons.mpr ⟨va_Nw.of rfl (hts _ (List.mem_append_right _ (List.mem_of_getElem? (i := 445) (by decide +kernel)))), List.forall_mem_cons.mpr ⟨va_Nw.of rfl (hts _ (List.mem_append_right _ (List.mem_of_getElem? (i := 510) (by decide +kernel)))), List.forall_mem_cons.mpr ⟨va_Nw.of rfl (hts _ (List.mem_append_right _ (List.mem_of_getElem? (i := 648) (by decide +kernel)))), List.forall_mem_cons.mpr ⟨va_Nw.of rfl (hts _ (List.mem_append_right _ (List.mem_of_getElem? (i := 816) (by decide +kernel)))), fun _ h => absurd h List.not_mem_nil⟩⟩⟩⟩⟩⟩⟩⟩⟩⟩⟩
  have hO : va_AO "AnySites$State" s := va_AO.of (hts _ (List.mem_append_right _ (List.mem_of_getElem? (i := 208) (by decide +kernel))))
  obtain ⟨D, cI, cS, hK⟩ := lw_K hts2 hO
  have C : gCx p s m #[Value.ref b] c D cI cS R_law code 4 s.heap.size := ⟨hx, hb, hml, hown, hts2, hK, hN, hO, Nat.le_refl _⟩
  have hS : va_S (gA s.heap.size) s.heap s.heap [] := va_S.rf
  have hP : va_P D vwCl (gW s.heap.size cI cS []) s.heap := fun k q h => by simp [gW] at h
  have hl := lv_entry ([.ref b]) (n := 4) (Nat.le_of_ble_eq_true rfl)
  rw [lg_entry_eq]
  generalize (lg_sl ([.ref b]) ++ List.replicate (4 - (lg_sl ([.ref b])).length) Slot.unset).toArray = ls at hl ⊢
  have hl : lv_has ls 4 [(0, .ref b)] := hl
  refine lw_new (pc := 0) (es := []) (fs := [some none, some none, some none, some none, some none, some none, some none, none, none, none]) C (x_mt (w := Cond.classLink R_law 7 RX10) 16 (by decide +kernel) rfl) (x_mt (w := Cond.instantiable RX10 10) 17 (by decide +kernel) rfl) (x_mt (w := Cond.initialized RX10) 1 (by decide +kernel) rfl) x_iw10 tyX10 tyX10_ok (ci := 10) rfl (by decide) (by decide) (Nat.le_of_ble_eq_true rfl) (Nat.le_of_ble_eq_true rfl) (by decide +kernel) rfl hP hS (fun H hz hP hS => ?_)
  refine lv_dup (va := .ref (s.heap.size + 0)) hx hb (by decide +kernel) rfl ?_
  refine lw_ci (a := 0) (es := [] ++ [.inl (10, [some none, some none, some none, some none, some none, some none, some none, none, none, none])]) (es' := [] ++ gP_X10_init 0) C (x_mt (w := Cond.methodLink R_law 9 yX10_init) 18 (by decide +kernel) rfl) (x_mt (w := Cond.instanceMethod yX10_init) 19 (by decide +kernel) rfl) (x_mt (w := Cond.initialized RX10) 1 (by decide +kernel) rfl) (x_mt (w := Cond.code yX10_init cX10_init 1 none) 20 (by decide +kernel) rfl) rfl ⟨by decide +kernel, by decide +kernel, by decide +kernel⟩ ⟨Nat.le_of_ble_eq_true rfl, Nat.le_of_ble_eq_true rfl⟩ rfl rfl ⟨Nat.le_of_ble_eq_true rfl, Nat.le_of_ble_eq_true rfl⟩ (Nat.le_of_ble_eq_true rfl) hl.1 (k_X10_init l D cI cS s.heap.size [] 0 rfl) (by decide +kernel) hz hP hS (fun H locs hz hP hS => ?_)
  refine lv_astore_n (lv' := [(1, .ref (s.heap.size + 0)), (0, .ref b)]) hx hb (show decode code 7 = .ok (.astore_n 1, 1) by decide +kernel) rfl hl (by decide) rfl (fun ls hl => ?_)
  refine lw_new (es := [] ++ gP_X10_init 0) (fs := [some none, some none, some none, none, some none, some none, some none, some none, some none, some none, some none, some none, some none, none, none, some none, none]) C (x_mt (w := Cond.classLink R_law 10 RX11) 873 (by decide +kernel) rfl) (x_mt (w := Cond.instantiable RX11 17) 874 (by decide +kernel) rfl) (x_mt (w := Cond.initialized RX11) 12 (by decide +kernel) rfl) x_iw11 tyX11 tyX11_ok (ci := 11) rfl (by decide) (by decide) (Nat.le_of_ble_eq_true rfl) (Nat.le_of_ble_eq_true rfl) (by decide +kernel) hz hP hS (fun H hz hP hS => ?_)
  refine lv_dup (va := .ref (s.heap.size + 141)) hx hb (by decide +kernel) rfl ?_
  refine lw_ci (a := 141) (es := ([] ++ gP_X10_init 0) ++ [.inl (11, [some none, some none, some none, none, some none, some none, some none, some none, some none, some none, some none, some none, some none, none, none, some none, none])]) (es' := ([] ++ gP_X10_init 0) ++ gP_X11_init 141) C (x_mt (w := Cond.methodLink R_law 12 yX11_init) 875 (by decide +kernel) rfl) (x_mt (w := Cond.instanceMethod yX11_init) 876 (by decide +kernel) rfl) (x_mt (w := Cond.initialized RX11) 12 (by decide +kernel) rfl) (x_mt (w := Cond.code yX11_init cX11_init 1 none) 877 (by decide +kernel) rfl) rfl ⟨by decide +kernel, by decide +kernel, by decide +kernel⟩ ⟨Nat.le_of_ble_eq_true rfl, Nat.le_of_ble_eq_true rfl⟩ rfl rfl ⟨Nat.le_of_ble_eq_true rfl, Nat.le_of_ble_eq_true rfl⟩ (Nat.le_of_ble_eq_true rfl) hl.1 (k_X11_init l D cI cS s.heap.size ([] ++ gP_X10_init 0) 141 rfl) (by decide +kernel) hz hP hS (fun H locs hz hP hS => ?_)
  rw [gW_x lw_es] at hP
  refine lv_astore_n (lv' := [(2, .ref (s.heap.size + 141)), (1, .ref (s.heap.size + 0)), (0, .ref b)]) hx hb (show decode code 15 = .ok (.astore_n 2, 1) by decide +kernel) rfl hl (by decide) rfl (fun ls hl => ?_)
  refine lv_iconst (v := 0) hx hb (show decode code 16 = .ok (.iconst 0, 1) by decide +kernel) (by decide) ?_
  refine lv_istore_n (lv' := [(3, .int 0), (2, .ref (s.heap.size + 141)), (1, .ref (s.heap.size + 0)), (0, .ref b)]) hx hb (show decode code 17 = .ok (.istore_n 3, 1) by decide +kernel) rfl hl (by decide) rfl (fun ls hl => ?_)
  exact law_loop hok (Nat.le_of_ble_eq_true rfl) (Nat.le_of_ble_eq_true rfl) C hr hlocks hX hbl rfl hL (L + 4) 0 (by omega) xM0 h0 H locs ls hP hS (by omega) (lv_sub hl [3, 2, 1, 0] rfl)
