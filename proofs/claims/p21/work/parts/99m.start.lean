/-! what the tables give at the start -/
theorem st_int {s : State} {args : Array Value} (h : (Cond.arrayClass .int).before args s = true) : ∃ cA, ArrOfT s cA .int ∧ va_RA s cA .int := by
  obtain ⟨c, k, comp, h1, h2, h3⟩ := Cond.arrayClass_spec h
  exact ⟨c, fun n z => ⟨fun k h => (by cases h), k, h2, comp, h3⟩, h1⟩
theorem st_obj {C : String} {s : State} (h : va_AO C s) : ∃ cA, ArrOfT s cA (.object C) ∧ va_RA s cA (.object C) := by
  obtain ⟨comp, c, k, h1, h2, h3, h4, h5⟩ := Cond.arrayOver_spec h
  exact ⟨c, fun n z => ⟨fun k h => (by cases h), k, h3, comp, h4⟩, k, comp, h3, h4, h1, h5⟩
theorem st_str {own tx : String} {k : Nat} {s : State} {args : Array Value} (h : (Cond.stringRef own k tx).before args s = true) : ∃ a, vk_R own k tx a s := by
  have hcur : ∃ cur, s.vm.findClass own = some cur := by
    have h1 := h
    simp only [Cond.before, Cond.holds, Cond.value] at h1
    cases hc : s.vm.findClass own with
    | none => simp [hc] at h1
    | some cur => exact ⟨cur, rfl⟩
  obtain ⟨cur, hcur⟩ := hcur
  obtain ⟨k1, cf, i, a, q1, q2, q3, q4, q5, hev⟩ := Cond.stringRef_spec hcur h
  exact ⟨a, vk_R.of h hev⟩
def stWs : List Cond := [.castable xIO xIO, .castable xIA xIA, .castable xIS xIS, .laysStatic Bundle.tN "UNASSIGNED_STACK" Bundle.steD, .laysStatic Bundle.tN "SUPPRESSED_SENTINEL" Bundle.listD, .initialized Bundle.tN, .arrayClass .int, .arrayClass .int, .arrayClass .int, .arrayOver (.object RX4), .arrayOver (.object RX0), .arrayOver (.object RX1), .instantiable RX0 9, .instantiable RX1 3, .instantiable RX2 2, .instantiable RX3 2, .instantiable RX4 6, .instantiable RX5 3, .instantiable RX6 5, .instantiable RX7 10]
set_option maxRecDepth 20000 in
theorem stWs_in : ∀ w ∈ stWs, w ∈ lw_tbl := by decide +kernel
set_option maxRecDepth 20000 in
theorem stStr_in : ∀ q ∈ strT, Cond.stringRef RX7 q.1 q.2 ∈ lw_tbl := by decide +kernel
set_option maxRecDepth 20000 in
theorem stDs_in : ∀ n ∈ xDs, Cond.declares (Bundle.initS n) ∈ lw_tbl := by decide +kernel
theorem st_TF {l : Launch} (hflags : l.flags = flags0) {D : va_G} {c : Nat → ClassId} {A : Nat → Prop} {s : State} {args : Array Value} (hts : ∀ w ∈ lw_tbl, w.before args s = true) (hgv : (Jvm.Cond.and given_1 narrow_1).before args s = true) (hA : ∀ a : Nat, a < s.heap.size → ¬ A a) : x_TF (l, D, c, A) s s.heap := by
  have hs := flat_of_before _ hgv
  have hw : ∀ w ∈ stWs, w.before args s = true := fun w h => hts w (stWs_in w h)
  refine ⟨?_, ⟨va_Nw.of rfl (hw _ (List.mem_of_getElem? (i := 0) rfl)), va_Nw.of rfl (hw _ (List.mem_of_getElem? (i := 1) rfl)), va_Nw.of rfl (hw _ (List.mem_of_getElem? (i := 2) rfl))⟩, ⟨va_Nc.of (hs _ (by decide +kernel)), va_Nc.of (hs _ (by decide +kernel)), va_Nc.of (hs _ (by decide +kernel)), va_Nc.of (hs _ (by decide +kernel)), va_Nc.of (hs _ (by decide +kernel)), va_Nc.of (hs _ (by decide +kernel))⟩, ⟨fun q hq => st_str (hts _ (stStr_in q hq)), fun n hn => va_Nw.of rfl (hts _ (stDs_in n hn))⟩, vx_Zqof (hw _ (List.mem_of_getElem? (i := 3) rfl)) (hw _ (List.mem_of_getElem? (i := 5) rfl)) (hs _ (by decide +kernel)) hA, vx_Zqof (hw _ (List.mem_of_getElem? (i := 4) rfl)) (hw _ (List.mem_of_getElem? (i := 5) rfl)) (hs _ (by decide +kernel)) hA⟩
  show l.stackTraces = false
  unfold Launch.stackTraces
  rw [hflags]
  decide +kernel
theorem st_K {s : State} {args : Array Value} (hts : ∀ w ∈ lw_tbl, w.before args s = true) : ∃ (D : va_G) (c : Nat → ClassId), va_K D vwCl (x_T c) s ∧ x_AO s := by
  have hw : ∀ w ∈ stWs, w.before args s = true := fun w h => hts w (stWs_in w h)
  obtain ⟨c0, i0, k0⟩ := u_known (C := RX0) (T := TX0) (N := 9) (n := 9) hts inX0 (hw _ (List.mem_of_getElem? (i := 12) rfl))
  obtain ⟨c1, i1, k1⟩ := u_known (C := RX1) (T := TX1) (N := 3) (n := 3) hts inX1 (hw _ (List.mem_of_getElem? (i := 13) rfl))
  obtain ⟨c2, i2, k2⟩ := u_known (C := RX2) (T := TX2) (N := 2) (n := 2) hts inX2 (hw _ (List.mem_of_getElem? (i := 14) rfl))
  obtain ⟨c3, i3, k3⟩ := u_known (C := RX3) (T := TX3) (N := 2) (n := 2) hts inX3 (hw _ (List.mem_of_getElem? (i := 15) rfl))
  obtain ⟨c4, i4, k4⟩ := u_known (C := RX4) (T := TX4) (N := 6) (n := 6) hts inX4 (hw _ (List.mem_of_getElem? (i := 16) rfl))
  obtain ⟨c5, i5, k5⟩ := u_known (C := RX5) (T := TX5) (N := 3) (n := 3) hts inX5 (hw _ (List.mem_of_getElem? (i := 17) rfl))
  obtain ⟨c6, i6, k6⟩ := u_known (C := RX6) (T := TX6) (N := 5) (n := 5) hts inX6 (hw _ (List.mem_of_getElem? (i := 18) rfl))
  obtain ⟨c7, i7, k7⟩ := u_known (C := RX7) (T := TX7) (N := 10) (n := 10) hts inX7 (hw _ (List.mem_of_getElem? (i := 19) rfl))
  obtain ⟨a0, hi⟩ := st_int (hw _ (List.mem_of_getElem? (i := 6) rfl))
  have o4 : va_AO RX4 s := va_AO.of (hw _ (List.mem_of_getElem? (i := 9) rfl))
  have o0 : va_AO RX0 s := va_AO.of (hw _ (List.mem_of_getElem? (i := 10) rfl))
  have o1 : va_AO RX1 s := va_AO.of (hw _ (List.mem_of_getElem? (i := 11) rfl))
  obtain ⟨a3, h4⟩ := st_obj o4
  obtain ⟨a4, h0⟩ := st_obj o0
  obtain ⟨a5, h1⟩ := st_obj o1
  refine ⟨(fun k => [c0, c1, c2, c3, c4, c5, c6, c7].getD k c0, fun k => [i0, i1, i2, i3, i4, i5, i6, i7].getD k i0), fun k => [a0, a0, a0, a3, a4, a5].getD k a0, ⟨fun k q hq => ?_, fun k q hq => ?_⟩, o4, o0, o1⟩
  · match k, hq with
    | 0, hq => cases hq; exact k0
    | 1, hq => cases hq; exact k1
    | 2, hq => cases hq; exact k2
    | 3, hq => cases hq; exact k3
    | 4, hq => cases hq; exact k4
    | 5, hq => cases hq; exact k5
    | 6, hq => cases hq; exact k6
    | 7, hq => cases hq; exact k7
    | k + 8, hq => simp [vwCl] at hq
  · match k, hq with
    | 0, hq => cases hq; exact hi
    | 1, hq => cases hq; exact hi
    | 2, hq => cases hq; exact hi
    | 3, hq => cases hq; exact h4
    | 4, hq => cases hq; exact h0
    | 5, hq => cases hq; exact h1
    | k + 6, hq => simp [x_T] at hq
