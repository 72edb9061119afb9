/-! two heap maps side by side, and calls whose cells are one of them -/
def jn (h1 h2 : HM) : HM := fun q => match h1 q with | some e => some e | none => h2 q
def dj (h1 h2 : HM) : Prop := ∀ (q : Nat) (e : va_E), h1 q = some e → h2 q = none
theorem jn_l {h1 h2 : HM} {q : Nat} {e : va_E} (h : h1 q = some e) : jn h1 h2 q = some e := by unfold jn; rw [h]
theorem jn_n {h1 h2 : HM} {q : Nat} (h : h1 q = none) : jn h1 h2 q = h2 q := by unfold jn; rw [h]
theorem dj.n {h1 h2 : HM} (d : dj h1 h2) {q : Nat} {e : va_E} (h : h2 q = some e) : h1 q = none := by
  cases z : h1 q with
  | none => rfl
  | some e' => rw [d q e' z] at h; cases h
theorem dj.symm {h1 h2 : HM} (d : dj h1 h2) : dj h2 h1 := fun _ _ h => d.n h
theorem jn_r {h1 h2 : HM} (d : dj h1 h2) {q : Nat} {e : va_E} (h : h2 q = some e) : jn h1 h2 q = some e := by rw [jn_n (d.n h)]; exact h
theorem jn_comm {h1 h2 : HM} (d : dj h1 h2) : jn h1 h2 = jn h2 h1 := by
  funext q
  cases z : h1 q with
  | none =>
    rw [jn_n z]
    cases z2 : h2 q with
    | none => rw [jn_n z2, z]
    | some e => rw [jn_l z2]
  | some e => rw [jn_l z, jn_n (d q e z), z]
theorem jn_none {h1 h2 : HM} {q : Nat} : jn h1 h2 q = none ↔ h1 q = none ∧ h2 q = none := by
  cases z : h1 q with
  | none => rw [jn_n z]; simp
  | some e => rw [jn_l z]; simp
theorem jn_up {h1 h2 : HM} {q : Nat} {e : va_E} : x_up (jn h1 h2) q e = jn (x_up h1 q e) h2 := by
  funext a
  by_cases c : a = q
  · subst c
    rw [x_up_eq, jn_l (x_up_eq _ _ _)]
  · rw [x_up_ne c]
    cases z : h1 a with
    | none => rw [jn_n z, jn_n (by rw [x_up_ne c]; exact z)]
    | some e' => rw [jn_l z, jn_l (by rw [x_up_ne c]; exact z)]
theorem dj.up {h1 h2 : HM} {q : Nat} {e : va_E} (d : dj h1 h2) (h : h2 q = none) : dj (x_up h1 q e) h2 := fun a e' ha => by
  by_cases c : a = q
  · rw [c]; exact h
  · rw [x_up_ne c] at ha
    exact d a e' ha
def emp : HM := fun _ => none
theorem jn_e (h : HM) : jn h emp = h := by
  funext q
  cases z : h q with
  | none => rw [jn_n z]; rfl
  | some e => rw [jn_l z]
theorem dj_e (h : HM) : dj h emp := fun _ _ _ => rfl
theorem jn_assoc (a b c : HM) : jn (jn a b) c = jn a (jn b c) := by
  funext q
  cases z : a q with
  | none => 
    rw [jn_n z]
    cases z2 : b q with
    | none => rw [jn_n (jn_none.mpr ⟨z, z2⟩), jn_n z2]
    | some e => rw [jn_l z2, jn_l (by rw [jn_n z]; exact z2)]
  | some e => rw [jn_l z, jn_l (jn_l z)]
theorem dj_jl {a b c : HM} : dj (jn a b) c ↔ dj a c ∧ dj b c ∨ (∀ (q : Nat) (e : va_E), jn a b q = some e → c q = none) := ⟨fun h => Or.inr h, fun h => h.elim (fun ⟨x, y⟩ q e hq => by
  cases z : a q with
  | none => rw [jn_n z] at hq; exact y q e hq
  | some e' => exact x q e' z) id⟩
theorem dj_j {a b c : HM} (x : dj a c) (y : dj b c) : dj (jn a b) c := dj_jl.mpr (Or.inl ⟨x, y⟩)
theorem dj_l {a b c : HM} (h : dj (jn a b) c) : dj a c := fun q e hq => h q e (jn_l hq)
theorem dj_r {a b c : HM} (d : dj a b) (h : dj (jn a b) c) : dj b c := fun q e hq => h q e (jn_r d hq)
/-- the cells of a map, and all that is to come -/
def rgn (h1 : HM) (sz : Nat) : Nat → Prop := fun q => (∃ e, h1 q = some e) ∨ sz ≤ q
abbrev reG (G : XG) (A : Nat → Prop) : XG := (g_l G, g_D G, g_c G, A)
theorem rgn_A {G : XG} {h1 h2 : HM} {H H0 : Heap} {locs : List Loc} (hH : x_H G (jn h1 h2) H) (hS : va_S (g_A G) H0 H locs) (hA : ∀ q, H0.size ≤ q → g_A G q) : ∀ q, rgn h1 H.size q → g_A G q := fun q h => by
  rcases h with ⟨e, h⟩ | h
  · exact (hH q e (jn_l h)).2
  · exact hA q (Nat.le_trans hS.1 h)
theorem x_H.part {G : XG} {h1 h2 : HM} {H : Heap} (hH : x_H G (jn h1 h2) H) : x_H (reG G (rgn h1 H.size)) h1 H := fun q e hq => ⟨(hH q e (jn_l hq)).1, Or.inl ⟨e, hq⟩⟩
theorem x_H.join {G : XG} {h1 h1' h2 : HM} {H H' : Heap} (hH : x_H G (jn h1 h2) H) (hd : dj h1 h2) (hR : ∀ q, rgn h1 H.size q → g_A G q) (hH' : x_H (reG G (rgn h1 H.size)) h1' H') (hk : ∀ q : Nat, q < H.size → ¬ rgn h1 H.size q → H'[q]? = H[q]?) : dj h1' h2 ∧ x_H G (jn h1' h2) H' := by
  have hdj : dj h1' h2 := fun q e hq => by
    rcases (hH' q e hq).2 with ⟨e0, h⟩ | h
    · exact hd q e0 h
    · cases z : h2 q with
      | none => rfl
      | some e2 => exact absurd (hH q e2 (jn_r hd z)).1.lt (Nat.not_lt.mpr h)
  refine ⟨hdj, fun q e hq => ?_⟩
  cases z : h1' q with
  | some e' =>
    rw [jn_l z] at hq
    cases hq
    exact ⟨(hH' q e z).1, hR q (hH' q e z).2⟩
  | none =>
    rw [jn_n z] at hq
    have h0 := hH q e (jn_r hd hq)
    refine ⟨h0.1.kept (hk q h0.1.lt (fun r => ?_)), h0.2⟩
    rcases r with ⟨e0, h⟩ | h
    · rw [hd q e0 h] at hq; cases hq
    · exact absurd h0.1.lt (Nat.not_lt.mpr h)
theorem x_TF.narrow {G : XG} {A : Nat → Prop} {s : State} {H : Heap} (h : x_TF G s H) (hA : ∀ q, A q → g_A G q) : x_TF (reG G A) s H := ⟨h.1, h.2.1, h.2.2.1, h.2.2.2.1, h.2.2.2.2.1.narrow hA, h.2.2.2.2.2.narrow hA⟩
/-- thrown at pc: what goes on from there -/
def z_X (G : XG) (F : XF) (Q : State → Prop) (k n : Nat) (h : HM) (pc : Nat) (L : List (Option Value)) (E : String) : Prop :=
  ∀ (H : Heap) (locs : List Loc) (ls : Array Slot) (q : Nat) (ce : Cell) (rest : List Value), x_H G h H → va_S (g_A G) (f_s F).heap H locs → x_loc ls L → H[q]? = some ce → ce.vm = .none → (f_s F).vm.findClass E = some ce.cls → vx_W (f_p F) (g_l G) (f_e F) (f_R F) (f_s F) (f_m F) (f_a F) (f_b F) (f_t F) (f_c F) H locs k n Q (F0 (f_m F) pc ls rest) q
section Z1
variable {G : XG} {F : XF} {cc : ByteArray} {own : String} {Ts : List Cond} {nL : Nat} {ret : Option FieldType} {rm : Room} {Q : State → Prop} {a b : Nat} {h h1 h2 : HM} {pc : Nat} {L L' : List (Option Value)} {st st2 : List Value} {post : Option Value → HM → Prop} {thr : String → Prop} {mc ms : Nat}
theorem z_pre {As : List Value} (hE : x_E G F cc own Ts nL ret rm) {H : Heap} {locs : List Loc} (hH : x_H G (jn h1 h2) H) : PreS (f_s F) H (x_Pc (reG G (rgn h1 H.size)) As h1) As :=
  ⟨fun a U g mk q => ⟨q.1, q.2.1, ⟨va_K.moved (u := U) (U := U.calling g mk a) (Vm.Alike.refl U.vm) q.2.2.1.1, x_AO.moved (u := U) (U := U.calling g mk a) (Vm.Alike.refl U.vm) q.2.2.1.2⟩, q.2.2.2⟩, fun U hU hW => ⟨rfl, by rw [hU]; exact hH.part, ⟨va_K.moved hW.alike hE.2.2.2.2.2.1, hE.2.2.2.2.2.2.1.2.moved hW.alike⟩, fun q hq => Or.inr (by rw [hU] at hq; exact hq)⟩⟩
theorem z_preT {As : List Value} (hE : x_E G F cc own Ts nL ret rm) (hT : x_TF G (f_s F) (f_s F).heap) {H : Heap} {locs : List Loc} (hH : x_H G (jn h1 h2) H) (hS : va_S (g_A G) (f_s F).heap H locs) : PreS (f_s F) H (y_Pc (reG G (rgn h1 H.size)) As h1) As := by
  have hp := z_pre (h2 := h2) (As := As) hE (locs := locs) hH
  have hT2 : x_TF (reG G (rgn h1 H.size)) (f_s F) H := (hT.kept hS.2.1).narrow (rgn_A hH hS hE.2.2.2.2.2.2.2.2.2)
  exact ⟨fun a U g mk q => ⟨hp.1 a U g mk q.1, q.2.same rfl⟩, fun U hU hW => ⟨hp.2 U hU hW, by rw [hU]; exact hT2.warm hW⟩⟩
/-- behind a call on one of two maps -/
theorem z_back (hE : x_E G F cc own Ts nL ret rm) (hd : dj h1 h2)
    (hr : ∀ (H : Heap) (locs : List Loc) (ls : Array Slot), x_H G (jn h1 h2) H → va_S (g_A G) (f_s F).heap H locs → x_loc ls L → va_Run (f_p F) (g_l G) (f_e F) (f_R F) (f_s F) (f_m F) (f_a F) (f_b F) (f_t F) (f_c F) H locs a b mc ms (F0 (f_m F) pc ls st2) st (x_Qc (reG G (rgn h1 H.size)) post (f_a F)) (rgn h1 H.size))
    (kk : ∀ (v : Option Value) (h' : HM), post v h' → dj h' h2 → x_W G F Q (a + mc) (b + ms) (jn h' h2) (pc + 3) L (v.toList ++ st)) : x_W G F Q a b (jn h1 h2) pc L st2 := by
  intro H locs ls hH hS hL T hT X
  have hR := rgn_A hH hS hE.2.2.2.2.2.2.2.2.2
  obtain ⟨v, st₀, t, T', L1, h0, X', hL1, e1, e2, ⟨v', h', hv, hp, hH', hz, hk⟩, stp⟩ := hr H locs ls hH hS hL T hT X
  cases hv
  rw [h0] at hz hk
  obtain ⟨d', hJ⟩ := hH.join hd hR (h1' := h') (H' := T'.heap) (by rw [e1]; exact hH') (fun q a1 a2 => by rw [e1]; exact hk q a1 a2)
  obtain ⟨t2, a1, b1⟩ := kk v h' hp d' T'.heap (locs ++ L1) ls hJ ⟨Nat.le_trans hS.1 (by rw [e1]; exact hz), fun q q1 q2 => by rw [e1, hk q (Nat.lt_of_lt_of_le q1 hS.1) (fun r => q2 (hR q r))]; exact hS.2.1 q q1 q2, fun q hq => by
      rcases List.mem_append.mp hq with z | z
      · exact hS.2.2 q z
      · exact hR _ (hL1 q z)⟩ hL T' rfl X'
  exact ⟨t2, stp t2 a1, b1⟩
theorem z_yback (hE : x_E G F cc own Ts nL ret rm) (hd : dj h1 h2)
    (hr : ∀ (H : Heap) (locs : List Loc) (ls : Array Slot), x_H G (jn h1 h2) H → va_S (g_A G) (f_s F).heap H locs → x_loc ls L → vx_Run (f_p F) (g_l G) (f_e F) (f_R F) (f_s F) (f_m F) (f_a F) (f_b F) (f_t F) (f_c F) H locs a b mc ms (F0 (f_m F) pc ls st2) st (x_Qc (reG G (rgn h1 H.size)) post (f_a F)) (y_XC (reG G (rgn h1 H.size)) thr h1) (rgn h1 H.size))
    (kk : ∀ (v : Option Value) (h' : HM), post v h' → dj h' h2 → x_W G F Q (a + mc) (b + ms) (jn h' h2) (pc + 3) L (v.toList ++ st))
    (kx : ∀ E, thr E → z_X G F Q (a + mc) (b + ms) (jn h1 h2) pc L E) : x_W G F Q a b (jn h1 h2) pc L st2 := by
  intro H locs ls hH hS hL T hT X
  have hR := rgn_A hH hS hE.2.2.2.2.2.2.2.2.2
  have hS2 : ∀ (t T' : State) (L1 : List Loc), T'.heap = t.heap → H.size ≤ t.heap.size → (∀ q : Nat, q < H.size → ¬ rgn h1 H.size q → t.heap[q]? = H[q]?) → (∀ q ∈ L1, rgn h1 H.size q.base) → va_S (g_A G) (f_s F).heap T'.heap (locs ++ L1) := fun t T' L1 e1 hz hk hL1 => ⟨Nat.le_trans hS.1 (by rw [e1]; exact hz), fun q q1 q2 => by rw [e1, hk q (Nat.lt_of_lt_of_le q1 hS.1) (fun r => q2 (hR q r))]; exact hS.2.1 q q1 q2, fun q hq => by
      rcases List.mem_append.mp hq with z | z
      · exact hS.2.2 q z
      · exact hR _ (hL1 q z)⟩
  rcases hr H locs ls hH hS hL T hT X with ⟨v, st₀, t, T', L1, h0, X', hL1, e1, e2, ⟨v', h', hv, hp, hH', hz, hk⟩, stp⟩ | ⟨q9, st₀, t, T', L1, E, ce, h0, X', hL1, e1, e2, ⟨ht, hH', hz, hk⟩, hce, hcv, hcl, stp⟩
  · cases hv
    rw [h0] at hz hk
    obtain ⟨d', hJ⟩ := hH.join hd hR (h1' := h') (H' := T'.heap) (by rw [e1]; exact hH') (fun q a1 a2 => by rw [e1]; exact hk q a1 a2)
    obtain ⟨t2, a1, b1⟩ := kk v h' hp d' T'.heap (locs ++ L1) ls hJ (hS2 t T' L1 e1 hz hk hL1) hL T' rfl X'
    exact ⟨t2, stp t2 a1, b1⟩
  · rw [h0] at hz hk
    obtain ⟨d', hJ⟩ := hH.join hd hR (h1' := h1) (H' := T'.heap) (by rw [e1]; exact hH') (fun q a1 a2 => by rw [e1]; exact hk q a1 a2)
    obtain ⟨t2, a1, b1⟩ := kx E ht T'.heap (locs ++ L1) ls q9 ce st hJ (hS2 t T' L1 e1 hz hk hL1) hL (by rw [e1]; exact hce) hcv hcl T' rfl X'
    exact ⟨t2, stp.trans a1, b1⟩
theorem z_callV (hE : x_E G F cc own Ts nL ret rm) {y : MethodName} {C : String} {bytes : ByteArray} {maxL index q ci : Nat} {ret' : Option FieldType} {ws ws' : List Cond} {rm' : Room} {As fs : List Value} {T : u_T} {N : Nat} (n : Nat)
    (hM : ∀ A : Nat → Prop, x_M (reG G A) y ws rm' (.ref q :: As) h1 post mc ms) (hd : dj h1 h2) (hg : GoodIn Ts (wsV own index C y ws)) (hw : ws = Cond.code y bytes maxL ret' :: ws') (hrc : rm'.cells = mc) (hrs : rm'.slots = ms)
    (hy : y.cls = C ∧ y.cls ≠ "java/lang/invoke/MethodHandle" ∧ y.cls ≠ "java/lang/invoke/VarHandle" ∧ (parseMethodDescriptor y.desc).map (fun d => d.parameters.length) = some n)
    (hR : rm'.frames + 1 ≤ rm.frames ∧ 8 + (maxL + 11) + rm'.locals ≤ rm.locals) (hq : h1 q = some (.inr (ci, fs))) (hc : vwCl[ci]? = some (C, T, N)) (hn : As.length = n) (hnL : L.length = nL)
    (d : decode cc pc = .ok (.invokevirtual index, 3)) (hst : st2 = As.reverse ++ .ref q :: st) (hcat : (st.map fun v => v.category).sum ≤ 8) (hrm : a + mc ≤ rm.cells ∧ b + ms ≤ rm.slots)
    (kk : ∀ (v : Option Value) (h' : HM), post v h' → dj h' h2 → x_W G F Q (a + mc) (b + ms) (jn h' h2) (pc + 3) L (v.toList ++ st)) : x_W G F Q a b (jn h1 h2) pc L st2 := by
  subst hst
  refine z_back hE hd (fun H locs ls hH hS hL => ?_) kk
  have hR' := hE.2.2.2.2.2.2.2.2.1
  have hp := z_pre (As := .ref q :: As) (h2 := h2) hE (locs := locs) hH
  exact va_runV (As := As) (rest := st) ⟨hE.1, hE.2.1, hE.2.2.1, hE.2.2.2.1, hE.2.2.2.2.1⟩ (hM _) (cwV n hE.2.2.2.2.1 hg hw hrc hrs hy (by rw [hR']; exact hR)) ⟨hp.1, va_recv hE.2.2.2.2.2.1 (x_one (hH q _ (jn_l hq)).1) hc (q0 := 0) rfl, hp.2⟩ rfl hn (by rw [hL.1]; exact hnL) rfl (by show 2 * 0 + _ ≤ 8; omega) d (by rw [hR']; exact hrm)
theorem z_callI (hE : x_E G F cc own Ts nL ret rm) {y : MethodName} {bytes : ByteArray} {maxL index q : Nat} {ws ws' : List Cond} {rm' : Room} {As : List Value} (n : Nat)
    (hM : ∀ A : Nat → Prop, x_M (reG G A) y ws rm' (.ref q :: As) h1 post mc ms) (hd : dj h1 h2) (hg : GoodIn Ts ws) (hw : ws = Cond.code y bytes maxL none :: ws') (hrc : rm'.cells = mc) (hrs : rm'.slots = ms)
    (hini : Cond.initialized y.cls ∈ Ts) (hl : Cond.methodLink own index y ∈ Ts) (hin : Cond.instanceMethod y ∈ Ts) (hy1 : y.name = "<init>")
    (hy : y.cls ≠ "java/lang/invoke/MethodHandle" ∧ y.cls ≠ "java/lang/invoke/VarHandle" ∧ (parseMethodDescriptor y.desc).map (fun d => d.parameters.length) = some n)
    (hR : rm'.frames + 1 ≤ rm.frames ∧ 8 + (maxL + 11) + rm'.locals ≤ rm.locals) (hn : As.length = n) (hnL : L.length = nL)
    (d : decode cc pc = .ok (.invokespecial index, 3)) (hst : st2 = As.reverse ++ .ref q :: st) (hcat : (st.map fun v => v.category).sum ≤ 8) (hrm : a + mc ≤ rm.cells ∧ b + ms ≤ rm.slots)
    (kk : ∀ (v : Option Value) (h' : HM), post v h' → dj h' h2 → x_W G F Q (a + mc) (b + ms) (jn h' h2) (pc + 3) L (v.toList ++ st)) : x_W G F Q a b (jn h1 h2) pc L st2 := by
  subst hst
  refine z_back hE hd (fun H locs ls hH hS hL => ?_) kk
  have hR' := hE.2.2.2.2.2.2.2.2.1
  have hts := hE.2.2.2.2.1
  exact va_runI (As := As) (rest := st) ⟨hE.1, hE.2.1, hE.2.2.1, hE.2.2.2.1, hts⟩ (hM _) (cwI n hts hg hw hrc hrs (hts _ hini) (hts _ hl) (hts _ hin) hy1 hy (by rw [hR']; exact hR)) (z_pre (As := .ref q :: As) (h2 := h2) hE (locs := locs) hH) rfl hn (by rw [hL.1]; exact hnL) rfl (by show 2 * 0 + _ ≤ 8; omega) d (by rw [hR']; exact hrm)
/-- a call that may throw -/
theorem z_callY (hE : x_E G F cc own Ts nL ret rm) (hT : x_TF G (f_s F) (f_s F).heap) {y : MethodName} {C : String} {bytes : ByteArray} {maxL index q ci : Nat} {ret' : Option FieldType} {ws ws' : List Cond} {rm' : Room} {As fs : List Value} {T : u_T} {N : Nat} (n : Nat)
    (hM : ∀ A : Nat → Prop, y_M (reG G A) y ws rm' (.ref q :: As) h1 post thr mc ms) (hd : dj h1 h2) (hg : GoodIn Ts (wsV own index C y ws)) (hw : ws = Cond.code y bytes maxL ret' :: ws') (hrc : rm'.cells = mc) (hrs : rm'.slots = ms)
    (hy : y.cls = C ∧ y.cls ≠ "java/lang/invoke/MethodHandle" ∧ y.cls ≠ "java/lang/invoke/VarHandle" ∧ (parseMethodDescriptor y.desc).map (fun d => d.parameters.length) = some n)
    (hR : rm'.frames + 1 ≤ rm.frames ∧ 8 + (maxL + 11) + rm'.locals ≤ rm.locals) (hq : h1 q = some (.inr (ci, fs))) (hc : vwCl[ci]? = some (C, T, N)) (hn : As.length = n) (hnL : L.length = nL)
    (d : decode cc pc = .ok (.invokevirtual index, 3)) (hst : st2 = As.reverse ++ .ref q :: st) (hcat : (st.map fun v => v.category).sum ≤ 8) (hrm : a + mc ≤ rm.cells ∧ b + ms ≤ rm.slots)
    (kk : ∀ (v : Option Value) (h' : HM), post v h' → dj h' h2 → x_W G F Q (a + mc) (b + ms) (jn h' h2) (pc + 3) L (v.toList ++ st))
    (kx : ∀ E, thr E → z_X G F Q (a + mc) (b + ms) (jn h1 h2) pc L E) : x_W G F Q a b (jn h1 h2) pc L st2 := by
  subst hst
  refine z_yback hE hd (fun H locs ls hH hS hL => ?_) kk kx
  have hR' := hE.2.2.2.2.2.2.2.2.1
  have hp := z_preT (As := .ref q :: As) (h2 := h2) hE hT hH hS
  exact vx_runV (As := As) (rest := st) ⟨hE.1, hE.2.1, hE.2.2.1, hE.2.2.2.1, hE.2.2.2.2.1⟩ (hM _) (cwV n hE.2.2.2.2.1 hg hw hrc hrs hy (by rw [hR']; exact hR)) ⟨hp.1, va_recv hE.2.2.2.2.2.1 (x_one (hH q _ (jn_l hq)).1) hc (q0 := 0) rfl, hp.2⟩ rfl hn (by rw [hL.1]; exact hnL) rfl (by show 2 * 0 + _ ≤ 8; omega) d (by rw [hR']; exact hrm)
/-- a static call of a method with handlers that throws nothing itself -/
theorem z_callW (hE : x_E G F cc own Ts nL ret rm) (hT : x_TF G (f_s F) (f_s F).heap) {y : MethodName} {bytes : ByteArray} {hh : List (Nat × Nat × Nat × Nat)} {maxL index : Nat} {ret' : Option FieldType} {ws ws' : List Cond} {rm' : Room} {As : List Value} (n : Nat)
    (hM : ∀ A : Nat → Prop, y_M (reG G A) y ws rm' As h1 post (fun _ => False) mc ms) (hd : dj h1 h2) (hg : GoodIn Ts (va_wsS own index y ws)) (hw : ws = Cond.codeWith y bytes maxL ret' hh :: ws') (hrc : rm'.cells = mc) (hrs : rm'.slots = ms)
    (hy : y.cls ≠ "java/lang/invoke/MethodHandle" ∧ y.cls ≠ "java/lang/invoke/VarHandle" ∧ (parseMethodDescriptor y.desc).map (fun d => d.parameters.length) = some n)
    (hR : rm'.frames + 1 ≤ rm.frames ∧ 8 + (maxL + 11) + rm'.locals ≤ rm.locals) (hn : As.length = n) (hnL : L.length = nL)
    (d : decode cc pc = .ok (.invokestatic index, 3)) (hst : st2 = As.reverse ++ st) (hcat : (st.map fun v => v.category).sum ≤ 8) (hrm : a + mc ≤ rm.cells ∧ b + ms ≤ rm.slots)
    (kk : ∀ (v : Option Value) (h' : HM), post v h' → dj h' h2 → x_W G F Q (a + mc) (b + ms) (jn h' h2) (pc + 3) L (v.toList ++ st)) : x_W G F Q a b (jn h1 h2) pc L st2 := by
  subst hst
  refine z_yback (thr := fun _ => False) hE hd (fun H locs ls hH hS hL => ?_) kk (fun E h => h.elim)
  have hR' := hE.2.2.2.2.2.2.2.2.1
  exact vx_runSX (As := As) (rest := st) ⟨hE.1, hE.2.1, hE.2.2.1, hE.2.2.2.1, hE.2.2.2.2.1⟩ (hM _) (vx_cwSW n hE.2.2.2.2.1 hg hw hrc hrs hy (by rw [hR']; exact hR)) (z_preT (As := As) (h2 := h2) hE hT hH hS) rfl hn (by rw [hL.1]; exact hnL) rfl (by show 2 * 0 + _ ≤ 8; omega) d (by rw [hR']; exact hrm)
/-- caught by the row x of the table -/
theorem z_catch (hE : x_E G F cc own Ts nL ret rm) {E name : String} (pre : List ExceptionTableEntry) (x : ExceptionTableEntry) (suf : List ExceptionTableEntry) (hsplit : (f_c F).exceptionTable.toList = pre ++ x :: suf)
    (hpass : ∀ z ∈ pre, covers z pc = false ∨ (z.catchType ≠ 0 ∧ ∃ nm : String, Cond.classLink own z.catchType nm ∈ Ts ∧ va_Nc E nm (f_s F))) (hx : covers x pc = true) (h0 : x.catchType ≠ 0) (hlink : Cond.classLink own x.catchType name ∈ Ts) (hcast : va_Nw (.castable E name) (f_s F))
    (kk : ∀ q : Nat, x_W G F Q a b h x.handlerPc L [.ref q]) : z_X G F Q a b h pc L E := fun H locs ls q ce rest hH hS hL hc hv hcl =>
  vx_catch hE.2.2.2.1 pre x suf hsplit (fun z hz => (hpass z hz).imp id (fun ⟨a1, nm, a2, a3⟩ => ⟨a1, nm, hE.2.2.2.2.1 _ a2, a3⟩)) hx h0 (hE.2.2.2.2.1 _ hlink) (va_Nw.use rfl hcast) hc hv hcl (kk q H locs ls hH hS hL)
end Z1
