/-! contracts of methods, their proofs' frame, returns, calls -/
def x_Pc (G : XG) (As : List Value) (h : HM) : Array Value → State → Prop := fun v U => v = As.toArray ∧ x_H G h U.heap ∧ (va_K (g_D G) vwCl (x_T (g_c G)) U ∧ x_AO U) ∧ ∀ q, U.heap.size ≤ q → g_A G q
def x_Qc (G : XG) (post : Option Value → HM → Prop) : Array Value → State → Outcome → State → Prop := fun _ st oc t => ∃ (v : Option Value) (h' : HM), oc = .returned v ∧ post v h' ∧ x_H G h' t.heap ∧ va_F (g_A G) st t
def x_M (G : XG) (y : MethodName) (ws : List Cond) (rm : Room) (As : List Value) (h : HM) (post : Option Value → HM → Prop) (mc ms : Nat) : Prop := Met (g_l G) y ws rm (x_Pc G As h) (x_Qc G post) mc ms (g_A G)
def x_Q (G : XG) (F : XF) (post : Option Value → HM → Prop) (mc ms : Nat) : State → Prop := MQ (f_b F) (x_Qc G post) (f_a F) (f_s F) mc ms (g_A G)
theorem x_cat_rf (r : Option Nat) : (va_rf r).category = 1 := by cases r <;> rfl
theorem x_nar_rf (C : String) (r : Option Nat) : narrow (.object C) (va_rf r) = va_rf r := by cases r <;> rfl
theorem x_fit_rf (C : String) (r : Option Nat) : fits (.object C) (va_rf r) = true := by cases r <;> rfl
abbrev x_is (v0 : Option Value) (h1 : HM) : Option Value → HM → Prop := fun v h' => v = v0 ∧ h1 = h'
theorem x_up_up (h : HM) (a : Nat) (e e' : va_E) : x_up (x_up h a e) a e' = x_up h a e' := by
  funext q
  by_cases c : q = a
  · rw [c, x_up_eq, x_up_eq]
  · rw [x_up_ne c, x_up_ne c, x_up_ne c]
theorem x_up_self {h : HM} {a : Nat} {e : va_E} (hh : h a = some e) : x_up h a e = h := by
  funext q
  by_cases c : q = a
  · rw [c, x_up_eq, hh]
  · rw [x_up_ne c]
theorem x_up_cm (h : HM) {a b : Nat} (e e' : va_E) (n : a ≠ b) : x_up (x_up h a e) b e' = x_up (x_up h b e') a e := by
  funext q
  by_cases c : q = a
  · subst c
    rw [x_up_ne n, x_up_eq, x_up_eq]
  · by_cases c2 : q = b
    · subst c2
      rw [x_up_eq, x_up_ne c, x_up_eq]
    · rw [x_up_ne c2, x_up_ne c, x_up_ne c, x_up_ne c2]
theorem x_ieq {G : XG} {F : XF} {Q : State → Prop} {a b : Nat} {h : HM} {pc : Nat} {L : List (Option Value)} {st : List Value} {x y : Int32} (e : x = y) (kk : x_W G F Q a b h pc L (.int y :: st)) : x_W G F Q a b h pc L (.int x :: st) := e ▸ kk
theorem x_heq {G : XG} {F : XF} {Q : State → Prop} {a b : Nat} {h h' : HM} {pc : Nat} {L : List (Option Value)} {st : List Value} (e : h = h') (kk : x_W G F Q a b h' pc L st) : x_W G F Q a b h pc L st := e ▸ kk
def x_ent (As : List Value) (n : Nat) : List (Option Value) := As.map some ++ List.replicate (n - As.length) none
theorem x_ent_loc {As : List Value} {n : Nat} (hn : As.length ≤ n) (hc : ∀ v ∈ As, v.category = 1) : x_loc ((As.map Slot.val ++ List.replicate (n - As.length) Slot.unset).toArray) (x_ent As n) := by
  have key : ∀ (i : Nat) (x : Slot), ((As.map Slot.val ++ List.replicate (n - As.length) Slot.unset).toArray)[i]? = some x → (∃ v, x = .val v ∧ As[i]? = some v ∧ v.category = 1) ∨ x = .unset := by
    intro i x hx
    rw [List.getElem?_toArray] at hx
    by_cases hl : i < As.length
    · rw [List.getElem?_append_left (by simpa using hl), List.getElem?_map] at hx
      rw [List.getElem?_eq_getElem hl] at hx
      cases hx
      exact Or.inl ⟨As[i], rfl, List.getElem?_eq_getElem hl, hc _ (List.getElem_mem hl)⟩
    · rw [List.getElem?_append_right (by simpa using Nat.not_lt.mp hl)] at hx
      exact Or.inr (List.eq_of_mem_replicate (List.mem_of_getElem? hx))
  refine ⟨by simp [x_ent], ⟨fun i v hi h2 => ?_, fun i hi => ?_⟩, fun i v hi => ?_⟩
  · rcases key i _ hi with ⟨w, e, -, h1⟩ | e
    · cases e
      omega
    · cases e
  · rcases key i _ hi with ⟨w, e, -, h1⟩ | e <;> cases e
  · unfold x_ent at hi
    by_cases hl : i < As.length
    · rw [List.getElem?_append_left (by simpa using hl), List.getElem?_map, List.getElem?_eq_getElem hl] at hi
      cases hi
      refine ⟨?_, hc _ (List.getElem_mem hl)⟩
      rw [List.getElem?_toArray, List.getElem?_append_left (by simpa using hl), List.getElem?_map, List.getElem?_eq_getElem hl]
      rfl
    · rw [List.getElem?_append_right (by simpa using Nat.not_lt.mp hl)] at hi
      have := List.eq_of_mem_replicate (List.mem_of_getElem? hi)
      cases this
/-- a contract's proof: the walk of the body from its entry -/
theorem x_M.of {G : XG} {cls nm ds : String} {ws ws' : List Cond} {rm : Room} {As : List Value} {h : HM} {post : Option Value → HM → Prop} {mc ms : Nat} {cc : ByteArray} {maxL : Nat} {ret : Option FieldType} {ent : List (Option Value)}
    (hy : plainName cls = true) (hw : ws = Cond.code ⟨cls, nm, ds⟩ cc maxL ret :: ws') (hn : As.length ≤ maxL) (hc0 : As.all (fun v => v.category == 1) = true) (he : x_ent As maxL = ent)
    (body : ∀ F : XF, x_E G F cc cls ws maxL ret rm → (f_t F).name = nm → x_W G F (x_Q G F post mc ms) 0 0 h 0 ent []) : x_M G ⟨cls, nm, ds⟩ ws rm As h post mc ms := by
  subst he
  have hc : ∀ v ∈ As, v.category = 1 := fun v hv => by simpa using List.all_eq_true.mp hc0 v hv
  refine Met.ofW (cc := cc) (maxL := maxL) (ret := ret) hy hw ?_
  intro p e s m args below meth c s₁ B hml hv
  obtain ⟨rfl, hH, ⟨hK, hAO⟩, hA⟩ := hv
  have hE : x_E G (p, e, (headSpec ws rm).room, s, m, As.toArray, below, meth, c) cc cls ws maxL ret rm := ⟨B.exec, B.bytes, hml, findClass_of_methodNamed B.named, atoms_spec (ws := ws) B.pre, hK, ⟨B.notSynchronized, hAO⟩, B.returns, rfl, hA⟩
  have hb := body _ hE (name_of_methodNamed B.named B.method).1
  rw [entry_eq m As hc maxL]
  exact hb s.heap [] _ hH va_S.rf (x_ent_loc hn hc)
section X4
variable {G : XG} {F : XF} {cc : ByteArray} {own : String} {Ts : List Cond} {nL : Nat} {ret : Option FieldType} {rm : Room} {Q : State → Prop} {a b : Nat} {h : HM} {pc : Nat} {L L' : List (Option Value)} {st : List Value} {post : Option Value → HM → Prop}
theorem x_iret (hE : x_E G F cc own Ts nL (some .int) rm) {v : Int32} (d : decode cc pc = .ok (.ireturn, 1)) (hp : post (some (.int v)) h) : x_W G F (x_Q G F post a b) a b h pc L [.int v] := fun H locs ls hH hS hL =>
  W.iret hE.1 hE.2.1 hE.2.2.2.2.2.2.2.1 (fun t ht hW => ⟨_, h, rfl, hp, by rw [ht]; exact hH, hS.F ht⟩) hS.2.2 d hE.2.2.2.2.2.2.1.1
theorem x_zret (hE : x_E G F cc own Ts nL (some .boolean) rm) {v : Int32} (hv : v = 0 ∨ v = 1) (d : decode cc pc = .ok (.ireturn, 1)) (hp : post (some (.int v)) h) : x_W G F (x_Q G F post a b) a b h pc L [.int v] := fun H locs ls hH hS hL =>
  W.zret hE.1 hE.2.1 hE.2.2.2.2.2.2.2.1 (by rcases hv with rfl | rfl <;> rfl) (fun t ht hW => ⟨_, h, rfl, hp, by rw [ht]; exact hH, hS.F ht⟩) hS.2.2 d hE.2.2.2.2.2.2.1.1
theorem x_fret (hE : x_E G F cc own Ts nL (some .float) rm) {v : UInt32} (d : decode cc pc = .ok (.freturn, 1)) (hp : post (some (.float v)) h) : x_W G F (x_Q G F post a b) a b h pc L [.float v] := fun H locs ls hH hS hL =>
  W.fret hE.1 hE.2.1 hE.2.2.2.2.2.2.2.1 (fun t ht hW => ⟨_, h, rfl, hp, by rw [ht]; exact hH, hS.F ht⟩) hS.2.2 d hE.2.2.2.2.2.2.1.1
theorem x_vret (hE : x_E G F cc own Ts nL none rm) (d : decode cc pc = .ok (.return_, 1)) (hp : post none h) : x_W G F (x_Q G F post a b) a b h pc L [] := fun H locs ls hH hS hL =>
  W.vret hE.1 hE.2.1 hE.2.2.2.2.2.2.2.1 (fun t ht hW => ⟨_, h, rfl, hp, by rw [ht]; exact hH, hS.F ht⟩) hS.2.2 d hE.2.2.2.2.2.2.1.1
theorem x_aret (hE : x_E G F cc own Ts nL ret rm) (hret : (∃ n, ret = some (.object n)) ∨ ∃ t, ret = some (.array t)) {v : Value} (hv : x_rv v = true) (d : decode cc pc = .ok (.areturn, 1)) (hp : post (some v) h) : x_W G F (x_Q G F post a b) a b h pc L [v] := fun H locs ls hH hS hL => by
  have hr := hE.2.2.2.2.2.2.2.1
  have hv2 : v = .null ∨ ∃ a, v = .ref a := by cases v <;> first | exact Or.inl rfl | exact Or.inr ⟨_, rfl⟩ | cases hv
  rcases hret with ⟨n, rfl⟩ | ⟨n, rfl⟩
  · exact W.aret hE.1 hE.2.1 hr (Or.inl ⟨n, rfl⟩) hv2 (fun t ht hW => ⟨_, h, rfl, hp, by rw [ht]; exact hH, hS.F ht⟩) hS.2.2 d hE.2.2.2.2.2.2.1.1
  · exact W.aret hE.1 hE.2.1 hr (Or.inr ⟨n, rfl⟩) hv2 (fun t ht hW => ⟨_, h, rfl, hp, by rw [ht]; exact hH, hS.F ht⟩) hS.2.2 d hE.2.2.2.2.2.2.1.1
theorem x_objinit (hE : x_E G F cc own Ts nL ret rm) {i q : Nat} (h1 : Cond.methodLink own i objectInit ∈ Ts) (h2 : Cond.instanceMethod objectInit ∈ Ts) (h3 : Cond.code objectInit ⟨#[0xb1]⟩ 1 none ∈ Ts) (hL0 : L.length = nL) (hst : (st.map fun v => v.category).sum + 12 ≤ rm.locals) (hfr : 1 ≤ rm.frames) (d : decode cc pc = .ok (.invokespecial i, 3)) (kk : x_W G F Q a b h (pc + 3) L st) : x_W G F Q a b h pc L (.ref q :: st) := fun H locs ls hH hS hL => by
  obtain ⟨hexec, hb, hml, hown, hts, hK, -, -, hR, hA⟩ := hE
  exact W.objInit hexec hb hown (hts _ h1) (hts _ h2) (hts _ h3) rfl (by rw [hml, ← hL0]; exact hL.1) rfl d (by rw [hR]; exact hfr) (by rw [hR]; show 2 * 0 + _ + 12 ≤ _; omega) (kk H locs ls hH hS hL)
/-- behind a call, whatever it answers -/
theorem x_back {mc ms : Nat} {free : Addr → Prop} {Qa : State → Outcome → State → Prop} {st2 : List Value} (hf : ∀ q, free q → g_A G q)
    (hr : ∀ (H : Heap) (locs : List Loc) (ls : Array Slot), x_H G h H → va_S (g_A G) (f_s F).heap H locs → x_loc ls L → va_Run (f_p F) (g_l G) (f_e F) (f_R F) (f_s F) (f_m F) (f_a F) (f_b F) (f_t F) (f_c F) H locs a b mc ms (F0 (f_m F) pc ls st2) st (x_Qc G post (f_a F)) (g_A G))
    (kk : ∀ (v : Option Value) (h' : HM), post v h' → x_W G F Q (a + mc) (b + ms) h' (pc + 3) L (v.toList ++ st)) : x_W G F Q a b h pc L st2 := by
  intro H locs ls hH hS hL T hT X
  obtain ⟨v, st₀, t, T', L1, h0, X', hL1, e1, e2, ⟨v', h', hv, hp, hH', hz, hk⟩, stp⟩ := hr H locs ls hH hS hL T hT X
  cases hv
  rw [h0] at hz hk
  obtain ⟨t2, a1, b1⟩ := kk v h' hp T'.heap (locs ++ L1) ls (by rw [e1]; exact hH') ⟨Nat.le_trans hS.1 (by rw [e1]; exact hz), fun q h1 h2 => by rw [e1, hk q (Nat.lt_of_lt_of_le h1 hS.1) h2]; exact hS.2.1 q h1 h2, fun q hq => by
      rcases List.mem_append.mp hq with h | h
      · exact hS.2.2 q h
      · exact hL1 q h⟩ hL T' rfl X'
  exact ⟨t2, stp t2 a1, b1⟩
theorem x_pre {As : List Value} (hE : x_E G F cc own Ts nL ret rm) {H : Heap} {locs : List Loc} (hH : x_H G h H) (hS : va_S (g_A G) (f_s F).heap H locs) : PreS (f_s F) H (x_Pc G As h) As :=
  ⟨fun a U g mk q => ⟨q.1, q.2.1, ⟨va_K.moved (u := U) (U := U.calling g mk a) (Vm.Alike.refl U.vm) q.2.2.1.1, x_AO.moved (u := U) (U := U.calling g mk a) (Vm.Alike.refl U.vm) q.2.2.1.2⟩, q.2.2.2⟩, fun U hU hW => ⟨rfl, by rw [hU]; exact hH, ⟨va_K.moved hW.alike hE.2.2.2.2.2.1, hE.2.2.2.2.2.2.1.2.moved hW.alike⟩, fun q hq => hE.2.2.2.2.2.2.2.2.2 q (by rw [hU] at hq; exact Nat.le_trans hS.1 hq)⟩⟩
theorem x_callV (hE : x_E G F cc own Ts nL ret rm) {y : MethodName} {C : String} {bytes : ByteArray} {maxL index mc ms q ci : Nat} {ret' : Option FieldType} {ws ws' : List Cond} {rm' : Room} {As fs : List Value} {T : u_T} {N : Nat} (n : Nat)
    (hM : x_M G y ws rm' (.ref q :: As) h post mc ms) (hg : GoodIn Ts (wsV own index C y ws)) (hw : ws = Cond.code y bytes maxL ret' :: ws') (hrc : rm'.cells = mc) (hrs : rm'.slots = ms)
    (hd : y.cls = C ∧ y.cls ≠ "java/lang/invoke/MethodHandle" ∧ y.cls ≠ "java/lang/invoke/VarHandle" ∧ (parseMethodDescriptor y.desc).map (fun d => d.parameters.length) = some n)
    (hR : rm'.frames + 1 ≤ rm.frames ∧ 8 + (maxL + 11) + rm'.locals ≤ rm.locals) (hq : h q = some (.inr (ci, fs))) (hc : vwCl[ci]? = some (C, T, N)) (hn : As.length = n) (hnL : L.length = nL)
    (d : decode cc pc = .ok (.invokevirtual index, 3)) {st2 : List Value} (hst : st2 = As.reverse ++ .ref q :: st) (hcat : (st.map fun v => v.category).sum ≤ 8) (hrm : a + mc ≤ rm.cells ∧ b + ms ≤ rm.slots)
    (kk : ∀ (v : Option Value) (h' : HM), post v h' → x_W G F Q (a + mc) (b + ms) h' (pc + 3) L (v.toList ++ st)) : x_W G F Q a b h pc L st2 := by
  subst hst
  refine x_back (free := g_A G) (Qa := fun _ _ _ => True) (fun _ h => h) (fun H locs ls hH hS hL => ?_) kk
  have hR' := hE.2.2.2.2.2.2.2.2.1
  have hp := x_pre (As := .ref q :: As) hE hH hS
  exact va_runV (As := As) (rest := st) ⟨hE.1, hE.2.1, hE.2.2.1, hE.2.2.2.1, hE.2.2.2.2.1⟩ hM (cwV n hE.2.2.2.2.1 hg hw hrc hrs hd (by rw [hR']; exact hR)) ⟨hp.1, va_recv hE.2.2.2.2.2.1 (x_one (hH q _ hq).1) hc (q0 := 0) rfl, hp.2⟩ rfl hn (by rw [hL.1]; exact hnL) rfl (by show 2 * 0 + _ ≤ 8; omega) d (by rw [hR']; exact hrm)
theorem x_callS (hE : x_E G F cc own Ts nL ret rm) {y : MethodName} {bytes : ByteArray} {maxL index mc ms : Nat} {ret' : Option FieldType} {ws ws' : List Cond} {rm' : Room} {As : List Value} (n : Nat)
    (hM : x_M G y ws rm' As h post mc ms) (hg : GoodIn Ts (va_wsS own index y ws)) (hw : ws = Cond.code y bytes maxL ret' :: ws') (hrc : rm'.cells = mc) (hrs : rm'.slots = ms)
    (hd : y.cls ≠ "java/lang/invoke/MethodHandle" ∧ y.cls ≠ "java/lang/invoke/VarHandle" ∧ (parseMethodDescriptor y.desc).map (fun d => d.parameters.length) = some n)
    (hR : rm'.frames + 1 ≤ rm.frames ∧ 8 + (maxL + 11) + rm'.locals ≤ rm.locals) (hn : As.length = n) (hnL : L.length = nL)
    (d : decode cc pc = .ok (.invokestatic index, 3)) {st2 : List Value} (hst : st2 = As.reverse ++ st) (hcat : (st.map fun v => v.category).sum ≤ 8) (hrm : a + mc ≤ rm.cells ∧ b + ms ≤ rm.slots)
    (kk : ∀ (v : Option Value) (h' : HM), post v h' → x_W G F Q (a + mc) (b + ms) h' (pc + 3) L (v.toList ++ st)) : x_W G F Q a b h pc L st2 := by
  subst hst
  refine x_back (free := g_A G) (Qa := fun _ _ _ => True) (fun _ h => h) (fun H locs ls hH hS hL => ?_) kk
  have hR' := hE.2.2.2.2.2.2.2.2.1
  exact va_runS (As := As) (rest := st) ⟨hE.1, hE.2.1, hE.2.2.1, hE.2.2.2.1, hE.2.2.2.2.1⟩ hM (va_cwS n hE.2.2.2.2.1 hg hw hrc hrs hd (by rw [hR']; exact hR)) (x_pre hE hH hS) rfl hn (by rw [hL.1]; exact hnL) rfl (by show 2 * 0 + _ ≤ 8; omega) d (by rw [hR']; exact hrm)
theorem x_callI (hE : x_E G F cc own Ts nL ret rm) {y : MethodName} {bytes : ByteArray} {maxL index mc ms q : Nat} {ws ws' : List Cond} {rm' : Room} {As : List Value} (n : Nat)
    (hM : x_M G y ws rm' (.ref q :: As) h post mc ms) (hg : GoodIn Ts ws) (hw : ws = Cond.code y bytes maxL none :: ws') (hrc : rm'.cells = mc) (hrs : rm'.slots = ms)
    (hini : Cond.initialized y.cls ∈ Ts) (hl : Cond.methodLink own index y ∈ Ts) (hin : Cond.instanceMethod y ∈ Ts) (hy1 : y.name = "<init>")
    (hd : y.cls ≠ "java/lang/invoke/MethodHandle" ∧ y.cls ≠ "java/lang/invoke/VarHandle" ∧ (parseMethodDescriptor y.desc).map (fun d => d.parameters.length) = some n)
    (hR : rm'.frames + 1 ≤ rm.frames ∧ 8 + (maxL + 11) + rm'.locals ≤ rm.locals) (hn : As.length = n) (hnL : L.length = nL)
    (d : decode cc pc = .ok (.invokespecial index, 3)) {st2 : List Value} (hst : st2 = As.reverse ++ .ref q :: st) (hcat : (st.map fun v => v.category).sum ≤ 8) (hrm : a + mc ≤ rm.cells ∧ b + ms ≤ rm.slots)
    (kk : ∀ (v : Option Value) (h' : HM), post v h' → x_W G F Q (a + mc) (b + ms) h' (pc + 3) L (v.toList ++ st)) : x_W G F Q a b h pc L st2 := by
  subst hst
  refine x_back (free := g_A G) (Qa := fun _ _ _ => True) (fun _ h => h) (fun H locs ls hH hS hL => ?_) kk
  have hR' := hE.2.2.2.2.2.2.2.2.1
  have hts := hE.2.2.2.2.1
  exact va_runI (As := As) (rest := st) ⟨hE.1, hE.2.1, hE.2.2.1, hE.2.2.2.1, hts⟩ hM (cwI n hts hg hw hrc hrs (hts _ hini) (hts _ hl) (hts _ hin) hy1 hd (by rw [hR']; exact hR)) (x_pre (As := .ref q :: As) hE hH hS) rfl hn (by rw [hL.1]; exact hnL) rfl (by show 2 * 0 + _ ≤ 8; omega) d (by rw [hR']; exact hrm)
theorem x_max (hE : x_E G F cc own Ts nL ret rm) {index : Nat} {x y : Int32} (h1 : Cond.methodLink own index Lib.Math.max.name ∈ Ts) (h2 : Cond.static Lib.Math.max.name ∈ Ts) (h3 : Cond.initialized "java/lang/Math" ∈ Ts) (h4 : Cond.code Lib.Math.max.name Lib.Math.max.code 2 (some .int) ∈ Ts) (hnL : L.length = nL) (hfr : 1 ≤ rm.frames) (hlo : (st.map fun v => v.category).sum + 13 ≤ rm.locals) (hrm : a ≤ rm.cells ∧ b ≤ rm.slots) (d : decode cc pc = .ok (.invokestatic index, 3)) (kk : x_W G F Q a b h (pc + 3) L (.int (if x < y then y else x) :: st)) : x_W G F Q a b h pc L (.int y :: .int x :: st) := fun H locs ls hH hS hL => by
  obtain ⟨hexec, hb, hml, hown, hts, hK, -, -, hR, hA⟩ := hE
  exact va_mmax hexec hb (by rw [hml, ← hnL]; exact hL.1.symm) hown (hts _ h1) (hts _ h2) (hts _ h3) (hts _ h4) (by rw [hR]; exact hfr) (by rw [hR]; exact hlo) (by rw [hR]; exact hrm.1) (by rw [hR]; exact hrm.2) d (kk H locs ls hH hS hL)
theorem x_min (hE : x_E G F cc own Ts nL ret rm) {index : Nat} {x y : Int32} (h1 : Cond.methodLink own index Lib.Math.min.name ∈ Ts) (h2 : Cond.static Lib.Math.min.name ∈ Ts) (h3 : Cond.initialized "java/lang/Math" ∈ Ts) (h4 : Cond.code Lib.Math.min.name Lib.Math.min.code 2 (some .int) ∈ Ts) (hnL : L.length = nL) (hfr : 1 ≤ rm.frames) (hlo : (st.map fun v => v.category).sum + 13 ≤ rm.locals) (hrm : a ≤ rm.cells ∧ b ≤ rm.slots) (d : decode cc pc = .ok (.invokestatic index, 3)) (kk : x_W G F Q a b h (pc + 3) L (.int (if y < x then y else x) :: st)) : x_W G F Q a b h pc L (.int y :: .int x :: st) := fun H locs ls hH hS hL => by
  obtain ⟨hexec, hb, hml, hown, hts, hK, -, -, hR, hA⟩ := hE
  exact va_mmin hexec hb (by rw [hml, ← hnL]; exact hL.1.symm) hown (hts _ h1) (hts _ h2) (hts _ h3) (hts _ h4) (by rw [hR]; exact hfr) (by rw [hR]; exact hlo) (by rw [hR]; exact hrm.1) (by rw [hR]; exact hrm.2) d (kk H locs ls hH hS hL)
theorem x_abs (hE : x_E G F cc own Ts nL ret rm) {index : Nat} {x : Int32} (h1 : Cond.methodLink own index Lib.Math.abs.name ∈ Ts) (h2 : Cond.static Lib.Math.abs.name ∈ Ts) (h3 : Cond.initialized "java/lang/Math" ∈ Ts) (h4 : Cond.code Lib.Math.abs.name Lib.Math.abs.code 1 (some .int) ∈ Ts) (hnL : L.length = nL) (hfr : 1 ≤ rm.frames) (hlo : (st.map fun v => v.category).sum + 13 ≤ rm.locals) (hrm : a ≤ rm.cells ∧ b ≤ rm.slots) (d : decode cc pc = .ok (.invokestatic index, 3)) (kk : x_W G F Q a b h (pc + 3) L (.int (if 0 ≤ x then x else 0 - x) :: st)) : x_W G F Q a b h pc L (.int x :: st) := fun H locs ls hH hS hL => by
  obtain ⟨hexec, hb, hml, hown, hts, hK, -, -, hR, hA⟩ := hE
  exact va_mabs hexec hb (by rw [hml, ← hnL]; exact hL.1.symm) hown (hts _ h1) (hts _ h2) (hts _ h3) (hts _ h4) (by rw [hR]; exact hfr) (by rw [hR]; exact hlo) (by rw [hR]; exact hrm.1) (by rw [hR]; exact hrm.2) d (kk H locs ls hH hS hL)
end X4
