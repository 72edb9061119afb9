/-! contracts with a side fact of the start (what throwing wants, the script); their calls -/
def zS (G : XG) (Z : State → Heap → Prop) : Prop := (∀ (s U : State) (H : Heap), s.WarmedH U.vm → Z s H → Z U H) ∧ ∀ (s : State) (H H1 : Heap), (∀ a : Nat, a < H.size → ¬ g_A G a → H1[a]? = H[a]?) → Z s H → Z s H1
theorem zS_T (G : XG) : zS G (x_TF G) := ⟨fun _ _ _ hW h => h.warm hW, fun _ _ _ hq h => h.kept hq⟩
def scr (G : XG) (b L : Nat) (xs : Nat → Int32) : State → Heap → Prop := fun s H => x_TF G s H ∧ va_X b L xs s H ∧ b < H.size ∧ ¬ g_A G b
theorem zS_S (G : XG) (b L : Nat) (xs : Nat → Int32) : zS G (scr G b L xs) := ⟨fun s U H hW h => ⟨h.1.warm hW, va_X.moved hW.alike h.2.1, h.2.2⟩, fun s H H1 hq h => by
  have e := hq b h.2.2.1 h.2.2.2
  refine ⟨h.1.kept hq, h.2.1.kept e, ?_, h.2.2.2⟩
  obtain ⟨c, hc, _⟩ := h.2.1.kept (H1 := H1) e
  exact (Array.getElem?_eq_some_iff.mp hc).1⟩
def w_Pc (G : XG) (Z : State → Heap → Prop) (As : List Value) (h : HM) : Array Value → State → Prop := fun v U => x_Pc G As h v U ∧ Z U U.heap
def w_M (G : XG) (Z : State → Heap → Prop) (y : MethodName) (ws : List Cond) (rm : Room) (As : List Value) (h : HM) (post : Option Value → HM → Prop) (mc ms : Nat) : Prop := Met (g_l G) y ws rm (w_Pc G Z As h) (x_Qc G post) mc ms (g_A G)
theorem w_M.of {G : XG} {Z : State → Heap → Prop} {cls nm ds : String} {ws ws' : List Cond} {rm : Room} {As : List Value} {h : HM} {post : Option Value → HM → Prop} {mc ms : Nat} {cc : ByteArray} {maxL : Nat} {ret : Option FieldType} {ent : List (Option Value)}
    (hy : plainName cls = true) (hw : ws = Cond.code ⟨cls, nm, ds⟩ cc maxL ret :: ws') (hn : As.length ≤ maxL) (hc0 : As.all (fun v => v.category == 1) = true) (he : x_ent As maxL = ent)
    (body : ∀ F : XF, x_E G F cc cls ws maxL ret rm → (f_t F).name = nm → Z (f_s F) (f_s F).heap → x_W G F (x_Q G F post mc ms) 0 0 h 0 ent []) : w_M G Z ⟨cls, nm, ds⟩ ws rm As h post mc ms := by
  subst he
  have hc : ∀ v ∈ As, v.category = 1 := fun v hv => by simpa using List.all_eq_true.mp hc0 v hv
  refine Met.ofW (cc := cc) (maxL := maxL) (ret := ret) hy hw ?_
  intro p e s m args below meth c s₁ B hml hv
  obtain ⟨⟨rfl, hH, ⟨hK, hAO⟩, hA⟩, hZ⟩ := hv
  have hE : x_E G (p, e, (headSpec ws rm).room, s, m, As.toArray, below, meth, c) cc cls ws maxL ret rm := ⟨B.exec, B.bytes, hml, findClass_of_methodNamed B.named, atoms_spec (ws := ws) B.pre, hK, ⟨B.notSynchronized, hAO⟩, B.returns, rfl, hA⟩
  have hb := body _ hE (name_of_methodNamed B.named B.method).1 hZ
  rw [entry_eq m As hc maxL]
  exact hb s.heap [] _ hH va_S.rf (x_ent_loc hn hc)
section W1
variable {G : XG} {F : XF} {cc : ByteArray} {own : String} {Ts : List Cond} {nL : Nat} {ret : Option FieldType} {rm : Room} {Q : State → Prop} {a b : Nat} {h : HM} {pc : Nat} {L L' : List (Option Value)} {st st2 : List Value} {post : Option Value → HM → Prop} {Z : State → Heap → Prop} {mc ms : Nat}
theorem w_pre {As : List Value} (hE : x_E G F cc own Ts nL ret rm) (hz : zS G Z) (hZ : Z (f_s F) (f_s F).heap) {H : Heap} {locs : List Loc} (hH : x_H G h H) (hS : va_S (g_A G) (f_s F).heap H locs) : PreS (f_s F) H (w_Pc G Z As h) As := by
  have hp := x_pre (As := As) hE hH hS
  exact ⟨fun a U g mk q => ⟨hp.1 a U g mk q.1, hz.1 U (U.calling g mk a) U.heap (State.WarmedH.refl U) q.2⟩, fun U hU hW => ⟨hp.2 U hU hW, by rw [hU]; exact hz.1 _ _ _ hW (hz.2 _ _ _ hS.2.1 hZ)⟩⟩
theorem w_callS (hE : x_E G F cc own Ts nL ret rm) (hz : zS G Z) (hZ : Z (f_s F) (f_s F).heap) {y : MethodName} {bytes : ByteArray} {maxL index : Nat} {ret' : Option FieldType} {ws ws' : List Cond} {rm' : Room} {As : List Value} (n : Nat)
    (hM : w_M G Z y ws rm' As h post mc ms) (hg : GoodIn Ts (va_wsS own index y ws)) (hw : ws = Cond.code y bytes maxL ret' :: ws') (hrc : rm'.cells = mc) (hrs : rm'.slots = ms)
    (hd : y.cls ≠ "java/lang/invoke/MethodHandle" ∧ y.cls ≠ "java/lang/invoke/VarHandle" ∧ (parseMethodDescriptor y.desc).map (fun d => d.parameters.length) = some n)
    (hR : rm'.frames + 1 ≤ rm.frames ∧ 8 + (maxL + 11) + rm'.locals ≤ rm.locals) (hn : As.length = n) (hnL : L.length = nL)
    (d : decode cc pc = .ok (.invokestatic index, 3)) (hst : st2 = As.reverse ++ st) (hcat : (st.map fun v => v.category).sum ≤ 8) (hrm : a + mc ≤ rm.cells ∧ b + ms ≤ rm.slots)
    (kk : ∀ (v : Option Value) (h' : HM), post v h' → x_W G F Q (a + mc) (b + ms) h' (pc + 3) L (v.toList ++ st)) : x_W G F Q a b h pc L st2 := by
  subst hst
  refine x_back (free := g_A G) (Qa := fun _ _ _ => True) (fun _ h => h) (fun H locs ls hH hS hL => ?_) kk
  have hR' := hE.2.2.2.2.2.2.2.2.1
  exact va_runS (As := As) (rest := st) ⟨hE.1, hE.2.1, hE.2.2.1, hE.2.2.2.1, hE.2.2.2.2.1⟩ hM (va_cwS n hE.2.2.2.2.1 hg hw hrc hrs hd (by rw [hR']; exact hR)) (w_pre hE hz hZ hH hS) rfl hn (by rw [hL.1]; exact hnL) rfl (by show 2 * 0 + _ ≤ 8; omega) d (by rw [hR']; exact hrm)
/-- a method with handlers that throws nothing, over the heap whole -/
theorem w_callH (hE : x_E G F cc own Ts nL ret rm) (hT : x_TF G (f_s F) (f_s F).heap) {y : MethodName} {bytes : ByteArray} {hh : List (Nat × Nat × Nat × Nat)} {maxL index : Nat} {ret' : Option FieldType} {ws ws' : List Cond} {rm' : Room} {As : List Value} (n : Nat)
    (hM : ∀ A : Nat → Prop, y_M (reG G A) y ws rm' As h post (fun _ => False) mc ms) (hg : GoodIn Ts (va_wsS own index y ws)) (hw : ws = Cond.codeWith y bytes maxL ret' hh :: ws') (hrc : rm'.cells = mc) (hrs : rm'.slots = ms)
    (hy : y.cls ≠ "java/lang/invoke/MethodHandle" ∧ y.cls ≠ "java/lang/invoke/VarHandle" ∧ (parseMethodDescriptor y.desc).map (fun d => d.parameters.length) = some n)
    (hR : rm'.frames + 1 ≤ rm.frames ∧ 8 + (maxL + 11) + rm'.locals ≤ rm.locals) (hn : As.length = n) (hnL : L.length = nL)
    (d : decode cc pc = .ok (.invokestatic index, 3)) (hst : st2 = As.reverse ++ st) (hcat : (st.map fun v => v.category).sum ≤ 8) (hrm : a + mc ≤ rm.cells ∧ b + ms ≤ rm.slots)
    (kk : ∀ (v : Option Value) (h' : HM), post v h' → x_W G F Q (a + mc) (b + ms) h' (pc + 3) L (v.toList ++ st)) : x_W G F Q a b h pc L st2 := by
  refine x_heq (jn_e h).symm ?_
  exact z_callW hE hT n hM (dj_e h) hg hw hrc hrs hy hR hn hnL d hst hcat hrm (fun v h' hp _ => x_heq (jn_e h') (kk v h' hp))
/-- a call of the class, beside the law's rows -/
theorem k_call (hE : x_E G F cc own Ts nL ret rm) (hT : x_TF G (f_s F) (f_s F).heap) {y : MethodName} {bytes : ByteArray} {maxL index : Nat} {ret' : Option FieldType} {ws ws' : List Cond} {rm' : Room} {As : List Value} {xa : Nat} {S S' : PS} {hA : HM} {w : Option Value} {X : String → Prop} (n : Nat)
    (hM : ∀ hC : HM, bW G xa S hC → ∃ (post : Option Value → HM → Prop) (thr : String → Prop), (∀ A : Nat → Prop, y_M (reG G A) y ws rm' (.ref xa :: As) hC post thr mc ms) ∧ (∀ v h', post v h' → v = w ∧ bW G xa S' h') ∧ ∀ E, thr E → X E)
    (hh : lH G xa S hA h) (hg : GoodIn Ts (wsV own index RX7 y ws)) (hw : ws = Cond.code y bytes maxL ret' :: ws') (hrc : rm'.cells = mc) (hrs : rm'.slots = ms)
    (hy : y.cls = RX7 ∧ y.cls ≠ "java/lang/invoke/MethodHandle" ∧ y.cls ≠ "java/lang/invoke/VarHandle" ∧ (parseMethodDescriptor y.desc).map (fun d => d.parameters.length) = some n)
    (hR : rm'.frames + 1 ≤ rm.frames ∧ 8 + (maxL + 11) + rm'.locals ≤ rm.locals) (hn : As.length = n) (hnL : L.length = nL)
    (d : decode cc pc = .ok (.invokevirtual index, 3)) (hst : st2 = As.reverse ++ .ref xa :: st) (hcat : (st.map fun v => v.category).sum ≤ 8) (hrm : a + mc ≤ rm.cells ∧ b + ms ≤ rm.slots)
    (kk : ∀ h' : HM, lH G xa S' hA h' → x_W G F Q (a + mc) (b + ms) h' (pc + 3) L (w.toList ++ st))
    (kx : ∀ E, X E → z_X G F Q (a + mc) (b + ms) h pc L E) : x_W G F Q a b h pc L st2 := by
  obtain ⟨hC, rfl, hd, hb⟩ := hh
  obtain ⟨post, thr, h1, h2, h3⟩ := hM hC hb
  obtain ⟨ad, ow, eA, A1, P1, c1, A2, P2, c2, RY, rfl, hW⟩ := hb
  exact z_callY (ci := 7) (st := st) hE hT n h1 hd hg hw hrc hrs hy hR hW.1 rfl hn hnL d hst hcat hrm (fun v h' hp d' => by
    obtain ⟨rfl, hb'⟩ := h2 v h' hp
    exact kk _ ⟨h', rfl, d', hb'⟩) (fun E hE9 => kx E (h3 E hE9))
/-- a call of the class that throws -/
theorem k_callN (hE : x_E G F cc own Ts nL ret rm) (hT : x_TF G (f_s F) (f_s F).heap) {y : MethodName} {bytes : ByteArray} {maxL index : Nat} {ret' : Option FieldType} {ws ws' : List Cond} {rm' : Room} {As : List Value} {xa : Nat} {S : PS} {hA : HM} {X : String → Prop} (n : Nat)
    (hM : ∀ hC : HM, bW G xa S hC → ∃ (post : Option Value → HM → Prop) (thr : String → Prop), (∀ A : Nat → Prop, y_M (reG G A) y ws rm' (.ref xa :: As) hC post thr mc ms) ∧ (∀ v h', ¬ post v h') ∧ ∀ E, thr E → X E)
    (hh : lH G xa S hA h) (hg : GoodIn Ts (wsV own index RX7 y ws)) (hw : ws = Cond.code y bytes maxL ret' :: ws') (hrc : rm'.cells = mc) (hrs : rm'.slots = ms)
    (hy : y.cls = RX7 ∧ y.cls ≠ "java/lang/invoke/MethodHandle" ∧ y.cls ≠ "java/lang/invoke/VarHandle" ∧ (parseMethodDescriptor y.desc).map (fun d => d.parameters.length) = some n)
    (hR : rm'.frames + 1 ≤ rm.frames ∧ 8 + (maxL + 11) + rm'.locals ≤ rm.locals) (hn : As.length = n) (hnL : L.length = nL)
    (d : decode cc pc = .ok (.invokevirtual index, 3)) (hst : st2 = As.reverse ++ .ref xa :: st) (hcat : (st.map fun v => v.category).sum ≤ 8) (hrm : a + mc ≤ rm.cells ∧ b + ms ≤ rm.slots)
    (kx : ∀ E, X E → z_X G F Q (a + mc) (b + ms) h pc L E) : x_W G F Q a b h pc L st2 := by
  obtain ⟨hC, rfl, hd, hb⟩ := hh
  obtain ⟨post, thr, h1, h2, h3⟩ := hM hC hb
  obtain ⟨ad, ow, eA, A1, P1, c1, A2, P2, c2, RY, rfl, hW⟩ := hb
  exact z_callY (ci := 7) (st := st) hE hT n h1 hd hg hw hrc hrs hy hR hW.1 rfl hn hnL d hst hcat hrm (fun v h' hp d' => absurd hp (h2 v h')) (fun E hE9 => kx E (h3 E hE9))
end W1
