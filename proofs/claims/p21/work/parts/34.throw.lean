/-! methods that throw: what throwing wants, carried beside the worlds; contracts that return or throw; their calls and handlers -/
def xIO : String := "java/lang/IndexOutOfBoundsException"
def xIA : String := "java/lang/IllegalArgumentException"
def xIS : String := "java/lang/IllegalStateException"
def xNs : List String := ["java/lang/RuntimeException", "java/lang/Exception"]
def xDs : List String := ["java/lang/RuntimeException", "java/lang/Exception", Bundle.tN]
def strT : List (Nat × String) := [(101, "no such lamp"), (108, "bars is out of range"), (118, "no such phase"), (120, "watts is out of range"), (122, "a cue's argument is out of range"), (127, "all cues are made"), (136, "no such cue or lamp"), (138, "level is out of range"), (148, "no such cue"), (150, "ticks is out of range"), (166, "it asks too much of a phase"), (184, "it is not active, or was released"), (218, "no such cue or phase"), (228, "what is out of range"), (69, "a lamp's argument is out of range"), (80, "all lamps hang")]
def x_TF (G : XG) (s : State) (H : Heap) : Prop :=
  (g_l G).stackTraces = false ∧ (va_Nw (.castable xIO xIO) s ∧ va_Nw (.castable xIA xIA) s ∧ va_Nw (.castable xIS xIS) s) ∧ (va_Nc xIO xIA s ∧ va_Nc xIA xIO s ∧ va_Nc xIO xIS s ∧ va_Nc xIS xIO s ∧ va_Nc xIA xIS s ∧ va_Nc xIS xIA s) ∧ ((∀ q, q ∈ strT → ∃ a, vk_R RX7 q.1 q.2 a s) ∧ ∀ n, n ∈ xDs → va_Nw (.declares (Bundle.initS n)) s) ∧ vx_Zq Bundle.tN "UNASSIGNED_STACK" Bundle.steD (g_A G) s H ∧ vx_Zq Bundle.tN "SUPPRESSED_SENTINEL" Bundle.listD (g_A G) s H
theorem x_TF.warm {G : XG} {s U : State} {H : Heap} (hW : s.WarmedH U.vm) (h : x_TF G s H) : x_TF G U H := by
  obtain ⟨h0, ⟨h1, h2, h3⟩, ⟨n1, n2, n3, n4, n5, n6⟩, h4, h5, h6⟩ := h
  exact ⟨h0, ⟨va_Nw.warmC hW h1, va_Nw.warmC hW h2, va_Nw.warmC hW h3⟩, ⟨n1.moved hW.alike, n2.moved hW.alike, n3.moved hW.alike, n4.moved hW.alike, n5.moved hW.alike, n6.moved hW.alike⟩, ⟨fun q hq => (h4.1 q hq).elim (fun a ha => ⟨a, vk_R.warm hW ha⟩), fun n hn => va_Nw.warmD hW (h4.2 n hn)⟩, h5.moved hW.alike, h6.moved hW.alike⟩
theorem x_TF.same {G : XG} {s U : State} {H : Heap} (hv : U.vm = s.vm) (h : x_TF G s H) : x_TF G U H := by
  have hW : s.WarmedH U.vm := by rw [hv]; exact State.WarmedH.refl s
  exact h.warm hW
theorem x_TF.kept {G : XG} {s : State} {H H1 : Heap} (h : x_TF G s H) (hq : ∀ a : Nat, a < H.size → ¬ g_A G a → H1[a]? = H[a]?) : x_TF G s H1 := ⟨h.1, h.2.1, h.2.2.1, h.2.2.2.1, h.2.2.2.2.1.kept hq, h.2.2.2.2.2.kept hq⟩
def y_Pc (G : XG) (As : List Value) (h : HM) : Array Value → State → Prop := fun v U => x_Pc G As h v U ∧ x_TF G U U.heap
def y_XC (G : XG) (thr : String → Prop) (h : HM) : String → State → State → Prop := fun E st t => thr E ∧ x_H G h t.heap ∧ va_F (g_A G) st t
def y_M (G : XG) (y : MethodName) (ws : List Cond) (rm : Room) (As : List Value) (h : HM) (post : Option Value → HM → Prop) (thr : String → Prop) (mc ms : Nat) : Prop := vx_Met (g_l G) y ws rm (y_Pc G As h) (x_Qc G post) (y_XC G thr h) mc ms (g_A G)
def y_Q (G : XG) (F : XF) (post : Option Value → HM → Prop) (thr : String → Prop) (h : HM) (mc ms : Nat) : State → Prop := vx_MQ (f_b F) (x_Qc G post) (y_XC G thr h) (f_a F) (f_s F) mc ms (g_A G)
theorem y_M.of {G : XG} {cls nm ds : String} {ws ws' : List Cond} {rm : Room} {As : List Value} {h : HM} {post : Option Value → HM → Prop} {thr : String → Prop} {mc ms : Nat} {cc : ByteArray} {maxL : Nat} {ret : Option FieldType} {ent : List (Option Value)}
    (hy : plainName cls = true) (hw : ws = Cond.code ⟨cls, nm, ds⟩ cc maxL ret :: ws') (hn : As.length ≤ maxL) (hc0 : As.all (fun v => v.category == 1) = true) (he : x_ent As maxL = ent)
    (body : ∀ F : XF, x_E G F cc cls ws maxL ret rm → (f_t F).name = nm → x_TF G (f_s F) (f_s F).heap → (∀ x ∈ (f_c F).exceptionTable.toList, False) → x_W G F (y_Q G F post thr h mc ms) 0 0 h 0 ent []) : y_M G ⟨cls, nm, ds⟩ ws rm As h post thr mc ms := by
  subst he
  have hc : ∀ v ∈ As, v.category = 1 := fun v hv => by simpa using List.all_eq_true.mp hc0 v hv
  refine vx_ofW (cc := cc) (maxL := maxL) (ret := ret) hy hw ?_
  intro p e s m args below meth c s₁ B hml hx hv
  obtain ⟨⟨rfl, hH, ⟨hK, hAO⟩, hA⟩, hT⟩ := hv
  have hE : x_E G (p, e, (headSpec ws rm).room, s, m, As.toArray, below, meth, c) cc cls ws maxL ret rm := ⟨B.exec, B.bytes, hml, findClass_of_methodNamed B.named, atoms_spec (ws := ws) B.pre, hK, ⟨B.notSynchronized, hAO⟩, B.returns, rfl, hA⟩
  have hb := body _ hE (name_of_methodNamed B.named B.method).1 hT hx
  rw [entry_eq m As hc maxL]
  exact hb s.heap [] _ hH va_S.rf (x_ent_loc hn hc)
/-- a body with handlers -/
theorem y_M.ofH {G : XG} {cls nm ds : String} {ws ws' : List Cond} {rm : Room} {As : List Value} {h : HM} {post : Option Value → HM → Prop} {thr : String → Prop} {mc ms : Nat} {cc : ByteArray} {maxL : Nat} {ret : Option FieldType} {hh : List (Nat × Nat × Nat × Nat)} {ent : List (Option Value)}
    (hy : plainName cls = true) (hw : ws = Cond.codeWith ⟨cls, nm, ds⟩ cc maxL ret hh :: ws') (hn : As.length ≤ maxL) (hc0 : As.all (fun v => v.category == 1) = true) (he : x_ent As maxL = ent)
    (body : ∀ F : XF, x_E G F cc cls ws maxL ret rm → (f_t F).name = nm → x_TF G (f_s F) (f_s F).heap → (f_c F).exceptionTable.toList = tableOf hh → x_W G F (y_Q G F post thr h mc ms) 0 0 h 0 ent []) : y_M G ⟨cls, nm, ds⟩ ws rm As h post thr mc ms := by
  subst he
  have hc : ∀ v ∈ As, v.category = 1 := fun v hv => by simpa using List.all_eq_true.mp hc0 v hv
  refine vx_ofWH (cc := cc) (maxL := maxL) (ret := ret) (hh := hh) hy hw ?_
  intro p e s m args below meth c s₁ B hml hv
  obtain ⟨⟨rfl, hH, ⟨hK, hAO⟩, hA⟩, hT⟩ := hv
  have hts := atoms_spec (ws := ws) B.pre
  have hE : x_E G (p, e, (headSpec ws rm).room, s, m, As.toArray, below, meth, c) cc cls ws maxL ret rm := ⟨B.exec, B.bytes, hml, findClass_of_methodNamed B.named, hts, hK, ⟨B.notSynchronized, hAO⟩, B.returns, rfl, hA⟩
  have hb := body _ hE (name_of_methodNamed B.named B.method).1 hT (vx_table (x := ⟨cls, nm, ds⟩) B (hts _ (by rw [hw]; exact List.mem_cons_self)))
  rw [entry_eq m As hc maxL]
  exact hb s.heap [] _ hH va_S.rf (x_ent_loc hn hc)
section Y1
variable {G : XG} {F : XF} {cc : ByteArray} {own : String} {Ts : List Cond} {nL : Nat} {ret : Option FieldType} {rm : Room} {Q : State → Prop} {a b : Nat} {h h0 : HM} {pc : Nat} {L L' : List (Option Value)} {st : List Value} {post : Option Value → HM → Prop} {thr : String → Prop} {mc ms : Nat}
theorem y_ret (kk : x_W G F (x_Q G F post mc ms) a b h pc L st) : x_W G F (y_Q G F post thr h0 mc ms) a b h pc L st := fun H locs ls hH hS hL => vx_ret (kk H locs ls hH hS hL)
theorem y_throw (hE : x_E G F cc RX7 Ts nL ret rm) (hT : x_TF G (f_s F) (f_s F).heap) (hX : ∀ x ∈ (f_c F).exceptionTable.toList, False) {ik is ic : Nat} {cls text : String} (hfit : Bundle.fit cls = true) (hcast : va_Nw (.castable cls cls) (f_s F)) (hs : (is, text) ∈ strT) (hk : Cond.classLink RX7 ik cls ∈ Ts) (hini : Cond.initialized cls ∈ Ts) (hat : ∀ w ∈ (vx_atS RX7 ic cls xNs).filter goodWord, w ∈ Ts) (hng : ∀ w ∈ (vx_atS RX7 ic cls xNs).filter (fun w => !goodWord w), w ∈ Cond.castable cls cls :: xDs.map (fun n => Cond.declares (Bundle.initS n)))
    (hgood : ∀ w ∈ Cond.classLink RX7 ik cls :: Cond.initialized cls :: vx_atS RX7 ic cls xNs, vx_ot w = true) (hL0 : L.length = nL)
    (d0 : decode cc pc = .ok (.new ik, 3)) (d3 : decode cc (pc + 3) = .ok (.dup, 1)) (d4 : decode cc (pc + 4) = .ok (.ldc is, 2)) (d6 : decode cc (pc + 6) = .ok (.invokespecial ic, 3)) (d9 : decode cc (pc + 9) = .ok (.athrow, 1))
    (hfr : 6 ≤ rm.frames) (hlo : (st.map fun v => v.category).sum + 82 ≤ rm.locals) (hrm : a + 1 ≤ rm.cells ∧ b + 6 ≤ rm.slots) (hc : a + 1 ≤ mc ∧ b + 6 ≤ ms) (hthr : thr cls) : x_W G F (y_Q G F post thr h mc ms) a b h pc L st := by
  intro H locs ls hH hS hL
  obtain ⟨hexec, hb, hml, hown, hts, hK, hAO, -, hR, hA⟩ := hE
  obtain ⟨t0, t1, t2, t3, t4, t5⟩ := hT
  obtain ⟨sa, hsa⟩ := t3.1 _ hs
  refine vx_throwS (names := xNs) (A := g_A G) hexec hb t0 hown hfit (by decide) (hts _ hk) (hts _ hini) hsa (vx_hat (B := Cond.castable cls cls :: xDs.map (fun n => Cond.declares (Bundle.initS n))) (fun w hw => hts _ (hat w hw)) hng (vx_c (va_Nw.use rfl hcast) (fun w hw => by obtain ⟨n, hn, rfl⟩ := List.mem_map.mp hw; exact va_Nw.use rfl (t3.2 n hn)))) hgood t4 t5 hS (by rw [hml, ← hL0]; exact hL.1) d0 d3 d4 d6 d9 (fun x hx => (hX x hx).elim) (by rw [hR]; exact hfr) (by rw [hR]; exact hlo) (by rw [hR]; exact hrm.1) (by rw [hR]; exact hrm.2) hAO.1 ?_ hS.2.2 hc.1 hc.2
  intro t halike hsz hq
  exact ⟨hthr, fun q e hqe => ⟨(hH q e hqe).1.kept (hq q (hH q e hqe).1.lt), (hH q e hqe).2⟩, Nat.le_trans hS.1 hsz, fun q h1 h2 => (hq q (Nat.lt_of_lt_of_le h1 hS.1)).trans (hS.2.1 q h1 h2)⟩
end Y1
