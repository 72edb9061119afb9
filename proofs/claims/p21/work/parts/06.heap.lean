/-! the rows that read and write the heap -/
theorem x_H.up {G : XG} {h : HM} {H H1 : Heap} {a : Nat} {e : va_E} (hH : x_H G h H) (hA : g_A G a) (he : va_at (g_D G) vwCl (a, e) H1) (oq : ∀ q : Nat, q ≠ a → H1[q]? = H[q]?) : x_H G (x_up h a e) H1 := by
  intro q e' hq
  by_cases c : q = a
  · subst c
    rw [x_up_eq] at hq
    cases hq
    exact ⟨he, hA⟩
  · rw [x_up_ne c] at hq
    obtain ⟨h1, h2⟩ := hH q e' hq
    exact ⟨h1.kept (oq q c), h2⟩
theorem x_H.new {G : XG} {h : HM} {H H1 : Heap} {e : va_E} (hH : x_H G h H) (hA : g_A G H.size) (he : va_at (g_D G) vwCl (H.size, e) H1) (oq : ∀ q : Nat, q < H.size → H1[q]? = H[q]?) : h H.size = none ∧ x_H G (x_up h H.size e) H1 := by
  refine ⟨?_, fun q e' hq => ?_⟩
  · cases hc : h H.size with
    | none => rfl
    | some e0 => exact absurd (hH _ _ hc).1.lt (Nat.lt_irrefl _)
  · by_cases c : q = H.size
    · subst c
      rw [x_up_eq] at hq
      cases hq
      exact ⟨he, hA⟩
    · rw [x_up_ne c] at hq
      obtain ⟨h1, h2⟩ := hH q e' hq
      exact ⟨h1.kept (oq q h1.lt), h2⟩
theorem x_S.new {A : Nat → Prop} {H0 H H1 : Heap} {locs : List Loc} (hS : va_S A H0 H locs) (z1 : H1.size = H.size + 1) (o1 : ∀ q : Nat, q < H.size → H1[q]? = H[q]?) : va_S A H0 H1 locs :=
  ⟨Nat.le_trans hS.1 (by omega), fun x h1 h2 => (o1 x (Nat.lt_of_lt_of_le h1 hS.1)).trans (hS.2.1 x h1 h2), hS.2.2⟩
theorem x_one {D : va_G} {a : Nat} {e : va_E} {H : Heap} (h : va_at D vwCl (a, e) H) : va_P D vwCl [(a, e)] H := by
  intro k q hk
  match k, hk with
  | 0, hk => cases hk; exact h
  | k + 1, hk => simp at hk
section X3
variable {G : XG} {F : XF} {cc : ByteArray} {own : String} {Ts : List Cond} {nL : Nat} {ret : Option FieldType} {rm : Room} {Q : State → Prop} {a b : Nat} {h : HM} {pc : Nat} {L L' : List (Option Value)} {st : List Value} {q : Nat}
theorem x_get (hE : x_E G F cc own Ts nL ret rm) {C : String} {T : u_T} {N ci index : Nat} (hin : ∀ w ∈ u_ws C T N, w ∈ Ts) {fs : List Value} (hq : h q = some (.inr (ci, fs))) (hc : vwCl[ci]? = some (C, T, N)) (k : Nat) (hk : k < N) (hw : Cond.fieldLink own index (T k).1 (T k).2.1 (T k).2.2.1 ∈ Ts) {v : Value} (hv : fs[k]? = some v) (d : decode cc pc = .ok (.getfield index, 3)) (kk : x_W G F Q a b h (pc + 3) L (v :: st)) : x_W G F Q a b h pc L (.ref q :: st) := fun H locs ls hH hS hL =>
  va_get (D := g_D G) (cl := vwCl) (tys := x_T (g_c G)) (ws := [(q, .inr (ci, fs))]) hE.1 hE.2.1 hE.2.2.2.2.1 hin hE.2.2.2.1 hE.2.2.2.2.2.1 (x_one (hH q _ hq).1) 0 rfl hc k hk (hE.2.2.2.2.1 _ hw) (fun _ h9 => h9) hv d (kk H locs ls hH hS hL)
theorem x_put (hE : x_E G F cc own Ts nL ret rm) {C : String} {T : u_T} {N ci index : Nat} (hin : ∀ w ∈ u_ws C T N, w ∈ Ts) (ty0 : Nat → FieldType) (hty : ∀ k, k < N → parseFieldDescriptor (T k).2.2.1 = some (ty0 k)) (hnm : ∀ a, a < N → ∀ b, b < N → a ≠ b → (T a).2.1 ≠ (T b).2.1) {fs fs' : List Value} (hq : h q = some (.inr (ci, fs))) (hc : vwCl[ci]? = some (C, T, N)) (k : Nat) (hk : k < N) (hw : Cond.fieldLink own index (T k).1 (T k).2.1 (T k).2.2.1 ∈ Ts) (hfin : (T k).2.2.2 = false) {v : Value} (hn : narrow (ty0 k) v = v) (hfit : fits (ty0 k) v = true) (hl : k < fs.length) (hfs : fs.set k v = fs') (d : decode cc pc = .ok (.putfield index, 3)) (kk : x_W G F Q a b (x_up h q (.inr (ci, fs'))) (pc + 3) L st) : x_W G F Q a b h pc L (v :: .ref q :: st) := by
  subst hfs
  intro H locs ls hH hS hL
  obtain ⟨hexec, hb, hml, hown, hts, hK, -⟩ := hE
  have hap := va_apart (own := own) hts hin ty0 hty hnm hK hc
  obtain ⟨hat, hAq⟩ := hH q _ hq
  obtain ⟨r, h1, cell, q1, q2, q3, q4⟩ := hat
  have hr : r = (C, T, N) := Option.some.inj (h1.symm.trans hc)
  subst hr
  obtain ⟨hSl, hfc, kC, hkC, hkind⟩ := hK.1 ci _ hc
  obtain ⟨cf, kf, fi, f, hi, hsl⟩ := hSl k hk
  have hlay := hts _ (hin _ (u_in_lay hk))
  unfold u_lay at hlay
  rw [if_neg (by rw [hfin]; decide)] at hlay
  have hst := (u_facts hfc hkC (u_lays hts hin hk) hi).1
  have h6 := u_store hfc hkC hkind hlay hi (hty k hk) hn hfit
  refine W.putK hexec hb (f := f) ⟨hown, hts _ hw, ⟨_, _, _, hi⟩, hst⟩ (by rw [q2]; exact h6) q1 q3 (by rw [hsl]; exact k2_hasslot (q4 k hk)) rfl rfl d fun H' e1 e2 e3 => ?_
  rw [hsl] at e1 ⊢
  exact kk H' _ ls (hH.up hAq ⟨_, hc, t_OB.to (V := updV (vp_V fs) k v) ⟨_, e1, q2, q3, t_set q4 hap hk v⟩ (fun j _ => vp_updV_set hl v j)⟩ e3) (hS.put e2 e3 hAq) hL
theorem x_putF (hE : x_E G F cc own Ts nL ret rm) {C : String} {T : u_T} {N ci index : Nat} (hin : ∀ w ∈ u_ws C T N, w ∈ Ts) (ty0 : Nat → FieldType) (hty : ∀ k, k < N → parseFieldDescriptor (T k).2.2.1 = some (ty0 k)) (hnm : ∀ a, a < N → ∀ b, b < N → a ≠ b → (T a).2.1 ≠ (T b).2.1) {fs fs' : List Value} (hq : h q = some (.inr (ci, fs))) (hc : vwCl[ci]? = some (C, T, N)) (k : Nat) (hk : k < N) (hw : Cond.fieldLink own index (T k).1 (T k).2.1 (T k).2.2.1 ∈ Ts) (hfin : (T k).2.2.2 = true) (hin2 : (f_t F).name = "<init>") (hdecl : (T k).1 = own) {v : Value} (hn : narrow (ty0 k) v = v) (hfit : fits (ty0 k) v = true) (hl : k < fs.length) (hfs : fs.set k v = fs') (d : decode cc pc = .ok (.putfield index, 3)) (kk : x_W G F Q a b (x_up h q (.inr (ci, fs'))) (pc + 3) L st) : x_W G F Q a b h pc L (v :: .ref q :: st) := by
  subst hfs
  intro H locs ls hH hS hL
  obtain ⟨hexec, hb, hml, hown, hts, hK, -⟩ := hE
  have hap := va_apart (own := own) hts hin ty0 hty hnm hK hc
  obtain ⟨hat, hAq⟩ := hH q _ hq
  obtain ⟨r, h1, cell, q1, q2, q3, q4⟩ := hat
  have hr : r = (C, T, N) := Option.some.inj (h1.symm.trans hc)
  subst hr
  obtain ⟨hSl, hfc, kC, hkC, hkind⟩ := hK.1 ci _ hc
  obtain ⟨cf, kf, fi, f, hi, hsl⟩ := hSl k hk
  have hlay := hts _ (hin _ (u_in_lay hk))
  unfold u_lay at hlay
  rw [if_pos hfin] at hlay
  have hst := (u_facts hfc hkC (u_lays hts hin hk) hi).1
  have hcf : (f_m F).cls = cf := by
    obtain ⟨_, _, c', _, _, _, -, -, hf', -, -, -, hown2, -⟩ := Cond.laysFinal_spec hlay
    have e1 : c' = cf := by have := hi.symm.trans hf'; simp at this; exact this.1.symm
    rw [hdecl] at hown2
    rw [← e1]; exact Option.some.inj (hown.symm.trans hown2)
  have h6 := u_fits hfc hkC hkind (Or.inr hlay) hi (hty k hk) hn hfit
  refine W.putFinK hexec hb hown (hts _ hw) hi hst hcf hin2 (by rw [q2]; exact h6) q1 q3 (by rw [hsl]; exact k2_hasslot (q4 k hk)) rfl rfl d fun H' e1 e2 e3 => ?_
  rw [hsl] at e1 ⊢
  exact kk H' _ ls (hH.up hAq ⟨_, hc, t_OB.to (V := updV (vp_V fs) k v) ⟨_, e1, q2, q3, t_set q4 hap hk v⟩ (fun j _ => vp_updV_set hl v j)⟩ e3) (hS.put e2 e3 hAq) hL
theorem x_iald (hE : x_E G F cc own Ts nL ret rm) {n : Nat} {f : Nat → Int32} (hq : h q = some (.inl (g_c G 0, n, .inl f))) {i : Int32} {v : Int32} (hin : vp_in i n) (hv : f i.toNatClampNeg = v) (d : decode cc pc = .ok (.iaload, 1)) (kk : x_W G F Q a b h (pc + 1) L (.int v :: st)) : x_W G F Q a b h pc L (.int i :: .ref q :: st) := by
  subst hv
  exact fun H locs ls hH hS hL => va_iald (D := g_D G) (cl := vwCl) (tys := x_T (g_c G)) (ws := [(q, .inl (g_c G 0, n, .inl f))]) hE.1 hE.2.1 hE.2.2.2.2.2.1 (x_one (hH q _ hq).1) 0 0 rfl rfl hin d (kk H locs ls hH hS hL)
theorem x_aald (hE : x_E G F cc own Ts nL ret rm) {n t0 : Nat} {cA : ClassId} {C : String} {f : Nat → Option Nat} (hq : h q = some (.inl (cA, n, .inr (.inr (.inr (.inr f)))))) (ht : (x_T (g_c G))[t0]? = some (cA, .object C)) {i : Int32} {v : Option Nat} (hin : vp_in i n) (hv : f i.toNatClampNeg = v) (d : decode cc pc = .ok (.aaload, 1)) (kk : x_W G F Q a b h (pc + 1) L (va_rf v :: st)) : x_W G F Q a b h pc L (.int i :: .ref q :: st) := by
  subst hv
  exact fun H locs ls hH hS hL => va_aldq (D := g_D G) (cl := vwCl) (tys := x_T (g_c G)) (ws := [(q, .inl (cA, n, .inr (.inr (.inr (.inr f)))))]) hE.1 hE.2.1 hE.2.2.2.2.2.1 (x_one (hH q _ hq).1) 0 t0 rfl ht hin d (kk H locs ls hH hS hL)
theorem x_alen (hE : x_E G F cc own Ts nL ret rm) {t0 n : Nat} {cA : ClassId} {x : (Nat → Int32) ⊕ (Nat → Int64) ⊕ (Nat → UInt32) ⊕ (Nat → UInt64) ⊕ (Nat → Option Nat)} {ty : FieldType} (hq : h q = some (.inl (cA, n, x))) (ht : (x_T (g_c G))[t0]? = some (cA, ty)) (d : decode cc pc = .ok (.arraylength, 1)) (kk : x_W G F Q a b h (pc + 1) L (.int (nI n) :: st)) : x_W G F Q a b h pc L (.ref q :: st) := fun H locs ls hH hS hL =>
  va_alen (D := g_D G) (cl := vwCl) (tys := x_T (g_c G)) (ws := [(q, .inl (cA, n, x))]) hE.1 hE.2.1 hE.2.2.2.2.2.1 (x_one (hH q _ hq).1) 0 t0 rfl ht rfl d (kk H locs ls hH hS hL)
theorem x_iast (hE : x_E G F cc own Ts nL ret rm) {n : Nat} {f f' : Nat → Int32} (hq : h q = some (.inl (g_c G 0, n, .inl f))) {i x : Int32} (hin : vp_in i n) (hf : upd f i.toNatClampNeg x = f') (d : decode cc pc = .ok (.iastore, 1)) (kk : x_W G F Q a b (x_up h q (.inl (g_c G 0, n, .inl f'))) (pc + 1) L st) : x_W G F Q a b h pc L (.int x :: .int i :: .ref q :: st) := by
  subst hf
  intro H locs ls hH hS hL
  obtain ⟨hexec, hb, hml, hown, hts, hK, -⟩ := hE
  obtain ⟨hat, hAq⟩ := hH q _ hq
  have ht : (x_T (g_c G))[0]? = some (g_c G 0, .int) := rfl
  refine W.iast hexec hb hat ((hK.2 0 _ ht).1 n (fun j => .int (f j))) (fun q => by cases q) (by show ¬ (i < 0 ∨ (arrV _ _ _).slots.size ≤ _); rw [arrV_size]; exact hin) rfl rfl d fun H1 e z oq => ?_
  refine kk H1 _ ls (hH.up hAq ?_ oq) (hS.put z oq hAq) hL
  show H1[q]? = some (vp_cell _ _)
  rw [e]
  rw [vp_cell_i, vp_cell_i, arrV_store]
  congr 2
  funext j
  by_cases hj : j = i.toNatClampNeg
  · subst hj
    simp [updV, upd]
  · simp [updV, upd, hj]
theorem x_aast (hE : x_E G F cc own Ts nL ret rm) {n t0 ci v : Nat} {cA : ClassId} {r : vw_C} {f f' : Nat → Option Nat} {vs : List Value} (hq : h q = some (.inl (cA, n, .inr (.inr (.inr (.inr f)))))) (ht : (x_T (g_c G))[t0]? = some (cA, .object r.1)) (hv : h v = some (.inr (ci, vs))) (hc : vwCl[ci]? = some r) {i : Int32} (hin : vp_in i n) (hf : va_up f i.toNatClampNeg (some v) = f') (d : decode cc pc = .ok (.aastore, 1)) (kk : x_W G F Q a b (x_up h q (.inl (cA, n, .inr (.inr (.inr (.inr f')))))) (pc + 1) L st) : x_W G F Q a b h pc L (.ref v :: .int i :: .ref q :: st) := by
  subst hf
  intro H locs ls hH hS hL
  obtain ⟨hexec, hb, hml, hown, hts, hK, -⟩ := hE
  obtain ⟨hat, hAq⟩ := hH q _ hq
  have hlt : i.toNatClampNeg < n := Nat.not_le.mp fun q => hin (Or.inr q)
  have h0 : ¬ i < 0 := fun q => hin (Or.inl q)
  obtain ⟨r', hr', cellV, g1, g2, g3, -⟩ := (hH v _ hv).1
  have hcls := (hK.1 ci r hc).2
  obtain ⟨kA, comp, k1, k2, k3, -⟩ := (hK.2 t0 _ ht).2
  have hcomp : comp = (g_D G).1 ci := Option.some.inj (k3.symm.trans hcls.1)
  subst hcomp
  obtain ⟨kC, hkC, -⟩ := hcls.2
  refine W.aast hexec hb hat (fun q h => by cases h) (fun h => by cases h) k1 k2 rfl hkC ⟨h0, by show _ < (arrV _ _ _).slots.size; rw [arrV_size]; exact hlt⟩ g1 (fun q h => by rw [g3] at h; cases h) (by rw [g2]; exact hkC) (by rw [g2]; exact va_assign hcls) rfl rfl d fun H1 e z oq => ?_
  refine kk H1 _ ls (hH.up hAq ?_ oq) (hS.put z oq hAq) hL
  show H1[q]? = some (vp_cell _ _)
  rw [e]
  rw [vp_cell_q, vp_cell_q, arrV_store]
  congr 2
  funext j
  by_cases hj : j = i.toNatClampNeg
  · subst hj
    simp [updV, va_up, va_rf]
  · simp [updV, va_up, hj]
theorem x_new (hE : x_E G F cc own Ts nL ret rm) {C : String} {T : u_T} {N ci index : Nat} (hin : ∀ w ∈ u_ws C T N, w ∈ Ts) (ty : Nat → FieldType) (hty : ∀ k, k < N → parseFieldDescriptor (T k).2.2.1 = some (ty k)) (hw : Cond.classLink own index C ∈ Ts) (hwi : Cond.instantiable C N ∈ Ts) (hwn : Cond.initialized C ∈ Ts) (hc : vwCl[ci]? = some (C, T, N)) {fs : List Value} (hfs : ∀ j, j < N → defaultValue (ty j) = vp_V fs j) (hcells : a + 1 ≤ rm.cells) (hslots : b + N ≤ rm.slots) (d : decode cc pc = .ok (.new index, 3))
    (kk : ∀ q : Nat, h q = none → x_W G F Q (a + 1) (b + N) (x_up h q (.inr (ci, fs))) (pc + 3) L (.ref q :: st)) : x_W G F Q a b h pc L st := by
  intro H locs ls hH hS hL
  obtain ⟨hexec, hb, hml, hown, hts, hK, -, -, hR, hA⟩ := hE
  have hKn := hK.1 ci _ hc
  refine W.newcK hexec hb hown (hts _ hw) (hts _ hwi) (hts _ hwn) rfl d (by rw [hR]; exact hcells) (by rw [hR]; exact hslots) hKn.2.1 rfl fun H1 kC hkC e1 z1 o1 => ?_
  obtain ⟨h1, h2⟩ := hH.new (hA _ hS.1) (e := .inr (ci, fs)) ⟨_, hc, (u_born ty hts hin hKn hkC e1 hty).to hfs⟩ o1
  exact kk H.size h1 H1 locs ls h2 (x_S.new hS z1 o1) hL
theorem x_newa (hE : x_E G F cc own Ts nL ret rm) {atype : ArrayType} {t0 : Nat} {cA : ClassId} {a0 : vp_A} {ty : FieldType} (hw : Cond.arrayClass (newarray.typeOf atype) ∈ Ts) (hty : newarray.typeOf atype = ty) (ht : (x_T (g_c G))[t0]? = some (cA, ty)) (hobj : ∀ C, ty ≠ .object C) {n : Int32} {N' : Nat} (ha : ∀ cA : ClassId, vp_cell cA a0 = arrV cA N' (fun _ => defaultValue ty)) (hn : ¬ n < 0) (hN : n.toNatClampNeg = N') (hbytes : N' * componentBytes ty ≤ 536870912) (hcells : a + 1 ≤ rm.cells) (hslots : b + N' ≤ rm.slots) (d : decode cc pc = .ok (.newarray atype, 2))
    (kk : ∀ q : Nat, h q = none → x_W G F Q (a + 1) (b + N') (x_up h q (.inl (cA, a0))) (pc + 2) L (.ref q :: st)) : x_W G F Q a b h pc L (.int n :: st) := by
  subst hty
  intro H locs ls hH hS hL
  obtain ⟨hexec, hb, hml, hown, hts, hK, -, -, hR, hA⟩ := hE
  refine va_newaK hexec hb (hts _ hw) rfl d rfl hn hN hbytes (by rw [hR]; exact hcells) (by rw [hR]; exact hslots) rfl fun H1 cA' e1 z1 o1 hAr hNm => ?_
  have hcA : cA' = cA := by
    have h4 := (hK.2 t0 _ ht).2
    unfold va_RA at h4
    split at h4
    · exact absurd (by assumption) (hobj _)
    · exact Option.some.inj (hNm.symm.trans h4)
  subst hcA
  obtain ⟨h1, h2⟩ := hH.new (hA _ hS.1) (e := .inl (cA', a0)) (by show H1[H.size]? = some (vp_cell _ _); rw [ha]; exact e1) o1
  exact kk H.size h1 H1 locs ls h2 (x_S.new hS z1 o1) hL
theorem x_newr (hE : x_E G F cc own Ts nL ret rm) {C : String} {index t0 : Nat} {cA : ClassId} (hw : Cond.classLink own index C ∈ Ts) (hov : va_AO C (f_s F)) (ht : (x_T (g_c G))[t0]? = some (cA, .object C)) {n : Int32} {N' : Nat} (hn : ¬ n < 0) (hN : n.toNatClampNeg = N') (hbytes : N' * 4 ≤ 536870912) (hcells : a + 1 ≤ rm.cells) (hslots : b + N' ≤ rm.slots) (d : decode cc pc = .ok (.anewarray index, 3))
    (kk : ∀ q : Nat, h q = none → x_W G F Q (a + 1) (b + N') (x_up h q (.inl (cA, N', .inr (.inr (.inr (.inr (fun _ => none))))))) (pc + 3) L (.ref q :: st)) : x_W G F Q a b h pc L (.int n :: st) := by
  subst hN
  intro H locs ls hH hS hL
  obtain ⟨hexec, hb, hml, hown, hts, hK, -, -, hR, hA⟩ := hE
  refine W.anew hexec hb hown (hts _ hw) (va_AO.use hov) rfl d rfl hn hbytes (by rw [hR]; exact hcells) (by rw [hR]; exact hslots) fun cA' kA comp f1 f2 f3 f4 => ?_
  generalize hH1 : H.push ({ cls := cA', slots := Array.replicate n.toNatClampNeg .null, vm := .none } : Cell) = H1
  have z1 : H1.size = H.size + 1 := by rw [← hH1, Array.size_push]
  have e1 : H1[H.size]? = some (arrV cA' n.toNatClampNeg (fun _ => .null)) := by rw [← hH1, Array.getElem?_push_size, ← arrV_new]
  have o1 : ∀ q : Nat, q < H.size → H1[q]? = H[q]? := fun q hq => by rw [← hH1, Array.getElem?_push, if_neg (Nat.ne_of_lt hq)]
  have hcA : cA' = cA := by
    obtain ⟨kA2, comp2, g1, g2, g3, g4⟩ := (hK.2 t0 _ ht).2
    exact Option.some.inj (f1.symm.trans g4)
  subst hcA
  obtain ⟨h1, h2⟩ := hH.new (hA _ hS.1) (e := .inl (cA', n.toNatClampNeg, .inr (.inr (.inr (.inr (fun _ => none)))))) (by show H1[H.size]? = some (vp_cell _ _); rw [vp_cell_q]; exact e1) o1
  exact kk H.size h1 H1 locs ls h2 (x_S.new hS z1 o1) hL
end X3
