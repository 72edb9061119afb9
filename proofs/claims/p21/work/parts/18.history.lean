
theorem x_copyi {G : XG} {F : XF} {cc : ByteArray} {own : String} {Ts : List Cond} {nL : Nat} {ret : Option FieldType} {rm : Room} {Q : State → Prop} {a b : Nat} {h : HM} {pc : Nat} {L : List (Option Value)} {st : List Value} (hE : x_E G F cc own Ts nL ret rm) {index q0 q1 n0 n1 k : Nat} {f g g' : Nat → Int32} (w1 : Cond.methodLink own index arraycopyName ∈ Ts) (w2 : Cond.native arraycopyName ∈ Ts) (w3 : Cond.static arraycopyName ∈ Ts) (w4 : Cond.initialized "java/lang/System" ∈ Ts) (hnL : L.length = nL)
    (h0 : h q0 = some (.inl (g_c G 0, n0, .inl f))) (h1 : h q1 = some (.inl (g_c G 0, n1, .inl g))) (hk : k < 2 ^ 31) (hk0 : k ≤ n0) (hk1 : k ≤ n1) (hg : va_cpy f g 0 0 k = g') (hfr : 1 ≤ rm.frames) (hlo : (st.map fun v => v.category).sum + 18 ≤ rm.locals) (d : decode cc pc = .ok (.invokestatic index, 3))
    (kk : x_W G F Q a b (x_up h q1 (.inl (g_c G 0, n1, .inl g'))) (pc + 3) L st) : x_W G F Q a b h pc L (.int (nI k) :: .int (nI 0) :: .ref q1 :: .int (nI 0) :: .ref q0 :: st) := by
  subst hg
  intro H locs ls hH hS hL
  obtain ⟨hexec, hb, hml, hown, hts, hK, -, -, hR, hA⟩ := hE
  generalize hws : (List.range H.size).filterMap (fun q => (h q).map (fun e => (q, e))) = ws
  have hmem : ∀ (q : Nat) (e : va_E), h q = some e → (q, e) ∈ ws := fun q e hq => by
    rw [← hws]
    exact List.mem_filterMap.mpr ⟨q, List.mem_range.mpr (hH q e hq).1.lt, by rw [hq]; rfl⟩
  have hmem2 : ∀ (x : Nat × va_E), x ∈ ws → h x.1 = some x.2 := fun x hx => by
    rw [← hws] at hx
    obtain ⟨q, -, hq⟩ := List.mem_filterMap.mp hx
    cases hc : h q with
    | none => rw [hc] at hq; cases hq
    | some e => rw [hc] at hq; cases hq; exact hc
  have hfst : ws.map Prod.fst = (List.range H.size).filter (fun q => (h q).isSome) := by
    rw [← hws, List.map_filterMap, ← List.filterMap_eq_filter]
    congr 1
    funext q
    cases hc : h q <;> simp [hc, Option.guard]
  have hnd : (ws.map Prod.fst).Nodup := by rw [hfst]; exact List.nodup_range.filter _
  have hinj : ∀ (i j : Nat) (p q : Nat × va_E), ws[i]? = some p → ws[j]? = some q → p.1 = q.1 → i = j := fun i j p q hi hj e => by
    have hi' : (ws.map Prod.fst)[i]? = some p.1 := by rw [List.getElem?_map, hi]; rfl
    have hj' : (ws.map Prod.fst)[j]? = some p.1 := by rw [List.getElem?_map, hj, e]; rfl
    exact (List.getElem?_inj (get_lt hi') hnd).mp (hi'.trans hj'.symm)
  have hP : va_P (g_D G) vwCl ws H := fun k x hx => (hH x.1 x.2 (hmem2 x (List.mem_of_getElem? hx))).1
  have hD : va_D (g_A G) ws := ⟨hinj, fun k x hx => (hH x.1 x.2 (hmem2 x (List.mem_of_getElem? hx))).2⟩
  obtain ⟨i0, hi0⟩ := List.getElem?_of_mem (hmem _ _ h0)
  obtain ⟨i1, hi1⟩ := List.getElem?_of_mem (hmem _ _ h1)
  refine va_copyi (hexec := hexec) hb (by rw [hml, ← hnL]; exact hL.1.symm) hown (hts _ w1) (hts _ w2) (hts _ w3) (hts _ w4) hK hP hD hS i0 i1 0 0 hi0 hi1 rfl rfl rfl (by decide) (by decide) (nI_pos hk) (by rw [nI_clamp hk]; show 0 + k ≤ n0; omega) (by rw [nI_clamp hk]; show 0 + k ≤ n1; omega) (fun i hi => rfl) (by rw [hR]; exact hfr) (by rw [hR]; exact hlo) d fun H1 locs1 hP1 hD1 hS1 => ?_
  rw [nI_clamp hk] at hP1 hD1
  refine kk H1 locs1 ls (fun q e hq => ?_) hS1 hL
  by_cases c : q = q1
  · subst c
    rw [x_up_eq] at hq
    cases hq
    have z := hP1 i1 _ (List.getElem?_set_self (get_lt hi1))
    exact ⟨z, hD1.2 i1 _ (List.getElem?_set_self (get_lt hi1))⟩
  · rw [x_up_ne c] at hq
    obtain ⟨j, hj⟩ := List.getElem?_of_mem (hmem _ _ hq)
    have hji : i1 ≠ j := fun e => by
      rw [← e, hi1] at hj
      cases hj
      exact c rfl
    have hj2 : (ws.set i1 (q1, .inl (g_c G 0, n1, .inl (va_cpy f g 0 0 k))))[j]? = some (q, e) := by rw [List.getElem?_set_ne hji]; exact hj
    exact ⟨hP1 j _ hj2, hD1.2 j _ hj2⟩

set_option maxHeartbeats 4000000 in
set_option maxRecDepth 100000 in
theorem c_X6_init (G : XG) {wo : Nat} {h : HM} (hwo : h wo = some (.inr (6, [.null, .null, .null, .int 0, .int 0]))) : x_M G yX6_init wsX6_init ({ frames := 1, cells := 3, slots := 1536, locals := 20 } : Room) [.ref wo] h (fun v h' => v = none ∧ ∃ nA dA yA : Nat, wtW G wo nA dA yA [] [] h' ∧ x_fr (fun z => z = wo) h h' ∧ yA ≠ nA ∧ h nA = none ∧ h dA = none ∧ h yA = none) 3 1536 := by
  refine x_M.of (cc := cX6_init) (maxL := 1) (ret := none) (ent := [some (.ref wo)]) (by decide +kernel) rfl (Nat.le_of_ble_eq_true rfl) rfl rfl ?_
  intro F hE hname
  have hinX6 : ∀ w ∈ wsX60, w ∈ wsX6_init := by decide +kernel
  have hf0 : x_fr (fun z => z = wo) h h := x_fr.refl h
  refine x_aload_n hE dX6_init_0 rfl rfl ?_
  refine x_objinit hE (List.mem_of_getElem? (i := 1) rfl) (List.mem_of_getElem? (i := 2) rfl) (List.mem_of_getElem? (i := 3) rfl) rfl (Nat.le_of_ble_eq_true rfl) (Nat.le_of_ble_eq_true rfl) dX6_init_1 ?_
  refine x_aload_n hE dX6_init_4 rfl rfl ?_
  refine x_sipush (v := nI 512) hE dX6_init_5 (by decide) ?_
  refine x_newr (t0 := 4) (cA := g_c G 4) hE (List.mem_of_getElem? (i := 4) rfl) hE.2.2.2.2.2.2.1.2.2.1 rfl (nI_pos (by decide)) (nI_clamp (by decide)) (by decide) (Nat.le_of_ble_eq_true rfl) (Nat.le_of_ble_eq_true rfl) dX6_init_8 (fun nA hnA0 => ?_)
  generalize hhh1 : x_up h nA (.inl (g_c G 4, 512, .inr (.inr (.inr (.inr (fun _ => none)))))) = h1
  have hc2 : h1 nA = some (.inl (g_c G 4, 512, .inr (.inr (.inr (.inr (fun _ => none)))))) := by rw [← hhh1]; exact x_up_eq _ _ _
  have hc3 : h1 wo = some (.inr (6, [.null, .null, .null, .int 0, .int 0])) := by rw [← hhh1, x_up_ne (x_none_ne hnA0 hwo)]; exact hwo
  have hfh1 : x_fr (fun z => z = wo) h h1 := by rw [← hhh1]; exact hf0.new hnA0
  have hnA1 : h nA = none := hf0.none1 hwo hnA0
  refine x_putF (fs' := [.ref nA, .null, .null, .int 0, .int 0]) hE hinX6 tyX6 tyX6_ok nmX6 hc3 rfl 0 (by decide) (List.mem_of_getElem? (i := 5) rfl) rfl hname rfl rfl rfl (Nat.le_of_ble_eq_true rfl) rfl dX6_init_11 ?_
  generalize hhh4 : x_up h1 wo (.inr (6, [.ref nA, .null, .null, .int 0, .int 0])) = h4
  have hc5 : h4 wo = some (.inr (6, [.ref nA, .null, .null, .int 0, .int 0])) := by rw [← hhh4]; exact x_up_eq _ _ _
  have hc6 : h4 nA = some (.inl (g_c G 4, 512, .inr (.inr (.inr (.inr (fun _ => none)))))) := by rw [← hhh4, x_up_ne (Ne.symm (x_none_ne hnA0 hwo))]; exact hc2
  have hfh4 : x_fr (fun z => z = wo) h h4 := by rw [← hhh4]; exact hfh1.up rfl
  refine x_aload_n hE dX6_init_14 rfl rfl ?_
  refine x_sipush (v := nI 512) hE dX6_init_15 (by decide) ?_
  refine x_newa (t0 := 0) (cA := g_c G 0) (a0 := (512, .inl (fun _ => 0))) hE (List.mem_of_getElem? (i := 6) rfl) rfl rfl (fun C e => by cases e) (fun cA => rfl) (nI_pos (by decide)) (nI_clamp (by decide)) (by decide) (Nat.le_of_ble_eq_true rfl) (Nat.le_of_ble_eq_true rfl) dX6_init_18 (fun dA hdA0 => ?_)
  generalize hhh7 : x_up h4 dA (.inl (g_c G 0, 512, .inl (fun _ => 0))) = h7
  have hc8 : h7 dA = some (.inl (g_c G 0, 512, .inl (fun _ => 0))) := by rw [← hhh7]; exact x_up_eq _ _ _
  have hc9 : h7 wo = some (.inr (6, [.ref nA, .null, .null, .int 0, .int 0])) := by rw [← hhh7, x_up_ne (x_none_ne hdA0 hc5)]; exact hc5
  have hc10 : h7 nA = some (.inl (g_c G 4, 512, .inr (.inr (.inr (.inr (fun _ => none)))))) := by rw [← hhh7, x_up_ne (x_none_ne hdA0 hc6)]; exact hc6
  have hfh7 : x_fr (fun z => z = wo) h h7 := by rw [← hhh7]; exact hfh4.new hdA0
  have hdA1 : h dA = none := hfh4.none1 hc5 hdA0
  refine x_putF (fs' := [.ref nA, .ref dA, .null, .int 0, .int 0]) hE hinX6 tyX6 tyX6_ok nmX6 hc9 rfl 1 (by decide) (List.mem_of_getElem? (i := 7) rfl) rfl hname rfl rfl rfl (Nat.le_of_ble_eq_true rfl) rfl dX6_init_20 ?_
  generalize hhh11 : x_up h7 wo (.inr (6, [.ref nA, .ref dA, .null, .int 0, .int 0])) = h11
  have hc12 : h11 wo = some (.inr (6, [.ref nA, .ref dA, .null, .int 0, .int 0])) := by rw [← hhh11]; exact x_up_eq _ _ _
  have hc13 : h11 dA = some (.inl (g_c G 0, 512, .inl (fun _ => 0))) := by rw [← hhh11, x_up_ne (Ne.symm (x_none_ne hdA0 hc5))]; exact hc8
  have hc14 : h11 nA = some (.inl (g_c G 4, 512, .inr (.inr (.inr (.inr (fun _ => none)))))) := by rw [← hhh11, x_up_ne (Ne.symm (x_none_ne hnA0 hwo))]; exact hc10
  have hfh11 : x_fr (fun z => z = wo) h h11 := by rw [← hhh11]; exact hfh7.up rfl
  refine x_aload_n hE dX6_init_23 rfl rfl ?_
  refine x_sipush (v := nI 512) hE dX6_init_24 (by decide) ?_
  refine x_newr (t0 := 4) (cA := g_c G 4) hE (List.mem_of_getElem? (i := 4) rfl) hE.2.2.2.2.2.2.1.2.2.1 rfl (nI_pos (by decide)) (nI_clamp (by decide)) (by decide) (Nat.le_of_ble_eq_true rfl) (Nat.le_of_ble_eq_true rfl) dX6_init_27 (fun yA hyA0 => ?_)
  generalize hhh15 : x_up h11 yA (.inl (g_c G 4, 512, .inr (.inr (.inr (.inr (fun _ => none)))))) = h15
  have hc16 : h15 yA = some (.inl (g_c G 4, 512, .inr (.inr (.inr (.inr (fun _ => none)))))) := by rw [← hhh15]; exact x_up_eq _ _ _
  have hc17 : h15 wo = some (.inr (6, [.ref nA, .ref dA, .null, .int 0, .int 0])) := by rw [← hhh15, x_up_ne (x_none_ne hyA0 hc12)]; exact hc12
  have hc18 : h15 dA = some (.inl (g_c G 0, 512, .inl (fun _ => 0))) := by rw [← hhh15, x_up_ne (x_none_ne hyA0 hc13)]; exact hc13
  have hc19 : h15 nA = some (.inl (g_c G 4, 512, .inr (.inr (.inr (.inr (fun _ => none)))))) := by rw [← hhh15, x_up_ne (x_none_ne hyA0 hc14)]; exact hc14
  have hfh15 : x_fr (fun z => z = wo) h h15 := by rw [← hhh15]; exact hfh11.new hyA0
  have hyA1 : h yA = none := hfh11.none1 hc12 hyA0
  refine x_putF (fs' := [.ref nA, .ref dA, .ref yA, .int 0, .int 0]) hE hinX6 tyX6 tyX6_ok nmX6 hc17 rfl 2 (by decide) (List.mem_of_getElem? (i := 8) rfl) rfl hname rfl rfl rfl (Nat.le_of_ble_eq_true rfl) rfl dX6_init_30 ?_
  generalize hhh20 : x_up h15 wo (.inr (6, [.ref nA, .ref dA, .ref yA, .int 0, .int 0])) = h20
  have hc21 : h20 wo = some (.inr (6, [.ref nA, .ref dA, .ref yA, .int 0, .int 0])) := by rw [← hhh20]; exact x_up_eq _ _ _
  have hc22 : h20 yA = some (.inl (g_c G 4, 512, .inr (.inr (.inr (.inr (fun _ => none)))))) := by rw [← hhh20, x_up_ne (Ne.symm (x_none_ne hyA0 hc12))]; exact hc16
  have hc23 : h20 dA = some (.inl (g_c G 0, 512, .inl (fun _ => 0))) := by rw [← hhh20, x_up_ne (Ne.symm (x_none_ne hdA0 hc5))]; exact hc18
  have hc24 : h20 nA = some (.inl (g_c G 4, 512, .inr (.inr (.inr (.inr (fun _ => none)))))) := by rw [← hhh20, x_up_ne (Ne.symm (x_none_ne hnA0 hwo))]; exact hc19
  have hfh20 : x_fr (fun z => z = wo) h h20 := by rw [← hhh20]; exact hfh15.up rfl
  exact x_vret hE dX6_init_33 (⟨rfl, nA, dA, yA, ⟨hc21, by decide, by decide, _, _, _, hc24, hc23, hc22, fun j x hj => by simp at hj, fun j x hj => by simp at hj⟩, hfh20, Ne.symm (x_none_ne hyA0 hc14), hnA1, hdA1, hyA1⟩)

set_option maxHeartbeats 4000000 in
set_option maxRecDepth 100000 in
theorem c_X3_entryFor (G : XG) {h : HM} (t c k : Int32) : x_M G yX3_entryFor wsX3_entryFor ({ frames := 0, cells := 0, slots := 0, locals := 0 } : Room) [.int t, .int c, .int k] h (x_is (some (.int (entF t c k))) h) 0 0 := by
  refine x_M.of (cc := cX3_entryFor) (maxL := 3) (ret := (some .int)) (ent := [some (.int t), some (.int c), some (.int k)]) (by decide +kernel) rfl (Nat.le_of_ble_eq_true rfl) rfl rfl ?_
  intro F hE hname
  refine x_iload_n hE dX3_entryFor_0 rfl ?_
  refine x_iconst (v := nI 5) hE dX3_entryFor_1 (by decide) ?_
  refine x_ishl hE dX3_entryFor_2 ?_
  refine x_iload_n hE dX3_entryFor_3 rfl ?_
  refine x_iconst (v := nI 1) hE dX3_entryFor_4 (by decide) ?_
  refine x_ishl hE dX3_entryFor_5 ?_
  refine x_ior hE dX3_entryFor_6 ?_
  refine x_iload_n hE dX3_entryFor_7 rfl ?_
  refine x_ior hE dX3_entryFor_8 ?_
  exact x_iret hE dX3_entryFor_9 (⟨rfl, rfl⟩)

set_option maxHeartbeats 4000000 in
set_option maxRecDepth 100000 in
theorem c_X3_tickOf (G : XG) {h : HM} (e : Int32) : x_M G yX3_tickOf wsX3_tickOf ({ frames := 0, cells := 0, slots := 0, locals := 0 } : Room) [.int e] h (x_is (some (.int (eTick e))) h) 0 0 := by
  refine x_M.of (cc := cX3_tickOf) (maxL := 1) (ret := (some .int)) (ent := [some (.int e)]) (by decide +kernel) rfl (Nat.le_of_ble_eq_true rfl) rfl rfl ?_
  intro F hE hname
  refine x_iload_n hE dX3_tickOf_0 rfl ?_
  refine x_iconst (v := nI 5) hE dX3_tickOf_1 (by decide) ?_
  refine x_ishr hE dX3_tickOf_2 ?_
  exact x_iret hE dX3_tickOf_3 (⟨rfl, rfl⟩)

set_option maxHeartbeats 4000000 in
set_option maxRecDepth 100000 in
theorem c_X3_cueOf (G : XG) {h : HM} (e : Int32) : x_M G yX3_cueOf wsX3_cueOf ({ frames := 0, cells := 0, slots := 0, locals := 0 } : Room) [.int e] h (x_is (some (.int (eCue e))) h) 0 0 := by
  refine x_M.of (cc := cX3_cueOf) (maxL := 1) (ret := (some .int)) (ent := [some (.int e)]) (by decide +kernel) rfl (Nat.le_of_ble_eq_true rfl) rfl rfl ?_
  intro F hE hname
  refine x_iload_n hE dX3_cueOf_0 rfl ?_
  refine x_iconst (v := nI 1) hE dX3_cueOf_1 (by decide) ?_
  refine x_ishr hE dX3_cueOf_2 ?_
  refine x_bipush (v := nI 15) hE dX3_cueOf_3 (by decide) ?_
  refine x_iand hE dX3_cueOf_5 ?_
  exact x_iret hE dX3_cueOf_6 (⟨rfl, rfl⟩)

set_option maxHeartbeats 4000000 in
set_option maxRecDepth 100000 in
theorem c_X3_isRelease (G : XG) {h : HM} (e : Int32) : x_M G yX3_isRelease wsX3_isRelease ({ frames := 0, cells := 0, slots := 0, locals := 0 } : Room) [.int e] h (x_is (some (.int (b2i (eRel e)))) h) 0 0 := by
  refine x_M.of (cc := cX3_isRelease) (maxL := 1) (ret := (some .boolean)) (ent := [some (.int e)]) (by decide +kernel) rfl (Nat.le_of_ble_eq_true rfl) rfl rfl ?_
  intro F hE hname
  refine x_iload_n hE dX3_isRelease_0 rfl ?_
  refine x_iconst (v := nI 1) hE dX3_isRelease_1 (by decide) ?_
  refine x_iand hE dX3_isRelease_2 ?_
  refine x_if_eq (tgt := 10) hE dX3_isRelease_3 (by decide) (fun c3 => ?_) (fun c3 => ?_)
  · refine x_iconst (v := nI 0) hE dX3_isRelease_10 (by decide) ?_
    exact x_zret hE (Or.inl rfl) dX3_isRelease_11 (⟨x_zf (by simp [eRel, c3]), rfl⟩)
  · refine x_iconst (v := nI 1) hE dX3_isRelease_6 (by decide) ?_
    refine x_goto (tgt := 11) hE dX3_isRelease_7 (by decide) ?_
    exact x_zret hE (Or.inr rfl) dX3_isRelease_11 (⟨x_zt (by simp [eRel, c3]), rfl⟩)

set_option maxHeartbeats 4000000 in
set_option maxRecDepth 100000 in
theorem c_X3_init (G : XG) {hi : Nat} {h : HM} (hhi : h hi = some (.inr (3, [.null, .int 0]))) : x_M G yX3_init wsX3_init ({ frames := 1, cells := 1, slots := 64, locals := 20 } : Room) [.ref hi] h (fun v h' => v = none ∧ ∃ eA : Nat, hiW G hi eA [] 64 h' ∧ x_fr (fun z => z = hi) h h' ∧ h eA = none) 1 64 := by
  refine x_M.of (cc := cX3_init) (maxL := 1) (ret := none) (ent := [some (.ref hi)]) (by decide +kernel) rfl (Nat.le_of_ble_eq_true rfl) rfl rfl ?_
  intro F hE hname
  have hinX3 : ∀ w ∈ wsX30, w ∈ wsX3_init := by decide +kernel
  refine x_aload_n hE dX3_init_0 rfl rfl ?_
  refine x_objinit hE (List.mem_of_getElem? (i := 1) rfl) (List.mem_of_getElem? (i := 2) rfl) (List.mem_of_getElem? (i := 3) rfl) rfl (Nat.le_of_ble_eq_true rfl) (Nat.le_of_ble_eq_true rfl) dX3_init_1 ?_
  refine x_aload_n hE dX3_init_4 rfl rfl ?_
  refine x_bipush (v := nI 64) hE dX3_init_5 (by decide) ?_
  refine x_newa (t0 := 0) (cA := g_c G 0) (a0 := (64, .inl (fun _ => 0))) hE (List.mem_of_getElem? (i := 4) rfl) rfl rfl (fun C e => by cases e) (fun cA => rfl) (nI_pos (by decide)) (nI_clamp (by decide)) (by decide) (Nat.le_of_ble_eq_true rfl) (Nat.le_of_ble_eq_true rfl) dX3_init_7 (fun eA heA0 => ?_)
  generalize hhh1 : x_up h eA (.inl (g_c G 0, 64, .inl (fun _ => 0))) = h1
  have hc2 : h1 eA = some (.inl (g_c G 0, 64, .inl (fun _ => 0))) := by rw [← hhh1]; exact x_up_eq _ _ _
  have hc3 : h1 hi = some (.inr (3, [.null, .int 0])) := by rw [← hhh1, x_up_ne (x_none_ne heA0 hhi)]; exact hhi
  have hfh1 : x_fr (fun z => z = hi) h h1 := by rw [← hhh1]; exact (x_fr.refl h).new heA0
  refine x_put (fs' := [.ref eA, .int 0]) hE hinX3 tyX3 tyX3_ok nmX3 hc3 rfl 0 (by decide) (List.mem_of_getElem? (i := 5) rfl) rfl rfl rfl (Nat.le_of_ble_eq_true rfl) rfl dX3_init_9 ?_
  generalize hhh4 : x_up h1 hi (.inr (3, [.ref eA, .int 0])) = h4
  have hc5 : h4 hi = some (.inr (3, [.ref eA, .int 0])) := by rw [← hhh4]; exact x_up_eq _ _ _
  have hc6 : h4 eA = some (.inl (g_c G 0, 64, .inl (fun _ => 0))) := by rw [← hhh4, x_up_ne (Ne.symm (x_none_ne heA0 hhi))]; exact hc2
  have hfh4 : x_fr (fun z => z = hi) h h4 := by rw [← hhh4]; exact hfh1.up rfl
  exact x_vret hE dX3_init_12 (⟨rfl, eA, ⟨hc5, by decide, by decide, by decide, _, hc6, fun j x hj => by simp at hj⟩, hfh4, heA0⟩)

set_option maxHeartbeats 4000000 in
set_option maxRecDepth 100000 in
theorem c_X3_entryAt (G : XG) {hi eA n : Nat} {HL : List Int32} {h : HM} (hI : hiW G hi eA HL n h) {i : Nat} {x : Int32} (hx : HL[i]? = some x) : x_M G yX3_entryAt wsX3_entryAt ({ frames := 0, cells := 0, slots := 0, locals := 0 } : Room) [.ref hi, .int (nI i)] h (x_is (some (.int x)) h) 0 0 := by
  refine x_M.of (cc := cX3_entryAt) (maxL := 2) (ret := (some .int)) (ent := [some (.ref hi), some (.int (nI i))]) (by decide +kernel) rfl (Nat.le_of_ble_eq_true rfl) rfl rfl ?_
  intro F hE hname
  have hinX3 : ∀ w ∈ wsX30, w ∈ wsX3_entryAt := by decide +kernel
  obtain ⟨hhi, hln, hn64, hnM, ef, heA, hef⟩ := id hI
  have hi1 := get_lt hx
  refine x_iload_n hE dX3_entryAt_0 rfl ?_
  refine x_if_lt (tgt := 22) hE dX3_entryAt_1 (by decide) (fun c1 => ?_) (fun c1 => ?_)
  · exact absurd c1 (nI_pos (by omega))
  · refine x_iload_n hE dX3_entryAt_4 rfl ?_
    refine x_aload_n hE dX3_entryAt_5 rfl rfl ?_
    refine x_get hE hinX3 hhi rfl 0 (by decide) (List.mem_of_getElem? (i := 1) rfl) rfl dX3_entryAt_6 ?_
    refine x_alen (t0 := 0) hE heA rfl dX3_entryAt_9 ?_
    refine x_icmp_ge (tgt := 22) hE dX3_entryAt_10 (by decide) (fun c10 => ?_) (fun c10 => ?_)
    · replace c10 := x_nIle c10 (by omega) (by omega)
      omega
    · replace c10 := x_nInle c10 (by omega) (by omega)
      refine x_aload_n hE dX3_entryAt_13 rfl rfl ?_
      refine x_get hE hinX3 hhi rfl 0 (by decide) (List.mem_of_getElem? (i := 1) rfl) rfl dX3_entryAt_14 ?_
      refine x_iload_n hE dX3_entryAt_17 rfl ?_
      refine x_iald (v := x) hE heA (vp_in_nI (by omega) (by omega)) ((x_atN _ (by omega)).trans (hef i x hx)) dX3_entryAt_18 ?_
      refine x_goto (tgt := 23) hE dX3_entryAt_19 (by decide) ?_
      exact x_iret hE dX3_entryAt_23 (⟨rfl, rfl⟩)

set_option maxHeartbeats 4000000 in
set_option maxRecDepth 100000 in
theorem c_X3_removeAt (G : XG) {hi eA n : Nat} {HL : List Int32} {h : HM} (hI : hiW G hi eA HL n h) {p : Nat} (hp1 : p < HL.length) : x_M G yX3_removeAt wsX3_removeAt ({ frames := 0, cells := 0, slots := 0, locals := 0 } : Room) [.ref hi, .int (nI p)] h (fun v h' => v = none ∧ hiW G hi eA (HL.eraseIdx p) n h' ∧ x_fr (fun z => z = hi ∨ z = eA) h h') 0 0 := by
  refine x_M.of (cc := cX3_removeAt) (maxL := 3) (ret := none) (ent := [some (.ref hi), some (.int (nI p)), none]) (by decide +kernel) rfl (Nat.le_of_ble_eq_true rfl) rfl rfl ?_
  intro F hE hname
  have hinX3 : ∀ w ∈ wsX30, w ∈ wsX3_removeAt := by decide +kernel
  obtain ⟨hhi, hln, hn64, hnM, ef, heA, hef⟩ := id hI
  refine x_iload_n hE dX3_removeAt_0 rfl ?_
  refine x_if_lt (tgt := 12) hE dX3_removeAt_1 (by decide) (fun c1 => ?_) (fun c1 => ?_)
  · exact absurd c1 (nI_pos (by omega))
  · refine x_iload_n hE dX3_removeAt_4 rfl ?_
    refine x_aload_n hE dX3_removeAt_5 rfl rfl ?_
    refine x_get hE hinX3 hhi rfl 1 (by decide) (List.mem_of_getElem? (i := 1) rfl) rfl dX3_removeAt_6 ?_
    refine x_icmp_lt (tgt := 13) hE dX3_removeAt_9 (by decide) (fun c9 => ?_) (fun c9 => ?_)
    · refine x_iload_n hE dX3_removeAt_13 rfl ?_
      refine x_istore_n (L' := [some (.ref hi), some (.int (nI p)), some (.int (nI p))]) hE dX3_removeAt_14 rfl (Nat.le_of_ble_eq_true rfl) rfl ?_
      have hst : x_up h eA (.inl (g_c G 0, n, .inl (fun q => if p ≤ q ∧ q < p then ef (q + 1) else ef q))) = h := by rw [show (fun q => if p ≤ q ∧ q < p then ef (q + 1) else ef q) = ef from funext (fun q => if_neg (by omega)), x_up_self heA]
      refine x_heq hst.symm ?_
      have hne : hi ≠ eA := fun e => by have z1 := hhi; rw [e, heA] at z1; simp at z1
      refine x_down (N := HL.length - 1) (P := fun i => p ≤ i → x_W G F (x_Q G F (fun v h' => v = none ∧ hiW G hi eA (HL.eraseIdx p) n h' ∧ x_fr (fun z => z = hi ∨ z = eA) h h') 0 0) 0 0 (x_up h eA (.inl (g_c G 0, n, .inl (fun q => if p ≤ q ∧ q < i then ef (q + 1) else ef q)))) 15 [some (.ref hi), some (.int (nI p)), some (.int (nI i))] []) (fun i hiN ih => ?_) p (by omega) (Nat.le_refl p)
      intro hpi
      refine x_iload_n hE dX3_removeAt_15 rfl ?_
      refine x_iconst (v := nI 1) hE dX3_removeAt_16 (by decide) ?_
      refine x_iadd hE dX3_removeAt_17 ?_
      refine x_ieq (y := nI (i + 1)) (nI_1 _) ?_
      refine x_aload_n hE dX3_removeAt_18 rfl rfl ?_
      refine x_get hE hinX3 ((x_up_ne hne).trans hhi) rfl 1 (by decide) (List.mem_of_getElem? (i := 1) rfl) rfl dX3_removeAt_19 ?_
      refine x_icmp_ge (tgt := 56) hE dX3_removeAt_22 (by decide) (fun c22 => ?_) (fun c22 => ?_)
      · replace c22 := x_nIle c22 (by omega) (by omega)
        have ei : i = HL.length - 1 := by omega
        have hlen : (HL.eraseIdx p).length = HL.length - 1 := by rw [List.length_eraseIdx, if_pos hp1]
        refine x_aload_n hE dX3_removeAt_56 rfl rfl ?_
        refine x_dup hE dX3_removeAt_57 rfl ?_
        refine x_get hE hinX3 ((x_up_ne hne).trans hhi) rfl 1 (by decide) (List.mem_of_getElem? (i := 1) rfl) rfl dX3_removeAt_58 ?_
        refine x_iconst (v := nI 1) hE dX3_removeAt_61 (by decide) ?_
        refine x_isub hE dX3_removeAt_62 ?_
        refine x_ieq (y := nI (HL.eraseIdx p).length) (by rw [sub1 (by omega), hlen]) ?_
        refine x_put (fs' := [.ref eA, .int (nI (HL.eraseIdx p).length)]) hE hinX3 tyX3 tyX3_ok nmX3 ((x_up_ne hne).trans hhi) rfl 1 (by decide) (List.mem_of_getElem? (i := 1) rfl) rfl rfl rfl (Nat.le_of_ble_eq_true rfl) rfl dX3_removeAt_63 ?_
        generalize hhh1 : x_up (x_up h eA (.inl (g_c G 0, n, .inl (fun q => if p ≤ q ∧ q < i then ef (q + 1) else ef q)))) hi (.inr (3, [.ref eA, .int (nI (HL.eraseIdx p).length)])) = h1
        have hc2 : h1 hi = some (.inr (3, [.ref eA, .int (nI (HL.eraseIdx p).length)])) := by rw [← hhh1]; exact x_up_eq _ _ _
        have hc3 : h1 eA = some (.inl (g_c G 0, n, .inl (fun q => if p ≤ q ∧ q < i then ef (q + 1) else ef q))) := by rw [← hhh1, x_up_ne (Ne.symm hne)]; exact (x_up_eq h eA _)
        exact x_vret hE dX3_removeAt_66 ⟨rfl, ⟨hc2, by omega, hn64, hnM, _, hc3, fun j x hj => (erase_get hj).elim (fun z => by rw [if_neg (by omega)]; exact hef j x z.2) (fun z => by have := get_lt z.2; rw [if_pos (by omega)]; exact hef (j + 1) x z.2)⟩, by rw [← hhh1]; exact ((x_fr.refl h).up (Or.inr rfl)).up (Or.inl rfl)⟩
      · replace c22 := x_nInle c22 (by omega) (by omega)
        refine x_iload_n hE dX3_removeAt_25 rfl ?_
        refine x_iconst (v := nI 1) hE dX3_removeAt_26 (by decide) ?_
        refine x_iadd hE dX3_removeAt_27 ?_
        refine x_ieq (y := nI (i + 1)) (nI_1 _) ?_
        refine x_aload_n hE dX3_removeAt_28 rfl rfl ?_
        refine x_get hE hinX3 ((x_up_ne hne).trans hhi) rfl 0 (by decide) (List.mem_of_getElem? (i := 2) rfl) rfl dX3_removeAt_29 ?_
        refine x_alen (t0 := 0) hE (x_up_eq h eA _) rfl dX3_removeAt_32 ?_
        refine x_icmp_ge (tgt := 56) hE dX3_removeAt_33 (by decide) (fun c33 => ?_) (fun c33 => ?_)
        · exact absurd (x_nIle c33 (by omega) (by omega)) (by omega)
        · refine x_aload_n hE dX3_removeAt_36 rfl rfl ?_
          refine x_get hE hinX3 ((x_up_ne hne).trans hhi) rfl 0 (by decide) (List.mem_of_getElem? (i := 2) rfl) rfl dX3_removeAt_37 ?_
          refine x_iload_n hE dX3_removeAt_40 rfl ?_
          refine x_aload_n hE dX3_removeAt_41 rfl rfl ?_
          refine x_get hE hinX3 ((x_up_ne hne).trans hhi) rfl 0 (by decide) (List.mem_of_getElem? (i := 2) rfl) rfl dX3_removeAt_42 ?_
          refine x_iload_n hE dX3_removeAt_45 rfl ?_
          refine x_iconst (v := nI 1) hE dX3_removeAt_46 (by decide) ?_
          refine x_iadd hE dX3_removeAt_47 ?_
          refine x_ieq (y := nI (i + 1)) (nI_1 _) ?_
          refine x_iald (v := ef (i + 1)) hE (x_up_eq h eA _) (vp_in_nI (by omega) (by omega)) ((x_atN (fun q => if p ≤ q ∧ q < i then ef (q + 1) else ef q) (k := i + 1) (by omega)).trans (if_neg (by omega))) dX3_removeAt_48 ?_
          refine x_iast (f' := (fun q => if p ≤ q ∧ q < i + 1 then ef (q + 1) else ef q)) hE (x_up_eq h eA _) (vp_in_nI (by omega) (by omega)) ((x_updN _ (by omega) _).trans (by funext q; unfold upd; by_cases e : q = i <;> simp only [e, if_pos, if_true] <;> grind)) dX3_removeAt_49 ?_
          rw [x_up_up]
          refine x_iinc (v := nI (i + 1)) (L' := [some (.ref hi), some (.int (nI p)), some (.int (nI (i + 1)))]) hE dX3_removeAt_50 rfl (nI_1 _) rfl ?_
          refine x_goto (tgt := 15) hE dX3_removeAt_53 (by decide) ?_
          exact ih (i + 1) (by omega) (by omega) (by omega)
    · exact absurd (x_nInlt c9 (by omega) (by omega)) (by omega)

set_option maxHeartbeats 4000000 in
set_option maxRecDepth 100000 in
theorem c_X3_strike (G : XG) {hi eA n : Nat} {HL : List Int32} {h : HM} (hI : hiW G hi eA HL n h) {e : Int32} : x_M G yX3_strike wsX3_strike ({ frames := 1, cells := 0, slots := 0, locals := 22 } : Room) [.ref hi, .int e] h (fun v h' => v = none ∧ hiW G hi eA (strF e HL) n h' ∧ x_fr (fun z => z = hi ∨ z = eA) h h') 0 0 := by
  refine x_M.of (cc := cX3_strike) (maxL := 3) (ret := none) (ent := [some (.ref hi), some (.int e), none]) (by decide +kernel) rfl (Nat.le_of_ble_eq_true rfl) rfl rfl ?_
  intro F hE hname
  have hinX3 : ∀ w ∈ wsX30, w ∈ wsX3_strike := by decide +kernel
  obtain ⟨hhi, hln, hn64, hnM, ef, heA, hef⟩ := id hI
  refine x_aload_n hE dX3_strike_0 rfl rfl ?_
  refine x_get hE hinX3 hhi rfl 1 (by decide) (List.mem_of_getElem? (i := 1) rfl) rfl dX3_strike_1 ?_
  refine x_iconst (v := nI 1) hE dX3_strike_4 (by decide) ?_
  refine x_isub hE dX3_strike_5 ?_
  refine x_istore_n (L' := [some (.ref hi), some (.int e), some (.int ((nI HL.length) - (nI 1)))]) hE dX3_strike_6 rfl (Nat.le_of_ble_eq_true rfl) rfl ?_
  refine x_Leq (L' := [some (.ref hi), some (.int e), some (.int (nI (HL.length - 0) - nI 1))]) rfl ?_
  refine x_down (N := HL.length) (P := fun i => strK e HL (HL.length - i) = strF e HL → x_W G F (x_Q G F (fun v h' => v = none ∧ hiW G hi eA (strF e HL) n h' ∧ x_fr (fun z => z = hi ∨ z = eA) h h') 0 0) 0 0 h 7 [some (.ref hi), some (.int e), some (.int (nI (HL.length - i) - nI 1))] []) (fun i hiN ih => ?_) 0 (by omega) rfl
  intro hno
  refine x_iload_n hE dX3_strike_7 rfl ?_
  refine x_if_lt (tgt := 47) hE dX3_strike_8 (by decide) (fun c8 => ?_) (fun c8 => ?_)
  · have hi0 : i = HL.length := (Nat.lt_or_ge i HL.length).elim (fun z => absurd c8 (by rw [show nI (HL.length - i) - nI 1 = nI (HL.length - i - 1) from sub1 (by omega)]; exact nI_pos (by omega))) (fun z => by omega)
    rw [hi0, Nat.sub_self] at hno
    rw [show strK e HL 0 = HL from rfl] at hno
    exact x_vret hE dX3_strike_47 (⟨rfl, by rw [← hno]; exact hI, x_fr.refl h⟩)
  · have hi1 : i < HL.length := (Nat.lt_or_ge i HL.length).elim (fun z => z) (fun z => absurd dn3 (by rw [show HL.length - i = 0 by omega] at c8; exact c8))
    obtain ⟨k, hk⟩ : ∃ k, HL.length - i = k + 1 := ⟨HL.length - i - 1, by omega⟩
    rw [hk] at hno ⊢
    refine x_Leq (L' := [some (.ref hi), some (.int e), some (.int (nI k))]) (by rw [dn1]) ?_
    obtain ⟨x, hx⟩ : ∃ x, HL[k]? = some x := ⟨_, List.getElem?_eq_getElem (by omega)⟩
    rw [strK_s hx] at hno
    refine x_aload_n hE dX3_strike_11 rfl rfl ?_
    refine x_iload_n hE dX3_strike_12 rfl ?_
    refine x_callV (ci := 3) (st := []) hE 1 (c_X3_entryAt G hI hx) gX3_strike_X3_entryAt rfl rfl rfl (by decide +kernel) ⟨Nat.le_of_ble_eq_true rfl, Nat.le_of_ble_eq_true rfl⟩ hhi rfl rfl rfl dX3_strike_13 rfl (Nat.le_of_ble_eq_true rfl) ⟨Nat.le_of_ble_eq_true rfl, Nat.le_of_ble_eq_true rfl⟩ (fun v h9 hp => ?_)
    obtain ⟨rfl, rfl⟩ := hp
    refine x_callS (st := []) hE 1 (c_X3_tickOf G x) gX3_strike_X3_tickOf rfl rfl rfl (by decide +kernel) ⟨Nat.le_of_ble_eq_true rfl, Nat.le_of_ble_eq_true rfl⟩ rfl rfl dX3_strike_16 rfl (Nat.le_of_ble_eq_true rfl) ⟨Nat.le_of_ble_eq_true rfl, Nat.le_of_ble_eq_true rfl⟩ (fun v h9 hp => ?_)
    obtain ⟨rfl, rfl⟩ := hp
    refine x_iload_n hE dX3_strike_19 rfl ?_
    refine x_callS (st := [.int (eTick x)]) hE 1 (c_X3_tickOf G e) gX3_strike_X3_tickOf rfl rfl rfl (by decide +kernel) ⟨Nat.le_of_ble_eq_true rfl, Nat.le_of_ble_eq_true rfl⟩ rfl rfl dX3_strike_20 rfl (Nat.le_of_ble_eq_true rfl) ⟨Nat.le_of_ble_eq_true rfl, Nat.le_of_ble_eq_true rfl⟩ (fun v h9 hp => ?_)
    obtain ⟨rfl, rfl⟩ := hp
    refine x_icmp_ne (tgt := 47) hE dX3_strike_23 (by decide) (fun c23 => ?_) (fun c23 => ?_)
    · rw [if_neg c23] at hno
      exact x_vret hE dX3_strike_47 (⟨rfl, by rw [← hno]; exact hI, x_fr.refl h⟩)
    · rw [if_pos c23] at hno
      refine x_aload_n hE dX3_strike_26 rfl rfl ?_
      refine x_iload_n hE dX3_strike_27 rfl ?_
      refine x_callV (ci := 3) (st := []) hE 1 (c_X3_entryAt G hI hx) gX3_strike_X3_entryAt rfl rfl rfl (by decide +kernel) ⟨Nat.le_of_ble_eq_true rfl, Nat.le_of_ble_eq_true rfl⟩ hhi rfl rfl rfl dX3_strike_28 rfl (Nat.le_of_ble_eq_true rfl) ⟨Nat.le_of_ble_eq_true rfl, Nat.le_of_ble_eq_true rfl⟩ (fun v h9 hp => ?_)
      obtain ⟨rfl, rfl⟩ := hp
      refine x_iload_n hE dX3_strike_31 rfl ?_
      refine x_icmp_ne (tgt := 41) hE dX3_strike_32 (by decide) (fun c32 => ?_) (fun c32 => ?_)
      · rw [if_neg c32] at hno
        refine x_iinc (v := (nI k) + (-1)) (L' := [some (.ref hi), some (.int e), some (.int ((nI k) + (-1)))]) hE dX3_strike_41 rfl rfl rfl ?_
        refine x_goto (tgt := 7) hE dX3_strike_44 (by decide) ?_
        refine x_Leq (L' := [some (.ref hi), some (.int e), some (.int (nI k - nI 1))]) (by rw [dn2]) ?_
        have ek : k = HL.length - (i + 1) := by omega
        have e2 := ih (i + 1) (by omega) (by omega)
        rw [← ek] at e2
        exact e2 hno
      · rw [if_pos c32] at hno
        subst c32
        refine x_aload_n hE dX3_strike_35 rfl rfl ?_
        refine x_iload_n hE dX3_strike_36 rfl ?_
        refine x_callV (ci := 3) (st := []) hE 1 (c_X3_removeAt G hI (get_lt hx)) gX3_strike_X3_removeAt rfl rfl rfl (by decide +kernel) ⟨Nat.le_of_ble_eq_true rfl, Nat.le_of_ble_eq_true rfl⟩ hhi rfl rfl rfl dX3_strike_37 rfl (Nat.le_of_ble_eq_true rfl) ⟨Nat.le_of_ble_eq_true rfl, Nat.le_of_ble_eq_true rfl⟩ (fun v h9 hp => ?_)
        obtain ⟨rfl, hI2, hf2⟩ := hp
        exact x_vret hE dX3_strike_40 (⟨rfl, by rw [← hno]; exact hI2, hf2⟩)

set_option maxHeartbeats 4000000 in
set_option maxRecDepth 100000 in
theorem c_J7_copyOf_59c91 (G : XG) {h : HM} {q0 n0 m : Nat} {f : Nat → Int32} (hq0 : h q0 = some (.inl (g_c G 0, n0, .inl f))) (hnm : n0 < m) (hm2 : m ≤ 122880) : x_M G yJ7_copyOf_59c91 wsJ7_copyOf_59c91 ({ frames := 1, cells := 1, slots := m, locals := 21 } : Room) [.ref q0, .int (nI m)] h (fun v h' => ∃ (q1 : Nat) (f' : Nat → Int32), v = some (.ref q1) ∧ h q1 = none ∧ h' = x_up h q1 (.inl (g_c G 0, m, .inl f')) ∧ ∀ j, j < n0 → f' j = f j) 1 m := by
  refine x_M.of (cc := cJ7_copyOf_59c91) (maxL := 3) (ret := (some (.array .int))) (ent := [some (.ref q0), some (.int (nI m)), none]) (by decide +kernel) rfl (Nat.le_of_ble_eq_true rfl) rfl rfl ?_
  intro F hE hname
  refine x_iload_n hE dJ7_copyOf_59c91_0 rfl ?_
  refine x_aload_n hE dJ7_copyOf_59c91_1 rfl rfl ?_
  refine x_alen (t0 := 0) hE hq0 rfl dJ7_copyOf_59c91_2 ?_
  refine x_icmp_ne (tgt := 14) hE dJ7_copyOf_59c91_3 (by decide) (fun c3 => ?_) (fun c3 => ?_)
  · refine x_iload_n hE dJ7_copyOf_59c91_14 rfl ?_
    refine x_newa (t0 := 0) (cA := g_c G 0) (a0 := (m, .inl (fun _ => 0))) hE (List.mem_of_getElem? (i := 7) rfl) rfl rfl (fun C e => by cases e) (fun cA => rfl) (nI_pos (by omega)) (nI_clamp (by omega)) (by show m * 4 ≤ _; omega) (Nat.le_refl 1) (by show 0 + m ≤ m; omega) dJ7_copyOf_59c91_15 (fun q1 hq10 => ?_)
    generalize hhh1 : x_up h q1 (.inl (g_c G 0, m, .inl (fun _ => 0))) = h1
    have hc2 : h1 q1 = some (.inl (g_c G 0, m, .inl (fun _ => 0))) := by rw [← hhh1]; exact x_up_eq _ _ _
    have hc3 : h1 q0 = some (.inl (g_c G 0, n0, .inl f)) := by rw [← hhh1, x_up_ne (x_none_ne hq10 hq0)]; exact hq0
    refine x_astore_n (L' := [some (.ref q0), some (.int (nI m)), some (.ref q1)]) hE dJ7_copyOf_59c91_17 rfl (Nat.le_of_ble_eq_true rfl) rfl rfl ?_
    refine x_aload_n hE dJ7_copyOf_59c91_18 rfl rfl ?_
    refine x_iconst (v := nI 0) hE dJ7_copyOf_59c91_19 (by decide) ?_
    refine x_aload_n hE dJ7_copyOf_59c91_20 rfl rfl ?_
    refine x_iconst (v := nI 0) hE dJ7_copyOf_59c91_21 (by decide) ?_
    refine x_aload_n hE dJ7_copyOf_59c91_22 rfl rfl ?_
    refine x_alen (t0 := 0) hE hc3 rfl dJ7_copyOf_59c91_23 ?_
    refine x_iload_n hE dJ7_copyOf_59c91_24 rfl ?_
    refine x_min hE (List.mem_of_getElem? (i := 8) rfl) (List.mem_of_getElem? (i := 9) rfl) (List.mem_of_getElem? (i := 10) rfl) (List.mem_of_getElem? (i := 11) rfl) rfl (Nat.le_of_ble_eq_true rfl) (Nat.le_of_ble_eq_true rfl) ⟨Nat.le_refl 1, by show 0 + m ≤ m; omega⟩ dJ7_copyOf_59c91_25 ?_
    refine x_ieq (y := nI n0) (if_neg (fun z => absurd (x_nIlt z (by omega) (by omega)) (by omega))) ?_
    refine x_copyi (k := n0) (g' := va_cpy f (fun _ => 0) 0 0 n0) hE (List.mem_of_getElem? (i := 12) rfl) (List.mem_of_getElem? (i := 13) rfl) (List.mem_of_getElem? (i := 14) rfl) (List.mem_of_getElem? (i := 15) rfl) rfl hc3 hc2 (by omega) (Nat.le_refl n0) (by omega) rfl (Nat.le_of_ble_eq_true rfl) (Nat.le_of_ble_eq_true rfl) dJ7_copyOf_59c91_28 ?_
    refine x_aload_n hE dJ7_copyOf_59c91_31 rfl rfl ?_
    rw [show x_up h1 q1 (.inl (g_c G 0, m, .inl (va_cpy f (fun _ => 0) 0 0 n0))) = x_up h q1 (.inl (g_c G 0, m, .inl (va_cpy f (fun _ => 0) 0 0 n0))) by rw [← hhh1, x_up_up]]
    refine x_widen (k := 1) (n := m) (Nat.le_refl 1) (by omega) ?_
    exact x_aret hE (Or.inr ⟨_, rfl⟩) rfl dJ7_copyOf_59c91_32 ⟨q1, _, rfl, hq10, rfl, fun j hj => by unfold va_cpy; rw [if_pos (by omega)]; congr 1; omega⟩
  · exact absurd (x_nIinj c3 (by omega) (by omega)) (by omega)

set_option maxHeartbeats 4000000 in
set_option maxRecDepth 100000 in
theorem c_X3_append (G : XG) {hi eA n : Nat} {HL : List Int32} {h : HM} (hI : hiW G hi eA HL n h) {e : Int32} (hlen : HL.length < 122880) (hcap : capP n) : x_M G yX3_append wsX3_append ({ frames := 2, cells := grw n HL.length - n, slots := 3 * (grw n HL.length - n), locals := 43 } : Room) [.ref hi, .int e] h (fun v h' => v = none ∧ ∃ eA' : Nat, hiW G hi eA' (HL ++ [e]) (grw n HL.length) h' ∧ x_fr (fun z => z = hi ∨ z = eA) h h' ∧ (eA' = eA ∨ h eA' = none)) (grw n HL.length - n) (3 * (grw n HL.length - n)) := by
  refine x_M.of (cc := cX3_append) (maxL := 2) (ret := none) (ent := [some (.ref hi), some (.int e)]) (by decide +kernel) rfl (Nat.le_of_ble_eq_true rfl) rfl rfl ?_
  intro F hE hname
  have hinX3 : ∀ w ∈ wsX30, w ∈ wsX3_append := by decide +kernel
  obtain ⟨hhi, hln, hn64, hnM, ef, heA, hef⟩ := id hI
  refine x_aload_n hE dX3_append_0 rfl rfl ?_
  refine x_get hE hinX3 hhi rfl 1 (by decide) (List.mem_of_getElem? (i := 1) rfl) rfl dX3_append_1 ?_
  refine x_aload_n hE dX3_append_4 rfl rfl ?_
  refine x_get hE hinX3 hhi rfl 0 (by decide) (List.mem_of_getElem? (i := 2) rfl) rfl dX3_append_5 ?_
  refine x_alen (t0 := 0) hE heA rfl dX3_append_8 ?_
  refine x_icmp_lt (tgt := 45) hE dX3_append_9 (by decide) (fun c9 => ?_) (fun c9 => ?_)
  · replace c9 := x_nIlt c9 (by omega) (by omega)
    have hgn : grw n HL.length = n := by unfold grw; rw [if_pos c9]
    -- count and place
    refine x_aload_n hE dX3_append_45 rfl rfl ?_
    refine x_get hE hinX3 hhi rfl 1 (by decide) (List.mem_of_getElem? (i := 1) rfl) rfl dX3_append_46 ?_
    refine x_if_lt (tgt := 84) hE dX3_append_49 (by decide) (fun c49 => ?_) (fun c49 => ?_)
    · exact absurd c49 (nI_pos (by omega))
    · refine x_aload_n hE dX3_append_52 rfl rfl ?_
      refine x_get hE hinX3 hhi rfl 1 (by decide) (List.mem_of_getElem? (i := 1) rfl) rfl dX3_append_53 ?_
      refine x_aload_n hE dX3_append_56 rfl rfl ?_
      refine x_get hE hinX3 hhi rfl 0 (by decide) (List.mem_of_getElem? (i := 2) rfl) rfl dX3_append_57 ?_
      refine x_alen (t0 := 0) hE heA rfl dX3_append_60 ?_
      refine x_icmp_ge (tgt := 84) hE dX3_append_61 (by decide) (fun c61 => ?_) (fun c61 => ?_)
      · exact absurd (x_nIle c61 (by omega) (by omega)) (by omega)
      · refine x_aload_n hE dX3_append_64 rfl rfl ?_
        refine x_get hE hinX3 hhi rfl 0 (by decide) (List.mem_of_getElem? (i := 2) rfl) rfl dX3_append_65 ?_
        refine x_aload_n hE dX3_append_68 rfl rfl ?_
        refine x_get hE hinX3 hhi rfl 1 (by decide) (List.mem_of_getElem? (i := 1) rfl) rfl dX3_append_69 ?_
        refine x_iload_n hE dX3_append_72 rfl ?_
        refine x_iast (f' := (upd ef HL.length e)) hE heA (vp_in_nI (by omega) (by omega)) (x_updN _ (by omega) _) dX3_append_73 ?_
        generalize hhh1 : x_up h eA (.inl (g_c G 0, n, .inl (upd ef HL.length e))) = h1
        have hc2 : h1 eA = some (.inl (g_c G 0, n, .inl (upd ef HL.length e))) := by rw [← hhh1]; exact x_up_eq _ _ _
        have hc3 : h1 hi = some (.inr (3, [.ref eA, .int (nI HL.length)])) := by rw [← hhh1, x_up_ne (fun e => by have z1 := hhi; rw [e, heA] at z1; simp [lampE] at z1)]; exact hhi
        refine x_aload_n hE dX3_append_74 rfl rfl ?_
        refine x_dup hE dX3_append_75 rfl ?_
        refine x_get hE hinX3 hc3 rfl 1 (by decide) (List.mem_of_getElem? (i := 1) rfl) rfl dX3_append_76 ?_
        refine x_iconst (v := nI 1) hE dX3_append_79 (by decide) ?_
        refine x_iadd hE dX3_append_80 ?_
        refine x_ieq (y := nI (HL.length + 1)) (nI_1 _) ?_
        refine x_put (fs' := [.ref eA, .int (nI (HL.length + 1))]) hE hinX3 tyX3 tyX3_ok nmX3 hc3 rfl 1 (by decide) (List.mem_of_getElem? (i := 1) rfl) rfl rfl rfl (Nat.le_of_ble_eq_true rfl) rfl dX3_append_81 ?_
        generalize hhh4 : x_up h1 hi (.inr (3, [.ref eA, .int (nI (HL.length + 1))])) = h4
        have hc5 : h4 hi = some (.inr (3, [.ref eA, .int (nI (HL.length + 1))])) := by rw [← hhh4]; exact x_up_eq _ _ _
        have hc6 : h4 eA = some (.inl (g_c G 0, n, .inl (upd ef HL.length e))) := by rw [← hhh4, x_up_ne (fun e => by have z1 := hc2; rw [e, hc3] at z1; simp [lampE] at z1)]; exact hc2
        rw [show grw n HL.length - n = 0 by rw [hgn]; omega]
        refine x_vret hE dX3_append_84 ⟨rfl, eA, ⟨by rw [List.length_append]; exact hc5, by rw [List.length_append]; show HL.length + 1 ≤ _; omega, by omega, by omega, _, by rw [hgn]; exact hc6, fun j x hj => ?_⟩, by rw [← hhh4, ← hhh1]; exact ((x_fr.refl h).up (Or.inr rfl)).up (Or.inl rfl), Or.inl rfl⟩
        rcases get_push hj with z | ⟨rfl, rfl⟩
        · have hl := get_lt z; simp only [upd]; rw [if_neg (by omega)]; exact hef j x z
        · simp [upd]
  · replace c9 := x_nInlt c9 (by omega) (by omega)
    obtain ⟨g1, g2, g3, g4⟩ := hcap.grow c9 hlen
    refine x_aload_n hE dX3_append_12 rfl rfl ?_
    refine x_get hE hinX3 hhi rfl 0 (by decide) (List.mem_of_getElem? (i := 2) rfl) rfl dX3_append_13 ?_
    refine x_alen (t0 := 0) hE heA rfl dX3_append_16 ?_
    refine x_ldc (v := (122880)) hE (List.mem_of_getElem? (i := 3) rfl) dX3_append_17 ?_
    refine x_ieq (y := nI 122880) (by decide) ?_
    refine x_icmp_ge (tgt := 45) hE dX3_append_19 (by decide) (fun c19 => ?_) (fun c19 => ?_)
    · exact absurd (x_nIle c19 (by omega) (by omega)) (by omega)
    · refine x_aload_n hE dX3_append_22 rfl rfl ?_
      refine x_aload_n hE dX3_append_23 rfl rfl ?_
      refine x_get hE hinX3 hhi rfl 0 (by decide) (List.mem_of_getElem? (i := 2) rfl) rfl dX3_append_24 ?_
      refine x_iconst (v := nI 2) hE dX3_append_27 (by decide) ?_
      refine x_aload_n hE dX3_append_28 rfl rfl ?_
      refine x_get hE hinX3 hhi rfl 0 (by decide) (List.mem_of_getElem? (i := 2) rfl) rfl dX3_append_29 ?_
      refine x_alen (t0 := 0) hE heA rfl dX3_append_32 ?_
      refine x_imul hE dX3_append_33 ?_
      refine x_ieq (y := nI (2 * n)) (pk_mul 2 n) ?_
      refine x_ldc (v := (122880)) hE (List.mem_of_getElem? (i := 3) rfl) dX3_append_34 ?_
      refine x_ieq (y := nI 122880) (by decide) ?_
      refine x_min hE (List.mem_of_getElem? (i := 4) rfl) (List.mem_of_getElem? (i := 5) rfl) (List.mem_of_getElem? (i := 6) rfl) (List.mem_of_getElem? (i := 7) rfl) rfl (Nat.le_of_ble_eq_true rfl) (Nat.le_of_ble_eq_true rfl) ⟨Nat.zero_le _, Nat.zero_le _⟩ dX3_append_36 ?_
      refine x_ieq (y := nI (grw n HL.length)) (grw_min c9 hnM) ?_
      refine x_callS (st := [.ref hi]) hE 2 (c_J7_copyOf_59c91 G heA g1 g2) gX3_append_J7_copyOf_59c91 rfl rfl rfl (by decide +kernel) ⟨Nat.le_of_ble_eq_true rfl, Nat.le_of_ble_eq_true rfl⟩ rfl rfl dX3_append_39 rfl (Nat.le_of_ble_eq_true rfl) ⟨by dsimp only; omega, by dsimp only; omega⟩ (fun v h9 hp => ?_)
      obtain ⟨q1, f1, rfl, hq1, rfl, hf1⟩ := hp
      have nh : hi ≠ q1 := x_none_ne hq1 hhi
      have nE : eA ≠ q1 := x_none_ne hq1 heA
      generalize hg9 : x_up h q1 (.inl (g_c G 0, grw n HL.length, .inl f1)) = h9
      have hhi9 : h9 hi = some (.inr (3, [.ref eA, .int (nI HL.length)])) := by rw [← hg9]; exact (x_up_ne nh).trans hhi
      have heA9 : h9 q1 = some (.inl (g_c G 0, grw n HL.length, .inl f1)) := by rw [← hg9]; exact x_up_eq _ _ _
      have hef9 : ∀ (j : Nat) (x : Int32), HL[j]? = some x → f1 j = x := fun j x hj => (hf1 j (by have := get_lt hj; omega)).trans (hef j x hj)
      refine x_put (fs' := [.ref q1, .int (nI HL.length)]) hE hinX3 tyX3 tyX3_ok nmX3 hhi9 rfl 0 (by decide) (List.mem_of_getElem? (i := 2) rfl) rfl rfl rfl (Nat.le_of_ble_eq_true rfl) rfl dX3_append_42 ?_
      generalize hhh7 : x_up h9 hi (.inr (3, [.ref q1, .int (nI HL.length)])) = h7
      have hc8 : h7 hi = some (.inr (3, [.ref q1, .int (nI HL.length)])) := by rw [← hhh7]; exact x_up_eq _ _ _
      have hc9 : h7 q1 = some (.inl (g_c G 0, grw n HL.length, .inl f1)) := by rw [← hhh7, x_up_ne (Ne.symm nh)]; exact heA9
      -- count and place
      refine x_aload_n hE dX3_append_45 rfl rfl ?_
      refine x_get hE hinX3 hc8 rfl 1 (by decide) (List.mem_of_getElem? (i := 1) rfl) rfl dX3_append_46 ?_
      refine x_if_lt (tgt := 84) hE dX3_append_49 (by decide) (fun c49 => ?_) (fun c49 => ?_)
      · exact absurd c49 (nI_pos (by omega))
      · refine x_aload_n hE dX3_append_52 rfl rfl ?_
        refine x_get hE hinX3 hc8 rfl 1 (by decide) (List.mem_of_getElem? (i := 1) rfl) rfl dX3_append_53 ?_
        refine x_aload_n hE dX3_append_56 rfl rfl ?_
        refine x_get hE hinX3 hc8 rfl 0 (by decide) (List.mem_of_getElem? (i := 2) rfl) rfl dX3_append_57 ?_
        refine x_alen (t0 := 0) hE hc9 rfl dX3_append_60 ?_
        refine x_icmp_ge (tgt := 84) hE dX3_append_61 (by decide) (fun c61 => ?_) (fun c61 => ?_)
        · exact absurd (x_nIle c61 (by omega) (by omega)) (by omega)
        · refine x_aload_n hE dX3_append_64 rfl rfl ?_
          refine x_get hE hinX3 hc8 rfl 0 (by decide) (List.mem_of_getElem? (i := 2) rfl) rfl dX3_append_65 ?_
          refine x_aload_n hE dX3_append_68 rfl rfl ?_
          refine x_get hE hinX3 hc8 rfl 1 (by decide) (List.mem_of_getElem? (i := 1) rfl) rfl dX3_append_69 ?_
          refine x_iload_n hE dX3_append_72 rfl ?_
          refine x_iast (f' := (upd f1 HL.length e)) hE hc9 (vp_in_nI (by omega) (by omega)) (x_updN _ (by omega) _) dX3_append_73 ?_
          generalize hhh10 : x_up h7 q1 (.inl (g_c G 0, grw n HL.length, .inl (upd f1 HL.length e))) = h10
          have hc11 : h10 q1 = some (.inl (g_c G 0, grw n HL.length, .inl (upd f1 HL.length e))) := by rw [← hhh10]; exact x_up_eq _ _ _
          have hc12 : h10 hi = some (.inr (3, [.ref q1, .int (nI HL.length)])) := by rw [← hhh10, x_up_ne nh]; exact hc8
          refine x_aload_n hE dX3_append_74 rfl rfl ?_
          refine x_dup hE dX3_append_75 rfl ?_
          refine x_get hE hinX3 hc12 rfl 1 (by decide) (List.mem_of_getElem? (i := 1) rfl) rfl dX3_append_76 ?_
          refine x_iconst (v := nI 1) hE dX3_append_79 (by decide) ?_
          refine x_iadd hE dX3_append_80 ?_
          refine x_ieq (y := nI (HL.length + 1)) (nI_1 _) ?_
          refine x_put (fs' := [.ref q1, .int (nI (HL.length + 1))]) hE hinX3 tyX3 tyX3_ok nmX3 hc12 rfl 1 (by decide) (List.mem_of_getElem? (i := 1) rfl) rfl rfl rfl (Nat.le_of_ble_eq_true rfl) rfl dX3_append_81 ?_
          generalize hhh13 : x_up h10 hi (.inr (3, [.ref q1, .int (nI (HL.length + 1))])) = h13
          have hc14 : h13 hi = some (.inr (3, [.ref q1, .int (nI (HL.length + 1))])) := by rw [← hhh13]; exact x_up_eq _ _ _
          have hc15 : h13 q1 = some (.inl (g_c G 0, grw n HL.length, .inl (upd f1 HL.length e))) := by rw [← hhh13, x_up_ne (Ne.symm nh)]; exact hc11
          refine x_widen (k := grw n HL.length - n) (n := 3 * (grw n HL.length - n)) (by omega) (by omega) ?_
          refine x_vret hE dX3_append_84 ⟨rfl, q1, ⟨by rw [List.length_append]; exact hc14, by rw [List.length_append]; show HL.length + 1 ≤ _; omega, by omega, by omega, _, hc15, fun j x hj => ?_⟩, by rw [← hhh13, ← hhh10]; exact (by rw [← hhh7, ← hg9]; exact ((((x_fr.refl h).upn hq1).up (Or.inl rfl)).upn hq1).up (Or.inl rfl)), Or.inr hq1⟩
          rcases get_push hj with z | ⟨rfl, rfl⟩
          · have hl := get_lt z; simp only [upd]; rw [if_neg (by omega)]; exact hef9 j x z
          · simp [upd]

set_option maxHeartbeats 4000000 in
set_option maxRecDepth 100000 in
theorem c_X3_writeGoing (G : XG) {hi eA n : Nat} {HL : List Int32} {h : HM} (hI : hiW G hi eA HL n h) {t c : Int32} (hlen : (strF (entF t c 0) HL).length < 122880) (hcap : capP n) : x_M G yX3_writeGoing wsX3_writeGoing ({ frames := 3, cells := grw n (strF (entF t c 0) HL).length - n, slots := 3 * (grw n (strF (entF t c 0) HL).length - n), locals := 64 } : Room) [.ref hi, .int t, .int c] h (fun v h' => v = none ∧ ∃ eA' : Nat, hiW G hi eA' ((strF (entF t c 0) HL) ++ [entF t c 0]) (grw n (strF (entF t c 0) HL).length) h' ∧ x_fr (fun z => z = hi ∨ z = eA) h h' ∧ (eA' = eA ∨ h eA' = none)) (grw n (strF (entF t c 0) HL).length - n) (3 * (grw n (strF (entF t c 0) HL).length - n)) := by
  refine x_M.of (cc := cX3_writeGoing) (maxL := 4) (ret := none) (ent := [some (.ref hi), some (.int t), some (.int c), none]) (by decide +kernel) rfl (Nat.le_of_ble_eq_true rfl) rfl rfl ?_
  intro F hE hname
  obtain ⟨hhi, hln, hn64, hnM, ef, heA, hef⟩ := id hI
  refine x_iload_n hE dX3_writeGoing_0 rfl ?_
  refine x_iload_n hE dX3_writeGoing_1 rfl ?_
  refine x_iconst (v := nI 0) hE dX3_writeGoing_2 (by decide) ?_
  refine x_callS (st := []) hE 3 (c_X3_entryFor G t c 0) gX3_writeGoing_X3_entryFor rfl rfl rfl (by decide +kernel) ⟨Nat.le_of_ble_eq_true rfl, Nat.le_of_ble_eq_true rfl⟩ rfl rfl dX3_writeGoing_3 rfl (Nat.le_of_ble_eq_true rfl) ⟨by dsimp only; omega, by dsimp only; omega⟩ (fun v h9 hp => ?_)
  obtain ⟨rfl, rfl⟩ := hp
  refine x_istore_n (L' := [some (.ref hi), some (.int t), some (.int c), some (.int (entF t c 0))]) hE dX3_writeGoing_6 rfl (Nat.le_of_ble_eq_true rfl) rfl ?_
  refine x_aload_n hE dX3_writeGoing_7 rfl rfl ?_
  refine x_iload_n hE dX3_writeGoing_8 rfl ?_
  refine x_callV (ci := 3) (st := []) hE 1 (c_X3_strike G hI) gX3_writeGoing_X3_strike rfl rfl rfl (by decide +kernel) ⟨Nat.le_of_ble_eq_true rfl, Nat.le_of_ble_eq_true rfl⟩ hhi rfl rfl rfl dX3_writeGoing_9 rfl (Nat.le_of_ble_eq_true rfl) ⟨by dsimp only; omega, by dsimp only; omega⟩ (fun v h9 hp => ?_)
  obtain ⟨rfl, hI2, hf2⟩ := hp
  obtain ⟨hhi2, hln2, -, -, ef2, heA2, -⟩ := id hI2
  refine x_aload_n hE dX3_writeGoing_12 rfl rfl ?_
  refine x_iload_n hE dX3_writeGoing_13 rfl ?_
  refine x_callV (ci := 3) (st := []) hE 1 (c_X3_append G hI2 hlen hcap) gX3_writeGoing_X3_append rfl rfl rfl (by decide +kernel) ⟨Nat.le_of_ble_eq_true rfl, Nat.le_of_ble_eq_true rfl⟩ hhi2 rfl rfl rfl dX3_writeGoing_14 rfl (Nat.le_of_ble_eq_true rfl) ⟨by dsimp only; omega, by dsimp only; omega⟩ (fun v h9 hp => ?_)
  obtain ⟨rfl, eA2, hI3, hf3, hor⟩ := hp
  rw [show 0 + 0 + 0 + (grw n (strF (entF t c 0) HL).length - n) = grw n (strF (entF t c 0) HL).length - n by omega, show 0 + 0 + 0 + 3 * (grw n (strF (entF t c 0) HL).length - n) = 3 * (grw n (strF (entF t c 0) HL).length - n) by omega]
  exact x_vret hE dX3_writeGoing_17 ⟨rfl, eA2, hI3, hf2.trans hf3, hor.elim Or.inl (fun z => Or.inr (hf2.none2 (fun q hq => hq.elim (fun y => ⟨_, y ▸ hhi2⟩) (fun y => ⟨_, y ▸ heA2⟩)) z))⟩

set_option maxHeartbeats 4000000 in
set_option maxRecDepth 100000 in
theorem c_X3_writeRelease (G : XG) {hi eA n : Nat} {HL : List Int32} {h : HM} (hI : hiW G hi eA HL n h) {t c : Int32} (hlen : HL.length < 122880) (hcap : capP n) : x_M G yX3_writeRelease wsX3_writeRelease ({ frames := 3, cells := grw n HL.length - n, slots := 3 * (grw n HL.length - n), locals := 64 } : Room) [.ref hi, .int t, .int c] h (fun v h' => v = none ∧ ∃ eA' : Nat, hiW G hi eA' (HL ++ [entF t c (nI 1)]) (grw n HL.length) h' ∧ x_fr (fun z => z = hi ∨ z = eA) h h' ∧ (eA' = eA ∨ h eA' = none)) (grw n HL.length - n) (3 * (grw n HL.length - n)) := by
  refine x_M.of (cc := cX3_writeRelease) (maxL := 3) (ret := none) (ent := [some (.ref hi), some (.int t), some (.int c)]) (by decide +kernel) rfl (Nat.le_of_ble_eq_true rfl) rfl rfl ?_
  intro F hE hname
  obtain ⟨hhi, hln, hn64, hnM, ef, heA, hef⟩ := id hI
  refine x_aload_n hE dX3_writeRelease_0 rfl rfl ?_
  refine x_iload_n hE dX3_writeRelease_1 rfl ?_
  refine x_iload_n hE dX3_writeRelease_2 rfl ?_
  refine x_iconst (v := nI 1) hE dX3_writeRelease_3 (by decide) ?_
  refine x_callS (st := [.ref hi]) hE 3 (c_X3_entryFor G t c (nI 1)) gX3_writeRelease_X3_entryFor rfl rfl rfl (by decide +kernel) ⟨Nat.le_of_ble_eq_true rfl, Nat.le_of_ble_eq_true rfl⟩ rfl rfl dX3_writeRelease_4 rfl (Nat.le_of_ble_eq_true rfl) ⟨by dsimp only; omega, by dsimp only; omega⟩ (fun v h9 hp => ?_)
  obtain ⟨rfl, rfl⟩ := hp
  refine x_callV (ci := 3) (st := []) hE 1 (c_X3_append G hI hlen hcap) gX3_writeRelease_X3_append rfl rfl rfl (by decide +kernel) ⟨Nat.le_of_ble_eq_true rfl, Nat.le_of_ble_eq_true rfl⟩ hhi rfl rfl rfl dX3_writeRelease_7 rfl (Nat.le_of_ble_eq_true rfl) ⟨by dsimp only; omega, by dsimp only; omega⟩ (fun v h9 hp => ?_)
  obtain ⟨rfl, eA2, hI3, hf3, hor⟩ := hp
  rw [show 0 + 0 + (grw n HL.length - n) = grw n HL.length - n by omega, show 0 + 0 + 3 * (grw n HL.length - n) = 3 * (grw n HL.length - n) by omega]
  exact x_vret hE dX3_writeRelease_10 ⟨rfl, eA2, hI3, hf3, hor⟩
