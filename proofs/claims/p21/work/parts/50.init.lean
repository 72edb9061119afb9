set_option maxHeartbeats 4000000 in
set_option maxRecDepth 100000 in
theorem c_X5_init (G : XG) {r : Nat} {h : HM} (hr : h r = some (.inr (5, [.null, .int 0, .int 0]))) : x_M G yX5_init wsX5_init ({ frames := 1, cells := 1, slots := 16, locals := 20 } : Room) [.ref r] h (fun v h' => v = none ∧ ∃ la : Nat, h' r = some (.inr (5, [.ref la, .int 0, .int (nI 15)])) ∧ h' la = some (.inl (g_c G 3, 16, .inr (.inr (.inr (.inr (fun _ => none)))))) ∧ x_fr (fun z => z = r) h h' ∧ h la = none ∧ r ≠ la) 1 16 := by
  refine x_M.of (cc := cX5_init) (maxL := 1) (ret := none) (ent := [some (.ref r)]) (by decide +kernel) rfl (Nat.le_of_ble_eq_true rfl) rfl rfl ?_
  intro F hE hname
  have hinX5 : ∀ w ∈ wsX50, w ∈ wsX5_init := by decide +kernel
  refine x_aload_n hE dX5_init_0 rfl rfl ?_
  refine x_objinit hE (List.mem_of_getElem? (i := 1) rfl) (List.mem_of_getElem? (i := 2) rfl) (List.mem_of_getElem? (i := 3) rfl) rfl (Nat.le_of_ble_eq_true rfl) (Nat.le_of_ble_eq_true rfl) dX5_init_1 ?_
  refine x_aload_n hE dX5_init_4 rfl rfl ?_
  refine x_bipush (v := nI 16) hE dX5_init_5 (by decide) ?_
  refine x_newr (t0 := 3) (cA := g_c G 3) hE (List.mem_of_getElem? (i := 4) rfl) hE.2.2.2.2.2.2.1.2.1 rfl (nI_pos (by decide)) (nI_clamp (by decide)) (by decide) (Nat.le_of_ble_eq_true rfl) (Nat.le_of_ble_eq_true rfl) dX5_init_7 (fun la hla0 => ?_)
  generalize hhh1 : x_up h la (.inl (g_c G 3, 16, .inr (.inr (.inr (.inr (fun _ => none)))))) = h1
  have hc2 : h1 la = some (.inl (g_c G 3, 16, .inr (.inr (.inr (.inr (fun _ => none)))))) := by rw [← hhh1]; exact x_up_eq _ _ _
  have hc3 : h1 r = some (.inr (5, [.null, .int 0, .int 0])) := by rw [← hhh1, x_up_ne (x_none_ne hla0 hr)]; exact hr
  have f1 : x_fr (fun z => z = r) h h1 := by rw [← hhh1]; exact (x_fr.refl h).new hla0
  refine x_putF (fs' := [.ref la, .int 0, .int 0]) hE hinX5 tyX5 tyX5_ok nmX5 hc3 rfl 0 (by decide) (List.mem_of_getElem? (i := 5) rfl) rfl hname rfl rfl rfl (Nat.le_of_ble_eq_true rfl) rfl dX5_init_10 ?_
  generalize hhh4 : x_up h1 r (.inr (5, [.ref la, .int 0, .int 0])) = h4
  have hc5 : h4 r = some (.inr (5, [.ref la, .int 0, .int 0])) := by rw [← hhh4]; exact x_up_eq _ _ _
  have hc6 : h4 la = some (.inl (g_c G 3, 16, .inr (.inr (.inr (.inr (fun _ => none)))))) := by rw [← hhh4, x_up_ne (Ne.symm (x_none_ne hla0 hr))]; exact hc2
  have f2 : x_fr (fun z => z = r) h h4 := by rw [← hhh4]; exact f1.up rfl
  refine x_aload_n hE dX5_init_13 rfl rfl ?_
  refine x_bipush (v := nI 15) hE dX5_init_14 (by decide) ?_
  refine x_put (fs' := [.ref la, .int 0, .int (nI 15)]) hE hinX5 tyX5 tyX5_ok nmX5 hc5 rfl 2 (by decide) (List.mem_of_getElem? (i := 6) rfl) rfl rfl rfl (Nat.le_of_ble_eq_true rfl) rfl dX5_init_16 ?_
  generalize hhh7 : x_up h4 r (.inr (5, [.ref la, .int 0, .int (nI 15)])) = h7
  have hc8 : h7 r = some (.inr (5, [.ref la, .int 0, .int (nI 15)])) := by rw [← hhh7]; exact x_up_eq _ _ _
  have hc9 : h7 la = some (.inl (g_c G 3, 16, .inr (.inr (.inr (.inr (fun _ => none)))))) := by rw [← hhh7, x_up_ne (Ne.symm (x_none_ne hla0 hr))]; exact hc6
  have f3 : x_fr (fun z => z = r) h h7 := by rw [← hhh7]; exact f2.up rfl
  exact x_vret hE dX5_init_19 (⟨rfl, la, hc8, hc9, f3, hla0, (x_none_ne hla0 hr)⟩)

set_option maxHeartbeats 4000000 in
set_option maxRecDepth 100000 in
theorem c_X7_init (G : XG) {g : Nat} {h : HM} (hg : h g = some (.inr (7, [.null, .null, .null, .null, .null, .null, .null, .int 0, .int 0, .int 0]))) : x_M G yX7_init wsX7_init ({ frames := 3, cells := 38, slots := 1741, locals := 61 } : Room) [.ref g] h (fun v h' => v = none ∧ ∃ (ad ow : Nat → Nat) (eA : Nat) (P1 P2 : List Nat), ad 0 = g ∧ cW G ad ow eA [] P1 (fun _ => (none, 0, -1)) [] P2 (fun _ => (none, 0, -1)) [] PS0 h') 38 1741 := by
  refine x_M.of (cc := cX7_init) (maxL := 1) (ret := none) (ent := [some (.ref g)]) (by decide +kernel) rfl (Nat.le_of_ble_eq_true rfl) rfl rfl ?_
  intro F hE hname
  have hinX2 : ∀ w ∈ wsX20, w ∈ wsX7_init := by decide +kernel
  have hinX3 : ∀ w ∈ wsX30, w ∈ wsX7_init := by decide +kernel
  have hinX5 : ∀ w ∈ wsX50, w ∈ wsX7_init := by decide +kernel
  have hinX6 : ∀ w ∈ wsX60, w ∈ wsX7_init := by decide +kernel
  have hinX7 : ∀ w ∈ wsX70, w ∈ wsX7_init := by decide +kernel
  have fb1 : x_fr (fun z => z = g) h h := x_fr.refl _
  refine x_aload_n hE dX7_init_0 rfl rfl ?_
  refine x_objinit hE (List.mem_of_getElem? (i := 1) rfl) (List.mem_of_getElem? (i := 2) rfl) (List.mem_of_getElem? (i := 3) rfl) rfl (Nat.le_of_ble_eq_true rfl) (Nat.le_of_ble_eq_true rfl) dX7_init_1 ?_
  refine x_aload_n hE dX7_init_4 rfl rfl ?_
  refine x_new (ci := 5) (fs := [.null, .int 0, .int 0]) hE hinX5 tyX5 tyX5_ok (List.mem_of_getElem? (i := 4) rfl) (List.mem_of_getElem? (i := 5) rfl) (List.mem_of_getElem? (i := 6) rfl) rfl (fun j hj => by rcases (show j = 0 ∨ j = 1 ∨ j = 2 by omega) with rfl | rfl | rfl <;> rfl) (Nat.le_of_ble_eq_true rfl) (Nat.le_of_ble_eq_true rfl) dX7_init_5 (fun r hr0 => ?_)
  generalize hhh1 : x_up h r (.inr (5, [.null, .int 0, .int 0])) = h1
  have hc2 : h1 r = some (.inr (5, [.null, .int 0, .int 0])) := by rw [← hhh1]; exact x_up_eq _ _ _
  have hc3 : h1 g = some (.inr (7, [.null, .null, .null, .null, .null, .null, .null, .int 0, .int 0, .int 0])) := by rw [← hhh1, x_up_ne (x_none_ne hr0 hg)]; exact hg
  have nb2 : h r = none := fb1.none1 hg hr0
  have fb3 : x_fr (fun z => z = g) h h1 := by rw [← hhh1]; exact fb1.new hr0
  refine x_dup hE dX7_init_8 rfl ?_
  refine x_callI (st := [.ref r, .ref g]) hE 0 (c_X5_init G hc2) gX7_init_X5_init rfl rfl rfl (List.mem_of_getElem? (i := 6) rfl) (List.mem_of_getElem? (i := 25) rfl) (List.mem_of_getElem? (i := 26) rfl) rfl (by decide +kernel) ⟨Nat.le_of_ble_eq_true rfl, Nat.le_of_ble_eq_true rfl⟩ rfl rfl dX7_init_9 rfl (Nat.le_of_ble_eq_true rfl) ⟨Nat.le_of_ble_eq_true rfl, Nat.le_of_ble_eq_true rfl⟩ (fun v k1 hp => ?_)
  obtain ⟨rfl, la, hr2, hla2, hxr, hlaN, nrla⟩ := hp
  have nb4 : h la = none := fb3.none1 hc3 hlaN
  have fb5 : x_fr (fun z => z = g) h k1 := x_fr.transn fb3 hxr nb2
  have hc6 : k1 g = some (.inr (7, [.null, .null, .null, .null, .null, .null, .null, .int 0, .int 0, .int 0])) := hxr _ _ hc3 (x_none_ne hr0 hg)
  have fb7 : x_fr (fun z => z = g) k1 k1 := x_fr.refl _
  refine x_putF (fs' := [.ref r, .null, .null, .null, .null, .null, .null, .int 0, .int 0, .int 0]) hE hinX7 tyX7 tyX7_ok nmX7 hc6 rfl 0 (by decide) (List.mem_of_getElem? (i := 7) rfl) rfl hname rfl rfl rfl (Nat.le_of_ble_eq_true rfl) rfl dX7_init_12 ?_
  generalize hhh4 : x_up k1 g (.inr (7, [.ref r, .null, .null, .null, .null, .null, .null, .int 0, .int 0, .int 0])) = h4
  have hc5 : h4 g = some (.inr (7, [.ref r, .null, .null, .null, .null, .null, .null, .int 0, .int 0, .int 0])) := by rw [← hhh4]; exact x_up_eq _ _ _
  have fb8 : x_fr (fun z => z = g) h h4 := by rw [← hhh4]; exact fb5.up rfl
  have fb9 : x_fr (fun z => z = g) k1 h4 := by rw [← hhh4]; exact fb7.up rfl
  refine x_aload_n hE dX7_init_15 rfl rfl ?_
  refine x_bipush (v := nI 12) hE dX7_init_16 (by decide) ?_
  refine x_newr (t0 := 4) (cA := g_c G 4) hE (List.mem_of_getElem? (i := 8) rfl) hE.2.2.2.2.2.2.1.2.2.1 rfl (nI_pos (by decide)) (nI_clamp (by decide)) (by decide) (Nat.le_of_ble_eq_true rfl) (Nat.le_of_ble_eq_true rfl) dX7_init_18 (fun cu hcu0 => ?_)
  generalize hhh6 : x_up h4 cu (.inl (g_c G 4, 12, .inr (.inr (.inr (.inr (fun _ => none)))))) = h6
  have hc7 : h6 cu = some (.inl (g_c G 4, 12, .inr (.inr (.inr (.inr (fun _ => none)))))) := by rw [← hhh6]; exact x_up_eq _ _ _
  have hc8 : h6 g = some (.inr (7, [.ref r, .null, .null, .null, .null, .null, .null, .int 0, .int 0, .int 0])) := by rw [← hhh6, x_up_ne (x_none_ne hcu0 hc5)]; exact hc5
  have nb10 : h cu = none := fb8.none1 hc5 hcu0
  have nb11 : k1 cu = none := fb9.none1 hc5 hcu0
  have fb12 : x_fr (fun z => z = g) h h6 := by rw [← hhh6]; exact fb8.new hcu0
  have fb13 : x_fr (fun z => z = g) k1 h6 := by rw [← hhh6]; exact fb9.new hcu0
  have fb14 : x_fr (fun z => z = g) h6 h6 := x_fr.refl _
  have hcuC := hc7
  refine x_putF (fs' := [.ref r, .ref cu, .null, .null, .null, .null, .null, .int 0, .int 0, .int 0]) hE hinX7 tyX7 tyX7_ok nmX7 hc8 rfl 1 (by decide) (List.mem_of_getElem? (i := 9) rfl) rfl hname rfl rfl rfl (Nat.le_of_ble_eq_true rfl) rfl dX7_init_21 ?_
  generalize hhh9 : x_up h6 g (.inr (7, [.ref r, .ref cu, .null, .null, .null, .null, .null, .int 0, .int 0, .int 0])) = h9
  have hc10 : h9 g = some (.inr (7, [.ref r, .ref cu, .null, .null, .null, .null, .null, .int 0, .int 0, .int 0])) := by rw [← hhh9]; exact x_up_eq _ _ _
  have hc11 : h9 cu = some (.inl (g_c G 4, 12, .inr (.inr (.inr (.inr (fun _ => none)))))) := by rw [← hhh9, x_up_ne (Ne.symm (x_none_ne hcu0 hc5))]; exact hc7
  have fb15 : x_fr (fun z => z = g) h h9 := by rw [← hhh9]; exact fb12.up rfl
  have fb16 : x_fr (fun z => z = g) k1 h9 := by rw [← hhh9]; exact fb13.up rfl
  have fb17 : x_fr (fun z => z = g) h6 h9 := by rw [← hhh9]; exact fb14.up rfl
  refine x_aload_n hE dX7_init_24 rfl rfl ?_
  refine x_iconst (v := nI 3) hE dX7_init_25 (by decide) ?_
  refine x_newa (t0 := 0) (cA := g_c G 0) (a0 := (3, .inl (fun _ => 0))) hE (List.mem_of_getElem? (i := 10) rfl) rfl rfl (fun C e => by cases e) (fun cA => rfl) (nI_pos (by decide)) (nI_clamp (by decide)) (by decide) (Nat.le_of_ble_eq_true rfl) (Nat.le_of_ble_eq_true rfl) dX7_init_26 (fun po hpo0 => ?_)
  generalize hhh12 : x_up h9 po (.inl (g_c G 0, 3, .inl (fun _ => 0))) = h12
  have hc13 : h12 po = some (.inl (g_c G 0, 3, .inl (fun _ => 0))) := by rw [← hhh12]; exact x_up_eq _ _ _
  have hc14 : h12 g = some (.inr (7, [.ref r, .ref cu, .null, .null, .null, .null, .null, .int 0, .int 0, .int 0])) := by rw [← hhh12, x_up_ne (x_none_ne hpo0 hc10)]; exact hc10
  have nb18 : h po = none := fb15.none1 hc10 hpo0
  have nb19 : k1 po = none := fb16.none1 hc10 hpo0
  have nb20 : h6 po = none := fb17.none1 hc10 hpo0
  have fb21 : x_fr (fun z => z = g) h h12 := by rw [← hhh12]; exact fb15.new hpo0
  have fb22 : x_fr (fun z => z = g) k1 h12 := by rw [← hhh12]; exact fb16.new hpo0
  have fb23 : x_fr (fun z => z = g) h6 h12 := by rw [← hhh12]; exact fb17.new hpo0
  refine x_putF (fs' := [.ref r, .ref cu, .ref po, .null, .null, .null, .null, .int 0, .int 0, .int 0]) hE hinX7 tyX7 tyX7_ok nmX7 hc14 rfl 2 (by decide) (List.mem_of_getElem? (i := 11) rfl) rfl hname rfl rfl rfl (Nat.le_of_ble_eq_true rfl) rfl dX7_init_28 ?_
  generalize hhh15 : x_up h12 g (.inr (7, [.ref r, .ref cu, .ref po, .null, .null, .null, .null, .int 0, .int 0, .int 0])) = h15
  have hc16 : h15 g = some (.inr (7, [.ref r, .ref cu, .ref po, .null, .null, .null, .null, .int 0, .int 0, .int 0])) := by rw [← hhh15]; exact x_up_eq _ _ _
  have hc17 : h15 po = some (.inl (g_c G 0, 3, .inl (fun _ => 0))) := by rw [← hhh15, x_up_ne (Ne.symm (x_none_ne hpo0 hc10))]; exact hc13
  have fb24 : x_fr (fun z => z = g) h h15 := by rw [← hhh15]; exact fb21.up rfl
  have fb25 : x_fr (fun z => z = g) k1 h15 := by rw [← hhh15]; exact fb22.up rfl
  have fb26 : x_fr (fun z => z = g) h6 h15 := by rw [← hhh15]; exact fb23.up rfl
  refine x_aload_n hE dX7_init_31 rfl rfl ?_
  refine x_get hE hinX7 hc16 rfl 2 (by decide) (List.mem_of_getElem? (i := 11) rfl) rfl dX7_init_32 ?_
  refine x_sipush (v := nI 5000) hE dX7_init_35 (by decide) ?_
  refine x_callS (st := []) hE 2 (c_J7_fill_53178 G hc17 (by decide)) gX7_init_J7_fill_53178 rfl rfl rfl (by decide +kernel) ⟨Nat.le_of_ble_eq_true rfl, Nat.le_of_ble_eq_true rfl⟩ rfl rfl dX7_init_38 rfl (Nat.le_of_ble_eq_true rfl) ⟨Nat.le_of_ble_eq_true rfl, Nat.le_of_ble_eq_true rfl⟩ (fun v h9 hp => ?_)
  obtain ⟨rfl, rfl⟩ := hp
  generalize hhk2 : x_up h15 po (.inl (g_c G 0, 3, .inl (fun _ => nI 5000))) = k2
  have fb27 : x_fr (fun z => z = g) h k2 := by rw [← hhk2]; exact fb24.upn nb18
  have fb28 : x_fr (fun z => z = g) k1 k2 := by rw [← hhk2]; exact fb25.upn nb19
  have fb29 : x_fr (fun z => z = g) h6 k2 := by rw [← hhk2]; exact fb26.upn nb20
  have hgk2 : k2 g = some (.inr (7, [.ref r, .ref cu, .ref po, .null, .null, .null, .null, .int 0, .int 0, .int 0])) := by rw [← hhk2, x_up_ne (x_none_ne hpo0 hc10)]; exact hc16
  have hpoP : k2 po = some (.inl (g_c G 0, 3, .inl (fun _ => nI 5000))) := by rw [← hhk2]; exact x_up_eq _ _ _
  have fb30 : x_fr (fun z => z = g) k2 k2 := x_fr.refl _
  refine x_aload_n hE dX7_init_41 rfl rfl ?_
  refine x_new (ci := 2) (fs := [.null, .int 0]) hE hinX2 tyX2 tyX2_ok (List.mem_of_getElem? (i := 12) rfl) (List.mem_of_getElem? (i := 13) rfl) (List.mem_of_getElem? (i := 14) rfl) rfl (fun j hj => by rcases (show j = 0 ∨ j = 1 by omega) with rfl | rfl <;> rfl) (Nat.le_of_ble_eq_true rfl) (Nat.le_of_ble_eq_true rfl) dX7_init_42 (fun lo hlo0 => ?_)
  generalize hhh18 : x_up k2 lo (.inr (2, [.null, .int 0])) = h18
  have hc19 : h18 lo = some (.inr (2, [.null, .int 0])) := by rw [← hhh18]; exact x_up_eq _ _ _
  have hc20 : h18 g = some (.inr (7, [.ref r, .ref cu, .ref po, .null, .null, .null, .null, .int 0, .int 0, .int 0])) := by rw [← hhh18, x_up_ne (x_none_ne hlo0 hgk2)]; exact hgk2
  have nb31 : h lo = none := fb27.none1 hgk2 hlo0
  have nb32 : k1 lo = none := fb28.none1 hgk2 hlo0
  have nb33 : h6 lo = none := fb29.none1 hgk2 hlo0
  have nb34 : k2 lo = none := fb30.none1 hgk2 hlo0
  have fb35 : x_fr (fun z => z = g) h h18 := by rw [← hhh18]; exact fb27.new hlo0
  have fb36 : x_fr (fun z => z = g) k1 h18 := by rw [← hhh18]; exact fb28.new hlo0
  have fb37 : x_fr (fun z => z = g) h6 h18 := by rw [← hhh18]; exact fb29.new hlo0
  have fb38 : x_fr (fun z => z = g) k2 h18 := by rw [← hhh18]; exact fb30.new hlo0
  refine x_dup hE dX7_init_45 rfl ?_
  refine x_callI (st := [.ref lo, .ref g]) hE 0 (c_X2_init G hc19) gX7_init_X2_init rfl rfl rfl (List.mem_of_getElem? (i := 14) rfl) (List.mem_of_getElem? (i := 36) rfl) (List.mem_of_getElem? (i := 37) rfl) rfl (by decide +kernel) ⟨Nat.le_of_ble_eq_true rfl, Nat.le_of_ble_eq_true rfl⟩ rfl rfl dX7_init_46 rfl (Nat.le_of_ble_eq_true rfl) ⟨Nat.le_of_ble_eq_true rfl, Nat.le_of_ble_eq_true rfl⟩ (fun v k3 hp => ?_)
  obtain ⟨rfl, lw, SP1, hGlo, hxlo, hlwN, hSP1N⟩ := hp
  have nb39 : h lw = none := fb35.none1 hc20 hlwN
  have nb40 : k1 lw = none := fb36.none1 hc20 hlwN
  have nb41 : h6 lw = none := fb37.none1 hc20 hlwN
  have nb42 : k2 lw = none := fb38.none1 hc20 hlwN
  have nb43 : ∀ x, x ∈ SP1 → h x = none := fun x hx => fb35.none1 hc20 (hSP1N x hx)
  have nb44 : ∀ x, x ∈ SP1 → k1 x = none := fun x hx => fb36.none1 hc20 (hSP1N x hx)
  have nb45 : ∀ x, x ∈ SP1 → h6 x = none := fun x hx => fb37.none1 hc20 (hSP1N x hx)
  have nb46 : ∀ x, x ∈ SP1 → k2 x = none := fun x hx => fb38.none1 hc20 (hSP1N x hx)
  have fb47 : x_fr (fun z => z = g) h k3 := x_fr.transn fb35 hxlo nb31
  have fb48 : x_fr (fun z => z = g) k1 k3 := x_fr.transn fb36 hxlo nb32
  have fb49 : x_fr (fun z => z = g) h6 k3 := x_fr.transn fb37 hxlo nb33
  have fb50 : x_fr (fun z => z = g) k2 k3 := x_fr.transn fb38 hxlo nb34
  have hc51 : k3 g = some (.inr (7, [.ref r, .ref cu, .ref po, .null, .null, .null, .null, .int 0, .int 0, .int 0])) := hxlo _ _ hc20 (x_none_ne hlo0 hgk2)
  have fb52 : x_fr (fun z => z = g) k3 k3 := x_fr.refl _
  refine x_putF (fs' := [.ref r, .ref cu, .ref po, .ref lo, .null, .null, .null, .int 0, .int 0, .int 0]) hE hinX7 tyX7 tyX7_ok nmX7 hc51 rfl 3 (by decide) (List.mem_of_getElem? (i := 15) rfl) rfl hname rfl rfl rfl (Nat.le_of_ble_eq_true rfl) rfl dX7_init_49 ?_
  generalize hhh21 : x_up k3 g (.inr (7, [.ref r, .ref cu, .ref po, .ref lo, .null, .null, .null, .int 0, .int 0, .int 0])) = h21
  have hc22 : h21 g = some (.inr (7, [.ref r, .ref cu, .ref po, .ref lo, .null, .null, .null, .int 0, .int 0, .int 0])) := by rw [← hhh21]; exact x_up_eq _ _ _
  have fb53 : x_fr (fun z => z = g) h h21 := by rw [← hhh21]; exact fb47.up rfl
  have fb54 : x_fr (fun z => z = g) k1 h21 := by rw [← hhh21]; exact fb48.up rfl
  have fb55 : x_fr (fun z => z = g) h6 h21 := by rw [← hhh21]; exact fb49.up rfl
  have fb56 : x_fr (fun z => z = g) k2 h21 := by rw [← hhh21]; exact fb50.up rfl
  have fb57 : x_fr (fun z => z = g) k3 h21 := by rw [← hhh21]; exact fb52.up rfl
  refine x_aload_n hE dX7_init_52 rfl rfl ?_
  refine x_new (ci := 2) (fs := [.null, .int 0]) hE hinX2 tyX2 tyX2_ok (List.mem_of_getElem? (i := 12) rfl) (List.mem_of_getElem? (i := 13) rfl) (List.mem_of_getElem? (i := 14) rfl) rfl (fun j hj => by rcases (show j = 0 ∨ j = 1 by omega) with rfl | rfl <;> rfl) (Nat.le_of_ble_eq_true rfl) (Nat.le_of_ble_eq_true rfl) dX7_init_53 (fun ro hro0 => ?_)
  generalize hhh23 : x_up h21 ro (.inr (2, [.null, .int 0])) = h23
  have hc24 : h23 ro = some (.inr (2, [.null, .int 0])) := by rw [← hhh23]; exact x_up_eq _ _ _
  have hc25 : h23 g = some (.inr (7, [.ref r, .ref cu, .ref po, .ref lo, .null, .null, .null, .int 0, .int 0, .int 0])) := by rw [← hhh23, x_up_ne (x_none_ne hro0 hc22)]; exact hc22
  have nb58 : h ro = none := fb53.none1 hc22 hro0
  have nb59 : k1 ro = none := fb54.none1 hc22 hro0
  have nb60 : h6 ro = none := fb55.none1 hc22 hro0
  have nb61 : k2 ro = none := fb56.none1 hc22 hro0
  have nb62 : k3 ro = none := fb57.none1 hc22 hro0
  have fb63 : x_fr (fun z => z = g) h h23 := by rw [← hhh23]; exact fb53.new hro0
  have fb64 : x_fr (fun z => z = g) k1 h23 := by rw [← hhh23]; exact fb54.new hro0
  have fb65 : x_fr (fun z => z = g) h6 h23 := by rw [← hhh23]; exact fb55.new hro0
  have fb66 : x_fr (fun z => z = g) k2 h23 := by rw [← hhh23]; exact fb56.new hro0
  have fb67 : x_fr (fun z => z = g) k3 h23 := by rw [← hhh23]; exact fb57.new hro0
  refine x_dup hE dX7_init_56 rfl ?_
  refine x_callI (st := [.ref ro, .ref g]) hE 0 (c_X2_init G hc24) gX7_init_X2_init rfl rfl rfl (List.mem_of_getElem? (i := 14) rfl) (List.mem_of_getElem? (i := 36) rfl) (List.mem_of_getElem? (i := 37) rfl) rfl (by decide +kernel) ⟨Nat.le_of_ble_eq_true rfl, Nat.le_of_ble_eq_true rfl⟩ rfl rfl dX7_init_57 rfl (Nat.le_of_ble_eq_true rfl) ⟨Nat.le_of_ble_eq_true rfl, Nat.le_of_ble_eq_true rfl⟩ (fun v k4 hp => ?_)
  obtain ⟨rfl, rw, SP2, hGro, hxro, hrwN, hSP2N⟩ := hp
  have nb68 : h rw = none := fb63.none1 hc25 hrwN
  have nb69 : k1 rw = none := fb64.none1 hc25 hrwN
  have nb70 : h6 rw = none := fb65.none1 hc25 hrwN
  have nb71 : k2 rw = none := fb66.none1 hc25 hrwN
  have nb72 : k3 rw = none := fb67.none1 hc25 hrwN
  have nb73 : ∀ x, x ∈ SP2 → h x = none := fun x hx => fb63.none1 hc25 (hSP2N x hx)
  have nb74 : ∀ x, x ∈ SP2 → k1 x = none := fun x hx => fb64.none1 hc25 (hSP2N x hx)
  have nb75 : ∀ x, x ∈ SP2 → h6 x = none := fun x hx => fb65.none1 hc25 (hSP2N x hx)
  have nb76 : ∀ x, x ∈ SP2 → k2 x = none := fun x hx => fb66.none1 hc25 (hSP2N x hx)
  have nb77 : ∀ x, x ∈ SP2 → k3 x = none := fun x hx => fb67.none1 hc25 (hSP2N x hx)
  have fb78 : x_fr (fun z => z = g) h k4 := x_fr.transn fb63 hxro nb58
  have fb79 : x_fr (fun z => z = g) k1 k4 := x_fr.transn fb64 hxro nb59
  have fb80 : x_fr (fun z => z = g) h6 k4 := x_fr.transn fb65 hxro nb60
  have fb81 : x_fr (fun z => z = g) k2 k4 := x_fr.transn fb66 hxro nb61
  have fb82 : x_fr (fun z => z = g) k3 k4 := x_fr.transn fb67 hxro nb62
  have hc83 : k4 g = some (.inr (7, [.ref r, .ref cu, .ref po, .ref lo, .null, .null, .null, .int 0, .int 0, .int 0])) := hxro _ _ hc25 (x_none_ne hro0 hc22)
  have fb84 : x_fr (fun z => z = g) k4 k4 := x_fr.refl _
  refine x_putF (fs' := [.ref r, .ref cu, .ref po, .ref lo, .ref ro, .null, .null, .int 0, .int 0, .int 0]) hE hinX7 tyX7 tyX7_ok nmX7 hc83 rfl 4 (by decide) (List.mem_of_getElem? (i := 16) rfl) rfl hname rfl rfl rfl (Nat.le_of_ble_eq_true rfl) rfl dX7_init_60 ?_
  generalize hhh26 : x_up k4 g (.inr (7, [.ref r, .ref cu, .ref po, .ref lo, .ref ro, .null, .null, .int 0, .int 0, .int 0])) = h26
  have hc27 : h26 g = some (.inr (7, [.ref r, .ref cu, .ref po, .ref lo, .ref ro, .null, .null, .int 0, .int 0, .int 0])) := by rw [← hhh26]; exact x_up_eq _ _ _
  have fb85 : x_fr (fun z => z = g) h h26 := by rw [← hhh26]; exact fb78.up rfl
  have fb86 : x_fr (fun z => z = g) k1 h26 := by rw [← hhh26]; exact fb79.up rfl
  have fb87 : x_fr (fun z => z = g) h6 h26 := by rw [← hhh26]; exact fb80.up rfl
  have fb88 : x_fr (fun z => z = g) k2 h26 := by rw [← hhh26]; exact fb81.up rfl
  have fb89 : x_fr (fun z => z = g) k3 h26 := by rw [← hhh26]; exact fb82.up rfl
  have fb90 : x_fr (fun z => z = g) k4 h26 := by rw [← hhh26]; exact fb84.up rfl
  refine x_aload_n hE dX7_init_63 rfl rfl ?_
  refine x_new (ci := 6) (fs := [.null, .null, .null, .int 0, .int 0]) hE hinX6 tyX6 tyX6_ok (List.mem_of_getElem? (i := 17) rfl) (List.mem_of_getElem? (i := 18) rfl) (List.mem_of_getElem? (i := 19) rfl) rfl (fun j hj => by rcases (show j = 0 ∨ j = 1 ∨ j = 2 ∨ j = 3 ∨ j = 4 by omega) with rfl | rfl | rfl | rfl | rfl <;> rfl) (Nat.le_of_ble_eq_true rfl) (Nat.le_of_ble_eq_true rfl) dX7_init_64 (fun wo hwo0 => ?_)
  generalize hhh28 : x_up h26 wo (.inr (6, [.null, .null, .null, .int 0, .int 0])) = h28
  have hc29 : h28 wo = some (.inr (6, [.null, .null, .null, .int 0, .int 0])) := by rw [← hhh28]; exact x_up_eq _ _ _
  have hc30 : h28 g = some (.inr (7, [.ref r, .ref cu, .ref po, .ref lo, .ref ro, .null, .null, .int 0, .int 0, .int 0])) := by rw [← hhh28, x_up_ne (x_none_ne hwo0 hc27)]; exact hc27
  have nb91 : h wo = none := fb85.none1 hc27 hwo0
  have nb92 : k1 wo = none := fb86.none1 hc27 hwo0
  have nb93 : h6 wo = none := fb87.none1 hc27 hwo0
  have nb94 : k2 wo = none := fb88.none1 hc27 hwo0
  have nb95 : k3 wo = none := fb89.none1 hc27 hwo0
  have nb96 : k4 wo = none := fb90.none1 hc27 hwo0
  have fb97 : x_fr (fun z => z = g) h h28 := by rw [← hhh28]; exact fb85.new hwo0
  have fb98 : x_fr (fun z => z = g) k1 h28 := by rw [← hhh28]; exact fb86.new hwo0
  have fb99 : x_fr (fun z => z = g) h6 h28 := by rw [← hhh28]; exact fb87.new hwo0
  have fb100 : x_fr (fun z => z = g) k2 h28 := by rw [← hhh28]; exact fb88.new hwo0
  have fb101 : x_fr (fun z => z = g) k3 h28 := by rw [← hhh28]; exact fb89.new hwo0
  have fb102 : x_fr (fun z => z = g) k4 h28 := by rw [← hhh28]; exact fb90.new hwo0
  refine x_dup hE dX7_init_67 rfl ?_
  refine x_callI (st := [.ref wo, .ref g]) hE 0 (c_X6_init G hc29) gX7_init_X6_init rfl rfl rfl (List.mem_of_getElem? (i := 19) rfl) (List.mem_of_getElem? (i := 49) rfl) (List.mem_of_getElem? (i := 50) rfl) rfl (by decide +kernel) ⟨Nat.le_of_ble_eq_true rfl, Nat.le_of_ble_eq_true rfl⟩ rfl rfl dX7_init_68 rfl (Nat.le_of_ble_eq_true rfl) ⟨Nat.le_of_ble_eq_true rfl, Nat.le_of_ble_eq_true rfl⟩ (fun v k5 hp => ?_)
  obtain ⟨rfl, nA, dA, yA, hTw, hxwo, nyn, hnAN, hdAN, hyAN⟩ := hp
  have nb103 : h nA = none := fb97.none1 hc30 hnAN
  have nb104 : k1 nA = none := fb98.none1 hc30 hnAN
  have nb105 : h6 nA = none := fb99.none1 hc30 hnAN
  have nb106 : k2 nA = none := fb100.none1 hc30 hnAN
  have nb107 : k3 nA = none := fb101.none1 hc30 hnAN
  have nb108 : k4 nA = none := fb102.none1 hc30 hnAN
  have nb109 : h dA = none := fb97.none1 hc30 hdAN
  have nb110 : k1 dA = none := fb98.none1 hc30 hdAN
  have nb111 : h6 dA = none := fb99.none1 hc30 hdAN
  have nb112 : k2 dA = none := fb100.none1 hc30 hdAN
  have nb113 : k3 dA = none := fb101.none1 hc30 hdAN
  have nb114 : k4 dA = none := fb102.none1 hc30 hdAN
  have nb115 : h yA = none := fb97.none1 hc30 hyAN
  have nb116 : k1 yA = none := fb98.none1 hc30 hyAN
  have nb117 : h6 yA = none := fb99.none1 hc30 hyAN
  have nb118 : k2 yA = none := fb100.none1 hc30 hyAN
  have nb119 : k3 yA = none := fb101.none1 hc30 hyAN
  have nb120 : k4 yA = none := fb102.none1 hc30 hyAN
  have fb121 : x_fr (fun z => z = g) h k5 := x_fr.transn fb97 hxwo nb91
  have fb122 : x_fr (fun z => z = g) k1 k5 := x_fr.transn fb98 hxwo nb92
  have fb123 : x_fr (fun z => z = g) h6 k5 := x_fr.transn fb99 hxwo nb93
  have fb124 : x_fr (fun z => z = g) k2 k5 := x_fr.transn fb100 hxwo nb94
  have fb125 : x_fr (fun z => z = g) k3 k5 := x_fr.transn fb101 hxwo nb95
  have fb126 : x_fr (fun z => z = g) k4 k5 := x_fr.transn fb102 hxwo nb96
  have hc127 : k5 g = some (.inr (7, [.ref r, .ref cu, .ref po, .ref lo, .ref ro, .null, .null, .int 0, .int 0, .int 0])) := hxwo _ _ hc30 (x_none_ne hwo0 hc27)
  have fb128 : x_fr (fun z => z = g) k5 k5 := x_fr.refl _
  refine x_putF (fs' := [.ref r, .ref cu, .ref po, .ref lo, .ref ro, .ref wo, .null, .int 0, .int 0, .int 0]) hE hinX7 tyX7 tyX7_ok nmX7 hc127 rfl 5 (by decide) (List.mem_of_getElem? (i := 20) rfl) rfl hname rfl rfl rfl (Nat.le_of_ble_eq_true rfl) rfl dX7_init_71 ?_
  generalize hhh31 : x_up k5 g (.inr (7, [.ref r, .ref cu, .ref po, .ref lo, .ref ro, .ref wo, .null, .int 0, .int 0, .int 0])) = h31
  have hc32 : h31 g = some (.inr (7, [.ref r, .ref cu, .ref po, .ref lo, .ref ro, .ref wo, .null, .int 0, .int 0, .int 0])) := by rw [← hhh31]; exact x_up_eq _ _ _
  have fb129 : x_fr (fun z => z = g) h h31 := by rw [← hhh31]; exact fb121.up rfl
  have fb130 : x_fr (fun z => z = g) k1 h31 := by rw [← hhh31]; exact fb122.up rfl
  have fb131 : x_fr (fun z => z = g) h6 h31 := by rw [← hhh31]; exact fb123.up rfl
  have fb132 : x_fr (fun z => z = g) k2 h31 := by rw [← hhh31]; exact fb124.up rfl
  have fb133 : x_fr (fun z => z = g) k3 h31 := by rw [← hhh31]; exact fb125.up rfl
  have fb134 : x_fr (fun z => z = g) k4 h31 := by rw [← hhh31]; exact fb126.up rfl
  have fb135 : x_fr (fun z => z = g) k5 h31 := by rw [← hhh31]; exact fb128.up rfl
  refine x_aload_n hE dX7_init_74 rfl rfl ?_
  refine x_new (ci := 3) (fs := [.null, .int 0]) hE hinX3 tyX3 tyX3_ok (List.mem_of_getElem? (i := 21) rfl) (List.mem_of_getElem? (i := 22) rfl) (List.mem_of_getElem? (i := 23) rfl) rfl (fun j hj => by rcases (show j = 0 ∨ j = 1 by omega) with rfl | rfl <;> rfl) (Nat.le_of_ble_eq_true rfl) (Nat.le_of_ble_eq_true rfl) dX7_init_75 (fun hi hhi0 => ?_)
  generalize hhh33 : x_up h31 hi (.inr (3, [.null, .int 0])) = h33
  have hc34 : h33 hi = some (.inr (3, [.null, .int 0])) := by rw [← hhh33]; exact x_up_eq _ _ _
  have hc35 : h33 g = some (.inr (7, [.ref r, .ref cu, .ref po, .ref lo, .ref ro, .ref wo, .null, .int 0, .int 0, .int 0])) := by rw [← hhh33, x_up_ne (x_none_ne hhi0 hc32)]; exact hc32
  have nb136 : h hi = none := fb129.none1 hc32 hhi0
  have nb137 : k1 hi = none := fb130.none1 hc32 hhi0
  have nb138 : h6 hi = none := fb131.none1 hc32 hhi0
  have nb139 : k2 hi = none := fb132.none1 hc32 hhi0
  have nb140 : k3 hi = none := fb133.none1 hc32 hhi0
  have nb141 : k4 hi = none := fb134.none1 hc32 hhi0
  have nb142 : k5 hi = none := fb135.none1 hc32 hhi0
  have fb143 : x_fr (fun z => z = g) h h33 := by rw [← hhh33]; exact fb129.new hhi0
  have fb144 : x_fr (fun z => z = g) k1 h33 := by rw [← hhh33]; exact fb130.new hhi0
  have fb145 : x_fr (fun z => z = g) h6 h33 := by rw [← hhh33]; exact fb131.new hhi0
  have fb146 : x_fr (fun z => z = g) k2 h33 := by rw [← hhh33]; exact fb132.new hhi0
  have fb147 : x_fr (fun z => z = g) k3 h33 := by rw [← hhh33]; exact fb133.new hhi0
  have fb148 : x_fr (fun z => z = g) k4 h33 := by rw [← hhh33]; exact fb134.new hhi0
  have fb149 : x_fr (fun z => z = g) k5 h33 := by rw [← hhh33]; exact fb135.new hhi0
  refine x_dup hE dX7_init_78 rfl ?_
  refine x_callI (st := [.ref hi, .ref g]) hE 0 (c_X3_init G hc34) gX7_init_X3_init rfl rfl rfl (List.mem_of_getElem? (i := 23) rfl) (List.mem_of_getElem? (i := 57) rfl) (List.mem_of_getElem? (i := 58) rfl) rfl (by decide +kernel) ⟨Nat.le_of_ble_eq_true rfl, Nat.le_of_ble_eq_true rfl⟩ rfl rfl dX7_init_79 rfl (Nat.le_of_ble_eq_true rfl) ⟨Nat.le_of_ble_eq_true rfl, Nat.le_of_ble_eq_true rfl⟩ (fun v k6 hp => ?_)
  obtain ⟨rfl, eA, hIh, hxhi, heAN⟩ := hp
  have nb150 : h eA = none := fb143.none1 hc35 heAN
  have nb151 : k1 eA = none := fb144.none1 hc35 heAN
  have nb152 : h6 eA = none := fb145.none1 hc35 heAN
  have nb153 : k2 eA = none := fb146.none1 hc35 heAN
  have nb154 : k3 eA = none := fb147.none1 hc35 heAN
  have nb155 : k4 eA = none := fb148.none1 hc35 heAN
  have nb156 : k5 eA = none := fb149.none1 hc35 heAN
  have fb157 : x_fr (fun z => z = g) h k6 := x_fr.transn fb143 hxhi nb136
  have fb158 : x_fr (fun z => z = g) k1 k6 := x_fr.transn fb144 hxhi nb137
  have fb159 : x_fr (fun z => z = g) h6 k6 := x_fr.transn fb145 hxhi nb138
  have fb160 : x_fr (fun z => z = g) k2 k6 := x_fr.transn fb146 hxhi nb139
  have fb161 : x_fr (fun z => z = g) k3 k6 := x_fr.transn fb147 hxhi nb140
  have fb162 : x_fr (fun z => z = g) k4 k6 := x_fr.transn fb148 hxhi nb141
  have fb163 : x_fr (fun z => z = g) k5 k6 := x_fr.transn fb149 hxhi nb142
  have hc164 : k6 g = some (.inr (7, [.ref r, .ref cu, .ref po, .ref lo, .ref ro, .ref wo, .null, .int 0, .int 0, .int 0])) := hxhi _ _ hc35 (x_none_ne hhi0 hc32)
  have fb165 : x_fr (fun z => z = g) k6 k6 := x_fr.refl _
  refine x_putF (fs' := [.ref r, .ref cu, .ref po, .ref lo, .ref ro, .ref wo, .ref hi, .int 0, .int 0, .int 0]) hE hinX7 tyX7 tyX7_ok nmX7 hc164 rfl 6 (by decide) (List.mem_of_getElem? (i := 24) rfl) rfl hname rfl rfl rfl (Nat.le_of_ble_eq_true rfl) rfl dX7_init_82 ?_
  generalize hhh36 : x_up k6 g (.inr (7, [.ref r, .ref cu, .ref po, .ref lo, .ref ro, .ref wo, .ref hi, .int 0, .int 0, .int 0])) = h36
  have hc37 : h36 g = some (.inr (7, [.ref r, .ref cu, .ref po, .ref lo, .ref ro, .ref wo, .ref hi, .int 0, .int 0, .int 0])) := by rw [← hhh36]; exact x_up_eq _ _ _
  have fb166 : x_fr (fun z => z = g) h h36 := by rw [← hhh36]; exact fb157.up rfl
  have fb167 : x_fr (fun z => z = g) k1 h36 := by rw [← hhh36]; exact fb158.up rfl
  have fb168 : x_fr (fun z => z = g) h6 h36 := by rw [← hhh36]; exact fb159.up rfl
  have fb169 : x_fr (fun z => z = g) k2 h36 := by rw [← hhh36]; exact fb160.up rfl
  have fb170 : x_fr (fun z => z = g) k3 h36 := by rw [← hhh36]; exact fb161.up rfl
  have fb171 : x_fr (fun z => z = g) k4 h36 := by rw [← hhh36]; exact fb162.up rfl
  have fb172 : x_fr (fun z => z = g) k5 h36 := by rw [← hhh36]; exact fb163.up rfl
  have fb173 : x_fr (fun z => z = g) k6 h36 := by rw [← hhh36]; exact fb165.up rfl
  obtain ⟨-, -, -, nf, df, yf, wt1, wt2, wt3, -⟩ := id hTw
  obtain ⟨-, -, -, -, ef, heA9, -⟩ := id hIh
  obtain ⟨na1, na2, na3, na4, na5⟩ := hTw.ne
  have n_g_r : r ≠ g := Ne.symm (x_none_ne nb2 hg)
  have n_g_la : la ≠ g := Ne.symm (x_none_ne nb4 hg)
  have n_r_la : la ≠ r := Ne.symm nrla
  have n_g_cu : cu ≠ g := Ne.symm (x_none_ne nb10 hg)
  have n_r_cu : cu ≠ r := Ne.symm (x_none_ne nb11 hr2)
  have n_la_cu : cu ≠ la := Ne.symm (x_none_ne nb11 hla2)
  have n_g_po : po ≠ g := Ne.symm (x_none_ne nb18 hg)
  have n_r_po : po ≠ r := Ne.symm (x_none_ne nb19 hr2)
  have n_la_po : po ≠ la := Ne.symm (x_none_ne nb19 hla2)
  have n_cu_po : po ≠ cu := Ne.symm (x_none_ne nb20 hcuC)
  have n_g_lo : lo ≠ g := Ne.symm (x_none_ne nb31 hg)
  have n_r_lo : lo ≠ r := Ne.symm (x_none_ne nb32 hr2)
  have n_la_lo : lo ≠ la := Ne.symm (x_none_ne nb32 hla2)
  have n_cu_lo : lo ≠ cu := Ne.symm (x_none_ne nb33 hcuC)
  have n_po_lo : lo ≠ po := Ne.symm (x_none_ne nb34 hpoP)
  have n_g_lw : lw ≠ g := Ne.symm (x_none_ne nb39 hg)
  have n_r_lw : lw ≠ r := Ne.symm (x_none_ne nb40 hr2)
  have n_la_lw : lw ≠ la := Ne.symm (x_none_ne nb40 hla2)
  have n_cu_lw : lw ≠ cu := Ne.symm (x_none_ne nb41 hcuC)
  have n_po_lw : lw ≠ po := Ne.symm (x_none_ne nb42 hpoP)
  have n_lo_lw : lw ≠ lo := Ne.symm hGlo.ne.1
  have n_g_SP1 : ∀ x, x ∈ SP1 → x ≠ g := fun x hx => Ne.symm (x_none_ne (nb43 x hx) hg)
  have n_r_SP1 : ∀ x, x ∈ SP1 → x ≠ r := fun x hx => Ne.symm (x_none_ne (nb44 x hx) hr2)
  have n_la_SP1 : ∀ x, x ∈ SP1 → x ≠ la := fun x hx => Ne.symm (x_none_ne (nb44 x hx) hla2)
  have n_cu_SP1 : ∀ x, x ∈ SP1 → x ≠ cu := fun x hx => Ne.symm (x_none_ne (nb45 x hx) hcuC)
  have n_po_SP1 : ∀ x, x ∈ SP1 → x ≠ po := fun x hx => Ne.symm (x_none_ne (nb46 x hx) hpoP)
  have n_lo_SP1 : ∀ x, x ∈ SP1 → x ≠ lo := fun x hx => ((hGlo).ne.2 x hx).1
  have n_lw_SP1 : ∀ x, x ∈ SP1 → x ≠ lw := fun x hx => ((hGlo).ne.2 x hx).2
  have n_g_ro : ro ≠ g := Ne.symm (x_none_ne nb58 hg)
  have n_r_ro : ro ≠ r := Ne.symm (x_none_ne nb59 hr2)
  have n_la_ro : ro ≠ la := Ne.symm (x_none_ne nb59 hla2)
  have n_cu_ro : ro ≠ cu := Ne.symm (x_none_ne nb60 hcuC)
  have n_po_ro : ro ≠ po := Ne.symm (x_none_ne nb61 hpoP)
  have n_lo_ro : ro ≠ lo := Ne.symm (x_none_ne nb62 hGlo.1)
  have n_lw_ro : ro ≠ lw := Ne.symm (x_none_ne nb62 hGlo.2.1)
  have n_SP1_ro : ro ∉ SP1 := fun hm => x_none_ne nb62 (hGlo.2.2.2.2 _ hm) rfl
  have n_g_rw : rw ≠ g := Ne.symm (x_none_ne nb68 hg)
  have n_r_rw : rw ≠ r := Ne.symm (x_none_ne nb69 hr2)
  have n_la_rw : rw ≠ la := Ne.symm (x_none_ne nb69 hla2)
  have n_cu_rw : rw ≠ cu := Ne.symm (x_none_ne nb70 hcuC)
  have n_po_rw : rw ≠ po := Ne.symm (x_none_ne nb71 hpoP)
  have n_lo_rw : rw ≠ lo := Ne.symm (x_none_ne nb72 hGlo.1)
  have n_lw_rw : rw ≠ lw := Ne.symm (x_none_ne nb72 hGlo.2.1)
  have n_SP1_rw : rw ∉ SP1 := fun hm => x_none_ne nb72 (hGlo.2.2.2.2 _ hm) rfl
  have n_ro_rw : rw ≠ ro := Ne.symm hGro.ne.1
  have n_g_SP2 : ∀ x, x ∈ SP2 → x ≠ g := fun x hx => Ne.symm (x_none_ne (nb73 x hx) hg)
  have n_r_SP2 : ∀ x, x ∈ SP2 → x ≠ r := fun x hx => Ne.symm (x_none_ne (nb74 x hx) hr2)
  have n_la_SP2 : ∀ x, x ∈ SP2 → x ≠ la := fun x hx => Ne.symm (x_none_ne (nb74 x hx) hla2)
  have n_cu_SP2 : ∀ x, x ∈ SP2 → x ≠ cu := fun x hx => Ne.symm (x_none_ne (nb75 x hx) hcuC)
  have n_po_SP2 : ∀ x, x ∈ SP2 → x ≠ po := fun x hx => Ne.symm (x_none_ne (nb76 x hx) hpoP)
  have n_lo_SP2 : ∀ x, x ∈ SP2 → x ≠ lo := fun x hx => Ne.symm (x_none_ne (nb77 x hx) hGlo.1)
  have n_lw_SP2 : ∀ x, x ∈ SP2 → x ≠ lw := fun x hx => Ne.symm (x_none_ne (nb77 x hx) hGlo.2.1)
  have n_SP1_SP2 : ∀ x, x ∈ SP2 → x ∉ SP1 := fun x hx hm => x_none_ne (nb77 x hx) (hGlo.2.2.2.2 x hm) rfl
  have n_ro_SP2 : ∀ x, x ∈ SP2 → x ≠ ro := fun x hx => ((hGro).ne.2 x hx).1
  have n_rw_SP2 : ∀ x, x ∈ SP2 → x ≠ rw := fun x hx => ((hGro).ne.2 x hx).2
  have n_g_wo : wo ≠ g := Ne.symm (x_none_ne nb91 hg)
  have n_r_wo : wo ≠ r := Ne.symm (x_none_ne nb92 hr2)
  have n_la_wo : wo ≠ la := Ne.symm (x_none_ne nb92 hla2)
  have n_cu_wo : wo ≠ cu := Ne.symm (x_none_ne nb93 hcuC)
  have n_po_wo : wo ≠ po := Ne.symm (x_none_ne nb94 hpoP)
  have n_lo_wo : wo ≠ lo := Ne.symm (x_none_ne nb95 hGlo.1)
  have n_lw_wo : wo ≠ lw := Ne.symm (x_none_ne nb95 hGlo.2.1)
  have n_SP1_wo : wo ∉ SP1 := fun hm => x_none_ne nb95 (hGlo.2.2.2.2 _ hm) rfl
  have n_ro_wo : wo ≠ ro := Ne.symm (x_none_ne nb96 hGro.1)
  have n_rw_wo : wo ≠ rw := Ne.symm (x_none_ne nb96 hGro.2.1)
  have n_SP2_wo : wo ∉ SP2 := fun hm => x_none_ne nb96 (hGro.2.2.2.2 _ hm) rfl
  have n_g_nA : nA ≠ g := Ne.symm (x_none_ne nb103 hg)
  have n_r_nA : nA ≠ r := Ne.symm (x_none_ne nb104 hr2)
  have n_la_nA : nA ≠ la := Ne.symm (x_none_ne nb104 hla2)
  have n_cu_nA : nA ≠ cu := Ne.symm (x_none_ne nb105 hcuC)
  have n_po_nA : nA ≠ po := Ne.symm (x_none_ne nb106 hpoP)
  have n_lo_nA : nA ≠ lo := Ne.symm (x_none_ne nb107 hGlo.1)
  have n_lw_nA : nA ≠ lw := Ne.symm (x_none_ne nb107 hGlo.2.1)
  have n_SP1_nA : nA ∉ SP1 := fun hm => x_none_ne nb107 (hGlo.2.2.2.2 _ hm) rfl
  have n_ro_nA : nA ≠ ro := Ne.symm (x_none_ne nb108 hGro.1)
  have n_rw_nA : nA ≠ rw := Ne.symm (x_none_ne nb108 hGro.2.1)
  have n_SP2_nA : nA ∉ SP2 := fun hm => x_none_ne nb108 (hGro.2.2.2.2 _ hm) rfl
  have n_wo_nA : nA ≠ wo := Ne.symm na1
  have n_g_dA : dA ≠ g := Ne.symm (x_none_ne nb109 hg)
  have n_r_dA : dA ≠ r := Ne.symm (x_none_ne nb110 hr2)
  have n_la_dA : dA ≠ la := Ne.symm (x_none_ne nb110 hla2)
  have n_cu_dA : dA ≠ cu := Ne.symm (x_none_ne nb111 hcuC)
  have n_po_dA : dA ≠ po := Ne.symm (x_none_ne nb112 hpoP)
  have n_lo_dA : dA ≠ lo := Ne.symm (x_none_ne nb113 hGlo.1)
  have n_lw_dA : dA ≠ lw := Ne.symm (x_none_ne nb113 hGlo.2.1)
  have n_SP1_dA : dA ∉ SP1 := fun hm => x_none_ne nb113 (hGlo.2.2.2.2 _ hm) rfl
  have n_ro_dA : dA ≠ ro := Ne.symm (x_none_ne nb114 hGro.1)
  have n_rw_dA : dA ≠ rw := Ne.symm (x_none_ne nb114 hGro.2.1)
  have n_SP2_dA : dA ∉ SP2 := fun hm => x_none_ne nb114 (hGro.2.2.2.2 _ hm) rfl
  have n_wo_dA : dA ≠ wo := Ne.symm na2
  have n_nA_dA : dA ≠ nA := Ne.symm na4
  have n_g_yA : yA ≠ g := Ne.symm (x_none_ne nb115 hg)
  have n_r_yA : yA ≠ r := Ne.symm (x_none_ne nb116 hr2)
  have n_la_yA : yA ≠ la := Ne.symm (x_none_ne nb116 hla2)
  have n_cu_yA : yA ≠ cu := Ne.symm (x_none_ne nb117 hcuC)
  have n_po_yA : yA ≠ po := Ne.symm (x_none_ne nb118 hpoP)
  have n_lo_yA : yA ≠ lo := Ne.symm (x_none_ne nb119 hGlo.1)
  have n_lw_yA : yA ≠ lw := Ne.symm (x_none_ne nb119 hGlo.2.1)
  have n_SP1_yA : yA ∉ SP1 := fun hm => x_none_ne nb119 (hGlo.2.2.2.2 _ hm) rfl
  have n_ro_yA : yA ≠ ro := Ne.symm (x_none_ne nb120 hGro.1)
  have n_rw_yA : yA ≠ rw := Ne.symm (x_none_ne nb120 hGro.2.1)
  have n_SP2_yA : yA ∉ SP2 := fun hm => x_none_ne nb120 (hGro.2.2.2.2 _ hm) rfl
  have n_wo_yA : yA ≠ wo := Ne.symm na3
  have n_nA_yA : yA ≠ nA := Ne.symm (Ne.symm nyn)
  have n_dA_yA : yA ≠ dA := Ne.symm na5
  have n_g_hi : hi ≠ g := Ne.symm (x_none_ne nb136 hg)
  have n_r_hi : hi ≠ r := Ne.symm (x_none_ne nb137 hr2)
  have n_la_hi : hi ≠ la := Ne.symm (x_none_ne nb137 hla2)
  have n_cu_hi : hi ≠ cu := Ne.symm (x_none_ne nb138 hcuC)
  have n_po_hi : hi ≠ po := Ne.symm (x_none_ne nb139 hpoP)
  have n_lo_hi : hi ≠ lo := Ne.symm (x_none_ne nb140 hGlo.1)
  have n_lw_hi : hi ≠ lw := Ne.symm (x_none_ne nb140 hGlo.2.1)
  have n_SP1_hi : hi ∉ SP1 := fun hm => x_none_ne nb140 (hGlo.2.2.2.2 _ hm) rfl
  have n_ro_hi : hi ≠ ro := Ne.symm (x_none_ne nb141 hGro.1)
  have n_rw_hi : hi ≠ rw := Ne.symm (x_none_ne nb141 hGro.2.1)
  have n_SP2_hi : hi ∉ SP2 := fun hm => x_none_ne nb141 (hGro.2.2.2.2 _ hm) rfl
  have n_wo_hi : hi ≠ wo := Ne.symm (x_none_ne nb142 hTw.1)
  have n_nA_hi : hi ≠ nA := Ne.symm (x_none_ne nb142 wt1)
  have n_dA_hi : hi ≠ dA := Ne.symm (x_none_ne nb142 wt2)
  have n_yA_hi : hi ≠ yA := Ne.symm (x_none_ne nb142 wt3)
  have n_g_eA : eA ≠ g := Ne.symm (x_none_ne nb150 hg)
  have n_r_eA : eA ≠ r := Ne.symm (x_none_ne nb151 hr2)
  have n_la_eA : eA ≠ la := Ne.symm (x_none_ne nb151 hla2)
  have n_cu_eA : eA ≠ cu := Ne.symm (x_none_ne nb152 hcuC)
  have n_po_eA : eA ≠ po := Ne.symm (x_none_ne nb153 hpoP)
  have n_lo_eA : eA ≠ lo := Ne.symm (x_none_ne nb154 hGlo.1)
  have n_lw_eA : eA ≠ lw := Ne.symm (x_none_ne nb154 hGlo.2.1)
  have n_SP1_eA : eA ∉ SP1 := fun hm => x_none_ne nb154 (hGlo.2.2.2.2 _ hm) rfl
  have n_ro_eA : eA ≠ ro := Ne.symm (x_none_ne nb155 hGro.1)
  have n_rw_eA : eA ≠ rw := Ne.symm (x_none_ne nb155 hGro.2.1)
  have n_SP2_eA : eA ∉ SP2 := fun hm => x_none_ne nb155 (hGro.2.2.2.2 _ hm) rfl
  have n_wo_eA : eA ≠ wo := Ne.symm (x_none_ne nb156 hTw.1)
  have n_nA_eA : eA ≠ nA := Ne.symm (x_none_ne nb156 wt1)
  have n_dA_eA : eA ≠ dA := Ne.symm (x_none_ne nb156 wt2)
  have n_yA_eA : eA ≠ yA := Ne.symm (x_none_ne nb156 wt3)
  have n_hi_eA : eA ≠ hi := Ne.symm hIh.ne
  obtain ⟨ow, how⟩ : ∃ ow : Nat → Nat, ow = fun z => if z = g then 0 else if z = r then 1 else if z = la then 2 else if z = cu then 3 else if z = po then 4 else if z = lo then 5 else if z = lw then 6 else if z ∈ SP1 then 14 else if z = ro then 7 else if z = rw then 8 else if z ∈ SP2 then 15 else if z = wo then 9 else if z = nA then 10 else if z = dA then 11 else if z = yA then 12 else if z = hi then 13 else if z = eA then 16 else 0 := ⟨_, rfl⟩
  have o_g : ow g = 0 := by rw [how]; dsimp only; rw [if_pos rfl]
  have o_r : ow r = 1 := by rw [how]; dsimp only; rw [if_neg n_g_r]; rw [if_pos rfl]
  have o_la : ow la = 2 := by rw [how]; dsimp only; rw [if_neg n_g_la]; rw [if_neg n_r_la]; rw [if_pos rfl]
  have o_cu : ow cu = 3 := by rw [how]; dsimp only; rw [if_neg n_g_cu]; rw [if_neg n_r_cu]; rw [if_neg n_la_cu]; rw [if_pos rfl]
  have o_po : ow po = 4 := by rw [how]; dsimp only; rw [if_neg n_g_po]; rw [if_neg n_r_po]; rw [if_neg n_la_po]; rw [if_neg n_cu_po]; rw [if_pos rfl]
  have o_lo : ow lo = 5 := by rw [how]; dsimp only; rw [if_neg n_g_lo]; rw [if_neg n_r_lo]; rw [if_neg n_la_lo]; rw [if_neg n_cu_lo]; rw [if_neg n_po_lo]; rw [if_pos rfl]
  have o_lw : ow lw = 6 := by rw [how]; dsimp only; rw [if_neg n_g_lw]; rw [if_neg n_r_lw]; rw [if_neg n_la_lw]; rw [if_neg n_cu_lw]; rw [if_neg n_po_lw]; rw [if_neg n_lo_lw]; rw [if_pos rfl]
  have o_SP1 : ∀ x, x ∈ SP1 → ow x = 14 := fun x hx => by rw [how]; dsimp only; rw [if_neg (n_g_SP1 x hx)]; rw [if_neg (n_r_SP1 x hx)]; rw [if_neg (n_la_SP1 x hx)]; rw [if_neg (n_cu_SP1 x hx)]; rw [if_neg (n_po_SP1 x hx)]; rw [if_neg (n_lo_SP1 x hx)]; rw [if_neg (n_lw_SP1 x hx)]; rw [if_pos hx]
  have o_ro : ow ro = 7 := by rw [how]; dsimp only; rw [if_neg n_g_ro]; rw [if_neg n_r_ro]; rw [if_neg n_la_ro]; rw [if_neg n_cu_ro]; rw [if_neg n_po_ro]; rw [if_neg n_lo_ro]; rw [if_neg n_lw_ro]; rw [if_neg n_SP1_ro]; rw [if_pos rfl]
  have o_rw : ow rw = 8 := by rw [how]; dsimp only; rw [if_neg n_g_rw]; rw [if_neg n_r_rw]; rw [if_neg n_la_rw]; rw [if_neg n_cu_rw]; rw [if_neg n_po_rw]; rw [if_neg n_lo_rw]; rw [if_neg n_lw_rw]; rw [if_neg n_SP1_rw]; rw [if_neg n_ro_rw]; rw [if_pos rfl]
  have o_SP2 : ∀ x, x ∈ SP2 → ow x = 15 := fun x hx => by rw [how]; dsimp only; rw [if_neg (n_g_SP2 x hx)]; rw [if_neg (n_r_SP2 x hx)]; rw [if_neg (n_la_SP2 x hx)]; rw [if_neg (n_cu_SP2 x hx)]; rw [if_neg (n_po_SP2 x hx)]; rw [if_neg (n_lo_SP2 x hx)]; rw [if_neg (n_lw_SP2 x hx)]; rw [if_neg (n_SP1_SP2 x hx)]; rw [if_neg (n_ro_SP2 x hx)]; rw [if_neg (n_rw_SP2 x hx)]; rw [if_pos hx]
  have o_wo : ow wo = 9 := by rw [how]; dsimp only; rw [if_neg n_g_wo]; rw [if_neg n_r_wo]; rw [if_neg n_la_wo]; rw [if_neg n_cu_wo]; rw [if_neg n_po_wo]; rw [if_neg n_lo_wo]; rw [if_neg n_lw_wo]; rw [if_neg n_SP1_wo]; rw [if_neg n_ro_wo]; rw [if_neg n_rw_wo]; rw [if_neg n_SP2_wo]; rw [if_pos rfl]
  have o_nA : ow nA = 10 := by rw [how]; dsimp only; rw [if_neg n_g_nA]; rw [if_neg n_r_nA]; rw [if_neg n_la_nA]; rw [if_neg n_cu_nA]; rw [if_neg n_po_nA]; rw [if_neg n_lo_nA]; rw [if_neg n_lw_nA]; rw [if_neg n_SP1_nA]; rw [if_neg n_ro_nA]; rw [if_neg n_rw_nA]; rw [if_neg n_SP2_nA]; rw [if_neg n_wo_nA]; rw [if_pos rfl]
  have o_dA : ow dA = 11 := by rw [how]; dsimp only; rw [if_neg n_g_dA]; rw [if_neg n_r_dA]; rw [if_neg n_la_dA]; rw [if_neg n_cu_dA]; rw [if_neg n_po_dA]; rw [if_neg n_lo_dA]; rw [if_neg n_lw_dA]; rw [if_neg n_SP1_dA]; rw [if_neg n_ro_dA]; rw [if_neg n_rw_dA]; rw [if_neg n_SP2_dA]; rw [if_neg n_wo_dA]; rw [if_neg n_nA_dA]; rw [if_pos rfl]
  have o_yA : ow yA = 12 := by rw [how]; dsimp only; rw [if_neg n_g_yA]; rw [if_neg n_r_yA]; rw [if_neg n_la_yA]; rw [if_neg n_cu_yA]; rw [if_neg n_po_yA]; rw [if_neg n_lo_yA]; rw [if_neg n_lw_yA]; rw [if_neg n_SP1_yA]; rw [if_neg n_ro_yA]; rw [if_neg n_rw_yA]; rw [if_neg n_SP2_yA]; rw [if_neg n_wo_yA]; rw [if_neg n_nA_yA]; rw [if_neg n_dA_yA]; rw [if_pos rfl]
  have o_hi : ow hi = 13 := by rw [how]; dsimp only; rw [if_neg n_g_hi]; rw [if_neg n_r_hi]; rw [if_neg n_la_hi]; rw [if_neg n_cu_hi]; rw [if_neg n_po_hi]; rw [if_neg n_lo_hi]; rw [if_neg n_lw_hi]; rw [if_neg n_SP1_hi]; rw [if_neg n_ro_hi]; rw [if_neg n_rw_hi]; rw [if_neg n_SP2_hi]; rw [if_neg n_wo_hi]; rw [if_neg n_nA_hi]; rw [if_neg n_dA_hi]; rw [if_neg n_yA_hi]; rw [if_pos rfl]
  have o_eA : ow eA = 16 := by rw [how]; dsimp only; rw [if_neg n_g_eA]; rw [if_neg n_r_eA]; rw [if_neg n_la_eA]; rw [if_neg n_cu_eA]; rw [if_neg n_po_eA]; rw [if_neg n_lo_eA]; rw [if_neg n_lw_eA]; rw [if_neg n_SP1_eA]; rw [if_neg n_ro_eA]; rw [if_neg n_rw_eA]; rw [if_neg n_SP2_eA]; rw [if_neg n_wo_eA]; rw [if_neg n_nA_eA]; rw [if_neg n_dA_eA]; rw [if_neg n_yA_eA]; rw [if_neg n_hi_eA]; rw [if_pos rfl]
  obtain ⟨ad, had⟩ : ∃ ad : Nat → Nat, ad = fun z => if z = 0 then g else if z = 1 then r else if z = 2 then la else if z = 3 then cu else if z = 4 then po else if z = 5 then lo else if z = 6 then lw else if z = 7 then ro else if z = 8 then rw else if z = 9 then wo else if z = 10 then nA else if z = 11 then dA else if z = 12 then yA else if z = 13 then hi else 0 := ⟨_, rfl⟩
  have d_g : ad 0 = g := by rw [had]; rfl
  have d_r : ad 1 = r := by rw [had]; rfl
  have d_la : ad 2 = la := by rw [had]; rfl
  have d_cu : ad 3 = cu := by rw [had]; rfl
  have d_po : ad 4 = po := by rw [had]; rfl
  have d_lo : ad 5 = lo := by rw [had]; rfl
  have d_lw : ad 6 = lw := by rw [had]; rfl
  have d_ro : ad 7 = ro := by rw [had]; rfl
  have d_rw : ad 8 = rw := by rw [had]; rfl
  have d_wo : ad 9 = wo := by rw [had]; rfl
  have d_nA : ad 10 = nA := by rw [had]; rfl
  have d_dA : ad 11 = dA := by rw [had]; rfl
  have d_yA : ad 12 = yA := by rw [had]; rfl
  have d_hi : ad 13 = hi := by rw [had]; rfl
  have hO : oW ad ow eA ([] ++ SP1) ([] ++ SP2) 0 0 := ⟨fun i hi => by rcases (show i = 0 ∨ i = 1 ∨ i = 2 ∨ i = 3 ∨ i = 4 ∨ i = 5 ∨ i = 6 ∨ i = 7 ∨ i = 8 ∨ i = 9 ∨ i = 10 ∨ i = 11 ∨ i = 12 ∨ i = 13 by omega) with rfl | rfl | rfl | rfl | rfl | rfl | rfl | rfl | rfl | rfl | rfl | rfl | rfl | rfl <;> first | (rw [d_g]; exact o_g) | (rw [d_r]; exact o_r) | (rw [d_la]; exact o_la) | (rw [d_cu]; exact o_cu) | (rw [d_po]; exact o_po) | (rw [d_lo]; exact o_lo) | (rw [d_lw]; exact o_lw) | (rw [d_ro]; exact o_ro) | (rw [d_rw]; exact o_rw) | (rw [d_wo]; exact o_wo) | (rw [d_nA]; exact o_nA) | (rw [d_dA]; exact o_dA) | (rw [d_yA]; exact o_yA) | (rw [d_hi]; exact o_hi), fun i hi => absurd hi (by omega), fun i hi => absurd hi (by omega), o_eA, o_SP1, o_SP2⟩
  have hB : cB ad 0 0 0 h36 := by unfold cB; rw [d_g, d_r, d_cu, d_po, d_lo, d_ro, d_wo, d_hi]; exact hc37
  have hR : riW G ad ar0 0 (nI 15) h36 := by refine ⟨by rw [d_r, d_la]; exact fb167 _ _ hr2 n_g_r, ?_, by decide, fun i hi => absurd hi (by omega)⟩; rw [d_la]; exact fb167 _ _ hla2 n_g_la
  have hC : cuW G ad ar0 0 (nI 15) 0 h36 := by refine ⟨?_, by decide, fun i hi => absurd hi (by omega)⟩; rw [d_cu]; exact fb168 _ _ hcuC n_g_cu
  have hp : poW G ad ar0 h36 := by unfold poW; rw [d_po, pow0]; exact fb169 _ _ hpoP n_g_po
  have hl : liW G ad [] SP1 (fun _ => (none, 0, -1)) [] h36 := ⟨by rw [d_lo, d_lw]; exact hGlo.frg fb170 hc51, rfl⟩
  have hrr : goW G (ad 7) (ad 8) [] SP2 (fun _ => (none, 0, -1)) h36 := by rw [d_ro, d_rw]; exact hGro.frg fb171 hc83
  have hw : waW G ad [] [] h36 := by unfold waW; rw [d_wo, d_nA, d_dA, d_yA]; exact hTw.frg fb172 hc127
  have hI : hiW G (ad 13) eA [] 64 h36 := by rw [d_hi]; exact hIh.frg fb173 hc164
  exact x_vret hE dX7_init_85 (⟨rfl, ad, ow, eA, SP1, SP2, d_g, ⟨hB, hR, hC, hp, hl, hrr, hw, hI, hO⟩⟩)
