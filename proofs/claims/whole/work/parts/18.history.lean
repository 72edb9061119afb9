set_option maxHeartbeats 4000000 in
set_option maxRecDepth 100000 in
theorem c_X6_init (G : XG) {wo : Nat} {h : HM} (hwo : h wo = some (.inr (6, [.null, .null, .null, .int 0, .int 0]))) : x_M G yX6_init wsX6_init ({ frames := 1, cells := 3, slots := 1536, locals := 20 } : Room) [.ref wo] h (fun v h' => v = none ∧ ∃ nA dA yA : Nat, wtW G wo nA dA yA [] [] h' ∧ x_fr (fun z => z = wo) h h' ∧ yA ≠ nA ∧ h nA = none ∧ h dA = none ∧ h yA = none) 3 1536 := by
  refine x_M.of (cc := cX6_init) (maxL := 1) (ret := none) (ent := [some (.ref wo)]) (by decide +kernel) rfl (Nat.le_of_ble_eq_true rfl) rfl rfl ?_
  intro F hE hname
  have hinX6 : ∀ w ∈ wsX60, w ∈ wsX6_init := by decide +kernel
  have hf0 : x_fr (fun z => z = wo) h h := x_fr.refl h
  refine x_aload_n hE dX6_init_0 rfl rfl ?_
  refine x_objinit hE (List.mem_of_getElem? (i := 1) rfl) (List.mem_of_getElem? (i := 2) rfl) (List.mem_of_getElem? (i := 3) rfl) rfl (Nat.le_of_ble_eq_true rfl) (Nat.le_of_ble_eq_true rfl) dX6_init_1 ?_
  refine x_aload_n hE dX6_init_4 rfl rfl ?_
  refine x_sipush (v := nI 512) hE dX6_init_5 (by decide) ?_
  refine x_newr (t0 := 4) (cA := g_c G 4) hE (List.mem_of_getElem? (i := 4) rfl) hE.2.2.2.2.2.2.1.2.2.1 rfl (nI_pos (by decide)) (nI_clamp (by decide)) (by decide) (Nat.le_of_ble_eq_true rfl) (Nat.le_of_ble_eq_true rfl) dX6_init_8 (fun nA hnA0 => ?_)
  generalize hhh1 : x_up h nA (.inl (g_c G 4, 512, .inr (.inr (.inr (.inr (fun _ => none)))))) = h1
  have hc2 : h1 nA = some (.inl (g_c G 4, 512, .inr (.inr (.inr (.inr (fun _ => none)))))) := by rw [← hhh1]; exact x_up_eq _ _ _
  have hc3 : h1 wo = some (.inr (6, [.null, .null, .null, .int 0, .int 0])) := by rw [← hhh1, x_up_ne (x_none_ne hnA0 hwo)]; exact hwo
  have hfh1 : x_fr (fun z => z = wo) h h1 := by rw [← hhh1]; exact hf0.new hnA0
  have hnA1 : h nA = none := hf0.none1 hwo hnA0
  refine x_putF (fs' := [.ref nA, .null, .null, .int 0, .int 0]) hE hinX6 tyX6 tyX6_ok nmX6 hc3 rfl 0 (by decide) (List.mem_of_getElem? (i := 5) rfl) rfl hname rfl rfl rfl (Nat.le_of_ble_eq_true rfl) rfl dX6_init_11 ?_
  generalize hhh4 : x_up h1 wo (.inr (6, [.ref nA, .null, .null, .int 0, .int 0])) = h4
  have hc5 : h4 wo = some (.inr (6, [.ref nA, .null, .null, .int 0, .int 0])) := by rw [← hhh4]; exact x_up_eq _ _ _
  have hc6 : h4 nA = some (.inl (g_c G 4, 512, .inr (.inr (.inr (.inr (fun _ => none)))))) := by rw [← hhh4, x_up_ne (Ne.symm (x_none_ne hnA0 hwo))]; exact hc2
  have hfh4 : x_fr (fun z => z = wo) h h4 := by rw [← hhh4]; exact hfh1.up rfl
  refine x_aload_n hE dX6_init_14 rfl rfl ?_
  refine x_sipush (v := nI 512) hE dX6_init_15 (by decide) ?_
  refine x_newa (t0 := 0) (cA := g_c G 0) (a0 := (512, .inl (fun _ => 0))) hE (List.mem_of_getElem? (i := 6) rfl) rfl rfl (fun C e => by cases e) (fun cA => rfl) (nI_pos (by decide)) (nI_clamp (by decide)) (by decide) (Nat.le_of_ble_eq_true rfl) (Nat.le_of_ble_eq_true rfl) dX6_init_18 (fun dA hdA0 => ?_)
  generalize hhh7 : x_up h4 dA (.inl (g_c G 0, 512, .inl (fun _ => 0))) = h7
  have hc8 : h7 dA = some (.inl (g_c G 0, 512, .inl (fun _ => 0))) := by rw [← hhh7]; exact x_up_eq _ _ _
  have hc9 : h7 wo = some (.inr (6, [.ref nA, .null, .null, .int 0, .int 0])) := by rw [← hhh7, x_up_ne (x_none_ne hdA0 hc5)]; exact hc5
  have hc10 : h7 nA = some (.inl (g_c G 4, 512, .inr (.inr (.inr (.inr (fun _ => none)))))) := by rw [← hhh7, x_up_ne (x_none_ne hdA0 hc6)]; exact hc6
  have hfh7 : x_fr (fun z => z = wo) h h7 := by rw [← hhh7]; exact hfh4.new hdA0
  have hdA1 : h dA = none := hfh4.none1 hc5 hdA0
  refine x_putF (fs' := [.ref nA, .ref dA, .null, .int 0, .int 0]) hE hinX6 tyX6 tyX6_ok nmX6 hc9 rfl 1 (by decide) (List.mem_of_getElem? (i := 7) rfl) rfl hname rfl rfl rfl (Nat.le_of_ble_eq_true rfl) rfl dX6_init_20 ?_
  generalize hhh11 : x_up h7 wo (.inr (6, [.ref nA, .ref dA, .null, .int 0, .int 0])) = h11
  have hc12 : h11 wo = some (.inr (6, [.ref nA, .ref dA, .null, .int 0, .int 0])) := by rw [← hhh11]; exact x_up_eq _ _ _
  have hc13 : h11 dA = some (.inl (g_c G 0, 512, .inl (fun _ => 0))) := by rw [← hhh11, x_up_ne (Ne.symm (x_none_ne hdA0 hc5))]; exact hc8
  have hc14 : h11 nA = some (.inl (g_c G 4, 512, .inr (.inr (.inr (.inr (fun _ => none)))))) := by rw [← hhh11, x_up_ne (Ne.symm (x_none_ne hnA0 hwo))]; exact hc10
  have hfh11 : x_fr (fun z => z = wo) h h11 := by rw [← hhh11]; exact hfh7.up rfl
  refine x_aload_n hE dX6_init_23 rfl rfl ?_
  refine x_sipush (v := nI 512) hE dX6_init_24 (by decide) ?_
  refine x_newr (t0 := 4) (cA := g_c G 4) hE (List.mem_of_getElem? (i := 4) rfl) hE.2.2.2.2.2.2.1.2.2.1 rfl (nI_pos (by decide)) (nI_clamp (by decide)) (by decide) (Nat.le_of_ble_eq_true rfl) (Nat.le_of_ble_eq_true rfl) dX6_init_27 (fun yA hyA0 => ?_)
  generalize hhh15 : x_up h11 yA (.inl (g_c G 4, 512, .inr (.inr (.inr (.inr (fun _ => none)))))) = h15
  have hc16 : h15 yA = some (.inl (g_c G 4, 512, .inr (.inr (.inr (.inr (fun _ => none)))))) := by rw [← hhh15]; exact x_up_eq _ _ _
  have hc17 : h15 wo = some (.inr (6, [.ref nA, .ref dA, .null, .int 0, .int 0])) := by rw [← hhh15, x_up_ne (x_none_ne hyA0 hc12)]; exact hc12
  have hc18 : h15 dA = some (.inl (g_c G 0, 512, .inl (fun _ => 0))) := by rw [← hhh15, x_up_ne (x_none_ne hyA0 hc13)]; exact hc13
  have hc19 : h15 nA = some (.inl (g_c G 4, 512, .inr (.inr (.inr (.inr (fun _ => none)))))) := by rw [← hhh15, x_up_ne (x_none_ne hyA0 hc14)]; exact hc14
  have hfh15 : x_fr (fun z => z = wo) h h15 := by rw [← hhh15]; exact hfh11.new hyA0
  have hyA1 : h yA = none := hfh11.none1 hc12 hyA0
  refine x_putF (fs' := [.ref nA, .ref dA, .ref yA, .int 0, .int 0]) hE hinX6 tyX6 tyX6_ok nmX6 hc17 rfl 2 (by decide) (List.mem_of_getElem? (i := 8) rfl) rfl hname rfl rfl rfl (Nat.le_of_ble_eq_true rfl) rfl dX6_init_30 ?_
  generalize hhh20 : x_up h15 wo (.inr (6, [.ref nA, .ref dA, .ref yA, .int 0, .int 0])) = h20
  have hc21 : h20 wo = some (.inr (6, [.ref nA, .ref dA, .ref yA, .int 0, .int 0])) := by rw [← hhh20]; exact x_up_eq _ _ _
  have hc22 : h20 yA = some (.inl (g_c G 4, 512, .inr (.inr (.inr (.inr (fun _ => none)))))) := by rw [← hhh20, x_up_ne (Ne.symm (x_none_ne hyA0 hc12))]; exact hc16
  have hc23 : h20 dA = some (.inl (g_c G 0, 512, .inl (fun _ => 0))) := by rw [← hhh20, x_up_ne (Ne.symm (x_none_ne hdA0 hc5))]; exact hc18
  have hc24 : h20 nA = some (.inl (g_c G 4, 512, .inr (.inr (.inr (.inr (fun _ => none)))))) := by rw [← hhh20, x_up_ne (Ne.symm (x_none_ne hnA0 hwo))]; exact hc19
  have hfh20 : x_fr (fun z => z = wo) h h20 := by rw [← hhh20]; exact hfh15.up rfl
  exact x_vret hE dX6_init_33 (⟨rfl, nA, dA, yA, ⟨hc21, by decide, by decide, _, _, _, hc24, hc23, hc22, fun j x hj => by simp at hj, fun j x hj => by simp at hj⟩, hfh20, Ne.symm (x_none_ne hyA0 hc14), hnA1, hdA1, hyA1⟩)

set_option maxHeartbeats 4000000 in
set_option maxRecDepth 100000 in
theorem c_X3_entryFor (G : XG) {h : HM} (t c k : Int32) : x_M G yX3_entryFor wsX3_entryFor ({ frames := 0, cells := 0, slots := 0, locals := 0 } : Room) [.int t, .int c, .int k] h (x_is (some (.int (entF t c k))) h) 0 0 := by
  refine x_M.of (cc := cX3_entryFor) (maxL := 3) (ret := (some .int)) (ent := [some (.int t), some (.int c), some (.int k)]) (by decide +kernel) rfl (Nat.le_of_ble_eq_true rfl) rfl rfl ?_
  intro F hE hname
  refine x_iload_n hE dX3_entryFor_0 rfl ?_
  refine x_iconst (v := nI 5) hE dX3_entryFor_1 (by decide) ?_
  refine x_ishl hE dX3_entryFor_2 ?_
  refine x_iload_n hE dX3_entryFor_3 rfl ?_
  refine x_iconst (v := nI 1) hE dX3_entryFor_4 (by decide) ?_
  refine x_ishl hE dX3_entryFor_5 ?_
  refine x_ior hE dX3_entryFor_6 ?_
  refine x_iload_n hE dX3_entryFor_7 rfl ?_
  refine x_ior hE dX3_entryFor_8 ?_
  exact x_iret hE dX3_entryFor_9 (⟨rfl, rfl⟩)

set_option maxHeartbeats 4000000 in
set_option maxRecDepth 100000 in
theorem c_X3_tickOf (G : XG) {h : HM} (e : Int32) : x_M G yX3_tickOf wsX3_tickOf ({ frames := 0, cells := 0, slots := 0, locals := 0 } : Room) [.int e] h (x_is (some (.int (eTick e))) h) 0 0 := by
  refine x_M.of (cc := cX3_tickOf) (maxL := 1) (ret := (some .int)) (ent := [some (.int e)]) (by decide +kernel) rfl (Nat.le_of_ble_eq_true rfl) rfl rfl ?_
  intro F hE hname
  refine x_iload_n hE dX3_tickOf_0 rfl ?_
  refine x_iconst (v := nI 5) hE dX3_tickOf_1 (by decide) ?_
  refine x_ishr hE dX3_tickOf_2 ?_
  exact x_iret hE dX3_tickOf_3 (⟨rfl, rfl⟩)

set_option maxHeartbeats 4000000 in
set_option maxRecDepth 100000 in
theorem c_X3_cueOf (G : XG) {h : HM} (e : Int32) : x_M G yX3_cueOf wsX3_cueOf ({ frames := 0, cells := 0, slots := 0, locals := 0 } : Room) [.int e] h (x_is (some (.int (eCue e))) h) 0 0 := by
  refine x_M.of (cc := cX3_cueOf) (maxL := 1) (ret := (some .int)) (ent := [some (.int e)]) (by decide +kernel) rfl (Nat.le_of_ble_eq_true rfl) rfl rfl ?_
  intro F hE hname
  refine x_iload_n hE dX3_cueOf_0 rfl ?_
  refine x_iconst (v := nI 1) hE dX3_cueOf_1 (by decide) ?_
  refine x_ishr hE dX3_cueOf_2 ?_
  refine x_bipush (v := nI 15) hE dX3_cueOf_3 (by decide) ?_
  refine x_iand hE dX3_cueOf_5 ?_
  exact x_iret hE dX3_cueOf_6 (⟨rfl, rfl⟩)

set_option maxHeartbeats 4000000 in
set_option maxRecDepth 100000 in
theorem c_X3_isRelease (G : XG) {h : HM} (e : Int32) : x_M G yX3_isRelease wsX3_isRelease ({ frames := 0, cells := 0, slots := 0, locals := 0 } : Room) [.int e] h (x_is (some (.int (b2i (eRel e)))) h) 0 0 := by
  refine x_M.of (cc := cX3_isRelease) (maxL := 1) (ret := (some .boolean)) (ent := [some (.int e)]) (by decide +kernel) rfl (Nat.le_of_ble_eq_true rfl) rfl rfl ?_
  intro F hE hname
  refine x_iload_n hE dX3_isRelease_0 rfl ?_
  refine x_iconst (v := nI 1) hE dX3_isRelease_1 (by decide) ?_
  refine x_iand hE dX3_isRelease_2 ?_
  refine x_if_eq (tgt := 10) hE dX3_isRelease_3 (by decide) (fun c3 => ?_) (fun c3 => ?_)
  · refine x_iconst (v := nI 0) hE dX3_isRelease_10 (by decide) ?_
    exact x_zret hE (Or.inl rfl) dX3_isRelease_11 (⟨x_zf (by simp [eRel, c3]), rfl⟩)
  · refine x_iconst (v := nI 1) hE dX3_isRelease_6 (by decide) ?_
    refine x_goto (tgt := 11) hE dX3_isRelease_7 (by decide) ?_
    exact x_zret hE (Or.inr rfl) dX3_isRelease_11 (⟨x_zt (by simp [eRel, c3]), rfl⟩)

set_option maxHeartbeats 4000000 in
set_option maxRecDepth 100000 in
theorem c_X3_init (G : XG) {hi : Nat} {h : HM} (hhi : h hi = some (.inr (3, [.null, .int 0]))) : x_M G yX3_init wsX3_init ({ frames := 1, cells := 1, slots := 64, locals := 20 } : Room) [.ref hi] h (fun v h' => v = none ∧ ∃ eA : Nat, hiW G hi eA [] 64 h' ∧ x_fr (fun z => z = hi) h h' ∧ h eA = none) 1 64 := by
  refine x_M.of (cc := cX3_init) (maxL := 1) (ret := none) (ent := [some (.ref hi)]) (by decide +kernel) rfl (Nat.le_of_ble_eq_true rfl) rfl rfl ?_
  intro F hE hname
  have hinX3 : ∀ w ∈ wsX30, w ∈ wsX3_init := by decide +kernel
  refine x_aload_n hE dX3_init_0 rfl rfl ?_
  refine x_objinit hE (List.mem_of_getElem? (i := 1) rfl) (List.mem_of_getElem? (i := 2) rfl) (List.mem_of_getElem? (i := 3) rfl) rfl (Nat.le_of_ble_eq_true rfl) (Nat.le_of_ble_eq_true rfl) dX3_init_1 ?_
  refine x_aload_n hE dX3_init_4 rfl rfl ?_
  refine x_bipush (v := nI 64) hE dX3_init_5 (by decide) ?_
  refine x_newa (t0 := 0) (cA := g_c G 0) (a0 := (64, .inl (fun _ => 0))) hE (List.mem_of_getElem? (i := 4) rfl) rfl rfl (fun C e => by cases e) (fun cA => rfl) (nI_pos (by decide)) (nI_clamp (by decide)) (by decide) (Nat.le_of_ble_eq_true rfl) (Nat.le_of_ble_eq_true rfl) dX3_init_7 (fun eA heA0 => ?_)
  generalize hhh1 : x_up h eA (.inl (g_c G 0, 64, .inl (fun _ => 0))) = h1
  have hc2 : h1 eA = some (.inl (g_c G 0, 64, .inl (fun _ => 0))) := by rw [← hhh1]; exact x_up_eq _ _ _
  have hc3 : h1 hi = some (.inr (3, [.null, .int 0])) := by rw [← hhh1, x_up_ne (x_none_ne heA0 hhi)]; exact hhi
  have hfh1 : x_fr (fun z => z = hi) h h1 := by rw [← hhh1]; exact (x_fr.refl h).new heA0
  refine x_put (fs' := [.ref eA, .int 0]) hE hinX3 tyX3 tyX3_ok nmX3 hc3 rfl 0 (by decide) (List.mem_of_getElem? (i := 5) rfl) rfl rfl rfl (Nat.le_of_ble_eq_true rfl) rfl dX3_init_9 ?_
  generalize hhh4 : x_up h1 hi (.inr (3, [.ref eA, .int 0])) = h4
  have hc5 : h4 hi = some (.inr (3, [.ref eA, .int 0])) := by rw [← hhh4]; exact x_up_eq _ _ _
  have hc6 : h4 eA = some (.inl (g_c G 0, 64, .inl (fun _ => 0))) := by rw [← hhh4, x_up_ne (Ne.symm (x_none_ne heA0 hhi))]; exact hc2
  have hfh4 : x_fr (fun z => z = hi) h h4 := by rw [← hhh4]; exact hfh1.up rfl
  exact x_vret hE dX3_init_12 (⟨rfl, eA, ⟨hc5, by decide, by decide, by decide, _, hc6, fun j x hj => by simp at hj⟩, hfh4, heA0⟩)

set_option maxHeartbeats 4000000 in
set_option maxRecDepth 100000 in
theorem c_X3_entryAt (G : XG) {hi eA n : Nat} {HL : List Int32} {h : HM} (hI : hiW G hi eA HL n h) {i : Nat} {x : Int32} (hx : HL[i]? = some x) : x_M G yX3_entryAt wsX3_entryAt ({ frames := 0, cells := 0, slots := 0, locals := 0 } : Room) [.ref hi, .int (nI i)] h (x_is (some (.int x)) h) 0 0 := by
  refine x_M.of (cc := cX3_entryAt) (maxL := 2) (ret := (some .int)) (ent := [some (.ref hi), some (.int (nI i))]) (by decide +kernel) rfl (Nat.le_of_ble_eq_true rfl) rfl rfl ?_
  intro F hE hname
  have hinX3 : ∀ w ∈ wsX30, w ∈ wsX3_entryAt := by decide +kernel
  obtain ⟨hhi, hln, hn64, hnM, ef, heA, hef⟩ := id hI
  have hi1 := get_lt hx
  refine x_iload_n hE dX3_entryAt_0 rfl ?_
  refine x_if_lt (tgt := 22) hE dX3_entryAt_1 (by decide) (fun c1 => ?_) (fun c1 => ?_)
  · exact absurd c1 (nI_pos (by omega))
  · refine x_iload_n hE dX3_entryAt_4 rfl ?_
    refine x_aload_n hE dX3_entryAt_5 rfl rfl ?_
    refine x_get hE hinX3 hhi rfl 0 (by decide) (List.mem_of_getElem? (i := 1) rfl) rfl dX3_entryAt_6 ?_
    refine x_alen (t0 := 0) hE heA rfl dX3_entryAt_9 ?_
    refine x_icmp_ge (tgt := 22) hE dX3_entryAt_10 (by decide) (fun c10 => ?_) (fun c10 => ?_)
    · replace c10 := x_nIle c10 (by omega) (by omega)
      omega
    · replace c10 := x_nInle c10 (by omega) (by omega)
      refine x_aload_n hE dX3_entryAt_13 rfl rfl ?_
      refine x_get hE hinX3 hhi rfl 0 (by decide) (List.mem_of_getElem? (i := 1) rfl) rfl dX3_entryAt_14 ?_
      refine x_iload_n hE dX3_entryAt_17 rfl ?_
      refine x_iald (v := x) hE heA (vp_in_nI (by omega) (by omega)) ((x_atN _ (by omega)).trans (hef i x hx)) dX3_entryAt_18 ?_
      refine x_goto (tgt := 23) hE dX3_entryAt_19 (by decide) ?_
      exact x_iret hE dX3_entryAt_23 (⟨rfl, rfl⟩)

set_option maxHeartbeats 4000000 in
set_option maxRecDepth 100000 in
theorem c_X3_removeAt (G : XG) {hi eA n : Nat} {HL : List Int32} {h : HM} (hI : hiW G hi eA HL n h) {p : Nat} (hp1 : p < HL.length) : x_M G yX3_removeAt wsX3_removeAt ({ frames := 0, cells := 0, slots := 0, locals := 0 } : Room) [.ref hi, .int (nI p)] h (fun v h' => v = none ∧ hiW G hi eA (HL.eraseIdx p) n h' ∧ x_fr (fun z => z = hi ∨ z = eA) h h') 0 0 := by
  refine x_M.of (cc := cX3_removeAt) (maxL := 3) (ret := none) (ent := [some (.ref hi), some (.int (nI p)), none]) (by decide +kernel) rfl (Nat.le_of_ble_eq_true rfl) rfl rfl ?_
  intro F hE hname
  have hinX3 : ∀ w ∈ wsX30, w ∈ wsX3_removeAt := by decide +kernel
  obtain ⟨hhi, hln, hn64, hnM, ef, heA, hef⟩ := id hI
  refine x_iload_n hE dX3_removeAt_0 rfl ?_
  refine x_if_lt (tgt := 12) hE dX3_removeAt_1 (by decide) (fun c1 => ?_) (fun c1 => ?_)
  · exact absurd c1 (nI_pos (by omega))
  · refine x_iload_n hE dX3_removeAt_4 rfl ?_
    refine x_aload_n hE dX3_removeAt_5 rfl rfl ?_
    refine x_get hE hinX3 hhi rfl 1 (by decide) (List.mem_of_getElem? (i := 1) rfl) rfl dX3_removeAt_6 ?_
    refine x_icmp_lt (tgt := 13) hE dX3_removeAt_9 (by decide) (fun c9 => ?_) (fun c9 => ?_)
    · refine x_iload_n hE dX3_removeAt_13 rfl ?_
      refine x_istore_n (L' := [some (.ref hi), some (.int (nI p)), some (.int (nI p))]) hE dX3_removeAt_14 rfl (Nat.le_of_ble_eq_true rfl) rfl ?_
      have hst : x_up h eA (.inl (g_c G 0, n, .inl (fun q => if p ≤ q ∧ q < p then ef (q + 1) else ef q))) = h := by rw [show (fun q => if p ≤ q ∧ q < p then ef (q + 1) else ef q) = ef from funext (fun q => if_neg (by omega)), x_up_self heA]
      refine x_heq hst.symm ?_
      have hne : hi ≠ eA := fun e => by have z1 := hhi; rw [e, heA] at z1; simp at z1
      refine x_down (N := HL.length - 1) (P := fun i => p ≤ i → x_W G F (x_Q G F (fun v h' => v = none ∧ hiW G hi eA (HL.eraseIdx p) n h' ∧ x_fr (fun z => z = hi ∨ z = eA) h h') 0 0) 0 0 (x_up h eA (.inl (g_c G 0, n, .inl (fun q => if p ≤ q ∧ q < i then ef (q + 1) else ef q)))) 15 [some (.ref hi), some (.int (nI p)), some (.int (nI i))] []) (fun i hiN ih => ?_) p (by omega) (Nat.le_refl p)
      intro hpi
      refine x_iload_n hE dX3_removeAt_15 rfl ?_
      refine x_iconst (v := nI 1) hE dX3_removeAt_16 (by decide) ?_
      refine x_iadd hE dX3_removeAt_17 ?_
      refine x_ieq (y := nI (i + 1)) (nI_1 _) ?_
      refine x_aload_n hE dX3_removeAt_18 rfl rfl ?_
      refine x_get hE hinX3 ((x_up_ne hne).trans hhi) rfl 1 (by decide) (List.mem_of_getElem? (i := 1) rfl) rfl dX3_removeAt_19 ?_
      refine x_icmp_ge (tgt := 56) hE dX3_removeAt_22 (by decide) (fun c22 => ?_) (fun c22 => ?_)
      · replace c22 := x_nIle c22 (by omega) (by omega)
        have ei : i = HL.length - 1 := by omega
        have hlen : (HL.eraseIdx p).length = HL.length - 1 := by rw [List.length_eraseIdx, if_pos hp1]
        refine x_aload_n hE dX3_removeAt_56 rfl rfl ?_
        refine x_dup hE dX3_removeAt_57 rfl ?_
        refine x_get hE hinX3 ((x_up_ne hne).trans hhi) rfl 1 (by decide) (List.mem_of_getElem? (i := 1) rfl) rfl dX3_removeAt_58 ?_
        refine x_iconst (v := nI 1) hE dX3_removeAt_61 (by decide) ?_
        refine x_isub hE dX3_removeAt_62 ?_
        refine x_ieq (y := nI (HL.eraseIdx p).length) (by rw [sub1 (by omega), hlen]) ?_
        refine x_put (fs' := [.ref eA, .int (nI (HL.eraseIdx p).length)]) hE hinX3 tyX3 tyX3_ok nmX3 ((x_up_ne hne).trans hhi) rfl 1 (by decide) (List.mem_of_getElem? (i := 1) rfl) rfl rfl rfl (Nat.le_of_ble_eq_true rfl) rfl dX3_removeAt_63 ?_
        generalize hhh1 : x_up (x_up h eA (.inl (g_c G 0, n, .inl (fun q => if p ≤ q ∧ q < i then ef (q + 1) else ef q)))) hi (.inr (3, [.ref eA, .int (nI (HL.eraseIdx p).length)])) = h1
        have hc2 : h1 hi = some (.inr (3, [.ref eA, .int (nI (HL.eraseIdx p).length)])) := by rw [← hhh1]; exact x_up_eq _ _ _
        have hc3 : h1 eA = some (.inl (g_c G 0, n, .inl (fun q => if p ≤ q ∧ q < i then ef (q + 1) else ef q))) := by rw [← hhh1, x_up_ne (Ne.symm hne)]; exact (x_up_eq h eA _)
        exact x_vret hE dX3_removeAt_66 ⟨rfl, ⟨hc2, by omega, hn64, hnM, _, hc3, fun j x hj => (erase_get hj).elim (fun z => by rw [if_neg (by omega)]; exact hef j x z.2) (fun z => by have := get_lt z.2; rw [if_pos (by omega)]; exact hef (j + 1) x z.2)⟩, by rw [← hhh1]; exact ((x_fr.refl h).up (Or.inr rfl)).up (Or.inl rfl)⟩
      · replace c22 := x_nInle c22 (by omega) (by omega)
        refine x_iload_n hE dX3_removeAt_25 rfl ?_
        refine x_iconst (v := nI 1) hE dX3_removeAt_26 (by decide) ?_
        refine x_iadd hE dX3_removeAt_27 ?_
        refine x_ieq (y := nI (i + 1)) (nI_1 _) ?_
        refine x_aload_n hE dX3_removeAt_28 rfl rfl ?_
        refine x_get hE hinX3 ((x_up_ne hne).trans hhi) rfl 0 (by decide) (List.mem_of_getElem? (i := 2) rfl) rfl dX3_removeAt_29 ?_
        refine x_alen (t0 := 0) hE (x_up_eq h eA _) rfl dX3_removeAt_32 ?_
        refine x_icmp_ge (tgt := 56) hE dX3_removeAt_33 (by decide) (fun c33 => ?_) (fun c33 => ?_)
        · exact absurd (x_nIle c33 (by omega) (by omega)) (by omega)
        · refine x_aload_n hE dX3_removeAt_36 rfl rfl ?_
          refine x_get hE hinX3 ((x_up_ne hne).trans hhi) rfl 0 (by decide) (List.mem_of_getElem? (i := 2) rfl) rfl dX3_removeAt_37 ?_
          refine x_iload_n hE dX3_removeAt_40 rfl ?_
          refine x_aload_n hE dX3_removeAt_41 rfl rfl ?_
          refine x_get hE hinX3 ((x_up_ne hne).trans hhi) rfl 0 (by decide) (List.mem_of_getElem? (i := 2) rfl) rfl dX3_removeAt_42 ?_
          refine x_iload_n hE dX3_removeAt_45 rfl ?_
          refine x_iconst (v := nI 1) hE dX3_removeAt_46 (by decide) ?_
          refine x_iadd hE dX3_removeAt_47 ?_
          refine x_ieq (y := nI (i + 1)) (nI_1 _) ?_
          refine x_iald (v := ef (i + 1)) hE (x_up_eq h eA _) (vp_in_nI (by omega) (by omega)) ((x_atN _ (by omega)).trans (if_neg (by omega))) dX3_removeAt_48 ?_
          refine x_iast (f' := (fun q => if p ≤ q ∧ q < i + 1 then ef (q + 1) else ef q)) hE (x_up_eq h eA _) (vp_in_nI (by omega) (by omega)) ((x_updN _ (by omega) _).trans (by funext q; unfold upd; by_cases e : q = i <;> simp only [e, if_pos, if_true] <;> grind)) dX3_removeAt_49 ?_
          rw [x_up_up]
          refine x_iinc (v := nI (i + 1)) (L' := [some (.ref hi), some (.int (nI p)), some (.int (nI (i + 1)))]) hE dX3_removeAt_50 rfl (nI_1 _) rfl ?_
          refine x_goto (tgt := 15) hE dX3_removeAt_53 (by decide) ?_
          exact ih (i + 1) (by omega) (by omega) (by omega)
    · exact absurd (x_nInlt c9 (by omega) (by omega)) (by omega)

set_option maxHeartbeats 4000000 in
set_option maxRecDepth 100000 in
theorem c_X3_strike (G : XG) {hi eA n : Nat} {HL : List Int32} {h : HM} (hI : hiW G hi eA HL n h) {e : Int32} : x_M G yX3_strike wsX3_strike ({ frames := 1, cells := 0, slots := 0, locals := 22 } : Room) [.ref hi, .int e] h (fun v h' => v = none ∧ (∃ HL', hiW G hi eA HL' n h' ∧ strR e HL HL') ∧ x_fr (fun z => z = hi ∨ z = eA) h h') 0 0 := by
  refine x_M.of (cc := cX3_strike) (maxL := 3) (ret := none) (ent := [some (.ref hi), some (.int e), none]) (by decide +kernel) rfl (Nat.le_of_ble_eq_true rfl) rfl rfl ?_
  intro F hE hname
  have hinX3 : ∀ w ∈ wsX30, w ∈ wsX3_strike := by decide +kernel
  obtain ⟨hhi, hln, hn64, hnM, ef, heA, hef⟩ := id hI
  refine x_aload_n hE dX3_strike_0 rfl rfl ?_
  refine x_get hE hinX3 hhi rfl 1 (by decide) (List.mem_of_getElem? (i := 1) rfl) rfl dX3_strike_1 ?_
  refine x_iconst (v := nI 1) hE dX3_strike_4 (by decide) ?_
  refine x_isub hE dX3_strike_5 ?_
  refine x_istore_n (L' := [some (.ref hi), some (.int e), some (.int ((nI HL.length) - (nI 1)))]) hE dX3_strike_6 rfl (Nat.le_of_ble_eq_true rfl) rfl ?_
  refine x_Leq (L' := [some (.ref hi), some (.int e), some (.int (nI (HL.length - 0) - nI 1))]) rfl ?_
  refine x_down (N := HL.length) (P := fun i => (∀ j x, HL.length - i ≤ j → HL[j]? = some x → x ≠ e) → x_W G F (x_Q G F (fun v h' => v = none ∧ (∃ HL', hiW G hi eA HL' n h' ∧ strR e HL HL') ∧ x_fr (fun z => z = hi ∨ z = eA) h h') 0 0) 0 0 h 7 [some (.ref hi), some (.int e), some (.int (nI (HL.length - i) - nI 1))] []) (fun i hiN ih => ?_) 0 (by omega) (fun j x hj hx => by have := get_lt hx; omega)
  intro hno
  refine x_iload_n hE dX3_strike_7 rfl ?_
  refine x_if_lt (tgt := 47) hE dX3_strike_8 (by decide) (fun c8 => ?_) (fun c8 => ?_)
  · have hi0 : i = HL.length := (Nat.lt_or_ge i HL.length).elim (fun z => absurd c8 (by rw [show nI (HL.length - i) - nI 1 = nI (HL.length - i - 1) from sub1 (by omega)]; exact nI_pos (by omega))) (fun z => by omega)
    exact x_vret hE dX3_strike_47 (⟨rfl, ⟨HL, hI, Or.inr ⟨rfl, 0, fun j x _ hj => hno j x (by omega) hj, Or.inl rfl⟩⟩, x_fr.refl h⟩)
  · have hi1 : i < HL.length := (Nat.lt_or_ge i HL.length).elim (fun z => z) (fun z => absurd dn3 (by rw [show HL.length - i = 0 by omega] at c8; exact c8))
    obtain ⟨k, hk⟩ : ∃ k, HL.length - i = k + 1 := ⟨HL.length - i - 1, by omega⟩
    rw [hk] at hno ⊢
    refine x_Leq (L' := [some (.ref hi), some (.int e), some (.int (nI k))]) (by rw [dn1]) ?_
    obtain ⟨x, hx⟩ : ∃ x, HL[k]? = some x := ⟨_, List.getElem?_eq_getElem (by omega)⟩
    refine x_aload_n hE dX3_strike_11 rfl rfl ?_
    refine x_iload_n hE dX3_strike_12 rfl ?_
    refine x_callV (ci := 3) (st := []) hE 1 (c_X3_entryAt G hI hx) gX3_strike_X3_entryAt rfl rfl rfl (by decide +kernel) ⟨Nat.le_of_ble_eq_true rfl, Nat.le_of_ble_eq_true rfl⟩ hhi rfl rfl rfl dX3_strike_13 rfl (Nat.le_of_ble_eq_true rfl) ⟨Nat.le_of_ble_eq_true rfl, Nat.le_of_ble_eq_true rfl⟩ (fun v h9 hp => ?_)
    obtain ⟨rfl, rfl⟩ := hp
    refine x_callS (st := []) hE 1 (c_X3_tickOf G x) gX3_strike_X3_tickOf rfl rfl rfl (by decide +kernel) ⟨Nat.le_of_ble_eq_true rfl, Nat.le_of_ble_eq_true rfl⟩ rfl rfl dX3_strike_16 rfl (Nat.le_of_ble_eq_true rfl) ⟨Nat.le_of_ble_eq_true rfl, Nat.le_of_ble_eq_true rfl⟩ (fun v h9 hp => ?_)
    obtain ⟨rfl, rfl⟩ := hp
    refine x_iload_n hE dX3_strike_19 rfl ?_
    refine x_callS (st := [.int (eTick x)]) hE 1 (c_X3_tickOf G e) gX3_strike_X3_tickOf rfl rfl rfl (by decide +kernel) ⟨Nat.le_of_ble_eq_true rfl, Nat.le_of_ble_eq_true rfl⟩ rfl rfl dX3_strike_20 rfl (Nat.le_of_ble_eq_true rfl) ⟨Nat.le_of_ble_eq_true rfl, Nat.le_of_ble_eq_true rfl⟩ (fun v h9 hp => ?_)
    obtain ⟨rfl, rfl⟩ := hp
    refine x_icmp_ne (tgt := 47) hE dX3_strike_23 (by decide) (fun c23 => ?_) (fun c23 => ?_)
    · exact x_vret hE dX3_strike_47 (⟨rfl, ⟨HL, hI, Or.inr ⟨rfl, k + 1, fun j x hj hx => hno j x hj hx, Or.inr ⟨x, by rw [Nat.add_sub_cancel]; exact hx, c23⟩⟩⟩, x_fr.refl h⟩)
    · refine x_aload_n hE dX3_strike_26 rfl rfl ?_
      refine x_iload_n hE dX3_strike_27 rfl ?_
      refine x_callV (ci := 3) (st := []) hE 1 (c_X3_entryAt G hI hx) gX3_strike_X3_entryAt rfl rfl rfl (by decide +kernel) ⟨Nat.le_of_ble_eq_true rfl, Nat.le_of_ble_eq_true rfl⟩ hhi rfl rfl rfl dX3_strike_28 rfl (Nat.le_of_ble_eq_true rfl) ⟨Nat.le_of_ble_eq_true rfl, Nat.le_of_ble_eq_true rfl⟩ (fun v h9 hp => ?_)
      obtain ⟨rfl, rfl⟩ := hp
      refine x_iload_n hE dX3_strike_31 rfl ?_
      refine x_icmp_ne (tgt := 41) hE dX3_strike_32 (by decide) (fun c32 => ?_) (fun c32 => ?_)
      · refine x_iinc (v := (nI k) + (-1)) (L' := [some (.ref hi), some (.int e), some (.int ((nI k) + (-1)))]) hE dX3_strike_41 rfl rfl rfl ?_
        refine x_goto (tgt := 7) hE dX3_strike_44 (by decide) ?_
        refine x_Leq (L' := [some (.ref hi), some (.int e), some (.int (nI k - nI 1))]) (by rw [dn2]) ?_
        have ek : k = HL.length - (i + 1) := by omega
        have e2 := ih (i + 1) (by omega) (by omega)
        rw [← ek] at e2
        exact e2 (fun j y hj hy => (Nat.lt_or_ge k j).elim (fun z => hno j y z hy) (fun z => by have : j = k := by omega; subst this; rw [hx] at hy; cases hy; exact c32))
      · subst c32
        refine x_aload_n hE dX3_strike_35 rfl rfl ?_
        refine x_iload_n hE dX3_strike_36 rfl ?_
        refine x_callV (ci := 3) (st := []) hE 1 (c_X3_removeAt G hI (get_lt hx)) gX3_strike_X3_removeAt rfl rfl rfl (by decide +kernel) ⟨Nat.le_of_ble_eq_true rfl, Nat.le_of_ble_eq_true rfl⟩ hhi rfl rfl rfl dX3_strike_37 rfl (Nat.le_of_ble_eq_true rfl) ⟨Nat.le_of_ble_eq_true rfl, Nat.le_of_ble_eq_true rfl⟩ (fun v h9 hp => ?_)
        obtain ⟨rfl, hI2, hf2⟩ := hp
        exact x_vret hE dX3_strike_40 (⟨rfl, ⟨_, hI2, Or.inl ⟨k, hx, rfl⟩⟩, hf2⟩)
