set_option maxHeartbeats 4000000 in
set_option maxRecDepth 100000 in
theorem c_X2_at (G : XG) {o w : Nat} {AL SP : List Nat} {ct : Nat → GC} {h : HM} (hW : goW G o w AL SP ct h) (i : Int32) : x_M G yX2_at wsX2_at ({ frames := 0, cells := 0, slots := 0, locals := 0 } : Room) [.ref o, .int i] h (x_is (some (va_rf (x_sel AL.length (rowF (AL ++ SP)) i none))) h) 0 0 := by
  refine x_M.of (cc := cX2_at) (maxL := 2) (ret := (some (.object "GelBook$Going"))) (ent := [some (.ref o), some (.int i)]) (by decide +kernel) rfl (Nat.le_of_ble_eq_true rfl) rfl rfl ?_
  intro F hE hname
  have hinX2 : ∀ w ∈ wsX20, w ∈ wsX2_at := by decide +kernel
  obtain ⟨ho, hw, hlen, hnd, hgo⟩ := id hW
  have hle := hW.le
  refine x_iload_n hE dX2_at_0 rfl ?_
  refine x_if_lt (tgt := 30) hE dX2_at_1 (by decide) (fun c1 => ?_) (fun c1 => ?_)
  · refine x_null hE dX2_at_30 ?_
    exact x_aret hE (Or.inl ⟨_, rfl⟩) rfl dX2_at_31 (⟨by rw [x_sel_lo (x_lt0 c1)]; rfl, rfl⟩)
  · refine x_iload_n hE dX2_at_4 rfl ?_
    refine x_aload_n hE dX2_at_5 rfl rfl ?_
    refine x_get hE hinX2 ho rfl 1 (by decide) (List.mem_of_getElem? (i := 1) rfl) rfl dX2_at_6 ?_
    refine x_icmp_ge (tgt := 30) hE dX2_at_9 (by decide) (fun c9 => ?_) (fun c9 => ?_)
    · refine x_null hE dX2_at_30 ?_
      exact x_aret hE (Or.inl ⟨_, rfl⟩) rfl dX2_at_31 (⟨by rw [x_sel_hi c9]; rfl, rfl⟩)
    · refine x_iload_n hE dX2_at_12 rfl ?_
      refine x_aload_n hE dX2_at_13 rfl rfl ?_
      refine x_get hE hinX2 ho rfl 0 (by decide) (List.mem_of_getElem? (i := 2) rfl) rfl dX2_at_14 ?_
      refine x_alen (t0 := 5) hE hw rfl dX2_at_17 ?_
      refine x_icmp_ge (tgt := 30) hE dX2_at_18 (by decide) (fun c18 => ?_) (fun c18 => ?_)
      · obtain ⟨j, hj, rfl⟩ := x_ixn (n := AL.length) (by omega) (x_ge0 c1) c9
        exact absurd c18 (nI_ge (by omega) (by decide))
      · have hv := x_inn (n := AL.length) (by omega) (x_ge0 c1) c9
        have hv2 : vp_in i 12 := by obtain ⟨j, hj, rfl⟩ := x_ixn (n := AL.length) (by omega) (x_ge0 c1) c9; exact vp_in_nI (by omega) (by decide)
        refine x_aload_n hE dX2_at_21 rfl rfl ?_
        refine x_get hE hinX2 ho rfl 0 (by decide) (List.mem_of_getElem? (i := 2) rfl) rfl dX2_at_22 ?_
        refine x_iload_n hE dX2_at_25 rfl ?_
        refine x_aald (t0 := 5) (v := rowF (AL ++ SP) i.toNatClampNeg) hE hw rfl hv2 rfl dX2_at_26 ?_
        refine x_goto (tgt := 31) hE dX2_at_27 (by decide) ?_
        exact x_aret hE (Or.inl ⟨_, rfl⟩) (x_rv_rf _) dX2_at_31 (⟨by rw [x_sel_in (x_ge0 c1) c9], rfl⟩)

set_option maxHeartbeats 4000000 in
set_option maxRecDepth 100000 in
theorem c_X2_clear (G : XG) {o w : Nat} {AL SP : List Nat} {ct : Nat → GC} {h : HM} (hW : goW G o w AL SP ct h) : x_M G yX2_clear wsX2_clear ({ frames := 0, cells := 0, slots := 0, locals := 0 } : Room) [.ref o] h (x_is none (x_up h o (.inr (2, [.ref w, .int (nI 0)])))) 0 0 := by
  refine x_M.of (cc := cX2_clear) (maxL := 1) (ret := none) (ent := [some (.ref o)]) (by decide +kernel) rfl (Nat.le_of_ble_eq_true rfl) rfl rfl ?_
  intro F hE hname
  have hinX2 : ∀ w ∈ wsX20, w ∈ wsX2_clear := by decide +kernel
  obtain ⟨ho, hw, hlen, hnd, hgo⟩ := id hW
  have hle := hW.le
  refine x_aload_n hE dX2_clear_0 rfl rfl ?_
  refine x_iconst (v := nI 0) hE dX2_clear_1 (by decide) ?_
  refine x_put (fs' := [.ref w, .int (nI 0)]) hE hinX2 tyX2 tyX2_ok nmX2 ho rfl 1 (by decide) (List.mem_of_getElem? (i := 1) rfl) rfl rfl rfl (Nat.le_of_ble_eq_true rfl) rfl dX2_clear_2 ?_
  generalize hhh1 : x_up h o (.inr (2, [.ref w, .int (nI 0)])) = h1
  have hc2 : h1 o = some (.inr (2, [.ref w, .int (nI 0)])) := by rw [← hhh1]; exact x_up_eq _ _ _
  have hc3 : h1 w = some (.inl (g_c G 5, 12, .inr (.inr (.inr (.inr (rowF (AL ++ SP))))))) := by rw [← hhh1, x_up_ne (fun e => by have z1 := hw; rw [e, ho] at z1; simp [lampE] at z1)]; exact hw
  exact x_vret hE dX2_clear_5 (⟨rfl, by rw [← hhh1]⟩)

set_option maxHeartbeats 4000000 in
set_option maxRecDepth 100000 in
theorem c_X2_placeOf (G : XG) {o w : Nat} {AL SP : List Nat} {ct : Nat → GC} {h : HM} (hW : goW G o w AL SP ct h) {b : Nat} : x_M G yX2_placeOf wsX2_placeOf ({ frames := 1, cells := 0, slots := 0, locals := 21 } : Room) [.ref o, .ref b] h (fun v h' => (∃ r, v = some (.int r) ∧ plR AL ct b r) ∧ h = h') 0 0 := by
  refine x_M.of (cc := cX2_placeOf) (maxL := 4) (ret := (some .int)) (ent := [some (.ref o), some (.ref b), none, none]) (by decide +kernel) rfl (Nat.le_of_ble_eq_true rfl) rfl rfl ?_
  intro F hE hname
  have hinX1 : ∀ w ∈ wsX10, w ∈ wsX2_placeOf := by decide +kernel
  have hinX2 : ∀ w ∈ wsX20, w ∈ wsX2_placeOf := by decide +kernel
  obtain ⟨ho, hw, hlen, hnd, hgo⟩ := id hW
  have hle := hW.le
  refine x_iconst (v := nI 0) hE dX2_placeOf_0 (by decide) ?_
  refine x_istore_n (L' := [some (.ref o), some (.ref b), some (.int (nI 0)), none]) hE dX2_placeOf_1 rfl (Nat.le_of_ble_eq_true rfl) rfl ?_
  refine x_down (N := AL.length) (P := fun i => (∀ j x : Nat, j < i → AL[j]? = some x → ¬ (ct x).1 = some b) → x_W G F (x_Q G F (fun v h' => (∃ r, v = some (.int r) ∧ plR AL ct b r) ∧ h = h') 0 0) 0 0 h 2 [some (.ref o), some (.ref b), some (.int (nI i)), none] []) (fun i hiN ih => ?_) 0 (by omega) (fun j x hj => absurd hj (Nat.not_lt_zero j))
  intro hno
  refine x_iload_n hE dX2_placeOf_2 rfl ?_
  refine x_aload_n hE dX2_placeOf_3 rfl rfl ?_
  refine x_get hE hinX2 ho rfl 1 (by decide) (List.mem_of_getElem? (i := 1) rfl) rfl dX2_placeOf_4 ?_
  refine x_icmp_ge (tgt := 36) hE dX2_placeOf_7 (by decide) (fun c7 => ?_) (fun c7 => ?_)
  · replace c7 := x_nIle c7 (by omega) (by omega)
    refine x_iconst (v := (-1 : Int32)) hE dX2_placeOf_36 (by decide) ?_
    exact x_iret hE dX2_placeOf_37 (⟨⟨_, rfl, Or.inl ⟨rfl, fun x hx => by obtain ⟨j, hj, hj2⟩ := List.getElem_of_mem hx; exact hno j x (by omega) (by rw [← hj2]; exact List.getElem?_eq_getElem hj)⟩⟩, rfl⟩)
  · replace c7 := x_nInle c7 (by omega) (by omega)
    refine x_aload_n hE dX2_placeOf_10 rfl rfl ?_
    refine x_iload_n hE dX2_placeOf_11 rfl ?_
    refine x_callV (ci := 2) (st := []) hE 1 (c_X2_at G hW (nI i)) gX2_placeOf_X2_at rfl rfl rfl (by decide +kernel) ⟨Nat.le_of_ble_eq_true rfl, Nat.le_of_ble_eq_true rfl⟩ ho rfl rfl rfl dX2_placeOf_12 rfl (Nat.le_of_ble_eq_true rfl) ⟨Nat.le_of_ble_eq_true rfl, Nat.le_of_ble_eq_true rfl⟩ (fun v h9 hp => ?_)
    obtain ⟨rfl, rfl⟩ := hp
    obtain ⟨x, hx⟩ := x_get_lt c7
    refine x_qref (q := x) (hW.sel hx) ?_
    have hxc := hW.at hx
    have hxm := List.mem_of_getElem? hx
    refine x_astore_n (L' := [some (.ref o), some (.ref b), some (.int (nI i)), some (.ref x)]) hE dX2_placeOf_15 rfl (Nat.le_of_ble_eq_true rfl) rfl rfl ?_
    refine x_aload_n hE dX2_placeOf_16 rfl rfl ?_
    refine x_ifnull hE dX2_placeOf_17 ?_
    refine x_aload_n hE dX2_placeOf_20 rfl rfl ?_
    refine x_get hE hinX1 hxc rfl 0 (by decide) (List.mem_of_getElem? (i := 2) rfl) rfl dX2_placeOf_21 ?_
    refine x_aload_n hE dX2_placeOf_24 rfl rfl ?_
    refine x_acmp_ne (rx := (ct x).1) (ry := some b) (tgt := 30) hE dX2_placeOf_25 (by decide) (fun c25 => ?_) (fun c25 => ?_)
    · refine x_iinc (v := nI (i + 1)) (L' := [some (.ref o), some (.ref b), some (.int (nI (i + 1))), some (.ref x)]) hE dX2_placeOf_30 rfl (nI_1 _) rfl ?_
      refine x_goto (tgt := 2) hE dX2_placeOf_33 (by decide) ?_
      refine x_forget (L' := [some (.ref o), some (.ref b), some (.int (nI (i + 1))), none]) (And.intro rfl (And.intro rfl (And.intro rfl trivial))) ?_
      exact ih (i + 1) (by omega) (by omega) (fun j y hj hy => (Nat.lt_succ_iff_lt_or_eq.mp hj).elim (fun z => hno j y z hy) (fun z => by subst z; rw [hx] at hy; cases hy; exact c25))
    · refine x_iload_n hE dX2_placeOf_28 rfl ?_
      exact x_iret hE dX2_placeOf_29 (⟨⟨_, rfl, Or.inr ⟨i, x, hx, c25, rfl⟩⟩, rfl⟩)

set_option maxHeartbeats 4000000 in
set_option maxRecDepth 100000 in
theorem c_X2_goingOf (G : XG) {o w : Nat} {AL SP : List Nat} {ct : Nat → GC} {h : HM} (hW : goW G o w AL SP ct h) {b : Nat} : x_M G yX2_goingOf wsX2_goingOf ({ frames := 2, cells := 0, slots := 0, locals := 44 } : Room) [.ref o, .ref b] h (fun v h' => (∃ g, v = some (va_rf g) ∧ goR AL ct b g) ∧ h = h') 0 0 := by
  refine x_M.of (cc := cX2_goingOf) (maxL := 2) (ret := (some (.object "GelBook$Going"))) (ent := [some (.ref o), some (.ref b)]) (by decide +kernel) rfl (Nat.le_of_ble_eq_true rfl) rfl rfl ?_
  intro F hE hname
  obtain ⟨ho, hw, hlen, hnd, hgo⟩ := id hW
  have hle := hW.le
  refine x_aload_n hE dX2_goingOf_0 rfl rfl ?_
  refine x_aload_n hE dX2_goingOf_1 rfl rfl ?_
  refine x_aload_n hE dX2_goingOf_2 rfl rfl ?_
  refine x_callV (ci := 2) (st := [.ref o]) hE 1 (c_X2_placeOf G (b := b) hW) gX2_goingOf_X2_placeOf rfl rfl rfl (by decide +kernel) ⟨Nat.le_of_ble_eq_true rfl, Nat.le_of_ble_eq_true rfl⟩ ho rfl rfl rfl dX2_goingOf_3 rfl (Nat.le_of_ble_eq_true rfl) ⟨Nat.le_of_ble_eq_true rfl, Nat.le_of_ble_eq_true rfl⟩ (fun v h9 hp => ?_)
  obtain ⟨⟨r, rfl, hr⟩, rfl⟩ := hp
  refine x_callV (ci := 2) (st := []) hE 1 (c_X2_at G hW r) gX2_goingOf_X2_at rfl rfl rfl (by decide +kernel) ⟨Nat.le_of_ble_eq_true rfl, Nat.le_of_ble_eq_true rfl⟩ ho rfl rfl rfl dX2_goingOf_6 rfl (Nat.le_of_ble_eq_true rfl) ⟨Nat.le_of_ble_eq_true rfl, Nat.le_of_ble_eq_true rfl⟩ (fun v h9 hp => ?_)
  obtain ⟨rfl, rfl⟩ := hp
  refine x_aret hE (Or.inl ⟨_, rfl⟩) (x_rv_rf _) dX2_goingOf_9 ⟨⟨_, rfl, ?_⟩, rfl⟩
  rcases hr with ⟨rfl, h1⟩ | ⟨k, x, h1, h2, rfl⟩
  · exact Or.inl ⟨x_sel_lo (by decide), h1⟩
  · exact Or.inr ⟨k, x, h1, h2, hW.sel h1⟩

set_option maxHeartbeats 4000000 in
set_option maxRecDepth 100000 in
theorem c_X2_moveLastN (G : XG) {o w : Nat} {AL SP : List Nat} {ct : Nat → GC} {h : HM} (hW : goW G o w AL SP ct h) : x_M G yX2_moveLast wsX2_moveLast ({ frames := 1, cells := 0, slots := 0, locals := 21 } : Room) [.ref o, .int (-1 : Int32)] h (x_is none h) 0 0 := by
  refine x_M.of (cc := cX2_moveLast) (maxL := 4) (ret := none) (ent := [some (.ref o), some (.int (-1 : Int32)), none, none]) (by decide +kernel) rfl (Nat.le_of_ble_eq_true rfl) rfl rfl ?_
  intro F hE hname
  have hinX2 : ∀ w ∈ wsX20, w ∈ wsX2_moveLast := by decide +kernel
  obtain ⟨ho, hw, hlen, hnd, hgo⟩ := id hW
  have hle := hW.le
  refine x_aload_n hE dX2_moveLast_0 rfl rfl ?_
  refine x_iload_n hE dX2_moveLast_1 rfl ?_
  refine x_callV (ci := 2) (st := []) hE 1 (c_X2_at G hW (-1)) gX2_moveLast_X2_at rfl rfl rfl (by decide +kernel) ⟨Nat.le_of_ble_eq_true rfl, Nat.le_of_ble_eq_true rfl⟩ ho rfl rfl rfl dX2_moveLast_2 rfl (Nat.le_of_ble_eq_true rfl) ⟨Nat.le_of_ble_eq_true rfl, Nat.le_of_ble_eq_true rfl⟩ (fun v h9 hp => ?_)
  obtain ⟨rfl, rfl⟩ := hp
  refine x_qnull (x_sel_lo (by decide)) ?_
  refine x_astore_n (L' := [some (.ref o), some (.int (-1 : Int32)), some (.null), none]) hE dX2_moveLast_5 rfl (Nat.le_of_ble_eq_true rfl) rfl rfl ?_
  refine x_aload_n hE dX2_moveLast_6 rfl rfl ?_
  refine x_ifnonnullN hE dX2_moveLast_7 ?_
  exact x_vret hE dX2_moveLast_10 (⟨rfl, rfl⟩)

set_option maxHeartbeats 4000000 in
set_option maxRecDepth 100000 in
theorem c_X2_moveLast (G : XG) {o w : Nat} {AL SP : List Nat} {ct : Nat → GC} {h : HM} (hW : goW G o w AL SP ct h) {p x : Nat} (hx : AL[p]? = some x) : x_M G yX2_moveLast wsX2_moveLast ({ frames := 1, cells := 0, slots := 0, locals := 21 } : Room) [.ref o, .int (nI p)] h (x_is none (x_up h w (.inl (g_c G 5, 12, .inr (.inr (.inr (.inr (rowF ((AL.eraseIdx p ++ [x]) ++ SP))))))))) 0 0 := by
  refine x_M.of (cc := cX2_moveLast) (maxL := 4) (ret := none) (ent := [some (.ref o), some (.int (nI p)), none, none]) (by decide +kernel) rfl (Nat.le_of_ble_eq_true rfl) rfl rfl ?_
  intro F hE hname
  have hinX2 : ∀ w ∈ wsX20, w ∈ wsX2_moveLast := by decide +kernel
  obtain ⟨ho, hw, hlen, hnd, hgo⟩ := id hW
  have hle := hW.le
  refine x_aload_n hE dX2_moveLast_0 rfl rfl ?_
  refine x_iload_n hE dX2_moveLast_1 rfl ?_
  refine x_callV (ci := 2) (st := []) hE 1 (c_X2_at G hW (nI p)) gX2_moveLast_X2_at rfl rfl rfl (by decide +kernel) ⟨Nat.le_of_ble_eq_true rfl, Nat.le_of_ble_eq_true rfl⟩ ho rfl rfl rfl dX2_moveLast_2 rfl (Nat.le_of_ble_eq_true rfl) ⟨Nat.le_of_ble_eq_true rfl, Nat.le_of_ble_eq_true rfl⟩ (fun v h9 hp => ?_)
  obtain ⟨rfl, rfl⟩ := hp
  refine x_qref (q := x) (hW.sel hx) ?_
  refine x_astore_n (L' := [some (.ref o), some (.int (nI p)), some (.ref x), none]) hE dX2_moveLast_5 rfl (Nat.le_of_ble_eq_true rfl) rfl rfl ?_
  refine x_aload_n hE dX2_moveLast_6 rfl rfl ?_
  refine x_ifnonnull (tgt := 11) hE dX2_moveLast_7 (by decide) ?_
  refine x_iload_n hE dX2_moveLast_11 rfl ?_
  refine x_istore_n (L' := [some (.ref o), some (.int (nI p)), some (.ref x), some (.int (nI p))]) hE dX2_moveLast_12 rfl (Nat.le_of_ble_eq_true rfl) rfl ?_
  have hpl := (List.getElem?_eq_some_iff.mp hx).1
  have hxc := hW.at hx
  refine x_heq (h' := x_up h w (.inl (g_c G 5, 12, .inr (.inr (.inr (.inr (shF (rowF (AL ++ SP)) p p))))))) (by rw [shF_0, x_up_self hw]) ?_
  refine x_down (N := AL.length - 1) (P := fun i => p ≤ i → ∀ h2 : HM, h2 = x_up h w (.inl (g_c G 5, 12, .inr (.inr (.inr (.inr (shF (rowF (AL ++ SP)) p i)))))) → x_W G F (x_Q G F (x_is none (x_up h w (.inl (g_c G 5, 12, .inr (.inr (.inr (.inr (rowF ((AL.eraseIdx p ++ [x]) ++ SP))))))))) 0 0) 0 0 h2 13 [some (.ref o), some (.int (nI p)), some (.ref x), some (.int (nI i))] []) (fun i hiN ih => ?_) p (by omega) (Nat.le_refl p) _ rfl
  intro hpi h2 eh
  subst eh
  have nw : ∀ (q : Nat) (e : va_E), h q = some e → (∀ f, e ≠ .inl (g_c G 5, 12, .inr (.inr (.inr (.inr f))))) → x_up h w (.inl (g_c G 5, 12, .inr (.inr (.inr (.inr (shF (rowF (AL ++ SP)) p i)))))) q = some e := fun q e hq hn => (x_up_ne (fun z => by rw [z, hw] at hq; exact hn _ (Option.some.inj hq).symm)).trans hq
  have ho1 := nw _ _ ho (fun f => by simp)
  have hx1 := nw _ _ hxc (fun f => by simp)
  refine x_iload_n hE dX2_moveLast_13 rfl ?_
  refine x_iconst (v := nI 1) hE dX2_moveLast_14 (by decide) ?_
  refine x_iadd hE dX2_moveLast_15 ?_
  refine x_ieq (y := nI (i + 1)) (nI_1 _) ?_
  refine x_aload_n hE dX2_moveLast_16 rfl rfl ?_
  refine x_get hE hinX2 ho1 rfl 1 (by decide) (List.mem_of_getElem? (i := 1) rfl) rfl dX2_moveLast_17 ?_
  refine x_icmp_ge (tgt := 54) hE dX2_moveLast_20 (by decide) (fun c20 => ?_) (fun c20 => ?_)
  · replace c20 := x_nIle c20 (by omega) (by omega)
    obtain rfl : i = AL.length - 1 := by omega
    refine x_aload_n hE dX2_moveLast_54 rfl rfl ?_
    refine x_get hE hinX2 ho1 rfl 0 (by decide) (List.mem_of_getElem? (i := 2) rfl) rfl dX2_moveLast_55 ?_
    refine x_iload_n hE dX2_moveLast_58 rfl ?_
    refine x_aload_n hE dX2_moveLast_59 rfl rfl ?_
    refine x_aast (t0 := 5) (f' := (rowF ((AL.eraseIdx p ++ [x]) ++ SP))) hE (x_up_eq h w _) rfl hx1 rfl (vp_in_nI (by omega) (by decide)) (by rw [nI_clamp (by omega)]; exact row_move hx) dX2_moveLast_60 ?_
    rw [x_up_up]
    exact x_vret hE dX2_moveLast_61 (⟨rfl, rfl⟩)
  · replace c20 := x_nInle c20 (by omega) (by omega)
    refine x_iload_n hE dX2_moveLast_23 rfl ?_
    refine x_iconst (v := nI 1) hE dX2_moveLast_24 (by decide) ?_
    refine x_iadd hE dX2_moveLast_25 ?_
    refine x_ieq (y := nI (i + 1)) (nI_1 _) ?_
    refine x_aload_n hE dX2_moveLast_26 rfl rfl ?_
    refine x_get hE hinX2 ho1 rfl 0 (by decide) (List.mem_of_getElem? (i := 2) rfl) rfl dX2_moveLast_27 ?_
    refine x_alen (t0 := 5) hE (x_up_eq h w _) rfl dX2_moveLast_30 ?_
    refine x_icmp_ge (tgt := 54) hE dX2_moveLast_31 (by decide) (fun c31 => ?_) (fun c31 => ?_)
    · exact absurd c31 (nI_ge (by omega) (by decide))
    · obtain ⟨y, hy⟩ := x_get_lt c20
      have hyc := nw _ _ (hW.at hy) (fun f => by simp)
      have hy2 : rowF (AL ++ SP) (i + 1) = some y := by rw [rowF_l c20, hy]
      refine x_aload_n hE dX2_moveLast_34 rfl rfl ?_
      refine x_get hE hinX2 ho1 rfl 0 (by decide) (List.mem_of_getElem? (i := 2) rfl) rfl dX2_moveLast_35 ?_
      refine x_iload_n hE dX2_moveLast_38 rfl ?_
      refine x_aload_n hE dX2_moveLast_39 rfl rfl ?_
      refine x_get hE hinX2 ho1 rfl 0 (by decide) (List.mem_of_getElem? (i := 2) rfl) rfl dX2_moveLast_40 ?_
      refine x_iload_n hE dX2_moveLast_43 rfl ?_
      refine x_iconst (v := nI 1) hE dX2_moveLast_44 (by decide) ?_
      refine x_iadd hE dX2_moveLast_45 ?_
      refine x_ieq (y := nI (i + 1)) (nI_1 _) ?_
      refine x_aald (t0 := 5) (v := (shF (rowF (AL ++ SP)) p i) (i + 1)) hE (x_up_eq h w _) rfl (vp_in_nI (by omega) (by decide)) (x_atN _ (by omega)) dX2_moveLast_46 ?_
      refine x_qref (q := y) ((shF_at _ (by omega)).trans hy2) ?_
      refine x_aast (t0 := 5) (f' := shF (rowF (AL ++ SP)) p (i + 1)) hE (x_up_eq h w _) rfl hyc rfl (vp_in_nI (by omega) (by decide)) (by rw [nI_clamp (by omega)]; exact shF_s _ (by omega) hy2) dX2_moveLast_47 ?_
      rw [x_up_up]
      refine x_iinc (v := nI (i + 1)) (L' := [some (.ref o), some (.int (nI p)), some (.ref x), some (.int (nI (i + 1)))]) hE dX2_moveLast_48 rfl (nI_1 _) rfl ?_
      refine x_goto (tgt := 13) hE dX2_moveLast_51 (by decide) ?_
      exact ih (i + 1) (by omega) (by omega) (by omega) _ rfl
