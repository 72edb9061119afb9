set_option maxHeartbeats 4000000 in
set_option maxRecDepth 100000 in
theorem c_X6_readyAt (G : XG) {wo nA dA yA : Nat} {NL : List (Nat × Int32)} {RY : List Nat} {h : HM} (hT : wtW G wo nA dA yA NL RY h) {i x : Nat} (hx : RY[i]? = some x) : x_M G yX6_readyAt wsX6_readyAt ({ frames := 0, cells := 0, slots := 0, locals := 0 } : Room) [.ref wo, .int (nI i)] h (x_is (some (va_rf (some x))) h) 0 0 := by
  refine x_M.of (cc := cX6_readyAt) (maxL := 2) (ret := (some (.object "GelBook$Cue"))) (ent := [some (.ref wo), some (.int (nI i))]) (by decide +kernel) rfl (Nat.le_of_ble_eq_true rfl) rfl rfl ?_
  intro F hE hname
  have hinX6 : ∀ w ∈ wsX60, w ∈ wsX6_readyAt := by decide +kernel
  obtain ⟨hwo, hn5, hr5, nf, df, yf, hnA, hdA, hyA, hN, hY⟩ := id hT
  have hi := get_lt hx
  refine x_iload_n hE dX6_readyAt_0 rfl ?_
  refine x_if_lt (tgt := 30) hE dX6_readyAt_1 (by decide) (fun c1 => ?_) (fun c1 => ?_)
  · exact absurd c1 (nI_pos (by omega))
  · refine x_iload_n hE dX6_readyAt_4 rfl ?_
    refine x_aload_n hE dX6_readyAt_5 rfl rfl ?_
    refine x_get hE hinX6 hwo rfl 4 (by decide) (List.mem_of_getElem? (i := 1) rfl) rfl dX6_readyAt_6 ?_
    refine x_icmp_ge (tgt := 30) hE dX6_readyAt_9 (by decide) (fun c9 => ?_) (fun c9 => ?_)
    · replace c9 := x_nIle c9 (by omega) (by omega)
      omega
    · replace c9 := x_nInle c9 (by omega) (by omega)
      refine x_iload_n hE dX6_readyAt_12 rfl ?_
      refine x_aload_n hE dX6_readyAt_13 rfl rfl ?_
      refine x_get hE hinX6 hwo rfl 2 (by decide) (List.mem_of_getElem? (i := 2) rfl) rfl dX6_readyAt_14 ?_
      refine x_alen (t0 := 4) hE hyA rfl dX6_readyAt_17 ?_
      refine x_icmp_ge (tgt := 30) hE dX6_readyAt_18 (by decide) (fun c18 => ?_) (fun c18 => ?_)
      · replace c18 := x_nIle c18 (by omega) (by omega)
        omega
      · replace c18 := x_nInle c18 (by omega) (by omega)
        refine x_aload_n hE dX6_readyAt_21 rfl rfl ?_
        refine x_get hE hinX6 hwo rfl 2 (by decide) (List.mem_of_getElem? (i := 2) rfl) rfl dX6_readyAt_22 ?_
        refine x_iload_n hE dX6_readyAt_25 rfl ?_
        refine x_aald (t0 := 4) (v := some x) hE hyA rfl (vp_in_nI (by omega) (by decide)) ((x_atN _ (by omega)).trans (hY i x hx)) dX6_readyAt_26 ?_
        refine x_goto (tgt := 31) hE dX6_readyAt_27 (by decide) ?_
        exact x_aret hE (Or.inl ⟨_, rfl⟩) (x_rv_rf _) dX6_readyAt_31 (⟨rfl, rfl⟩)

set_option maxHeartbeats 4000000 in
set_option maxRecDepth 100000 in
theorem c_X6_note (G : XG) {wo nA dA yA : Nat} {NL : List (Nat × Int32)} {RY : List Nat} {h : HM} (hT : wtW G wo nA dA yA NL RY h) {q : Nat} {du : Int32} {vs : List Value} (hq : h q = some (.inr (0, vs))) (hlt : NL.length < 512) (nyn : yA ≠ nA) : x_M G yX6_note wsX6_note ({ frames := 0, cells := 0, slots := 0, locals := 0 } : Room) [.ref wo, .ref q, .int du] h (fun v h' => v = none ∧ wtW G wo nA dA yA (NL ++ [(q, du)]) RY h' ∧ x_fr (fun z => z = wo ∨ z = nA ∨ z = dA) h h') 0 0 := by
  refine x_M.of (cc := cX6_note) (maxL := 3) (ret := none) (ent := [some (.ref wo), some (.ref q), some (.int du)]) (by decide +kernel) rfl (Nat.le_of_ble_eq_true rfl) rfl rfl ?_
  intro F hE hname
  have hinX6 : ∀ w ∈ wsX60, w ∈ wsX6_note := by decide +kernel
  obtain ⟨hwo, hn5, hr5, nf, df, yf, hnA, hdA, hyA, hN, hY⟩ := id hT
  refine x_aload_n hE dX6_note_0 rfl rfl ?_
  refine x_get hE hinX6 hwo rfl 3 (by decide) (List.mem_of_getElem? (i := 1) rfl) rfl dX6_note_1 ?_
  refine x_aload_n hE dX6_note_4 rfl rfl ?_
  refine x_get hE hinX6 hwo rfl 0 (by decide) (List.mem_of_getElem? (i := 2) rfl) rfl dX6_note_5 ?_
  refine x_alen (t0 := 4) hE hnA rfl dX6_note_8 ?_
  refine x_icmp_ge (tgt := 54) hE dX6_note_9 (by decide) (fun cc => ?_) (fun cc => ?_)
  · exact absurd (x_nIle cc (by omega) (by omega)) (by omega)
  · clear cc
    refine x_aload_n hE dX6_note_12 rfl rfl ?_
    refine x_get hE hinX6 hwo rfl 3 (by decide) (List.mem_of_getElem? (i := 1) rfl) rfl dX6_note_13 ?_
    refine x_aload_n hE dX6_note_16 rfl rfl ?_
    refine x_get hE hinX6 hwo rfl 1 (by decide) (List.mem_of_getElem? (i := 3) rfl) rfl dX6_note_17 ?_
    refine x_alen (t0 := 0) hE hdA rfl dX6_note_20 ?_
    refine x_icmp_ge (tgt := 54) hE dX6_note_21 (by decide) (fun cc => ?_) (fun cc => ?_)
    · exact absurd (x_nIle cc (by omega) (by omega)) (by omega)
    · clear cc
      refine x_aload_n hE dX6_note_24 rfl rfl ?_
      refine x_get hE hinX6 hwo rfl 0 (by decide) (List.mem_of_getElem? (i := 2) rfl) rfl dX6_note_25 ?_
      refine x_aload_n hE dX6_note_28 rfl rfl ?_
      refine x_get hE hinX6 hwo rfl 3 (by decide) (List.mem_of_getElem? (i := 1) rfl) rfl dX6_note_29 ?_
      refine x_aload_n hE dX6_note_32 rfl rfl ?_
      refine x_aast (t0 := 4) (f' := (va_up nf NL.length (some q))) hE hnA rfl hq rfl (vp_in_nI (by omega) (by decide)) (x_upN _ (by omega) _) dX6_note_33 ?_
      generalize hhh1 : x_up h nA (.inl (g_c G 4, 512, .inr (.inr (.inr (.inr (va_up nf NL.length (some q))))))) = h1
      have hc2 : h1 nA = some (.inl (g_c G 4, 512, .inr (.inr (.inr (.inr (va_up nf NL.length (some q))))))) := by rw [← hhh1]; exact x_up_eq _ _ _
      have hc3 : h1 wo = some (.inr (6, [.ref nA, .ref dA, .ref yA, .int (nI NL.length), .int (nI RY.length)])) := by rw [← hhh1, x_up_ne (fun e => by have z1 := hwo; rw [e, hnA] at z1; simp [lampE] at z1)]; exact hwo
      have hc4 : h1 dA = some (.inl (g_c G 0, 512, .inl df)) := by rw [← hhh1, x_up_ne (fun e => by have z1 := hdA; rw [e, hnA] at z1; simp [lampE] at z1)]; exact hdA
      have hc5 : h1 yA = some (.inl (g_c G 4, 512, .inr (.inr (.inr (.inr yf))))) := by rw [← hhh1, x_up_ne nyn]; exact hyA
      have hc6 : h1 q = some (.inr (0, vs)) := by rw [← hhh1, x_up_ne (fun e => by have z1 := hq; rw [e, hnA] at z1; simp [lampE] at z1)]; exact hq
      have hfh1 : x_fr (fun z => z = wo ∨ z = nA ∨ z = dA) h h1 := by rw [← hhh1]; exact (x_fr.refl h).up (Or.inr (Or.inl rfl))
      refine x_aload_n hE dX6_note_34 rfl rfl ?_
      refine x_get hE hinX6 hc3 rfl 1 (by decide) (List.mem_of_getElem? (i := 3) rfl) rfl dX6_note_35 ?_
      refine x_aload_n hE dX6_note_38 rfl rfl ?_
      refine x_get hE hinX6 hc3 rfl 3 (by decide) (List.mem_of_getElem? (i := 1) rfl) rfl dX6_note_39 ?_
      refine x_iload_n hE dX6_note_42 rfl ?_
      refine x_iast (f' := (upd df NL.length du)) hE hc4 (vp_in_nI (by omega) (by decide)) (x_updN _ (by omega) _) dX6_note_43 ?_
      generalize hhh7 : x_up h1 dA (.inl (g_c G 0, 512, .inl (upd df NL.length du))) = h7
      have hc8 : h7 dA = some (.inl (g_c G 0, 512, .inl (upd df NL.length du))) := by rw [← hhh7]; exact x_up_eq _ _ _
      have hc9 : h7 nA = some (.inl (g_c G 4, 512, .inr (.inr (.inr (.inr (va_up nf NL.length (some q))))))) := by rw [← hhh7, x_up_ne (fun e => by have z1 := hc2; rw [e, hc4] at z1; simp [lampE] at z1)]; exact hc2
      have hc10 : h7 wo = some (.inr (6, [.ref nA, .ref dA, .ref yA, .int (nI NL.length), .int (nI RY.length)])) := by rw [← hhh7, x_up_ne (fun e => by have z1 := hc3; rw [e, hc4] at z1; simp [lampE] at z1)]; exact hc3
      have hc11 : h7 yA = some (.inl (g_c G 4, 512, .inr (.inr (.inr (.inr yf))))) := by rw [← hhh7, x_up_ne (fun e => by have z1 := hc5; rw [e, hc4] at z1; simp [lampE] at z1)]; exact hc5
      have hc12 : h7 q = some (.inr (0, vs)) := by rw [← hhh7, x_up_ne (fun e => by have z1 := hc6; rw [e, hc4] at z1; simp [lampE] at z1)]; exact hc6
      have hfh7 : x_fr (fun z => z = wo ∨ z = nA ∨ z = dA) h h7 := by rw [← hhh7]; exact hfh1.up (Or.inr (Or.inr rfl))
      refine x_aload_n hE dX6_note_44 rfl rfl ?_
      refine x_dup hE dX6_note_45 rfl ?_
      refine x_get hE hinX6 hc10 rfl 3 (by decide) (List.mem_of_getElem? (i := 1) rfl) rfl dX6_note_46 ?_
      refine x_iconst (v := nI 1) hE dX6_note_49 (by decide) ?_
      refine x_iadd hE dX6_note_50 ?_
      refine x_ieq (y := nI (NL.length + 1)) (nI_1 _) ?_
      refine x_put (fs' := [.ref nA, .ref dA, .ref yA, .int (nI (NL.length + 1)), .int (nI RY.length)]) hE hinX6 tyX6 tyX6_ok nmX6 hc10 rfl 3 (by decide) (List.mem_of_getElem? (i := 1) rfl) rfl rfl rfl (Nat.le_of_ble_eq_true rfl) rfl dX6_note_51 ?_
      generalize hhh13 : x_up h7 wo (.inr (6, [.ref nA, .ref dA, .ref yA, .int (nI (NL.length + 1)), .int (nI RY.length)])) = h13
      have hc14 : h13 wo = some (.inr (6, [.ref nA, .ref dA, .ref yA, .int (nI (NL.length + 1)), .int (nI RY.length)])) := by rw [← hhh13]; exact x_up_eq _ _ _
      have hc15 : h13 dA = some (.inl (g_c G 0, 512, .inl (upd df NL.length du))) := by rw [← hhh13, x_up_ne (fun e => by have z1 := hc8; rw [e, hc10] at z1; simp [lampE] at z1)]; exact hc8
      have hc16 : h13 nA = some (.inl (g_c G 4, 512, .inr (.inr (.inr (.inr (va_up nf NL.length (some q))))))) := by rw [← hhh13, x_up_ne (fun e => by have z1 := hc9; rw [e, hc10] at z1; simp [lampE] at z1)]; exact hc9
      have hc17 : h13 yA = some (.inl (g_c G 4, 512, .inr (.inr (.inr (.inr yf))))) := by rw [← hhh13, x_up_ne (fun e => by have z1 := hc11; rw [e, hc10] at z1; simp [lampE] at z1)]; exact hc11
      have hc18 : h13 q = some (.inr (0, vs)) := by rw [← hhh13, x_up_ne (fun e => by have z1 := hc12; rw [e, hc10] at z1; simp [lampE] at z1)]; exact hc12
      have hfh13 : x_fr (fun z => z = wo ∨ z = nA ∨ z = dA) h h13 := by rw [← hhh13]; exact hfh7.up (Or.inl rfl)
      refine x_vret hE dX6_note_54 ⟨rfl, ⟨by rw [List.length_append]; exact hc14, by rw [List.length_append]; exact hlt, hr5, _, _, yf, hc16, hc15, hc17, fun j x hj => ?_, hY⟩, hfh13⟩
      rcases get_push hj with z | ⟨rfl, rfl⟩
      · have hl := get_lt z
        exact ⟨by simp only [va_up]; rw [if_neg (by omega)]; exact (hN j x z).1, by simp only [upd]; rw [if_neg (by omega)]; exact (hN j x z).2⟩
      · exact ⟨by simp [va_up], by simp [upd]⟩

set_option maxHeartbeats 4000000 in
set_option maxRecDepth 100000 in
theorem c_X6_takeDue (G : XG) {wo nA dA yA : Nat} {NL : List (Nat × Int32)} {RY : List Nat} {h : HM} (hT : wtW G wo nA dA yA NL RY h) {now : Int32} (hcu : ∀ x, x ∈ NL → ∃ vs, h x.1 = some (.inr (0, vs))) (nyn : yA ≠ nA) : x_M G yX6_takeDue wsX6_takeDue ({ frames := 0, cells := 0, slots := 0, locals := 0 } : Room) [.ref wo, .int now] h (fun v h' => v = none ∧ wtW G wo nA dA yA (NL.filter (fun x : Nat × Int32 => !decide (x.2 = now))) ((NL.filter (fun x : Nat × Int32 => decide (x.2 = now))).map Prod.fst) h' ∧ x_fr (fun z => z = wo ∨ z = nA ∨ z = dA ∨ z = yA) h h') 0 0 := by
  refine x_M.of (cc := cX6_takeDue) (maxL := 4) (ret := none) (ent := [some (.ref wo), some (.int now), none, none]) (by decide +kernel) rfl (Nat.le_of_ble_eq_true rfl) rfl rfl ?_
  intro F hE hname
  have hinX6 : ∀ w ∈ wsX60, w ∈ wsX6_takeDue := by decide +kernel
  obtain ⟨hwo, hn5, hr5, nf, df, yf, hnA, hdA, hyA, hN, hY⟩ := id hT
  refine x_iconst (v := nI 0) hE dX6_takeDue_0 (by decide) ?_
  refine x_istore_n (L' := [some (.ref wo), some (.int now), some (.int (nI 0)), none]) hE dX6_takeDue_1 rfl (Nat.le_of_ble_eq_true rfl) rfl ?_
  refine x_aload_n hE dX6_takeDue_2 rfl rfl ?_
  refine x_iconst (v := nI 0) hE dX6_takeDue_3 (by decide) ?_
  refine x_put (fs' := [.ref nA, .ref dA, .ref yA, .int (nI NL.length), .int (nI 0)]) hE hinX6 tyX6 tyX6_ok nmX6 hwo rfl 4 (by decide) (List.mem_of_getElem? (i := 1) rfl) rfl rfl rfl (Nat.le_of_ble_eq_true rfl) rfl dX6_takeDue_4 ?_
  generalize hhh1 : x_up h wo (.inr (6, [.ref nA, .ref dA, .ref yA, .int (nI NL.length), .int (nI 0)])) = h1
  have hc2 : h1 wo = some (.inr (6, [.ref nA, .ref dA, .ref yA, .int (nI NL.length), .int (nI 0)])) := by rw [← hhh1]; exact x_up_eq _ _ _
  have hc3 : h1 nA = some (.inl (g_c G 4, 512, .inr (.inr (.inr (.inr nf))))) := by rw [← hhh1, x_up_ne (fun e => by have z1 := hnA; rw [e, hwo] at z1; simp [lampE] at z1)]; exact hnA
  have hc4 : h1 dA = some (.inl (g_c G 0, 512, .inl df)) := by rw [← hhh1, x_up_ne (fun e => by have z1 := hdA; rw [e, hwo] at z1; simp [lampE] at z1)]; exact hdA
  have hc5 : h1 yA = some (.inl (g_c G 4, 512, .inr (.inr (.inr (.inr yf))))) := by rw [← hhh1, x_up_ne (fun e => by have z1 := hyA; rw [e, hwo] at z1; simp [lampE] at z1)]; exact hyA
  have hf1 : x_fr (fun z => z = wo ∨ z = nA ∨ z = dA ∨ z = yA) h h1 := by rw [← hhh1]; exact (x_fr.refl h).up (Or.inl rfl)
  refine x_iconst (v := nI 0) hE dX6_takeDue_7 (by decide) ?_
  refine x_istore_n (L' := [some (.ref wo), some (.int now), some (.int (nI 0)), some (.int (nI 0))]) hE dX6_takeDue_8 rfl (Nat.le_of_ble_eq_true rfl) rfl ?_
  refine x_down (N := NL.length) (P := fun i => ∀ (h2 : HM) (nf2 : Nat → Option Nat) (df2 : Nat → Int32) (yf2 : Nat → Option Nat), h2 wo = some (.inr (6, [.ref nA, .ref dA, .ref yA, .int (nI NL.length), .int (nI ((NL.take i).filter (fun x : Nat × Int32 => decide (x.2 = now))).length)])) → h2 nA = some (.inl (g_c G 4, 512, .inr (.inr (.inr (.inr nf2))))) → h2 dA = some (.inl (g_c G 0, 512, .inl df2)) → h2 yA = some (.inl (g_c G 4, 512, .inr (.inr (.inr (.inr yf2))))) → (∀ (j : Nat) (x : Nat × Int32), ((NL.take i).filter (fun x : Nat × Int32 => !decide (x.2 = now)))[j]? = some x → nf2 j = some x.1 ∧ df2 j = x.2) → (∀ (j : Nat) (x : Nat × Int32), i ≤ j → NL[j]? = some x → nf2 j = some x.1 ∧ df2 j = x.2) → (∀ (j : Nat) (x : Nat × Int32), ((NL.take i).filter (fun x : Nat × Int32 => decide (x.2 = now)))[j]? = some x → yf2 j = some x.1) → x_fr (fun z => z = wo ∨ z = nA ∨ z = dA ∨ z = yA) h h2 → x_W G F (x_Q G F (fun v h' => v = none ∧ wtW G wo nA dA yA (NL.filter (fun x : Nat × Int32 => !decide (x.2 = now))) ((NL.filter (fun x : Nat × Int32 => decide (x.2 = now))).map Prod.fst) h' ∧ x_fr (fun z => z = wo ∨ z = nA ∨ z = dA ∨ z = yA) h h') 0 0) 0 0 h2 9 [some (.ref wo), some (.int now), some (.int (nI ((NL.take i).filter (fun x : Nat × Int32 => !decide (x.2 = now))).length)), some (.int (nI i))] []) (fun i hiN ih => ?_) 0 (by omega) _ nf df yf hc2 hc3 hc4 hc5 (fun j x hj => by simp at hj) (fun j x _ hj => hN j x hj) (fun j x hj => by simp at hj) hf1
  intro h2 nf2 df2 yf2 hwo2 hnA2 hdA2 hyA2 hA2 hB2 hC2 hf2
  have hkl := filter_take_le (fun x : Nat × Int32 => !decide (x.2 = now)) NL i
  have hdl := filter_take_le (fun x : Nat × Int32 => decide (x.2 = now)) NL i
  refine x_iload_n hE dX6_takeDue_9 rfl ?_
  refine x_aload_n hE dX6_takeDue_10 rfl rfl ?_
  refine x_get hE hinX6 hwo2 rfl 3 (by decide) (List.mem_of_getElem? (i := 2) rfl) rfl dX6_takeDue_11 ?_
  refine x_icmp_ge (tgt := 118) hE dX6_takeDue_14 (by decide) (fun c14 => ?_) (fun c14 => ?_)
  · replace c14 := x_nIle c14 (by omega) (by omega)
    obtain rfl : i = NL.length := by omega
    rw [List.take_length] at *
    refine x_aload_n hE dX6_takeDue_118 rfl rfl ?_
    refine x_iload_n hE dX6_takeDue_119 rfl ?_
    refine x_put (fs' := [.ref nA, .ref dA, .ref yA, .int (nI (NL.filter (fun x : Nat × Int32 => !decide (x.2 = now))).length), .int (nI (NL.filter (fun x : Nat × Int32 => decide (x.2 = now))).length)]) hE hinX6 tyX6 tyX6_ok nmX6 hwo2 rfl 3 (by decide) (List.mem_of_getElem? (i := 2) rfl) rfl rfl rfl (Nat.le_of_ble_eq_true rfl) rfl dX6_takeDue_120 ?_
    generalize hhh6 : x_up h2 wo (.inr (6, [.ref nA, .ref dA, .ref yA, .int (nI (NL.filter (fun x : Nat × Int32 => !decide (x.2 = now))).length), .int (nI (NL.filter (fun x : Nat × Int32 => decide (x.2 = now))).length)])) = h6
    have hc7 : h6 wo = some (.inr (6, [.ref nA, .ref dA, .ref yA, .int (nI (NL.filter (fun x : Nat × Int32 => !decide (x.2 = now))).length), .int (nI (NL.filter (fun x : Nat × Int32 => decide (x.2 = now))).length)])) := by rw [← hhh6]; exact x_up_eq _ _ _
    have hc8 : h6 nA = some (.inl (g_c G 4, 512, .inr (.inr (.inr (.inr nf2))))) := by rw [← hhh6, x_up_ne (fun e => by have z1 := hnA2; rw [e, hwo2] at z1; simp [lampE] at z1)]; exact hnA2
    have hc9 : h6 dA = some (.inl (g_c G 0, 512, .inl df2)) := by rw [← hhh6, x_up_ne (fun e => by have z1 := hdA2; rw [e, hwo2] at z1; simp [lampE] at z1)]; exact hdA2
    have hc10 : h6 yA = some (.inl (g_c G 4, 512, .inr (.inr (.inr (.inr yf2))))) := by rw [← hhh6, x_up_ne (fun e => by have z1 := hyA2; rw [e, hwo2] at z1; simp [lampE] at z1)]; exact hyA2
    have hf4 : x_fr (fun z => z = wo ∨ z = nA ∨ z = dA ∨ z = yA) h h6 := by rw [← hhh6]; exact hf2.up (Or.inl rfl)
    exact x_vret hE dX6_takeDue_123 ⟨rfl, ⟨by rw [List.length_map]; exact hc7, by omega, by rw [List.length_map]; omega, nf2, df2, yf2, hc8, hc9, hc10, hA2, fun j x hj => by rw [List.getElem?_map] at hj; cases hq : (NL.filter (fun x : Nat × Int32 => decide (x.2 = now)))[j]? with | none => rw [hq] at hj; cases hj | some y => rw [hq] at hj; cases hj; exact hC2 j y hq⟩, hf4⟩
  · replace c14 := x_nInle c14 (by omega) (by omega)
    refine x_iload_n hE dX6_takeDue_17 rfl ?_
    refine x_aload_n hE dX6_takeDue_18 rfl rfl ?_
    refine x_get hE hinX6 hwo2 rfl 0 (by decide) (List.mem_of_getElem? (i := 3) rfl) rfl dX6_takeDue_19 ?_
    refine x_alen (t0 := 4) hE hnA2 rfl dX6_takeDue_22 ?_
    refine x_icmp_ge (tgt := 118) hE dX6_takeDue_23 (by decide) (fun c23 => ?_) (fun c23 => ?_)
    · exact absurd (x_nIle c23 (by omega) (by omega)) (by omega)
    · refine x_iload_n hE dX6_takeDue_26 rfl ?_
      refine x_aload_n hE dX6_takeDue_27 rfl rfl ?_
      refine x_get hE hinX6 hwo2 rfl 1 (by decide) (List.mem_of_getElem? (i := 4) rfl) rfl dX6_takeDue_28 ?_
      refine x_alen (t0 := 0) hE hdA2 rfl dX6_takeDue_31 ?_
      refine x_icmp_ge (tgt := 118) hE dX6_takeDue_32 (by decide) (fun c32 => ?_) (fun c32 => ?_)
      · exact absurd (x_nIle c32 (by omega) (by omega)) (by omega)
      · refine x_aload_n hE dX6_takeDue_35 rfl rfl ?_
        refine x_get hE hinX6 hwo2 rfl 1 (by decide) (List.mem_of_getElem? (i := 4) rfl) rfl dX6_takeDue_36 ?_
        refine x_iload_n hE dX6_takeDue_39 rfl ?_
        obtain ⟨x, hx⟩ : ∃ x, NL[i]? = some x := ⟨_, List.getElem?_eq_getElem c14⟩
        obtain ⟨hxn, hxd⟩ := hB2 i x (Nat.le_refl i) hx
        obtain ⟨vs, hvs⟩ := hcu x (List.mem_of_getElem? hx)
        have hvs2 := hf2 _ _ hvs (fun z => by rcases z with z | z | z | z <;> (have z1 := hvs; rw [z] at z1) <;> first | (rw [hwo] at z1; simp at z1; done) | (rw [hnA] at z1; simp at z1; done) | (rw [hdA] at z1; simp at z1; done) | (rw [hyA] at z1; simp at z1; done))
        refine x_iald (v := x.2) hE hdA2 (vp_in_nI (by omega) (by decide)) ((x_atN _ (by omega)).trans hxd) dX6_takeDue_40 ?_
        refine x_iload_n hE dX6_takeDue_41 rfl ?_
        refine x_icmp_eq (tgt := 75) hE dX6_takeDue_42 (by decide) (fun c42 => ?_) (fun c42 => ?_)
        · have ek := filter_take_s (fun x : Nat × Int32 => !decide (x.2 = now)) hx
          rw [if_neg (by simp [c42])] at ek
          have ed := filter_take_s (fun x : Nat × Int32 => decide (x.2 = now)) hx
          rw [if_pos (by simp [c42])] at ed
          refine x_aload_n hE dX6_takeDue_75 rfl rfl ?_
          refine x_get hE hinX6 hwo2 rfl 4 (by decide) (List.mem_of_getElem? (i := 1) rfl) rfl dX6_takeDue_76 ?_
          refine x_aload_n hE dX6_takeDue_79 rfl rfl ?_
          refine x_get hE hinX6 hwo2 rfl 2 (by decide) (List.mem_of_getElem? (i := 5) rfl) rfl dX6_takeDue_80 ?_
          refine x_alen (t0 := 4) hE hyA2 rfl dX6_takeDue_83 ?_
          refine x_icmp_ge (tgt := 112) hE dX6_takeDue_84 (by decide) (fun c84 => ?_) (fun c84 => ?_)
          · exact absurd (x_nIle c84 (by omega) (by omega)) (by omega)
          · refine x_aload_n hE dX6_takeDue_87 rfl rfl ?_
            refine x_get hE hinX6 hwo2 rfl 2 (by decide) (List.mem_of_getElem? (i := 5) rfl) rfl dX6_takeDue_88 ?_
            refine x_aload_n hE dX6_takeDue_91 rfl rfl ?_
            refine x_get hE hinX6 hwo2 rfl 4 (by decide) (List.mem_of_getElem? (i := 1) rfl) rfl dX6_takeDue_92 ?_
            refine x_aload_n hE dX6_takeDue_95 rfl rfl ?_
            refine x_get hE hinX6 hwo2 rfl 0 (by decide) (List.mem_of_getElem? (i := 3) rfl) rfl dX6_takeDue_96 ?_
            refine x_iload_n hE dX6_takeDue_99 rfl ?_
            refine x_aald (t0 := 4) (v := nf2 i) hE hnA2 rfl (vp_in_nI (by omega) (by decide)) (x_atN _ (by omega)) dX6_takeDue_100 ?_
            refine x_qref (q := x.1) (hxn) ?_
            refine x_aast (t0 := 4) (f' := (va_up yf2 ((NL.take i).filter (fun x : Nat × Int32 => decide (x.2 = now))).length (some x.1))) hE hyA2 rfl hvs2 rfl (vp_in_nI (by omega) (by decide)) (x_upN _ (by omega) _) dX6_takeDue_101 ?_
            generalize hhh11 : x_up h2 yA (.inl (g_c G 4, 512, .inr (.inr (.inr (.inr (va_up yf2 ((NL.take i).filter (fun x : Nat × Int32 => decide (x.2 = now))).length (some x.1))))))) = h11
            have hc12 : h11 yA = some (.inl (g_c G 4, 512, .inr (.inr (.inr (.inr (va_up yf2 ((NL.take i).filter (fun x : Nat × Int32 => decide (x.2 = now))).length (some x.1))))))) := by rw [← hhh11]; exact x_up_eq _ _ _
            have hc13 : h11 wo = some (.inr (6, [.ref nA, .ref dA, .ref yA, .int (nI NL.length), .int (nI ((NL.take i).filter (fun x : Nat × Int32 => decide (x.2 = now))).length)])) := by rw [← hhh11, x_up_ne (fun e => by have z1 := hwo2; rw [e, hyA2] at z1; simp [lampE] at z1)]; exact hwo2
            have hc14 : h11 nA = some (.inl (g_c G 4, 512, .inr (.inr (.inr (.inr nf2))))) := by rw [← hhh11, x_up_ne (Ne.symm nyn)]; exact hnA2
            have hc15 : h11 dA = some (.inl (g_c G 0, 512, .inl df2)) := by rw [← hhh11, x_up_ne (fun e => by have z1 := hdA2; rw [e, hyA2] at z1; simp [lampE] at z1)]; exact hdA2
            have hc16 : h11 x.1 = some (.inr (0, vs)) := by rw [← hhh11, x_up_ne (fun e => by have z1 := hvs2; rw [e, hyA2] at z1; simp [lampE] at z1)]; exact hvs2
            refine x_aload_n hE dX6_takeDue_102 rfl rfl ?_
            refine x_dup hE dX6_takeDue_103 rfl ?_
            refine x_get hE hinX6 hc13 rfl 4 (by decide) (List.mem_of_getElem? (i := 1) rfl) rfl dX6_takeDue_104 ?_
            refine x_iconst (v := nI 1) hE dX6_takeDue_107 (by decide) ?_
            refine x_iadd hE dX6_takeDue_108 ?_
            refine x_ieq (y := nI (((NL.take i).filter (fun x : Nat × Int32 => decide (x.2 = now))).length + 1)) (nI_1 _) ?_
            refine x_put (fs' := [.ref nA, .ref dA, .ref yA, .int (nI NL.length), .int (nI (((NL.take i).filter (fun x : Nat × Int32 => decide (x.2 = now))).length + 1))]) hE hinX6 tyX6 tyX6_ok nmX6 hc13 rfl 4 (by decide) (List.mem_of_getElem? (i := 1) rfl) rfl rfl rfl (Nat.le_of_ble_eq_true rfl) rfl dX6_takeDue_109 ?_
            generalize hhh17 : x_up h11 wo (.inr (6, [.ref nA, .ref dA, .ref yA, .int (nI NL.length), .int (nI (((NL.take i).filter (fun x : Nat × Int32 => decide (x.2 = now))).length + 1))])) = h17
            have hc18 : h17 wo = some (.inr (6, [.ref nA, .ref dA, .ref yA, .int (nI NL.length), .int (nI (((NL.take i).filter (fun x : Nat × Int32 => decide (x.2 = now))).length + 1))])) := by rw [← hhh17]; exact x_up_eq _ _ _
            have hc19 : h17 yA = some (.inl (g_c G 4, 512, .inr (.inr (.inr (.inr (va_up yf2 ((NL.take i).filter (fun x : Nat × Int32 => decide (x.2 = now))).length (some x.1))))))) := by rw [← hhh17, x_up_ne (fun e => by have z1 := hc12; rw [e, hc13] at z1; simp [lampE] at z1)]; exact hc12
            have hc20 : h17 nA = some (.inl (g_c G 4, 512, .inr (.inr (.inr (.inr nf2))))) := by rw [← hhh17, x_up_ne (fun e => by have z1 := hc14; rw [e, hc13] at z1; simp [lampE] at z1)]; exact hc14
            have hc21 : h17 dA = some (.inl (g_c G 0, 512, .inl df2)) := by rw [← hhh17, x_up_ne (fun e => by have z1 := hc15; rw [e, hc13] at z1; simp [lampE] at z1)]; exact hc15
            have hc22 : h17 x.1 = some (.inr (0, vs)) := by rw [← hhh17, x_up_ne (fun e => by have z1 := hc16; rw [e, hc13] at z1; simp [lampE] at z1)]; exact hc16
            have hf4 : x_fr (fun z => z = wo ∨ z = nA ∨ z = dA ∨ z = yA) h h17 := by rw [← hhh17, ← hhh11]; exact (hf2.up (Or.inr (Or.inr (Or.inr rfl)))).up (Or.inl rfl)
            refine x_iinc (v := nI (i + 1)) (L' := [some (.ref wo), some (.int now), some (.int (nI ((NL.take i).filter (fun x : Nat × Int32 => !decide (x.2 = now))).length)), some (.int (nI (i + 1)))]) hE dX6_takeDue_112 rfl (nI_1 _) rfl ?_
            refine x_goto (tgt := 9) hE dX6_takeDue_115 (by decide) ?_
            refine x_Leq (L' := [some (.ref wo), some (.int now), some (.int (nI ((NL.take (i + 1)).filter (fun x : Nat × Int32 => !decide (x.2 = now))).length)), some (.int (nI (i + 1)))]) (by rw [ek]) ?_
            exact ih (i + 1) (by omega) (by omega) _ nf2 df2 (va_up yf2 ((NL.take i).filter (fun x : Nat × Int32 => decide (x.2 = now))).length (some x.1)) (by rw [ed, List.length_append]; exact hc18) hc20 hc21 hc19 (by rw [ek]; exact hA2) (fun j y hj hy => hB2 j y (by omega) hy) (by rw [ed]; exact fun j y hj => (get_push hj).elim (fun z => by have := get_lt z; simp only [va_up]; rw [if_neg (by omega)]; exact hC2 j y z) (fun z => by obtain ⟨rfl, rfl⟩ := z; simp [va_up])) hf4
        · have ek := filter_take_s (fun x : Nat × Int32 => !decide (x.2 = now)) hx
          rw [if_pos (by simp [c42])] at ek
          have ed := filter_take_s (fun x : Nat × Int32 => decide (x.2 = now)) hx
          rw [if_neg (by simp [c42])] at ed
          refine x_aload_n hE dX6_takeDue_45 rfl rfl ?_
          refine x_get hE hinX6 hwo2 rfl 0 (by decide) (List.mem_of_getElem? (i := 3) rfl) rfl dX6_takeDue_46 ?_
          refine x_iload_n hE dX6_takeDue_49 rfl ?_
          refine x_aload_n hE dX6_takeDue_50 rfl rfl ?_
          refine x_get hE hinX6 hwo2 rfl 0 (by decide) (List.mem_of_getElem? (i := 3) rfl) rfl dX6_takeDue_51 ?_
          refine x_iload_n hE dX6_takeDue_54 rfl ?_
          refine x_aald (t0 := 4) (v := nf2 i) hE hnA2 rfl (vp_in_nI (by omega) (by decide)) (x_atN _ (by omega)) dX6_takeDue_55 ?_
          refine x_qref (q := x.1) (hxn) ?_
          refine x_aast (t0 := 4) (f' := (va_up nf2 ((NL.take i).filter (fun x : Nat × Int32 => !decide (x.2 = now))).length (some x.1))) hE hnA2 rfl hvs2 rfl (vp_in_nI (by omega) (by decide)) (x_upN _ (by omega) _) dX6_takeDue_56 ?_
          generalize hhh23 : x_up h2 nA (.inl (g_c G 4, 512, .inr (.inr (.inr (.inr (va_up nf2 ((NL.take i).filter (fun x : Nat × Int32 => !decide (x.2 = now))).length (some x.1))))))) = h23
          have hc24 : h23 nA = some (.inl (g_c G 4, 512, .inr (.inr (.inr (.inr (va_up nf2 ((NL.take i).filter (fun x : Nat × Int32 => !decide (x.2 = now))).length (some x.1))))))) := by rw [← hhh23]; exact x_up_eq _ _ _
          have hc25 : h23 wo = some (.inr (6, [.ref nA, .ref dA, .ref yA, .int (nI NL.length), .int (nI ((NL.take i).filter (fun x : Nat × Int32 => decide (x.2 = now))).length)])) := by rw [← hhh23, x_up_ne (fun e => by have z1 := hwo2; rw [e, hnA2] at z1; simp [lampE] at z1)]; exact hwo2
          have hc26 : h23 dA = some (.inl (g_c G 0, 512, .inl df2)) := by rw [← hhh23, x_up_ne (fun e => by have z1 := hdA2; rw [e, hnA2] at z1; simp [lampE] at z1)]; exact hdA2
          have hc27 : h23 yA = some (.inl (g_c G 4, 512, .inr (.inr (.inr (.inr yf2))))) := by rw [← hhh23, x_up_ne nyn]; exact hyA2
          have hc28 : h23 x.1 = some (.inr (0, vs)) := by rw [← hhh23, x_up_ne (fun e => by have z1 := hvs2; rw [e, hnA2] at z1; simp [lampE] at z1)]; exact hvs2
          refine x_aload_n hE dX6_takeDue_57 rfl rfl ?_
          refine x_get hE hinX6 hc25 rfl 1 (by decide) (List.mem_of_getElem? (i := 4) rfl) rfl dX6_takeDue_58 ?_
          refine x_iload_n hE dX6_takeDue_61 rfl ?_
          refine x_aload_n hE dX6_takeDue_62 rfl rfl ?_
          refine x_get hE hinX6 hc25 rfl 1 (by decide) (List.mem_of_getElem? (i := 4) rfl) rfl dX6_takeDue_63 ?_
          refine x_iload_n hE dX6_takeDue_66 rfl ?_
          refine x_iald (v := x.2) hE hc26 (vp_in_nI (by omega) (by decide)) ((x_atN _ (by omega)).trans hxd) dX6_takeDue_67 ?_
          refine x_iast (f' := (upd df2 ((NL.take i).filter (fun x : Nat × Int32 => !decide (x.2 = now))).length x.2)) hE hc26 (vp_in_nI (by omega) (by decide)) (x_updN _ (by omega) _) dX6_takeDue_68 ?_
          generalize hhh29 : x_up h23 dA (.inl (g_c G 0, 512, .inl (upd df2 ((NL.take i).filter (fun x : Nat × Int32 => !decide (x.2 = now))).length x.2))) = h29
          have hc30 : h29 dA = some (.inl (g_c G 0, 512, .inl (upd df2 ((NL.take i).filter (fun x : Nat × Int32 => !decide (x.2 = now))).length x.2))) := by rw [← hhh29]; exact x_up_eq _ _ _
          have hc31 : h29 nA = some (.inl (g_c G 4, 512, .inr (.inr (.inr (.inr (va_up nf2 ((NL.take i).filter (fun x : Nat × Int32 => !decide (x.2 = now))).length (some x.1))))))) := by rw [← hhh29, x_up_ne (fun e => by have z1 := hc24; rw [e, hc26] at z1; simp [lampE] at z1)]; exact hc24
          have hc32 : h29 wo = some (.inr (6, [.ref nA, .ref dA, .ref yA, .int (nI NL.length), .int (nI ((NL.take i).filter (fun x : Nat × Int32 => decide (x.2 = now))).length)])) := by rw [← hhh29, x_up_ne (fun e => by have z1 := hc25; rw [e, hc26] at z1; simp [lampE] at z1)]; exact hc25
          have hc33 : h29 yA = some (.inl (g_c G 4, 512, .inr (.inr (.inr (.inr yf2))))) := by rw [← hhh29, x_up_ne (fun e => by have z1 := hc27; rw [e, hc26] at z1; simp [lampE] at z1)]; exact hc27
          have hc34 : h29 x.1 = some (.inr (0, vs)) := by rw [← hhh29, x_up_ne (fun e => by have z1 := hc28; rw [e, hc26] at z1; simp [lampE] at z1)]; exact hc28
          have hf4 : x_fr (fun z => z = wo ∨ z = nA ∨ z = dA ∨ z = yA) h h29 := by rw [← hhh29, ← hhh23]; exact (hf2.up (Or.inr (Or.inl rfl))).up (Or.inr (Or.inr (Or.inl rfl)))
          refine x_iinc (v := (nI ((NL.take i).filter (fun x : Nat × Int32 => !decide (x.2 = now))).length) + nI 1) (L' := [some (.ref wo), some (.int now), some (.int ((nI ((NL.take i).filter (fun x : Nat × Int32 => !decide (x.2 = now))).length) + nI 1)), some (.int (nI i))]) hE dX6_takeDue_69 rfl rfl rfl ?_
          refine x_goto (tgt := 112) hE dX6_takeDue_72 (by decide) ?_
          refine x_iinc (v := nI (i + 1)) (L' := [some (.ref wo), some (.int now), some (.int ((nI ((NL.take i).filter (fun x : Nat × Int32 => !decide (x.2 = now))).length) + nI 1)), some (.int (nI (i + 1)))]) hE dX6_takeDue_112 rfl (nI_1 _) rfl ?_
          refine x_goto (tgt := 9) hE dX6_takeDue_115 (by decide) ?_
          refine x_Leq (L' := [some (.ref wo), some (.int now), some (.int (nI ((NL.take (i + 1)).filter (fun x : Nat × Int32 => !decide (x.2 = now))).length)), some (.int (nI (i + 1)))]) (by rw [ek, List.length_append, nI_add]; rfl) ?_
          exact ih (i + 1) (by omega) (by omega) _ (va_up nf2 ((NL.take i).filter (fun x : Nat × Int32 => !decide (x.2 = now))).length (some x.1)) (upd df2 ((NL.take i).filter (fun x : Nat × Int32 => !decide (x.2 = now))).length x.2) yf2 (by rw [ed]; exact hc32) hc31 hc30 hc33 (by rw [ek]; exact fun j y hj => (get_push hj).elim (fun z => by have := get_lt z; simp only [va_up, upd]; rw [if_neg (by omega), if_neg (by omega)]; exact hA2 j y z) (fun z => by obtain ⟨rfl, rfl⟩ := z; simp [va_up, upd])) (fun j y hj hy => by simp only [va_up, upd]; rw [if_neg (by omega), if_neg (by omega)]; exact hB2 j y (by omega) hy) (by rw [ed]; exact hC2) hf4
