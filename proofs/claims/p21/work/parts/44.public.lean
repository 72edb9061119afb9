def fCue (S : PS) (so up dn : Int32) : Nat := if inI so 0 1 = true ∧ inI up 0 60 = true ∧ inI dn 0 60 = true then (if s_C S = 12 then 2 else 0) else 1
def cueP (so up dn : Int32) (S : PS) : PS := (set2 (set2 (set2 (set2 (s_ar S) 11 (s_C S) so) 12 (s_C S) up) 13 (s_C S) dn) 15 (s_C S) (-1), s_L S, s_B S, s_C S + 1, s_t S, s_b S, s_G S, s_N S, s_H S, s_n S)
theorem cueP_old {ar : Nat → Nat → Int32} {C i : Nat} {so up dn : Int32} (h : i ≠ C) : set2 (set2 (set2 (set2 ar 11 C so) 12 C up) 13 C dn) 15 C (-1) 11 i = ar 11 i ∧ set2 (set2 (set2 (set2 ar 11 C so) 12 C up) 13 C dn) 15 C (-1) 12 i = ar 12 i ∧ set2 (set2 (set2 (set2 ar 11 C so) 12 C up) 13 C dn) 15 C (-1) 13 i = ar 13 i ∧ toldF (set2 (set2 (set2 (set2 ar 11 C so) 12 C up) 13 C dn) 15 C (-1)) i = toldF ar i ∧ set2 (set2 (set2 (set2 ar 11 C so) 12 C up) 13 C dn) 15 C (-1) 15 i = ar 15 i ∧ set2 (set2 (set2 (set2 ar 11 C so) 12 C up) 13 C dn) 15 C (-1) 16 i = ar 16 i := by
  refine ⟨?_, ?_, ?_, ?_, ?_, ?_⟩
  · rw [set2_ne (by decide), set2_ne (by decide), set2_ne (by decide), set2_at, upd_ne h]
  · rw [set2_ne (by decide), set2_ne (by decide), set2_at, upd_ne h, set2_ne (by decide)]
  · rw [set2_ne (by decide), set2_at, upd_ne h, set2_ne (by decide), set2_ne (by decide)]
  · unfold toldF; rw [set2_ne (by decide), set2_ne (by decide), set2_ne (by decide), set2_ne (by decide)]
  · rw [set2_at, upd_ne h, set2_ne (by decide), set2_ne (by decide), set2_ne (by decide)]
  · rw [set2_ne (by decide), set2_ne (by decide), set2_ne (by decide), set2_ne (by decide)]
theorem cueP_new {ar : Nat → Nat → Int32} {C : Nat} {so up dn : Int32} : set2 (set2 (set2 (set2 ar 11 C so) 12 C up) 13 C dn) 15 C (-1) 11 C = so ∧ set2 (set2 (set2 (set2 ar 11 C so) 12 C up) 13 C dn) 15 C (-1) 12 C = up ∧ set2 (set2 (set2 (set2 ar 11 C so) 12 C up) 13 C dn) 15 C (-1) 13 C = dn ∧ toldF (set2 (set2 (set2 (set2 ar 11 C so) 12 C up) 13 C dn) 15 C (-1)) C = toldF ar C ∧ set2 (set2 (set2 (set2 ar 11 C so) 12 C up) 13 C dn) 15 C (-1) 15 C = -1 ∧ set2 (set2 (set2 (set2 ar 11 C so) 12 C up) 13 C dn) 15 C (-1) 16 C = ar 16 C := by
  refine ⟨?_, ?_, ?_, ?_, ?_, ?_⟩
  · rw [set2_ne (by decide), set2_ne (by decide), set2_ne (by decide), set2_at, upd_at]
  · rw [set2_ne (by decide), set2_ne (by decide), set2_at, upd_at]
  · rw [set2_ne (by decide), set2_at, upd_at]
  · unfold toldF; rw [set2_ne (by decide), set2_ne (by decide), set2_ne (by decide), set2_ne (by decide)]
  · rw [set2_at, upd_at]
  · rw [set2_ne (by decide), set2_ne (by decide), set2_ne (by decide), set2_ne (by decide)]
set_option maxHeartbeats 4000000 in
set_option maxRecDepth 100000 in
theorem c_X7_cue (G : XG) {ad ow : Nat → Nat} {eA : Nat} {A1 P1 : List Nat} {c1 : Nat → GC} {A2 P2 : List Nat} {c2 : Nat → GC} {RY : List Nat} {S : PS} {h : HM} (hW : cW G ad ow eA A1 P1 c1 A2 P2 c2 RY S h) (hg : gI (s_C S) (s_G S)) (hcu : cuI (s_ar S) (s_C S)) (hNC : ∀ x, x ∈ s_N S → x.1 < s_C S) (hz0 : zI (s_ar S) (s_L S) (s_C S)) (so up dn : Int32) : y_M G yX7_cue wsX7_cue ({ frames := 6, cells := 4, slots := 57, locals := 90 } : Room) [.ref (ad 0), .int so, .int up, .int dn] h (fun v h' => fCue S so up dn = 0 ∧ v = some (.int (nI (s_C S))) ∧ ∃ ad' ow' : Nat → Nat, ad' 0 = ad 0 ∧ cW G ad' ow' eA A1 P1 c1 A2 P2 c2 RY (cueP so up dn S) h') (fun E => (fCue S so up dn = 1 ∧ E = xIA) ∨ (fCue S so up dn = 2 ∧ E = xIS)) 4 57 := by
  refine y_M.of (cc := cX7_cue) (maxL := 5) (ret := (some .int)) (ent := [some (.ref (ad 0)), some (.int so), some (.int up), some (.int dn), none]) (by decide +kernel) rfl (Nat.le_of_ble_eq_true rfl) rfl rfl ?_
  intro F hE hname hT hX
  have hinX0 : ∀ w ∈ wsX00, w ∈ wsX7_cue := by decide +kernel
  have hinX7 : ∀ w ∈ wsX70, w ∈ wsX7_cue := by decide +kernel
  have hW0 := hW
  obtain ⟨hB, hR, hC, hp, hl, hr, hw, hI, hO⟩ := hW0
  refine x_iload_n hE dX7_cue_0 rfl ?_
  refine x_iconst (v := nI 0) hE dX7_cue_1 (by decide) ?_
  refine x_iconst (v := nI 1) hE dX7_cue_2 (by decide) ?_
  refine x_callS (st := []) hE 3 (c_X7_isWithin G so (nI 0) (nI 1)) gX7_cue_X7_isWithin rfl rfl rfl (by decide +kernel) ⟨Nat.le_of_ble_eq_true rfl, Nat.le_of_ble_eq_true rfl⟩ rfl rfl dX7_cue_3 rfl (Nat.le_of_ble_eq_true rfl) ⟨Nat.le_of_ble_eq_true rfl, Nat.le_of_ble_eq_true rfl⟩ (fun v h9 hp => ?_)
  obtain ⟨rfl, rfl⟩ := hp
  refine x_if_eq (tgt := 29) hE dX7_cue_6 (by decide) (fun c6 => ?_) (fun c6 => ?_)
  · exact y_IA hE hT hX (List.mem_of_getElem? (i := 4) rfl) (List.mem_of_getElem? (i := 1) rfl) (List.mem_of_getElem? (i := 2) rfl) (fun w hw => List.mem_cons_of_mem _ (List.mem_append_left _ (List.mem_append_right _ hw))) rfl dX7_cue_29 dX7_cue_32 dX7_cue_33 dX7_cue_35 dX7_cue_38 (Nat.le_of_ble_eq_true rfl) (Nat.le_of_ble_eq_true rfl) ⟨by decide, by decide⟩ ⟨by decide, by decide⟩ (Or.inl ⟨by unfold fCue; rw [if_neg (by rw [show inI so 0 1 = false from b2i_0.mp c6]; simp)], rfl⟩)
  · have q1 : inI so 0 1 = true := b2i_n0.mp c6
    refine x_iload_n hE dX7_cue_9 rfl ?_
    refine x_iconst (v := nI 0) hE dX7_cue_10 (by decide) ?_
    refine x_bipush (v := nI 60) hE dX7_cue_11 (by decide) ?_
    refine x_callS (st := []) hE 3 (c_X7_isWithin G up (nI 0) (nI 60)) gX7_cue_X7_isWithin rfl rfl rfl (by decide +kernel) ⟨Nat.le_of_ble_eq_true rfl, Nat.le_of_ble_eq_true rfl⟩ rfl rfl dX7_cue_13 rfl (Nat.le_of_ble_eq_true rfl) ⟨Nat.le_of_ble_eq_true rfl, Nat.le_of_ble_eq_true rfl⟩ (fun v h9 hp => ?_)
    obtain ⟨rfl, rfl⟩ := hp
    refine x_if_eq (tgt := 29) hE dX7_cue_16 (by decide) (fun c16 => ?_) (fun c16 => ?_)
    · exact y_IA hE hT hX (List.mem_of_getElem? (i := 4) rfl) (List.mem_of_getElem? (i := 1) rfl) (List.mem_of_getElem? (i := 2) rfl) (fun w hw => List.mem_cons_of_mem _ (List.mem_append_left _ (List.mem_append_right _ hw))) rfl dX7_cue_29 dX7_cue_32 dX7_cue_33 dX7_cue_35 dX7_cue_38 (Nat.le_of_ble_eq_true rfl) (Nat.le_of_ble_eq_true rfl) ⟨by decide, by decide⟩ ⟨by decide, by decide⟩ (Or.inl ⟨by unfold fCue; rw [if_neg (by rw [show inI up 0 60 = false from b2i_0.mp c16]; simp)], rfl⟩)
    · have q2 : inI up 0 60 = true := b2i_n0.mp c16
      refine x_iload_n hE dX7_cue_19 rfl ?_
      refine x_iconst (v := nI 0) hE dX7_cue_20 (by decide) ?_
      refine x_bipush (v := nI 60) hE dX7_cue_21 (by decide) ?_
      refine x_callS (st := []) hE 3 (c_X7_isWithin G dn (nI 0) (nI 60)) gX7_cue_X7_isWithin rfl rfl rfl (by decide +kernel) ⟨Nat.le_of_ble_eq_true rfl, Nat.le_of_ble_eq_true rfl⟩ rfl rfl dX7_cue_23 rfl (Nat.le_of_ble_eq_true rfl) ⟨Nat.le_of_ble_eq_true rfl, Nat.le_of_ble_eq_true rfl⟩ (fun v h9 hp => ?_)
      obtain ⟨rfl, rfl⟩ := hp
      refine x_if_ne (tgt := 39) hE dX7_cue_26 (by decide) (fun c26 => ?_) (fun c26 => ?_)
      · have q3 : inI dn 0 60 = true := b2i_n0.mp c26
        have hC12 := hC.2.1
        refine x_aload_n hE dX7_cue_39 rfl rfl ?_
        refine x_get hE hinX7 hB rfl 7 (by decide) (List.mem_of_getElem? (i := 5) rfl) rfl dX7_cue_40 ?_
        refine x_aload_n hE dX7_cue_43 rfl rfl ?_
        refine x_get hE hinX7 hB rfl 1 (by decide) (List.mem_of_getElem? (i := 6) rfl) rfl dX7_cue_44 ?_
        refine x_alen (t0 := 4) hE hC.1 rfl dX7_cue_47 ?_
        refine x_icmp_lt (tgt := 61) hE dX7_cue_48 (by decide) (fun c48 => ?_) (fun c48 => ?_)
        · replace c48 := x_nIlt c48 (by omega) (by omega)
          refine x_aload_n hE dX7_cue_61 rfl rfl ?_
          refine x_get hE hinX7 hB rfl 7 (by decide) (List.mem_of_getElem? (i := 5) rfl) rfl dX7_cue_62 ?_
          refine x_istore (L' := [some (.ref (ad 0)), some (.int so), some (.int up), some (.int dn), some (.int (nI (s_C S)))]) hE dX7_cue_65 (Nat.le_of_ble_eq_true rfl) rfl ?_
          refine x_aload_n hE dX7_cue_67 rfl rfl ?_
          refine x_get hE hinX7 hB rfl 1 (by decide) (List.mem_of_getElem? (i := 6) rfl) rfl dX7_cue_68 ?_
          refine x_iload hE dX7_cue_71 rfl ?_
          refine x_new (ci := 0) (fs := [.int 0, .int 0, .int 0, .int 0, .null, .null, .null, .null, .int 0]) hE hinX0 tyX0 tyX0_ok (List.mem_of_getElem? (i := 7) rfl) (List.mem_of_getElem? (i := 8) rfl) (List.mem_of_getElem? (i := 9) rfl) rfl (fun j hj => by rcases (show j = 0 ∨ j = 1 ∨ j = 2 ∨ j = 3 ∨ j = 4 ∨ j = 5 ∨ j = 6 ∨ j = 7 ∨ j = 8 by omega) with rfl | rfl | rfl | rfl | rfl | rfl | rfl | rfl | rfl <;> rfl) (Nat.le_of_ble_eq_true rfl) (Nat.le_of_ble_eq_true rfl) dX7_cue_73 (fun q hq0 => ?_)
          generalize hhh1 : x_up h q (.inr (0, [.int 0, .int 0, .int 0, .int 0, .null, .null, .null, .null, .int 0])) = h1
          have hc2 : h1 q = some (.inr (0, [.int 0, .int 0, .int 0, .int 0, .null, .null, .null, .null, .int 0])) := by rw [← hhh1]; exact x_up_eq _ _ _
          have hc3 : h1 (ad 0) = some (.inr (7, [.ref (ad 1), .ref (ad 3), .ref (ad 4), .ref (ad 5), .ref (ad 7), .ref (ad 9), .ref (ad 13), .int (nI (s_C S)), .int (nI (s_t S)), .int (nI (s_b S))])) := by rw [← hhh1, x_up_ne (x_none_ne hq0 hB)]; exact hB
          have hc4 : h1 (ad 3) = some (.inl (g_c G 4, 12, .inr (.inr (.inr (.inr (lampF (s_C S) (fun i => ad (100 + 4 * i)))))))) := by rw [← hhh1, x_up_ne (x_none_ne hq0 hC.1)]; exact hC.1
          refine x_dup hE dX7_cue_76 rfl ?_
          refine x_iload hE dX7_cue_77 rfl ?_
          refine x_iload_n hE dX7_cue_79 rfl ?_
          refine x_iload_n hE dX7_cue_80 rfl ?_
          refine x_iload_n hE dX7_cue_81 rfl ?_
          refine x_callI (st := [.ref q, .int (nI (s_C S)), .ref (ad 3)]) hE 4 (c_X0_init G hc2) gX7_cue_X0_init rfl rfl rfl (List.mem_of_getElem? (i := 9) rfl) (List.mem_of_getElem? (i := 14) rfl) (List.mem_of_getElem? (i := 15) rfl) rfl (by decide +kernel) ⟨Nat.le_of_ble_eq_true rfl, Nat.le_of_ble_eq_true rfl⟩ rfl rfl dX7_cue_82 rfl (Nat.le_of_ble_eq_true rfl) ⟨Nat.le_of_ble_eq_true rfl, Nat.le_of_ble_eq_true rfl⟩ (fun v h2 hp => ?_)
          obtain ⟨rfl, tA, sA, vA, htA, hsA, hvA, nts, ntv, nsv, gq, gt, gs, gv, hx2⟩ := hp
          have old1 : ∀ (a : Nat) (e : va_E), h a = some e → h1 a = some e := fun a e ha => by rw [← hhh1, x_up_ne (x_none_ne hq0 ha)]; exact ha
          have old2 : ∀ (a : Nat) (e : va_E), h a = some e → h2 a = some e := fun a e ha => hx2 _ _ (old1 a e ha) (x_none_ne hq0 ha)
          have fn : ∀ z, h1 z = none → h z = none := fun z hz => by cases hc : h z with | none => rfl | some e => rw [old1 z e hc] at hz; cases hz
          refine x_aast (t0 := 4) (f' := (va_up (lampF (s_C S) (fun i => ad (100 + 4 * i))) (s_C S) (some q))) hE (old2 _ _ hC.1) rfl gq rfl (vp_in_nI (by omega) (by decide)) (x_upN _ (by omega) _) dX7_cue_85 ?_
          generalize hhh5 : x_up h2 (ad 3) (.inl (g_c G 4, 12, .inr (.inr (.inr (.inr (va_up (lampF (s_C S) (fun i => ad (100 + 4 * i))) (s_C S) (some q))))))) = h5
          have hc6 : h5 (ad 3) = some (.inl (g_c G 4, 12, .inr (.inr (.inr (.inr (va_up (lampF (s_C S) (fun i => ad (100 + 4 * i))) (s_C S) (some q))))))) := by rw [← hhh5]; exact x_up_eq _ _ _
          have hc7 : h5 (ad 0) = some (.inr (7, [.ref (ad 1), .ref (ad 3), .ref (ad 4), .ref (ad 5), .ref (ad 7), .ref (ad 9), .ref (ad 13), .int (nI (s_C S)), .int (nI (s_t S)), .int (nI (s_b S))])) := by rw [← hhh5, x_up_ne (adne hO (by decide : 0 < 14) (by decide : 3 < 14) (by decide))]; exact (old2 _ _ hB)
          have hc8 : h5 q = some (.inr (0, [.int (nI (s_C S)), .int so, .int up, .int dn, .ref tA, .ref sA, .ref vA, .null, .int 0])) := by rw [← hhh5, x_up_ne (Ne.symm (x_none_ne hq0 hC.1))]; exact gq
          refine x_aload_n hE dX7_cue_86 rfl rfl ?_
          refine x_dup hE dX7_cue_87 rfl ?_
          refine x_get hE hinX7 hc7 rfl 7 (by decide) (List.mem_of_getElem? (i := 5) rfl) rfl dX7_cue_88 ?_
          refine x_iconst (v := nI 1) hE dX7_cue_91 (by decide) ?_
          refine x_iadd hE dX7_cue_92 ?_
          refine x_ieq (y := nI (s_C S + 1)) (nI_1 _) ?_
          refine x_put (fs' := [.ref (ad 1), .ref (ad 3), .ref (ad 4), .ref (ad 5), .ref (ad 7), .ref (ad 9), .ref (ad 13), .int (nI (s_C S + 1)), .int (nI (s_t S)), .int (nI (s_b S))]) hE hinX7 tyX7 tyX7_ok nmX7 hc7 rfl 7 (by decide) (List.mem_of_getElem? (i := 5) rfl) rfl rfl rfl (Nat.le_of_ble_eq_true rfl) rfl dX7_cue_93 ?_
          generalize hhh9 : x_up h5 (ad 0) (.inr (7, [.ref (ad 1), .ref (ad 3), .ref (ad 4), .ref (ad 5), .ref (ad 7), .ref (ad 9), .ref (ad 13), .int (nI (s_C S + 1)), .int (nI (s_t S)), .int (nI (s_b S))])) = h9
          have hc10 : h9 (ad 0) = some (.inr (7, [.ref (ad 1), .ref (ad 3), .ref (ad 4), .ref (ad 5), .ref (ad 7), .ref (ad 9), .ref (ad 13), .int (nI (s_C S + 1)), .int (nI (s_t S)), .int (nI (s_b S))])) := by rw [← hhh9]; exact x_up_eq _ _ _
          have hc11 : h9 (ad 3) = some (.inl (g_c G 4, 12, .inr (.inr (.inr (.inr (va_up (lampF (s_C S) (fun i => ad (100 + 4 * i))) (s_C S) (some q))))))) := by rw [← hhh9, x_up_ne (adne hO (by decide : 3 < 14) (by decide : 0 < 14) (by decide))]; exact hc6
          have hc12 : h9 q = some (.inr (0, [.int (nI (s_C S)), .int so, .int up, .int dn, .ref tA, .ref sA, .ref vA, .null, .int 0])) := by rw [← hhh9, x_up_ne (Ne.symm (x_none_ne hq0 hB))]; exact hc8
          have f4 : frO ow [0, 3] h h9 := fun a e ha hn => by
            have n3 : a ≠ ad 3 := fun z => hn (by show ow a ∈ _; rw [z, hO.1 3 (by decide)]; decide)
            have n0 : a ≠ ad 0 := fun z => hn (by show ow a ∈ _; rw [z, hO.1 0 (by decide)]; decide)
            rw [← hhh9, x_up_ne n0, ← hhh5, x_up_ne n3]; exact old2 a e ha
          have hIe := hI
          obtain ⟨-, -, -, -, ef9, hIe, -⟩ := hIe
          have nqt : q ≠ tA := fun z => by rw [← z] at htA; rw [hc2] at htA; cases htA
          have nqs : q ≠ sA := fun z => by rw [← z] at hsA; rw [hc2] at hsA; cases hsA
          have nqv : q ≠ vA := fun z => by rw [← z] at hvA; rw [hc2] at hvA; cases hvA
          obtain ⟨ad', ow', ea, a0, a1, a2, a3, hO'⟩ := oW.cue hO (oX.of hB hR hC hp hl hr hw hI) ⟨_, hIe⟩ hq0 (fn _ htA) (fn _ hsA) (fn _ hvA) nqt nqs nqv nts ntv nsv hR.2.2.1
          have gt4 := (x_up_ne (e := .inr (7, [])) (h := h2) (Ne.symm (x_none_ne (fn _ htA) hB))).trans gt
          replace gt4 : h9 tA = h2 tA := by rw [← hhh9, x_up_ne (Ne.symm (x_none_ne (fn _ htA) hB)), ← hhh5, x_up_ne (Ne.symm (x_none_ne (fn _ htA) hC.1))]
          rw [gt] at gt4
          have gs4 := (x_up_ne (e := .inr (7, [])) (h := h2) (Ne.symm (x_none_ne (fn _ hsA) hB))).trans gs
          replace gs4 : h9 sA = h2 sA := by rw [← hhh9, x_up_ne (Ne.symm (x_none_ne (fn _ hsA) hB)), ← hhh5, x_up_ne (Ne.symm (x_none_ne (fn _ hsA) hC.1))]
          rw [gs] at gs4
          have gv4 := (x_up_ne (e := .inr (7, [])) (h := h2) (Ne.symm (x_none_ne (fn _ hvA) hB))).trans gv
          replace gv4 : h9 vA = h2 vA := by rw [← hhh9, x_up_ne (Ne.symm (x_none_ne (fn _ hvA) hB)), ← hhh5, x_up_ne (Ne.symm (x_none_ne (fn _ hvA) hC.1))]
          rw [gv] at gv4
          have sV : sameL (s_ar S) (set2 (set2 (set2 (set2 (s_ar S) 11 (s_C S) so) 12 (s_C S) up) 13 (s_C S) dn) 15 (s_C S) (-1)) := ⟨by rw [set2_ne (by decide), set2_ne (by decide), set2_ne (by decide), set2_ne (by decide)], by rw [set2_ne (by decide), set2_ne (by decide), set2_ne (by decide), set2_ne (by decide)], by rw [set2_ne (by decide), set2_ne (by decide), set2_ne (by decide), set2_ne (by decide)], by rw [set2_ne (by decide), set2_ne (by decide), set2_ne (by decide), set2_ne (by decide)]⟩
          have hR4 : riW G ad' (set2 (set2 (set2 (set2 (s_ar S) 11 (s_C S) so) 12 (s_C S) up) 13 (s_C S) dn) 15 (s_C S) (-1)) (s_L S) (s_B S) h9 := riW.to ea (riW.same sV (by rw [set2_ne (by decide), set2_ne (by decide), set2_ne (by decide), set2_ne (by decide)]) (by rw [set2_ne (by decide), set2_ne (by decide), set2_ne (by decide), set2_ne (by decide)]) (hR.fr hO f4 (by decide) (by decide) (fun j hj => by intro z; simp at z <;> omega)))
          have hp4 : poW G ad' (set2 (set2 (set2 (set2 (s_ar S) 11 (s_C S) so) 12 (s_C S) up) 13 (s_C S) dn) 15 (s_C S) (-1)) h9 := poW.to ea (poW.same (by rw [set2_ne (by decide), set2_ne (by decide), set2_ne (by decide), set2_ne (by decide)]) (hp.fr hO f4 (by decide)))
          have hl4 := liW.to ea hg.2 (hl.fr hO f4 (by decide) (by decide) (by decide))
          have hw4 := waW.to ea hNC (hw.fr hO f4 (by decide) (by decide) (by decide) (by decide))
          have hr4 : goW G (ad' 7) (ad' 8) A2 P2 c2 h9 := by rw [ea.1 7 (by decide), ea.1 8 (by decide)]; exact hr.fr f4 (hO.1 7 (by decide)) (hO.1 8 (by decide)) hO.2.2.2.2.2 (by decide) (by decide) (by decide)
          have hI4 : hiW G (ad' 13) eA (s_H S) (s_n S) h9 := by rw [ea.1 13 (by decide)]; exact hI.fr hO f4 (by decide) (by decide)
          have hB4 : cB ad' (s_C S + 1) (s_t S) (s_b S) h9 := cB.to ea (show cB ad (s_C S + 1) (s_t S) (s_b S) h9 from hc10)
          have hC4 : cuW G ad' (set2 (set2 (set2 (set2 (s_ar S) 11 (s_C S) so) 12 (s_C S) up) 13 (s_C S) dn) 15 (s_C S) (-1)) (s_L S) (s_B S) (s_C S + 1) h9 := by
            refine ⟨?_, by omega, fun d hd => ?_⟩
            · rw [ea.1 3 (by decide), ← lampF_push (f := fun i => ad (100 + 4 * i)) (g := fun i => ad' (100 + 4 * i)) (fun i hi => ea.2.2 (4 * i) (by omega)) a0]; exact hc11
            · unfold cuE; rw [arrF_same sV]
              by_cases e : d = s_C S
              · subst e; obtain ⟨w1, w2, w3, w4, w5, w6⟩ := cueP_new (ar := s_ar S) (C := s_C S) (so := so) (up := up) (dn := dn)
                unfold cuE0; rw [w1, w2, w3, w4, w5, w6, a0, a1, a2, a3, hz0.told, arrF_zero, hz0.1 _ (Nat.le_refl _)]
                exact ⟨hc12, gt4, gs4, gv4⟩
              · have w9 := cueP_old (ar := s_ar S) (so := so) (up := up) (dn := dn) e
                rw [w9.2.2.2.1]; exact cuE0.same w9 (cuE0.to ea (by omega) hcu hC12 ((hC.2.2 d (by omega)).fr hO f4 (by omega) (by intro y; simp at y <;> omega) (by intro y; simp at y <;> omega) (by intro y; simp at y <;> omega) (by intro y; simp at y <;> omega)))
          refine x_iload hE dX7_cue_96 rfl ?_
          refine x_widen (k := 4) (n := 57) (Nat.le_of_ble_eq_true rfl) (Nat.le_of_ble_eq_true rfl) ?_
          exact y_ret (x_iret hE dX7_cue_98 (⟨by unfold fCue; rw [if_pos ⟨q1, q2, q3⟩, if_neg (by omega)], rfl, ad', ow', ea.1 0 (by decide), ⟨hB4, hR4, hC4, hp4, hl4, hr4, hw4, hI4, hO'⟩⟩))
        · replace c48 := x_nInlt c48 (by omega) (by omega)
          exact y_IS hE hT hX (List.mem_of_getElem? (i := 5) rfl) (List.mem_of_getElem? (i := 3) rfl) (List.mem_of_getElem? (i := 4) rfl) (fun w hw => List.mem_cons_of_mem _ (List.mem_append_right _ hw)) rfl dX7_cue_51 dX7_cue_54 dX7_cue_55 dX7_cue_57 dX7_cue_60 (Nat.le_of_ble_eq_true rfl) (Nat.le_of_ble_eq_true rfl) ⟨by decide, by decide⟩ ⟨by decide, by decide⟩ (Or.inr ⟨by unfold fCue; rw [if_pos ⟨q1, q2, q3⟩, if_pos (by omega)], rfl⟩)
      · exact y_IA hE hT hX (List.mem_of_getElem? (i := 4) rfl) (List.mem_of_getElem? (i := 1) rfl) (List.mem_of_getElem? (i := 2) rfl) (fun w hw => List.mem_cons_of_mem _ (List.mem_append_left _ (List.mem_append_right _ hw))) rfl dX7_cue_29 dX7_cue_32 dX7_cue_33 dX7_cue_35 dX7_cue_38 (Nat.le_of_ble_eq_true rfl) (Nat.le_of_ble_eq_true rfl) ⟨by decide, by decide⟩ ⟨by decide, by decide⟩ (Or.inl ⟨by unfold fCue; rw [if_neg (by rw [show inI dn 0 60 = false from b2i_0.mp c26]; simp)], rfl⟩)
