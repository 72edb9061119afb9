def lampR (ar : Nat → Nat → Int32) (L : Nat) (b p g w ph : Int32) : Nat → Nat → Int32 := set2 (set2 (set2 (set2 (set2 ar 2 L b) 3 L p) 4 L g) 5 L w) 6 L ph
theorem lampR_hi {ar : Nat → Nat → Int32} {L r : Nat} {b p g w ph : Int32} (h : 7 ≤ r) : lampR ar L b p g w ph r = ar r := by
  unfold lampR
  rw [set2_ne (by omega), set2_ne (by omega), set2_ne (by omega), set2_ne (by omega), set2_ne (by omega)]
theorem set2_nei {ar : Nat → Nat → Int32} {r i j k : Nat} {x : Int32} (h : j ≠ i) : set2 ar r i x k j = ar k j := by
  by_cases c : k = r
  · subst c; rw [set2_at, upd_ne h]
  · rw [set2_ne c]
theorem lampR_ne {ar : Nat → Nat → Int32} {L i k : Nat} {b p g w ph : Int32} (h : i ≠ L) : lampR ar L b p g w ph k i = ar k i := by
  unfold lampR
  rw [set2_nei h, set2_nei h, set2_nei h, set2_nei h, set2_nei h]
theorem lampR_at {ar : Nat → Nat → Int32} {L : Nat} {b p g w ph : Int32} : lampR ar L b p g w ph 2 L = b ∧ lampR ar L b p g w ph 3 L = p ∧ lampR ar L b p g w ph 4 L = g ∧ lampR ar L b p g w ph 5 L = w ∧ lampR ar L b p g w ph 6 L = ph := by
  unfold lampR
  refine ⟨?_, ?_, ?_, ?_, ?_⟩
  · rw [set2_ne (by decide), set2_ne (by decide), set2_ne (by decide), set2_ne (by decide), set2_at, upd_at]
  · rw [set2_ne (by decide), set2_ne (by decide), set2_ne (by decide), set2_at, upd_at]
  · rw [set2_ne (by decide), set2_ne (by decide), set2_at, upd_at]
  · rw [set2_ne (by decide), set2_at, upd_at]
  · rw [set2_at, upd_at]
def fHang (S : PS) (b p g w ph : Int32) : Nat := if inI b 0 3 = true ∧ inI p 0 9 = true ∧ glI g = true ∧ inI w 100 2000 = true ∧ inI ph 0 2 = true then (if s_L S = 16 then 2 else 0) else 1
def hangP (b p g w ph : Int32) (S : PS) : PS := (lampR (s_ar S) (s_L S) b p g w ph, s_L S + 1, s_B S, s_C S, s_t S, s_b S, s_G S, s_N S, s_H S, s_n S)
set_option maxHeartbeats 4000000 in
set_option maxRecDepth 100000 in
theorem c_X7_lamp (G : XG) {ad ow : Nat → Nat} {eA : Nat} {A1 P1 : List Nat} {c1 : Nat → GC} {A2 P2 : List Nat} {c2 : Nat → GC} {RY : List Nat} {S : PS} {h : HM} (hW : cW G ad ow eA A1 P1 c1 A2 P2 c2 RY S h) (hg : gI (s_C S) (s_G S)) (hcu : cuI (s_ar S) (s_C S)) (hNC : ∀ x, x ∈ s_N S → x.1 < s_C S) (hz0 : zI (s_ar S) (s_L S) (s_C S)) (b p g wa ph : Int32) : y_M G yX7_lamp wsX7_lamp ({ frames := 6, cells := 1, slots := 6, locals := 115 } : Room) [.ref (ad 0), .int b, .int p, .int g, .int wa, .int ph] h (fun v h' => fHang S b p g wa ph = 0 ∧ v = some (.int (nI (s_L S))) ∧ ∃ ad' ow' : Nat → Nat, ad' 0 = ad 0 ∧ cW G ad' ow' eA A1 P1 c1 A2 P2 c2 RY (hangP b p g wa ph S) h') (fun E => (fHang S b p g wa ph = 1 ∧ E = xIA) ∨ (fHang S b p g wa ph = 2 ∧ E = xIS)) 1 6 := by
  refine y_M.of (cc := cX7_lamp) (maxL := 7) (ret := (some .int)) (ent := [some (.ref (ad 0)), some (.int b), some (.int p), some (.int g), some (.int wa), some (.int ph), none]) (by decide +kernel) rfl (Nat.le_of_ble_eq_true rfl) rfl rfl ?_
  intro F hE hname hT hX
  have hinX4 : ∀ w ∈ wsX40, w ∈ wsX7_lamp := by decide +kernel
  have hinX7 : ∀ w ∈ wsX70, w ∈ wsX7_lamp := by decide +kernel
  have hW0 := hW
  obtain ⟨hB, hR, hC, hp, hl, hr, hw, hI, hO⟩ := hW0
  refine x_iload_n hE dX7_lamp_0 rfl ?_
  refine x_iconst (v := nI 0) hE dX7_lamp_1 (by decide) ?_
  refine x_iconst (v := nI 3) hE dX7_lamp_2 (by decide) ?_
  refine x_callS (st := []) hE 3 (c_X7_isWithin G b (nI 0) (nI 3)) gX7_lamp_X7_isWithin rfl rfl rfl (by decide +kernel) ⟨Nat.le_of_ble_eq_true rfl, Nat.le_of_ble_eq_true rfl⟩ rfl rfl dX7_lamp_3 rfl (Nat.le_of_ble_eq_true rfl) ⟨Nat.le_of_ble_eq_true rfl, Nat.le_of_ble_eq_true rfl⟩ (fun v h9 hp => ?_)
  obtain ⟨rfl, rfl⟩ := hp
  refine x_if_eq (tgt := 47) hE dX7_lamp_6 (by decide) (fun c6 => ?_) (fun c6 => ?_)
  · exact y_IA hE hT hX (List.mem_of_getElem? (i := 14) rfl) (List.mem_of_getElem? (i := 1) rfl) (List.mem_of_getElem? (i := 2) rfl) (fun w hw => List.mem_cons_of_mem _ (List.mem_append_left _ (List.mem_append_right _ hw))) rfl dX7_lamp_47 dX7_lamp_50 dX7_lamp_51 dX7_lamp_53 dX7_lamp_56 (Nat.le_of_ble_eq_true rfl) (Nat.le_of_ble_eq_true rfl) ⟨by decide, by decide⟩ ⟨by decide, by decide⟩ (Or.inl ⟨by unfold fHang; rw [if_neg (by rw [show inI b 0 3 = false from b2i_0.mp c6]; simp)], rfl⟩)
  · have q1 : inI b 0 3 = true := b2i_n0.mp c6
    refine x_iload_n hE dX7_lamp_9 rfl ?_
    refine x_iconst (v := nI 0) hE dX7_lamp_10 (by decide) ?_
    refine x_bipush (v := nI 9) hE dX7_lamp_11 (by decide) ?_
    refine x_callS (st := []) hE 3 (c_X7_isWithin G p (nI 0) (nI 9)) gX7_lamp_X7_isWithin rfl rfl rfl (by decide +kernel) ⟨Nat.le_of_ble_eq_true rfl, Nat.le_of_ble_eq_true rfl⟩ rfl rfl dX7_lamp_13 rfl (Nat.le_of_ble_eq_true rfl) ⟨Nat.le_of_ble_eq_true rfl, Nat.le_of_ble_eq_true rfl⟩ (fun v h9 hp => ?_)
    obtain ⟨rfl, rfl⟩ := hp
    refine x_if_eq (tgt := 47) hE dX7_lamp_16 (by decide) (fun c16 => ?_) (fun c16 => ?_)
    · exact y_IA hE hT hX (List.mem_of_getElem? (i := 14) rfl) (List.mem_of_getElem? (i := 1) rfl) (List.mem_of_getElem? (i := 2) rfl) (fun w hw => List.mem_cons_of_mem _ (List.mem_append_left _ (List.mem_append_right _ hw))) rfl dX7_lamp_47 dX7_lamp_50 dX7_lamp_51 dX7_lamp_53 dX7_lamp_56 (Nat.le_of_ble_eq_true rfl) (Nat.le_of_ble_eq_true rfl) ⟨by decide, by decide⟩ ⟨by decide, by decide⟩ (Or.inl ⟨by unfold fHang; rw [if_neg (by rw [show inI p 0 9 = false from b2i_0.mp c16]; simp)], rfl⟩)
    · have q2 : inI p 0 9 = true := b2i_n0.mp c16
      refine x_iload_n hE dX7_lamp_19 rfl ?_
      refine x_callS (st := []) hE 1 (c_X7_isGel G g) gX7_lamp_X7_isGel rfl rfl rfl (by decide +kernel) ⟨Nat.le_of_ble_eq_true rfl, Nat.le_of_ble_eq_true rfl⟩ rfl rfl dX7_lamp_20 rfl (Nat.le_of_ble_eq_true rfl) ⟨Nat.le_of_ble_eq_true rfl, Nat.le_of_ble_eq_true rfl⟩ (fun v h9 hp => ?_)
      obtain ⟨rfl, rfl⟩ := hp
      refine x_if_eq (tgt := 47) hE dX7_lamp_23 (by decide) (fun c23 => ?_) (fun c23 => ?_)
      · exact y_IA hE hT hX (List.mem_of_getElem? (i := 14) rfl) (List.mem_of_getElem? (i := 1) rfl) (List.mem_of_getElem? (i := 2) rfl) (fun w hw => List.mem_cons_of_mem _ (List.mem_append_left _ (List.mem_append_right _ hw))) rfl dX7_lamp_47 dX7_lamp_50 dX7_lamp_51 dX7_lamp_53 dX7_lamp_56 (Nat.le_of_ble_eq_true rfl) (Nat.le_of_ble_eq_true rfl) ⟨by decide, by decide⟩ ⟨by decide, by decide⟩ (Or.inl ⟨by unfold fHang; rw [if_neg (by rw [show glI g = false from b2i_0.mp c23]; simp)], rfl⟩)
      · have q3 : glI g = true := b2i_n0.mp c23
        refine x_iload hE dX7_lamp_26 rfl ?_
        refine x_bipush (v := nI 100) hE dX7_lamp_28 (by decide) ?_
        refine x_sipush (v := nI 2000) hE dX7_lamp_30 (by decide) ?_
        refine x_callS (st := []) hE 3 (c_X7_isWithin G wa (nI 100) (nI 2000)) gX7_lamp_X7_isWithin rfl rfl rfl (by decide +kernel) ⟨Nat.le_of_ble_eq_true rfl, Nat.le_of_ble_eq_true rfl⟩ rfl rfl dX7_lamp_33 rfl (Nat.le_of_ble_eq_true rfl) ⟨Nat.le_of_ble_eq_true rfl, Nat.le_of_ble_eq_true rfl⟩ (fun v h9 hp => ?_)
        obtain ⟨rfl, rfl⟩ := hp
        refine x_if_eq (tgt := 47) hE dX7_lamp_36 (by decide) (fun c36 => ?_) (fun c36 => ?_)
        · exact y_IA hE hT hX (List.mem_of_getElem? (i := 14) rfl) (List.mem_of_getElem? (i := 1) rfl) (List.mem_of_getElem? (i := 2) rfl) (fun w hw => List.mem_cons_of_mem _ (List.mem_append_left _ (List.mem_append_right _ hw))) rfl dX7_lamp_47 dX7_lamp_50 dX7_lamp_51 dX7_lamp_53 dX7_lamp_56 (Nat.le_of_ble_eq_true rfl) (Nat.le_of_ble_eq_true rfl) ⟨by decide, by decide⟩ ⟨by decide, by decide⟩ (Or.inl ⟨by unfold fHang; rw [if_neg (by rw [show inI wa 100 2000 = false from b2i_0.mp c36]; simp)], rfl⟩)
        · have q4 : inI wa 100 2000 = true := b2i_n0.mp c36
          refine x_iload hE dX7_lamp_39 rfl ?_
          refine x_callS (st := []) hE 1 (c_X7_isPhase G ph) gX7_lamp_X7_isPhase rfl rfl rfl (by decide +kernel) ⟨Nat.le_of_ble_eq_true rfl, Nat.le_of_ble_eq_true rfl⟩ rfl rfl dX7_lamp_41 rfl (Nat.le_of_ble_eq_true rfl) ⟨Nat.le_of_ble_eq_true rfl, Nat.le_of_ble_eq_true rfl⟩ (fun v h9 hp => ?_)
          obtain ⟨rfl, rfl⟩ := hp
          refine x_if_ne (tgt := 57) hE dX7_lamp_44 (by decide) (fun c44 => ?_) (fun c44 => ?_)
          · have q5 : inI ph 0 2 = true := b2i_n0.mp c44
            have hL16 := hR.2.2.1
            refine x_aload_n hE dX7_lamp_57 rfl rfl ?_
            refine x_get hE hinX7 hB rfl 0 (by decide) (List.mem_of_getElem? (i := 5) rfl) rfl dX7_lamp_58 ?_
            refine x_callV (ci := 5) (st := []) hE 0 (c_X5_isFull G hR.1 hR.2.1) gX7_lamp_X5_isFull rfl rfl rfl (by decide +kernel) ⟨Nat.le_of_ble_eq_true rfl, Nat.le_of_ble_eq_true rfl⟩ hR.1 rfl rfl rfl dX7_lamp_61 rfl (Nat.le_of_ble_eq_true rfl) ⟨Nat.le_of_ble_eq_true rfl, Nat.le_of_ble_eq_true rfl⟩ (fun v h9 hp => ?_)
            obtain ⟨rfl, rfl⟩ := hp
            refine x_if_eq (tgt := 77) hE dX7_lamp_64 (by decide) (fun c64 => ?_) (fun c64 => ?_)
            · have c64b : s_L S < 16 := Nat.lt_of_not_le (fun z => by have := b2i_0.mp c64; rw [decide_eq_true (nI_le z (by omega))] at this; cases this)
              refine x_aload_n hE dX7_lamp_77 rfl rfl ?_
              refine x_get hE hinX7 hB rfl 0 (by decide) (List.mem_of_getElem? (i := 5) rfl) rfl dX7_lamp_78 ?_
              refine x_new (ci := 4) (fs := [.int 0, .int 0, .int 0, .int 0, .int 0, .int 0]) hE hinX4 tyX4 tyX4_ok (List.mem_of_getElem? (i := 6) rfl) (List.mem_of_getElem? (i := 7) rfl) (List.mem_of_getElem? (i := 8) rfl) rfl (fun j hj => by rcases (show j = 0 ∨ j = 1 ∨ j = 2 ∨ j = 3 ∨ j = 4 ∨ j = 5 by omega) with rfl | rfl | rfl | rfl | rfl | rfl <;> rfl) (Nat.le_of_ble_eq_true rfl) (Nat.le_of_ble_eq_true rfl) dX7_lamp_81 (fun q hq0 => ?_)
              generalize hhh1 : x_up h q (.inr (4, [.int 0, .int 0, .int 0, .int 0, .int 0, .int 0])) = h1
              have hc2 : h1 q = some (.inr (4, [.int 0, .int 0, .int 0, .int 0, .int 0, .int 0])) := by rw [← hhh1]; exact x_up_eq _ _ _
              have hc3 : h1 (ad 0) = some (.inr (7, [.ref (ad 1), .ref (ad 3), .ref (ad 4), .ref (ad 5), .ref (ad 7), .ref (ad 9), .ref (ad 13), .int (nI (s_C S)), .int (nI (s_t S)), .int (nI (s_b S))])) := by rw [← hhh1, x_up_ne (x_none_ne hq0 hB)]; exact hB
              have hc4 : h1 (ad 1) = some (.inr (5, [.ref (ad 2), .int (nI (s_L S)), .int (s_B S)])) := by rw [← hhh1, x_up_ne (x_none_ne hq0 hR.1)]; exact hR.1
              have hc5 : h1 (ad 2) = some (.inl (g_c G 3, 16, .inr (.inr (.inr (.inr (lampF (s_L S) (fun i => ad (20 + i)))))))) := by rw [← hhh1, x_up_ne (x_none_ne hq0 hR.2.1)]; exact hR.2.1
              refine x_dup hE dX7_lamp_84 rfl ?_
              refine x_iload_n hE dX7_lamp_85 rfl ?_
              refine x_iload_n hE dX7_lamp_86 rfl ?_
              refine x_iload_n hE dX7_lamp_87 rfl ?_
              refine x_iload hE dX7_lamp_88 rfl ?_
              refine x_iload hE dX7_lamp_90 rfl ?_
              refine x_callI (st := [.ref q, .ref (ad 1)]) hE 5 (c_X4_init G hc2) gX7_lamp_X4_init rfl rfl rfl (List.mem_of_getElem? (i := 8) rfl) (List.mem_of_getElem? (i := 26) rfl) (List.mem_of_getElem? (i := 27) rfl) rfl (by decide +kernel) ⟨Nat.le_of_ble_eq_true rfl, Nat.le_of_ble_eq_true rfl⟩ rfl rfl dX7_lamp_92 rfl (Nat.le_of_ble_eq_true rfl) ⟨Nat.le_of_ble_eq_true rfl, Nat.le_of_ble_eq_true rfl⟩ (fun v h9 hp => ?_)
              obtain ⟨rfl, rfl⟩ := hp
              generalize hh2 : x_up h1 q (.inr (4, [.int b, .int p, .int g, .int wa, .int ph, .int 0])) = h2
              have old2 : ∀ (a : Nat) (e : va_E), h a = some e → h2 a = some e := fun a e ha => by rw [← hh2, x_up_ne (x_none_ne hq0 ha), ← hhh1, x_up_ne (x_none_ne hq0 ha)]; exact ha
              have gq : h2 q = some (.inr (4, [.int b, .int p, .int g, .int wa, .int ph, .int 0])) := by rw [← hh2]; exact x_up_eq _ _ _
              refine x_callV (ci := 5) (st := []) hE 1 (c_X5_hang G (old2 _ _ hR.1) (old2 _ _ hR.2.1) gq c64b) gX7_lamp_X5_hang rfl rfl rfl (by decide +kernel) ⟨Nat.le_of_ble_eq_true rfl, Nat.le_of_ble_eq_true rfl⟩ (old2 _ _ hR.1) rfl rfl rfl dX7_lamp_95 rfl (Nat.le_of_ble_eq_true rfl) ⟨Nat.le_of_ble_eq_true rfl, Nat.le_of_ble_eq_true rfl⟩ (fun v h9 hp => ?_)
              obtain ⟨rfl, rfl⟩ := hp
              generalize hh3 : x_up (x_up h2 (ad 2) (.inl (g_c G 3, 16, .inr (.inr (.inr (.inr (va_up (lampF (s_L S) (fun i => ad (20 + i))) (s_L S) (some q)))))))) (ad 1) (.inr (5, [.ref (ad 2), .int (nI (s_L S + 1)), .int (s_B S)])) = h3
              have f3 : frO ow [1, 2] h h3 := fun a e ha hn => by
                have n1 : a ≠ ad 1 := fun z => hn (by show ow a ∈ _; rw [z, hO.1 1 (by decide)]; decide)
                have n2 : a ≠ ad 2 := fun z => hn (by show ow a ∈ _; rw [z, hO.1 2 (by decide)]; decide)
                rw [← hh3, x_up_ne n1, x_up_ne n2]; exact old2 a e ha
              have hIe := hI
              obtain ⟨-, -, -, -, ef9, hIe, -⟩ := hIe
              obtain ⟨ad', ow', ea, a0, hO'⟩ := oW.lamp hO (oX.of hB hR hC hp hl hr hw hI) ⟨_, hIe⟩ hq0 c64b
              have n12 : ad 2 ≠ ad 1 := adne hO (by decide) (by decide) (by decide)
              have hR3 : riW G ad' (lampR (s_ar S) (s_L S) b p g wa ph) (s_L S + 1) (s_B S) h3 := by
                refine ⟨by rw [ea.1 1 (by decide), ea.1 2 (by decide), ← hh3]; exact x_up_eq _ _ _, ?_, by omega, fun d hd => ?_⟩
                · rw [ea.1 2 (by decide), ← hh3, x_up_ne n12, x_up_eq, lampF_push (g := fun i => ad' (20 + i)) (fun i hi => ea.2.1 i hi) a0]
                · show h3 (ad' (20 + d)) = _
                  by_cases e : d = s_L S
                  · subst e; obtain ⟨w1, w2, w3, w4, w5⟩ := lampR_at (ar := s_ar S) (L := s_L S) (b := b) (p := p) (g := g) (w := wa) (ph := ph)
                    unfold lampE; rw [w1, w2, w3, w4, w5, lampR_hi (by decide), hz0.2.2 _ (Nat.le_refl _), a0, ← hh3, x_up_ne (Ne.symm (x_none_ne hq0 hR.1)), x_up_ne (Ne.symm (x_none_ne hq0 hR.2.1))]; exact gq
                  · unfold lampE; rw [lampR_ne e, lampR_ne e, lampR_ne e, lampR_ne e, lampR_ne e, lampR_ne e, ea.2.1 d (by omega)]; exact f3 _ _ (hR.2.2.2 d (by omega)) (by show ow (ad (20 + d)) ∉ _; rw [hO.2.1 d (by omega)]; intro y; simp at y <;> omega)
              have hp3 : poW G ad' (lampR (s_ar S) (s_L S) b p g wa ph) h3 := poW.to ea (poW.same (lampR_hi (by decide)) (hp.fr hO f3 (by decide)))
              have hl3 := liW.to ea hg.2 (hl.fr hO f3 (by decide) (by decide) (by decide))
              have hw3 := waW.to ea hNC (hw.fr hO f3 (by decide) (by decide) (by decide) (by decide))
              have hr3 : goW G (ad' 7) (ad' 8) A2 P2 c2 h3 := by rw [ea.1 7 (by decide), ea.1 8 (by decide)]; exact hr.fr f3 (hO.1 7 (by decide)) (hO.1 8 (by decide)) hO.2.2.2.2.2 (by decide) (by decide) (by decide)
              have hI3 : hiW G (ad' 13) eA (s_H S) (s_n S) h3 := by rw [ea.1 13 (by decide)]; exact hI.fr hO f3 (by decide) (by decide)
              have hB3 : cB ad' (s_C S) (s_t S) (s_b S) h3 := cB.to ea (hB.fr hO f3 (by decide))
              have hCa : cuW G ad' (s_ar S) (s_L S) (s_B S) (s_C S) h3 := cuW.to ea hcu (hC.fr hO f3 (by decide) (fun j hj => by intro y; simp at y <;> omega))
              have e0 : ad' 0 = ad 0 := ea.1 0 (by decide)
              rw [← e0]
              refine x_istore (L' := [some (.ref (ad' 0)), some (.int b), some (.int p), some (.int g), some (.int wa), some (.int ph), some (.int (nI (s_L S)))]) hE dX7_lamp_98 (Nat.le_of_ble_eq_true rfl) rfl ?_
              refine x_aload_n hE dX7_lamp_100 rfl rfl ?_
              refine x_callV (ci := 7) (st := []) hE 0 (c_X7_arrangeCues G (ar := (lampR (s_ar S) (s_L S) b p g wa ph)) (L := s_L S + 1) (B := s_B S) hB3 hCa.1 hO' hR3 hC.2.1 (fun j hj => ⟨_, _, cuE0.same ⟨by rw [lampR_hi (by decide)], by rw [lampR_hi (by decide)], by rw [lampR_hi (by decide)], by unfold toldF; rw [lampR_hi (by decide)], by rw [lampR_hi (by decide)], by rw [lampR_hi (by decide)]⟩ (hCa.2.2 j hj)⟩)) gX7_lamp_X7_arrangeCues rfl rfl rfl (by decide +kernel) ⟨Nat.le_of_ble_eq_true rfl, Nat.le_of_ble_eq_true rfl⟩ hB3 rfl rfl rfl dX7_lamp_101 rfl (Nat.le_of_ble_eq_true rfl) ⟨Nat.le_of_ble_eq_true rfl, Nat.le_of_ble_eq_true rfl⟩ (fun v h4 hp => ?_)
              obtain ⟨rfl, hC4, fa⟩ := hp
              have hB4 := hB3.fr hO' fa (lA_lo (by decide))
              have hR4 := hR3.fr hO' fa (lA_lo (by decide)) (lA_lo (by decide)) (fun i hi => lA_lo (by have := hR3.2.2.1; omega))
              have hp4 := hp3.fr hO' fa (lA_lo (by decide))
              have hl4 := hl3.fr hO' fa (lA_lo (by decide)) (lA_lo (by decide)) (lA_lo (by decide))
              have hr4 := hr3.fr fa (hO'.1 7 (by decide)) (hO'.1 8 (by decide)) hO'.2.2.2.2.2 (lA_lo (by decide)) (lA_lo (by decide)) (lA_lo (by decide))
              have hw4 := hw3.fr hO' fa (lA_lo (by decide)) (lA_lo (by decide)) (lA_lo (by decide)) (lA_lo (by decide))
              have hI4 := hI3.fr hO' fa (lA_lo (by decide)) (lA_lo (by decide))
              refine x_iload hE dX7_lamp_104 rfl ?_
              refine x_widen (k := 1) (n := 6) (Nat.le_of_ble_eq_true rfl) (Nat.le_of_ble_eq_true rfl) ?_
              exact y_ret (x_iret hE dX7_lamp_106 (⟨by unfold fHang; rw [if_pos ⟨q1, q2, q3, q4, q5⟩, if_neg (by omega)], rfl, ad', ow', rfl, ⟨hB4, hR4, hC4, hp4, hl4, hr4, hw4, hI4, hO'⟩⟩))
            · have c64b := x_nIle (of_decide_eq_true (b2i_n0.mp c64)) (by omega) (by omega)
              exact y_IS hE hT hX (List.mem_of_getElem? (i := 15) rfl) (List.mem_of_getElem? (i := 3) rfl) (List.mem_of_getElem? (i := 4) rfl) (fun w hw => List.mem_cons_of_mem _ (List.mem_append_right _ hw)) rfl dX7_lamp_67 dX7_lamp_70 dX7_lamp_71 dX7_lamp_73 dX7_lamp_76 (Nat.le_of_ble_eq_true rfl) (Nat.le_of_ble_eq_true rfl) ⟨by decide, by decide⟩ ⟨by decide, by decide⟩ (Or.inr ⟨by unfold fHang; rw [if_pos ⟨q1, q2, q3, q4, q5⟩, if_pos (by omega)], rfl⟩)
          · exact y_IA hE hT hX (List.mem_of_getElem? (i := 14) rfl) (List.mem_of_getElem? (i := 1) rfl) (List.mem_of_getElem? (i := 2) rfl) (fun w hw => List.mem_cons_of_mem _ (List.mem_append_left _ (List.mem_append_right _ hw))) rfl dX7_lamp_47 dX7_lamp_50 dX7_lamp_51 dX7_lamp_53 dX7_lamp_56 (Nat.le_of_ble_eq_true rfl) (Nat.le_of_ble_eq_true rfl) ⟨by decide, by decide⟩ ⟨by decide, by decide⟩ (Or.inl ⟨by unfold fHang; rw [if_neg (by rw [show inI ph 0 2 = false from b2i_0.mp c44]; simp)], rfl⟩)
