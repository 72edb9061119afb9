def fRel (S : PS) (c : Int32) : Nat := if isN c (s_C S) = true then (match goF (s_G S) c.toNatClampNeg with
  | none => 2
  | some g => if relI g.2.2 = -1 then 0 else 2) else 1
def relP (k : Nat) (S : PS) : PS := (s_ar S, s_L S, s_B S, s_C S, s_t S, s_b S, (fallG k (s_t S) (s_G S)).filter (fun g => !ovP (s_ar S) (s_t S) g), s_N S, s_H S ++ [entF (nI (s_t S)) (nI k) (nI 1)], grw (s_n S) (s_H S).length)
def relS (c : Int32) (S : PS) : PS := if fRel S c = 0 then relP c.toNatClampNeg S else S
theorem gI.filter {C : Nat} {GL : List GG} (h : gI C GL) (p : GG → Bool) : gI C (GL.filter p) := ⟨by
  have : ((GL.filter p).map Prod.fst).Sublist (GL.map Prod.fst) := List.Sublist.map _ List.filter_sublist
  exact h.1.sublist this, fun g hg => h.2 g (List.mem_filter.mp hg).1⟩
theorem some_b2i {b : Bool} {x : Int32} (h : x = b2i b) : some (Value.int x) = some (Value.int (b2i b)) := by rw [h]
set_option maxHeartbeats 4000000 in
set_option maxRecDepth 100000 in
theorem c_X7_release (G : XG) {ad ow : Nat → Nat} {eA : Nat} {A1 P1 : List Nat} {c1 : Nat → GC} {A2 P2 : List Nat} {c2 : Nat → GC} {RY : List Nat} {S : PS} {h : HM} (hW : cW G ad ow eA A1 P1 c1 A2 P2 c2 RY S h) (hg : gI (s_C S) (s_G S)) (hlen : (s_H S).length < 122880) (hcap : capP (s_n S)) (c : Int32) : y_M G yX7_release wsX7_release ({ frames := 6, cells := s_n (relS c S) - s_n S + 1, slots := 3 * (s_n (relS c S) - s_n S) + 6, locals := 90 } : Room) [.ref (ad 0), .int c] h (fun v h' => fRel S c = 0 ∧ v = some (.int (b2i (goF (s_G (relS c S)) c.toNatClampNeg).isSome)) ∧ ∃ (ow' : Nat → Nat) (eA' : Nat) (A1' P1' : List Nat) (c1' : Nat → GC), cW G ad ow' eA' A1' P1' c1' A2 P2 c2 RY (relS c S) h') (fun E => (fRel S c = 1 ∧ E = xIO) ∨ (fRel S c = 2 ∧ E = xIS)) (s_n (relS c S) - s_n S + 1) (3 * (s_n (relS c S) - s_n S) + 6) := by
  refine y_M.of (cc := cX7_release) (maxL := 4) (ret := (some .boolean)) (ent := [some (.ref (ad 0)), some (.int c), none, none]) (by decide +kernel) rfl (Nat.le_of_ble_eq_true rfl) rfl rfl ?_
  intro F hE hname hT hX
  have hinX0 : ∀ w ∈ wsX00, w ∈ wsX7_release := by decide +kernel
  have hinX1 : ∀ w ∈ wsX10, w ∈ wsX7_release := by decide +kernel
  have hinX7 : ∀ w ∈ wsX70, w ∈ wsX7_release := by decide +kernel
  have hW0 := hW
  obtain ⟨hB, hR, hC, hp, hl, hr, hw, hI, hO⟩ := hW0
  refine x_aload_n hE dX7_release_0 rfl rfl ?_
  refine x_iload_n hE dX7_release_1 rfl ?_
  refine x_callV (ci := 7) (st := []) hE 1 (c_X7_cueAt G hB hC.1 c) gX7_release_X7_cueAt rfl rfl rfl (by decide +kernel) ⟨Nat.le_of_ble_eq_true rfl, Nat.le_of_ble_eq_true rfl⟩ hB rfl rfl rfl dX7_release_2 rfl (Nat.le_of_ble_eq_true rfl) ⟨by dsimp only; omega, by dsimp only; omega⟩ (fun v h9 hp => ?_)
  obtain ⟨rfl, rfl⟩ := hp
  rcases sel_n (x := c) (f := fun i => ad (100 + 4 * i)) hC.2.1 (by decide : 12 < 2 ^ 31) with ⟨hq, k, hk1, hk, hz⟩ | ⟨hq, hz⟩
  · have hC12 := hC.2.1
    have ek : (nI k).toNatClampNeg = k := nI_clamp (by omega)
    subst hk
    refine x_qref (q := (ad (100 + 4 * k))) (hz) ?_
    refine x_astore_n (L' := [some (.ref (ad 0)), some (.int (nI k)), some (.ref (ad (100 + 4 * k))), none]) hE dX7_release_5 rfl (Nat.le_of_ble_eq_true rfl) rfl rfl ?_
    refine x_aload_n hE dX7_release_6 rfl rfl ?_
    refine x_ifnonnull (tgt := 20) hE dX7_release_7 (by decide) ?_
    refine x_aload_n hE dX7_release_20 rfl rfl ?_
    refine x_get hE hinX7 hB rfl 3 (by decide) (List.mem_of_getElem? (i := 5) rfl) rfl dX7_release_21 ?_
    refine x_aload_n hE dX7_release_24 rfl rfl ?_
    refine x_callV (ci := 2) (st := []) hE 1 (c_X2_goingOf G hl.1) gX7_release_X2_goingOf rfl rfl rfl (by decide +kernel) ⟨Nat.le_of_ble_eq_true rfl, Nat.le_of_ble_eq_true rfl⟩ hl.1.1 rfl rfl rfl dX7_release_25 rfl (Nat.le_of_ble_eq_true rfl) ⟨by dsimp only; omega, by dsimp only; omega⟩ (fun v h9 hp => ?_)
    obtain ⟨⟨go, rfl, hgo⟩, rfl⟩ := hp
    have hgr := goR_is hO hl.2 hg hk1 hgo
    rcases hgr with ⟨hgo1, hgo2⟩ | ⟨kk, y, g, hy, hgm, hyg, hgc, hgo1, hgo2⟩
    · subst hgo1
      refine x_astore_n (L' := [some (.ref (ad 0)), some (.int (nI k)), some (.ref (ad (100 + 4 * k))), some (.null)]) hE dX7_release_28 rfl (Nat.le_of_ble_eq_true rfl) rfl rfl ?_
      refine x_aload_n hE dX7_release_29 rfl rfl ?_
      refine x_ifnullN (tgt := 40) hE dX7_release_30 (by decide) ?_
      exact y_IS hE hT hX (List.mem_of_getElem? (i := 11) rfl) (List.mem_of_getElem? (i := 3) rfl) (List.mem_of_getElem? (i := 4) rfl) (fun w hw => List.mem_cons_of_mem _ (List.mem_append_right _ hw)) rfl dX7_release_40 dX7_release_43 dX7_release_44 dX7_release_46 dX7_release_49 (Nat.le_of_ble_eq_true rfl) (Nat.le_of_ble_eq_true rfl) ⟨by dsimp only; omega, by dsimp only; omega⟩ ⟨by omega, by omega⟩ (Or.inr ⟨by unfold fRel; rw [if_pos hq, ek, hgo2], rfl⟩)
    · subst hgo1
      refine x_qref (q := y) (rfl) ?_
      have hyc : h y = some (.inr (1, [.ref (ad (100 + 4 * k)), .int (nI g.2.1), .int (relI g.2.2)])) := by have z := hl.1.at hy; rw [hyg] at z; rw [← hgc]; exact z
      refine x_astore_n (L' := [some (.ref (ad 0)), some (.int (nI k)), some (.ref (ad (100 + 4 * k))), some (.ref y)]) hE dX7_release_28 rfl (Nat.le_of_ble_eq_true rfl) rfl rfl ?_
      refine x_aload_n hE dX7_release_29 rfl rfl ?_
      refine x_ifnull hE dX7_release_30 ?_
      refine x_aload_n hE dX7_release_33 rfl rfl ?_
      refine x_callV (ci := 1) (st := []) hE 0 (c_X1_isReleased G (cu := some (ad (100 + 4 * k))) hyc) gX7_release_X1_isReleased rfl rfl rfl (by decide +kernel) ⟨Nat.le_of_ble_eq_true rfl, Nat.le_of_ble_eq_true rfl⟩ hyc rfl rfl rfl dX7_release_34 rfl (Nat.le_of_ble_eq_true rfl) ⟨by dsimp only; omega, by dsimp only; omega⟩ (fun v h9 hp => ?_)
      obtain ⟨rfl, rfl⟩ := hp
      refine x_if_eq (tgt := 50) hE dX7_release_37 (by decide) (fun c37 => ?_) (fun c37 => ?_)
      · have hre : relI g.2.2 = -1 := by have := b2i_0.mp c37; simpa using this
        have ef : fRel S (nI k) = 0 := by unfold fRel; rw [if_pos hq, ek, hgo2]; exact if_pos hre
        have es : relS (nI k) S = relP k S := by unfold relS; rw [if_pos ef, ek]
        rw [es] at hE ⊢
        rw [ek]
        have hNn : s_n (relP k S) = grw (s_n S) (s_H S).length := rfl
        have hyA := List.mem_append_left P1 (List.mem_of_getElem? hy)
        refine x_aload_n hE dX7_release_50 rfl rfl ?_
        refine x_aload_n hE dX7_release_51 rfl rfl ?_
        refine x_get hE hinX7 hB rfl 8 (by decide) (List.mem_of_getElem? (i := 6) rfl) rfl dX7_release_52 ?_
        refine x_callV (ci := 1) (st := []) hE 1 (c_X1_fall G (cu := some (ad (100 + 4 * k))) hyc (now := nI (s_t S))) gX7_release_X1_fall rfl rfl rfl (by decide +kernel) ⟨Nat.le_of_ble_eq_true rfl, Nat.le_of_ble_eq_true rfl⟩ hyc rfl rfl rfl dX7_release_55 rfl (Nat.le_of_ble_eq_true rfl) ⟨by dsimp only; omega, by dsimp only; omega⟩ (fun v h9 hp => ?_)
        obtain ⟨rfl, rfl⟩ := hp
        generalize hh1 : x_up h y (.inr (1, [va_rf (some (ad (100 + 4 * k))), .int (nI g.2.1), .int (nI (s_t S))])) = h1
        have f1 : frO ow [14] h h1 := by rw [← hh1]; exact (x_fr.refl h).up (by show ow y ∈ _; rw [hO.2.2.2.2.1 y hyA]; decide)
        have hB1 := hB.fr hO f1 (by decide)
        have hR1 := hR.fr hO f1 (by decide) (by decide) (fun i hi => by intro z; simp at z <;> omega)
        have hC1 := hC.fr hO f1 (by decide) (fun i hi => by intro z; simp at z <;> omega)
        have hp1 := hp.fr hO f1 (by decide)
        have hr1 := hr.fr f1 (hO.1 7 (by decide)) (hO.1 8 (by decide)) hO.2.2.2.2.2 (by decide) (by decide) (by decide)
        have hw1 := hw.fr hO f1 (by decide) (by decide) (by decide) (by decide)
        have hI1 := hI.fr hO f1 (by decide) (by decide)
        have hl1 : liW G ad A1 P1 (va_up c1 y ((c1 y).1, (c1 y).2.1, nI (s_t S))) (fallG k (s_t S) (s_G S)) h1 := ⟨by rw [← hh1, hyg]; have z := hl.1.put hyA ((embG ad g).1, (embG ad g).2.1, nI (s_t S)); unfold goE embG at z; dsimp only at z; rw [hgc] at z; unfold embG; dsimp only; rw [hgc]; exact z, fall_map hO hl.2 hg hk1 (List.nodup_append.mp hl.1.2.2.2.1).1 hy (by rw [hyg, ← hgc]; rfl)⟩
        refine x_aload_n hE dX7_release_58 rfl rfl ?_
        refine x_get hE hinX7 hB1 rfl 6 (by decide) (List.mem_of_getElem? (i := 7) rfl) rfl dX7_release_59 ?_
        refine x_aload_n hE dX7_release_62 rfl rfl ?_
        refine x_get hE hinX7 hB1 rfl 8 (by decide) (List.mem_of_getElem? (i := 6) rfl) rfl dX7_release_63 ?_
        refine x_aload_n hE dX7_release_66 rfl rfl ?_
        refine x_get hE hinX0 (hC1.2.2 k hk1).1 rfl 0 (by decide) (List.mem_of_getElem? (i := 8) rfl) rfl dX7_release_67 ?_
        refine x_callV (ci := 3) (st := []) hE 2 (c_X3_writeRelease G hI1 (t := nI (s_t S)) (c := nI k) hlen hcap) gX7_release_X3_writeRelease rfl rfl rfl (by decide +kernel) ⟨Nat.le_of_ble_eq_true rfl, Nat.le_of_ble_eq_true rfl⟩ hI1.1 rfl rfl rfl dX7_release_70 rfl (Nat.le_of_ble_eq_true rfl) ⟨by dsimp only; omega, by dsimp only; omega⟩ (fun v h2 hp => ?_)
        obtain ⟨rfl, eA2, hI2, hx2, hor⟩ := hp
        have f2 : frO ow [13, 16] h1 h2 := frO.of hx2 (fun q hq => by rcases hq with rfl | rfl; rw [hO.1 13 (by decide)]; decide; rw [hO.2.2.2.1]; decide)
        have hB2 := hB1.fr hO f2 (by decide)
        have hR2 := hR1.fr hO f2 (by decide) (by decide) (fun i hi => by intro z; simp at z <;> omega)
        have hC2 := hC1.fr hO f2 (by decide) (fun i hi => by intro z; simp at z <;> omega)
        have hp2 := hp1.fr hO f2 (by decide)
        have hl2 := hl1.fr hO f2 (by decide) (by decide) (by decide)
        have hr2 := hr1.fr f2 (hO.1 7 (by decide)) (hO.1 8 (by decide)) hO.2.2.2.2.2 (by decide) (by decide) (by decide)
        have hw2 := hw1.fr hO f2 (by decide) (by decide) (by decide) (by decide)
        obtain ⟨ow2, hO2⟩ := hO.newE (oX.of hB1 hR1 hC1 hp1 hl1 hr1 hw1 hI1) hor
        have hgf := fallG_I (c := k) (t := s_t S) hg
        have hK2 := goK_of (ar := s_ar S) (L := s_L S) (B := s_B S) hO2 hC2 hl2.2 hgf.2
        refine x_aload_n hE dX7_release_73 rfl rfl ?_
        refine x_get hE hinX7 hB2 rfl 3 (by decide) (List.mem_of_getElem? (i := 5) rfl) rfl dX7_release_74 ?_
        refine x_aload_n hE dX7_release_77 rfl rfl ?_
        refine x_get hE hinX7 hB2 rfl 8 (by decide) (List.mem_of_getElem? (i := 6) rfl) rfl dX7_release_78 ?_
        refine x_callV (ci := 2) (st := []) hE 1 (c_X2_dropOver G hl2.1 (now := nI (s_t S)) hK2) gX7_release_X2_dropOver rfl rfl rfl (by decide +kernel) ⟨Nat.le_of_ble_eq_true rfl, Nat.le_of_ble_eq_true rfl⟩ hl2.1.1 rfl rfl rfl dX7_release_81 rfl (Nat.le_of_ble_eq_true rfl) ⟨by dsimp only; omega, by dsimp only; omega⟩ (fun v h3 hp => ?_)
        obtain ⟨rfl, P3, hG3, hx3, hP3⟩ := hp
        have f3 : frO ow2 [5, 6] h2 h3 := frO.of hx3 (fun q hq => by rcases hq with rfl | rfl <;> first | (rw [hO2.1 5 (by decide)]; decide) | (rw [hO2.1 6 (by decide)]; decide))
        have hB3 := hB2.fr hO2 f3 (by decide)
        have hR3 := hR2.fr hO2 f3 (by decide) (by decide) (fun i hi => by intro z; simp at z <;> omega)
        have hC3 := hC2.fr hO2 f3 (by decide) (fun i hi => by intro z; simp at z <;> omega)
        have hp3 := hp2.fr hO2 f3 (by decide)
        have hr3 := hr2.fr f3 (hO2.1 7 (by decide)) (hO2.1 8 (by decide)) hO2.2.2.2.2.2 (by decide) (by decide) (by decide)
        have hw3 := hw2.fr hO2 f3 (by decide) (by decide) (by decide) (by decide)
        have hI3 := hI2.fr hO2 f3 (by decide) (by decide)
        have hl3 : liW G ad (A1.filter (fun x => !ovr (va_up c1 y ((c1 y).1, (c1 y).2.1, nI (s_t S))) (cuK ow2 (s_ar S) (s_L S) (s_B S)) (nI (s_t S)) x)) P3 (va_up c1 y ((c1 y).1, (c1 y).2.1, nI (s_t S))) ((fallG k (s_t S) (s_G S)).filter (fun g => !ovP (s_ar S) (s_t S) g)) h3 := ⟨hG3, ovP_of hO2 hl2.2 hgf.2 _⟩
        have hO3 := oW.lists hO2 (fun x (hx : x ∈ (A1.filter (fun x => !ovr (va_up c1 y ((c1 y).1, (c1 y).2.1, nI (s_t S))) (cuK ow2 (s_ar S) (s_L S) (s_B S)) (nI (s_t S)) x)) ++ P3) => (List.mem_append.mp hx).elim (fun z => List.mem_append_left _ (List.mem_filter.mp z).1) (fun z => hP3 x z)) (fun x (hx : x ∈ A2 ++ P2) => hx)
        refine x_aload_n hE dX7_release_84 rfl rfl ?_
        refine x_get hE hinX7 hB3 rfl 3 (by decide) (List.mem_of_getElem? (i := 5) rfl) rfl dX7_release_85 ?_
        refine x_aload_n hE dX7_release_88 rfl rfl ?_
        refine x_callV (ci := 2) (st := []) hE 1 (c_X2_goingOf G hl3.1) gX7_release_X2_goingOf rfl rfl rfl (by decide +kernel) ⟨Nat.le_of_ble_eq_true rfl, Nat.le_of_ble_eq_true rfl⟩ hl3.1.1 rfl rfl rfl dX7_release_89 rfl (Nat.le_of_ble_eq_true rfl) ⟨by dsimp only; omega, by dsimp only; omega⟩ (fun v h9 hp => ?_)
        obtain ⟨⟨go, rfl, hgo9⟩, rfl⟩ := hp
        have hgr3 := goR_is hO3 hl3.2 (hgf.filter _) hk1 hgo9
        rcases hgr3 with ⟨g1, g2⟩ | ⟨k9, y9, g9, -, -, -, -, g5, g6⟩
        · subst g1
          refine x_ifnullN (tgt := 99) hE dX7_release_92 (by decide) ?_
          refine x_iconst (v := nI 0) hE dX7_release_99 (by decide) ?_
          refine x_widen (k := s_n (relP k S) - s_n S + 1) (n := 3 * (s_n (relP k S) - s_n S) + 6) (by omega) (by omega) ?_
          exact y_ret (x_zret hE (Or.inl rfl) dX7_release_100 (⟨ef, some_b2i (by show _ = b2i (goF ((fallG k (s_t S) (s_G S)).filter (fun g => !ovP (s_ar S) (s_t S) g)) k).isSome; rw [g2]; rfl), ow2, eA2, _, P3, _, hB3, hR3, hC3, hp3, hl3, hr3, hw3, hI3, hO3⟩))
        · subst g5
          refine x_qref (q := y9) (rfl) ?_
          refine x_ifnull hE dX7_release_92 ?_
          refine x_iconst (v := nI 1) hE dX7_release_95 (by decide) ?_
          refine x_goto (tgt := 100) hE dX7_release_96 (by decide) ?_
          refine x_widen (k := s_n (relP k S) - s_n S + 1) (n := 3 * (s_n (relP k S) - s_n S) + 6) (by omega) (by omega) ?_
          exact y_ret (x_zret hE (Or.inr rfl) dX7_release_100 (⟨ef, some_b2i (by show _ = b2i (goF ((fallG k (s_t S) (s_G S)).filter (fun g => !ovP (s_ar S) (s_t S) g)) k).isSome; rw [g6]; rfl), ow2, eA2, _, P3, _, hB3, hR3, hC3, hp3, hl3, hr3, hw3, hI3, hO3⟩))
      · exact y_IS hE hT hX (List.mem_of_getElem? (i := 11) rfl) (List.mem_of_getElem? (i := 3) rfl) (List.mem_of_getElem? (i := 4) rfl) (fun w hw => List.mem_cons_of_mem _ (List.mem_append_right _ hw)) rfl dX7_release_40 dX7_release_43 dX7_release_44 dX7_release_46 dX7_release_49 (Nat.le_of_ble_eq_true rfl) (Nat.le_of_ble_eq_true rfl) ⟨by dsimp only; omega, by dsimp only; omega⟩ ⟨by omega, by omega⟩ (Or.inr ⟨by unfold fRel; rw [if_pos hq, ek, hgo2]; dsimp only; rw [if_neg (by have := b2i_n0.mp c37; simpa using this)], rfl⟩)
  · refine x_qnull (hz) ?_
    refine x_astore_n (L' := [some (.ref (ad 0)), some (.int c), some (.null), none]) hE dX7_release_5 rfl (Nat.le_of_ble_eq_true rfl) rfl rfl ?_
    refine x_aload_n hE dX7_release_6 rfl rfl ?_
    refine x_ifnonnullN hE dX7_release_7 ?_
    exact y_IO hE hT hX (List.mem_of_getElem? (i := 8) rfl) (List.mem_of_getElem? (i := 1) rfl) (List.mem_of_getElem? (i := 2) rfl) (fun w hw => List.mem_cons_of_mem _ (List.mem_append_left _ (List.mem_append_right _ hw))) rfl dX7_release_10 dX7_release_13 dX7_release_14 dX7_release_16 dX7_release_19 (Nat.le_of_ble_eq_true rfl) (Nat.le_of_ble_eq_true rfl) ⟨by dsimp only; omega, by dsimp only; omega⟩ ⟨by omega, by omega⟩ (Or.inl ⟨by unfold fRel; rw [if_neg (by rw [hq]; decide)], rfl⟩)
