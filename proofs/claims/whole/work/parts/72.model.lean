theorem aE.arr {ar R : Nat → Nat → Int32} (h : aE ar R) (L : Nat) (B : Int32) (c : Nat) : arrF L R B (toldF R c) 16 = arrF L ar B (toldF ar c) 16 := by
  have e1 : toldF R c = toldF ar c := by
    unfold toldF
    rw [h 14 (by decide)]
  rw [e1, arrF_same ⟨h 2 (by decide), h 3 (by decide), h 4 (by decide), h 7 (by decide)⟩ L B _ 16]
theorem iff0_s (f : Nat) (S : PS) : iff0 f S S = S := by
  unfold iff0
  split <;> rfl
theorem msI.bits {m : UInt32} (h : msI m) : m.toNat = 0 ∨ (115 * 2 ^ 23 ≤ m.toNat ∧ m.toNat ≤ 151 * 2 ^ 23) := by
  have hl : lvI 1 m := ⟨h.1, by have := h.2.1; omega, h.2.2⟩
  rcases hl.bits (by decide) with z | z
  · exact Or.inl (by rw [z]; exact fB_nat (by decide))
  · exact Or.inr z
theorem lvI.bit0 {K : Nat} {x : UInt32} (h : lvI K x) (hK : K ≤ 2 ^ 24) : x.toNat = 0 ∨ (115 * 2 ^ 23 ≤ x.toNat ∧ x.toNat ≤ 151 * 2 ^ 23) := by
  rcases h.bits hK with z | z
  · exact Or.inl (by rw [z]; exact fB_nat (by decide))
  · exact Or.inr z
set_option maxHeartbeats 4000000 in
set_option maxRecDepth 100000 in
theorem c_X8_playing (G : XG) {ma ow : Nat → Nat} {sc : Nat → Int32} {R : Nat → Nat → Int32} {h : HM} (hM : mM G ma ow sc R h) {S : PS} {gn : Nat} (hMS : mS S gn sc R) (hI : mI S) (c wh : Int32) : x_M G yX8_playing wsX8_playing ({ frames := 2, cells := 0, slots := 0, locals := 44 } : Room) [.ref (ma 30), .int c, .int wh] h (mP G ma ow (fPlay S c wh) (playP S c.toNatClampNeg wh.toNatClampNeg) (iff0 (fPlay S c wh) (S) S) (gn)) 0 0 := by
  refine x_M.of (cc := cX8_playing) (maxL := 3) (ret := (some .int)) (ent := [some (.ref (ma 30)), some (.int c), some (.int wh)]) (by decide +kernel) rfl (Nat.le_of_ble_eq_true rfl) rfl rfl ?_
  intro F hE hname
  have hinX8 : ∀ w ∈ wsX80, w ∈ wsX8_playing := by decide +kernel
  have hL16 : s_L S ≤ 16 := hI.2.1
  have hC12 : s_C S ≤ 12 := hI.1.2.2.1
  refine x_aload_n hE dX8_playing_0 rfl rfl ?_
  refine x_aload_n hE dX8_playing_1 rfl rfl ?_
  refine x_iload_n hE dX8_playing_2 rfl ?_
  refine x_callV (ci := 8) (st := [.ref (ma 30)]) hE 1 (c_X8_isCue G hM hMS.1.2.2.2.1 (by omega) c) gX8_playing_X8_isCue rfl rfl rfl (by decide +kernel) ⟨Nat.le_of_ble_eq_true rfl, Nat.le_of_ble_eq_true rfl⟩ hM.o rfl rfl rfl dX8_playing_3 rfl (Nat.le_of_ble_eq_true rfl) ⟨Nat.le_of_ble_eq_true rfl, Nat.le_of_ble_eq_true rfl⟩ (fun v h9 hp => ?_)
  obtain ⟨rfl, rfl⟩ := hp
  refine x_if_ne (tgt := 13) hE dX8_playing_6 (by decide) (fun c6 => ?_) (fun c6 => ?_)
  · have q6 : (isN c (s_C S)) = true := b2i_n0.mp c6
    clear c6
    refine x_iload_n hE dX8_playing_13 rfl ?_
    refine x_iconst (v := nI 0) hE dX8_playing_14 (by decide) ?_
    refine x_iconst (v := nI 3) hE dX8_playing_15 (by decide) ?_
    refine x_callS (st := [.ref (ma 30)]) hE 3 (c_X8_isIn G wh (nI 0) (nI 3)) gX8_playing_X8_isIn rfl rfl rfl (by decide +kernel) ⟨Nat.le_of_ble_eq_true rfl, Nat.le_of_ble_eq_true rfl⟩ rfl rfl dX8_playing_16 rfl (Nat.le_of_ble_eq_true rfl) ⟨Nat.le_of_ble_eq_true rfl, Nat.le_of_ble_eq_true rfl⟩ (fun v h9 hp => ?_)
    obtain ⟨rfl, rfl⟩ := hp
    refine x_if_eq (tgt := 26) hE dX8_playing_19 (by decide) (fun c19 => ?_) (fun c19 => ?_)
    · have q19 : (inI wh 0 3) = false := b2i_0.mp c19
      clear c19
      refine x_iconst (v := nI 2) hE dX8_playing_26 (by decide) ?_
      refine x_callV (ci := 8) (st := []) hE 1 (c_X8_can G hM (nI 2)) gX8_playing_X8_can rfl rfl rfl (by decide +kernel) ⟨Nat.le_of_ble_eq_true rfl, Nat.le_of_ble_eq_true rfl⟩ hM.o rfl rfl rfl dX8_playing_27 rfl (Nat.le_of_ble_eq_true rfl) ⟨Nat.le_of_ble_eq_true rfl, Nat.le_of_ble_eq_true rfl⟩ (fun v hc2 hp => ?_)
      obtain ⟨rfl, hMc1⟩ := hp
      refine x_ieq (y := nI 0) (by decide) ?_
      generalize hssc3 : upd sc 28 (nI 2) = sc3 at hMc1
      have hMS4 : mS S gn sc3 R := by rw [← hssc3]; exact hMS.can _
      have e28 : sc3 28 = nI 2 := by rw [← hssc3]; exact upd_at _ _ _
      refine x_if_ne (tgt := 35) hE dX8_playing_30 (by decide) (fun c30 => ?_) (fun c30 => ?_)
      · exact absurd c30 (by decide)
      · refine x_iconst (v := nI 0) hE dX8_playing_33 (by decide) ?_
        exact x_iret hE dX8_playing_34 (mP.no (by unfold fPlay; simp [*]) (by decide) hMc1 hMS4 e28 (Nat.le_refl _))
    · have q19 : (inI wh 0 3) = true := b2i_n0.mp c19
      clear c19
      refine x_iconst (v := nI 0) hE dX8_playing_22 (by decide) ?_
      refine x_goto (tgt := 27) hE dX8_playing_23 (by decide) ?_
      refine x_callV (ci := 8) (st := []) hE 1 (c_X8_can G hM (nI 0)) gX8_playing_X8_can rfl rfl rfl (by decide +kernel) ⟨Nat.le_of_ble_eq_true rfl, Nat.le_of_ble_eq_true rfl⟩ hM.o rfl rfl rfl dX8_playing_27 rfl (Nat.le_of_ble_eq_true rfl) ⟨Nat.le_of_ble_eq_true rfl, Nat.le_of_ble_eq_true rfl⟩ (fun v hc6 hp => ?_)
      obtain ⟨rfl, hMc5⟩ := hp
      refine x_ieq (y := nI 1) (by decide) ?_
      generalize hssc7 : upd sc 28 (nI 0) = sc7 at hMc5
      have hMS8 : mS S gn sc7 R := by rw [← hssc7]; exact hMS.can _
      have e28 : sc7 28 = nI 0 := by rw [← hssc7]; exact upd_at _ _ _
      refine x_if_ne (tgt := 35) hE dX8_playing_30 (by decide) (fun c30 => ?_) (fun c30 => ?_)
      · obtain ⟨k, hk, rfl⟩ := isN_t (by omega) q6
        have ek : (nI k).toNatClampNeg = k := nI_clamp (by omega)
        rw [ek]
        obtain ⟨x, -, hx, rfl⟩ := inI_is q19 (by decide) (by decide)
        have ex : (nI x).toNatClampNeg = x := nI_clamp (by omega)
        rw [ex]
        have h17 := hMS8.1.2.2.2.2.2.2.2.1.1 k hk
        rcases goF_act (c := k) hI.1.2.2.2.1 with ⟨hq, hgo⟩ | ⟨g, hgm, hgk, hq, hgo⟩
        · have h17b : R 17 k = nI 0 := h17.trans (by rw [hq]; rfl)
          refine x_iload_n hE dX8_playing_35 rfl ?_
          refine x_iconst (v := nI 2) hE dX8_playing_36 (by decide) ?_
          refine x_icmp_ge (tgt := 69) hE dX8_playing_37 (by decide) (fun c37 => ?_) (fun c37 => ?_)
          · replace c37 := x_nIle c37 (by omega) (by omega)
            refine x_aload_n hE dX8_playing_69 rfl rfl ?_
            refine x_get hE hinX8 hMc5.o rfl 17 (by decide) (List.mem_of_getElem? (i := 1) rfl) rfl dX8_playing_70 ?_
            refine x_iload_n hE dX8_playing_73 rfl ?_
            refine x_zald (v := nI 0) hE hMc5.a17 (vp_in_nI (by omega) (by decide)) ((x_atN _ (by omega)).trans (h17b)) dX8_playing_74 ?_
            refine x_if_ne (tgt := 82) hE dX8_playing_75 (by decide) (fun c75 => ?_) (fun c75 => ?_)
            · exact absurd c75 (by decide)
            · refine x_iconst (v := (-1 : Int32)) hE dX8_playing_78 (by decide) ?_
              refine x_goto (tgt := 104) hE dX8_playing_79 (by decide) ?_
              refine x_ieq (y := (-1)) (rfl) ?_
              exact x_iret hE dX8_playing_104 (mP.ok (by unfold fPlay; rw [if_pos q6, if_pos q19]) (by unfold playP; rw [hgo]; exact (if_neg (by omega)).symm) hMc5 hMS8 e28 (Nat.le_refl _))
          · replace c37 := x_nInle c37 (by omega) (by omega)
            refine x_aload_n hE dX8_playing_40 rfl rfl ?_
            refine x_get hE hinX8 hMc5.o rfl 17 (by decide) (List.mem_of_getElem? (i := 1) rfl) rfl dX8_playing_41 ?_
            refine x_iload_n hE dX8_playing_44 rfl ?_
            refine x_zald (v := nI 0) hE hMc5.a17 (vp_in_nI (by omega) (by decide)) ((x_atN _ (by omega)).trans (h17b)) dX8_playing_45 ?_
            refine x_if_eq (tgt := 67) hE dX8_playing_46 (by decide) (fun c46 => ?_) (fun c46 => ?_)
            · refine x_iconst (v := nI 0) hE dX8_playing_67 (by decide) ?_
              exact x_iret hE dX8_playing_68 (mP.ok (by unfold fPlay; rw [if_pos q6, if_pos q19]) (by unfold playP; rw [hgo]; exact (if_pos (by omega)).symm) hMc5 hMS8 e28 (Nat.le_refl _))
            · exact absurd c46 (by decide)
        · have h17b : R 17 k = nI 1 := h17.trans (by rw [hq]; rfl)
          have h18 := hMS8.1.2.2.2.2.2.2.2.1.2.1 g hgm
          have ep : playP S k x = if x = 0 then 1 else if x = 1 then (if relI g.2.2 = -1 then 0 else 1) else if x = 2 then nI g.2.1 else nI (masP (s_ar S) (s_t S) g).toNat := by unfold playP; rw [hgo]
          have hA := hMS8.1.2.2.2.2.2.2.1
          have hmi := hA.go (hI.1.2.2.2.2 g hgm)
          have hmm := masM_is hmi h18.1 h18.2
          rw [← hMS8.1.1] at hmm
          have hms := masP_is (hI.1.2.2.2.2 g hgm)
          rw [hgk] at h18 hmm
          refine x_iload_n hE dX8_playing_35 rfl ?_
          refine x_iconst (v := nI 2) hE dX8_playing_36 (by decide) ?_
          refine x_icmp_ge (tgt := 69) hE dX8_playing_37 (by decide) (fun c37 => ?_) (fun c37 => ?_)
          · replace c37 := x_nIle c37 (by omega) (by omega)
            refine x_aload_n hE dX8_playing_69 rfl rfl ?_
            refine x_get hE hinX8 hMc5.o rfl 17 (by decide) (List.mem_of_getElem? (i := 1) rfl) rfl dX8_playing_70 ?_
            refine x_iload_n hE dX8_playing_73 rfl ?_
            refine x_zald (v := nI 1) hE hMc5.a17 (vp_in_nI (by omega) (by decide)) ((x_atN _ (by omega)).trans (h17b)) dX8_playing_74 ?_
            refine x_if_ne (tgt := 82) hE dX8_playing_75 (by decide) (fun c75 => ?_) (fun c75 => ?_)
            · refine x_iload_n hE dX8_playing_82 rfl ?_
              refine x_iconst (v := nI 2) hE dX8_playing_83 (by decide) ?_
              refine x_icmp_ne (tgt := 96) hE dX8_playing_84 (by decide) (fun c84 => ?_) (fun c84 => ?_)
              · have hx3 : ¬ x = 2 := fun z => c84 (by rw [z])
                refine x_aload_n hE dX8_playing_96 rfl rfl ?_
                refine x_iload_n hE dX8_playing_97 rfl ?_
                refine x_callV (ci := 8) (st := []) hE 1 (c_X8_master G hMc5 (by omega : k < 12) hmm.2) gX8_playing_X8_master rfl rfl rfl (by decide +kernel) ⟨Nat.le_of_ble_eq_true rfl, Nat.le_of_ble_eq_true rfl⟩ hMc5.o rfl rfl rfl dX8_playing_98 rfl (Nat.le_of_ble_eq_true rfl) ⟨Nat.le_of_ble_eq_true rfl, Nat.le_of_ble_eq_true rfl⟩ (fun v h9 hp => ?_)
                obtain ⟨rfl, rfl⟩ := hp
                refine x_fq (y := (masP (s_ar S) (s_t S) g)) (hmm.1.trans (hA.mas _ _)) ?_
                refine x_fq (y := (fB (masP (s_ar S) (s_t S) g).toNat)) ((fB_of _).symm) ?_
                refine x_callS (st := []) hE 1 (c_X8_bitsOf G (X := (masP (s_ar S) (s_t S) g).toNat) hms.bits) gX8_playing_X8_bitsOf rfl rfl rfl (by decide +kernel) ⟨Nat.le_of_ble_eq_true rfl, Nat.le_of_ble_eq_true rfl⟩ rfl rfl dX8_playing_101 rfl (Nat.le_of_ble_eq_true rfl) ⟨Nat.le_of_ble_eq_true rfl, Nat.le_of_ble_eq_true rfl⟩ (fun v h9 hp => ?_)
                obtain ⟨rfl, rfl⟩ := hp
                exact x_iret hE dX8_playing_104 (mP.ok (by unfold fPlay; rw [if_pos q6, if_pos q19]) (by rw [ep, if_neg (by omega), if_neg (by omega), if_neg hx3]) hMc5 hMS8 e28 (Nat.le_refl _))
              · have hx3 : x = 2 := x_nIinj (a := x) (b := 2) c84 (by omega) (by omega)
                refine x_aload_n hE dX8_playing_87 rfl rfl ?_
                refine x_get hE hinX8 hMc5.o rfl 18 (by decide) (List.mem_of_getElem? (i := 3) rfl) rfl dX8_playing_88 ?_
                refine x_iload_n hE dX8_playing_91 rfl ?_
                refine x_iald (v := nI g.2.1) hE hMc5.a18 (vp_in_nI (by omega) (by decide)) ((x_atN _ (by omega)).trans h18.1) dX8_playing_92 ?_
                refine x_goto (tgt := 104) hE dX8_playing_93 (by decide) ?_
                exact x_iret hE dX8_playing_104 (mP.ok (by unfold fPlay; rw [if_pos q6, if_pos q19]) (by rw [ep, if_neg (by omega), if_neg (by omega), if_pos hx3]) hMc5 hMS8 e28 (Nat.le_refl _))
            · exact absurd c75 (by decide)
          · replace c37 := x_nInle c37 (by omega) (by omega)
            refine x_aload_n hE dX8_playing_40 rfl rfl ?_
            refine x_get hE hinX8 hMc5.o rfl 17 (by decide) (List.mem_of_getElem? (i := 1) rfl) rfl dX8_playing_41 ?_
            refine x_iload_n hE dX8_playing_44 rfl ?_
            refine x_zald (v := nI 1) hE hMc5.a17 (vp_in_nI (by omega) (by decide)) ((x_atN _ (by omega)).trans (h17b)) dX8_playing_45 ?_
            refine x_if_eq (tgt := 67) hE dX8_playing_46 (by decide) (fun c46 => ?_) (fun c46 => ?_)
            · exact absurd c46 (by decide)
            · refine x_iload_n hE dX8_playing_49 rfl ?_
              refine x_if_eq (tgt := 63) hE dX8_playing_50 (by decide) (fun c50 => ?_) (fun c50 => ?_)
              · have hx0 : x = 0 := x_nIinj (a := x) (b := 0) c50 (by omega) (by omega)
                refine x_iconst (v := nI 1) hE dX8_playing_63 (by decide) ?_
                refine x_goto (tgt := 68) hE dX8_playing_64 (by decide) ?_
                exact x_iret hE dX8_playing_68 (mP.ok (by unfold fPlay; rw [if_pos q6, if_pos q19]) (by rw [ep, if_pos hx0]; rfl) hMc5 hMS8 e28 (Nat.le_refl _))
              · have hx0 : ¬ x = 0 := fun z => c50 (by rw [z]; rfl)
                refine x_aload_n hE dX8_playing_53 rfl rfl ?_
                refine x_get hE hinX8 hMc5.o rfl 20 (by decide) (List.mem_of_getElem? (i := 2) rfl) rfl dX8_playing_54 ?_
                refine x_iload_n hE dX8_playing_57 rfl ?_
                refine x_iald (v := relI g.2.2) hE hMc5.a20 (vp_in_nI (by omega) (by decide)) ((x_atN _ (by omega)).trans h18.2) dX8_playing_58 ?_
                refine x_iconst (v := (-1 : Int32)) hE dX8_playing_59 (by decide) ?_
                refine x_icmp_eq (tgt := 67) hE dX8_playing_60 (by decide) (fun c60 => ?_) (fun c60 => ?_)
                · refine x_iconst (v := nI 0) hE dX8_playing_67 (by decide) ?_
                  exact x_iret hE dX8_playing_68 (mP.ok (by unfold fPlay; rw [if_pos q6, if_pos q19]) (by rw [ep, if_neg hx0, if_pos (by omega), if_pos c60]; rfl) hMc5 hMS8 e28 (Nat.le_refl _))
                · refine x_iconst (v := nI 1) hE dX8_playing_63 (by decide) ?_
                  refine x_goto (tgt := 68) hE dX8_playing_64 (by decide) ?_
                  exact x_iret hE dX8_playing_68 (mP.ok (by unfold fPlay; rw [if_pos q6, if_pos q19]) (by rw [ep, if_neg hx0, if_pos (by omega), if_neg c60]; rfl) hMc5 hMS8 e28 (Nat.le_refl _))
      · exact absurd c30 (by decide)
  · have q6 : (isN c (s_C S)) = false := b2i_0.mp c6
    clear c6
    refine x_iconst (v := nI 1) hE dX8_playing_9 (by decide) ?_
    refine x_goto (tgt := 27) hE dX8_playing_10 (by decide) ?_
    refine x_callV (ci := 8) (st := []) hE 1 (c_X8_can G hM (nI 1)) gX8_playing_X8_can rfl rfl rfl (by decide +kernel) ⟨Nat.le_of_ble_eq_true rfl, Nat.le_of_ble_eq_true rfl⟩ hM.o rfl rfl rfl dX8_playing_27 rfl (Nat.le_of_ble_eq_true rfl) ⟨Nat.le_of_ble_eq_true rfl, Nat.le_of_ble_eq_true rfl⟩ (fun v hc10 hp => ?_)
    obtain ⟨rfl, hMc9⟩ := hp
    refine x_ieq (y := nI 0) (by decide) ?_
    generalize hssc11 : upd sc 28 (nI 1) = sc11 at hMc9
    have hMS12 : mS S gn sc11 R := by rw [← hssc11]; exact hMS.can _
    have e28 : sc11 28 = nI 1 := by rw [← hssc11]; exact upd_at _ _ _
    refine x_if_ne (tgt := 35) hE dX8_playing_30 (by decide) (fun c30 => ?_) (fun c30 => ?_)
    · exact absurd c30 (by decide)
    · refine x_iconst (v := nI 0) hE dX8_playing_33 (by decide) ?_
      exact x_iret hE dX8_playing_34 (mP.no (by unfold fPlay; simp [*]) (by decide) hMc9 hMS12 e28 (Nat.le_refl _))

set_option maxHeartbeats 4000000 in
set_option maxRecDepth 100000 in
theorem c_X8_levelOf (G : XG) {ma ow : Nat → Nat} {sc : Nat → Int32} {R : Nat → Nat → Int32} {h : HM} (hM : mM G ma ow sc R h) {S : PS} {gn : Nat} (hMS : mS S gn sc R) (hI : mI S) (hgn : gn ≤ 2 ^ 30) (i : Int32) : x_M G yX8_levelOf wsX8_levelOf ({ frames := 5, cells := 0, slots := 0, locals := 116 } : Room) [.ref (ma 30), .int i] h (mP G ma ow (fLamp S i) (nI (levS S (s_G S) i.toNatClampNeg).toNat) (iff0 (fLamp S i) (S) S) (gn)) 0 0 := by
  refine x_M.of (cc := cX8_levelOf) (maxL := 2) (ret := (some .int)) (ent := [some (.ref (ma 30)), some (.int i)]) (by decide +kernel) rfl (Nat.le_of_ble_eq_true rfl) rfl rfl ?_
  intro F hE hname
  have hL16 : s_L S ≤ 16 := hI.2.1
  have hC12 : s_C S ≤ 12 := hI.1.2.2.1
  refine x_aload_n hE dX8_levelOf_0 rfl rfl ?_
  refine x_aload_n hE dX8_levelOf_1 rfl rfl ?_
  refine x_iload_n hE dX8_levelOf_2 rfl ?_
  refine x_callV (ci := 8) (st := [.ref (ma 30)]) hE 1 (c_X8_isLamp G hM hMS.1.2.1 (by omega) i) gX8_levelOf_X8_isLamp rfl rfl rfl (by decide +kernel) ⟨Nat.le_of_ble_eq_true rfl, Nat.le_of_ble_eq_true rfl⟩ hM.o rfl rfl rfl dX8_levelOf_3 rfl (Nat.le_of_ble_eq_true rfl) ⟨Nat.le_of_ble_eq_true rfl, Nat.le_of_ble_eq_true rfl⟩ (fun v h9 hp => ?_)
  obtain ⟨rfl, rfl⟩ := hp
  refine x_if_eq (tgt := 13) hE dX8_levelOf_6 (by decide) (fun c6 => ?_) (fun c6 => ?_)
  · have q6 : (isN i (s_L S)) = false := b2i_0.mp c6
    clear c6
    refine x_iconst (v := nI 1) hE dX8_levelOf_13 (by decide) ?_
    refine x_callV (ci := 8) (st := []) hE 1 (c_X8_can G hM (nI 1)) gX8_levelOf_X8_can rfl rfl rfl (by decide +kernel) ⟨Nat.le_of_ble_eq_true rfl, Nat.le_of_ble_eq_true rfl⟩ hM.o rfl rfl rfl dX8_levelOf_14 rfl (Nat.le_of_ble_eq_true rfl) ⟨Nat.le_of_ble_eq_true rfl, Nat.le_of_ble_eq_true rfl⟩ (fun v hc2 hp => ?_)
    obtain ⟨rfl, hMc1⟩ := hp
    refine x_ieq (y := nI 0) (by decide) ?_
    generalize hssc3 : upd sc 28 (nI 1) = sc3 at hMc1
    have hMS4 : mS S gn sc3 R := by rw [← hssc3]; exact hMS.can _
    have e28 : sc3 28 = nI 1 := by rw [← hssc3]; exact upd_at _ _ _
    refine x_if_eq (tgt := 31) hE dX8_levelOf_17 (by decide) (fun c17 => ?_) (fun c17 => ?_)
    · refine x_iconst (v := nI 0) hE dX8_levelOf_31 (by decide) ?_
      exact x_iret hE dX8_levelOf_32 (mP.no (by unfold fLamp; simp [*]) (by decide) hMc1 hMS4 e28 (Nat.le_refl _))
    · exact absurd c17 (by decide)
  · have q6 : (isN i (s_L S)) = true := b2i_n0.mp c6
    clear c6
    refine x_iconst (v := nI 0) hE dX8_levelOf_9 (by decide) ?_
    refine x_goto (tgt := 14) hE dX8_levelOf_10 (by decide) ?_
    refine x_callV (ci := 8) (st := []) hE 1 (c_X8_can G hM (nI 0)) gX8_levelOf_X8_can rfl rfl rfl (by decide +kernel) ⟨Nat.le_of_ble_eq_true rfl, Nat.le_of_ble_eq_true rfl⟩ hM.o rfl rfl rfl dX8_levelOf_14 rfl (Nat.le_of_ble_eq_true rfl) ⟨Nat.le_of_ble_eq_true rfl, Nat.le_of_ble_eq_true rfl⟩ (fun v hc6 hp => ?_)
    obtain ⟨rfl, hMc5⟩ := hp
    refine x_ieq (y := nI 1) (by decide) ?_
    generalize hssc7 : upd sc 28 (nI 0) = sc7 at hMc5
    have hMS8 : mS S gn sc7 R := by rw [← hssc7]; exact hMS.can _
    have e28 : sc7 28 = nI 0 := by rw [← hssc7]; exact upd_at _ _ _
    refine x_if_eq (tgt := 31) hE dX8_levelOf_17 (by decide) (fun c17 => ?_) (fun c17 => ?_)
    · exact absurd c17 (by decide)
    · obtain ⟨k, hk, rfl⟩ := isN_t (by omega) q6
      have ek : (nI k).toNatClampNeg = k := nI_clamp (by omega)
      rw [ek]
      have hA := hMS8.1.2.2.2.2.2.2.1
      refine x_aload_n hE dX8_levelOf_20 rfl rfl ?_
      refine x_iload_n hE dX8_levelOf_21 rfl ?_
      refine x_callV (ci := 8) (st := []) hE 1 (c_X8_levelNow G hMc5 hMS8.1.2.1 hMS8.1.2.2.1 hL16 hMS8.1.2.2.2.1 hMS8.1.1 (hA.fI hI.1) hMS8.1.2.2.2.2.2.2.2.1 hgn hk) gX8_levelOf_X8_levelNow rfl rfl rfl (by decide +kernel) ⟨Nat.le_of_ble_eq_true rfl, Nat.le_of_ble_eq_true rfl⟩ hMc5.o rfl rfl rfl dX8_levelOf_22 rfl (Nat.le_of_ble_eq_true rfl) ⟨Nat.le_of_ble_eq_true rfl, Nat.le_of_ble_eq_true rfl⟩ (fun v h3 hp => ?_)
      obtain ⟨rfl, R3, hM3, s3⟩ := hp
      refine x_fq (y := (levS S (s_G S) k)) (hA.mix _ _ _ _ _) ?_
      have hb := (mixG_lv (L := s_L S) (B := s_B S) (i := k) hI.1.2.1 hI.1.2.2.1 hI.1.2.2.2.1 hI.1.2.2.2.2).bit0 (by decide)
      refine x_fq (y := (fB (levS S (s_G S) k).toNat)) ((fB_of _).symm) ?_
      refine x_callS (st := []) hE 1 (c_X8_bitsOf G (X := (levS S (s_G S) k).toNat) hb) gX8_levelOf_X8_bitsOf rfl rfl rfl (by decide +kernel) ⟨Nat.le_of_ble_eq_true rfl, Nat.le_of_ble_eq_true rfl⟩ rfl rfl dX8_levelOf_25 rfl (Nat.le_of_ble_eq_true rfl) ⟨Nat.le_of_ble_eq_true rfl, Nat.le_of_ble_eq_true rfl⟩ (fun v h9 hp => ?_)
      obtain ⟨rfl, rfl⟩ := hp
      refine x_goto (tgt := 32) hE dX8_levelOf_28 (by decide) ?_
      exact x_iret hE dX8_levelOf_32 (mP.ok (by unfold fLamp; rw [if_pos q6]) rfl hM3 (hMS8.sR s3) e28 (Nat.le_refl _))

set_option maxHeartbeats 4000000 in
set_option maxRecDepth 100000 in
theorem c_X8_levelAnew (G : XG) {ma ow : Nat → Nat} {sc : Nat → Int32} {R : Nat → Nat → Int32} {h : HM} (hM : mM G ma ow sc R h) {S : PS} {gn : Nat} (hMS : mS S gn sc R) (hI : mI S) (hgn : gn ≤ 2 ^ 30) (i : Int32) : x_M G yX8_levelAnew wsX8_levelAnew ({ frames := 5, cells := 0, slots := 0, locals := 116 } : Room) [.ref (ma 30), .int i] h (mP G ma ow (fLamp S i) (nI (levS S (s_G S) i.toNatClampNeg).toNat) (iff0 (fLamp S i) (S) S) (gn)) 0 0 := by
  refine x_M.of (cc := cX8_levelAnew) (maxL := 2) (ret := (some .int)) (ent := [some (.ref (ma 30)), some (.int i)]) (by decide +kernel) rfl (Nat.le_of_ble_eq_true rfl) rfl rfl ?_
  intro F hE hname
  have hL16 : s_L S ≤ 16 := hI.2.1
  have hC12 : s_C S ≤ 12 := hI.1.2.2.1
  refine x_aload_n hE dX8_levelAnew_0 rfl rfl ?_
  refine x_aload_n hE dX8_levelAnew_1 rfl rfl ?_
  refine x_iload_n hE dX8_levelAnew_2 rfl ?_
  refine x_callV (ci := 8) (st := [.ref (ma 30)]) hE 1 (c_X8_isLamp G hM hMS.1.2.1 (by omega) i) gX8_levelAnew_X8_isLamp rfl rfl rfl (by decide +kernel) ⟨Nat.le_of_ble_eq_true rfl, Nat.le_of_ble_eq_true rfl⟩ hM.o rfl rfl rfl dX8_levelAnew_3 rfl (Nat.le_of_ble_eq_true rfl) ⟨Nat.le_of_ble_eq_true rfl, Nat.le_of_ble_eq_true rfl⟩ (fun v h9 hp => ?_)
  obtain ⟨rfl, rfl⟩ := hp
  refine x_if_eq (tgt := 13) hE dX8_levelAnew_6 (by decide) (fun c6 => ?_) (fun c6 => ?_)
  · have q6 : (isN i (s_L S)) = false := b2i_0.mp c6
    clear c6
    refine x_iconst (v := nI 1) hE dX8_levelAnew_13 (by decide) ?_
    refine x_callV (ci := 8) (st := []) hE 1 (c_X8_can G hM (nI 1)) gX8_levelAnew_X8_can rfl rfl rfl (by decide +kernel) ⟨Nat.le_of_ble_eq_true rfl, Nat.le_of_ble_eq_true rfl⟩ hM.o rfl rfl rfl dX8_levelAnew_14 rfl (Nat.le_of_ble_eq_true rfl) ⟨Nat.le_of_ble_eq_true rfl, Nat.le_of_ble_eq_true rfl⟩ (fun v hc2 hp => ?_)
    obtain ⟨rfl, hMc1⟩ := hp
    refine x_ieq (y := nI 0) (by decide) ?_
    generalize hssc3 : upd sc 28 (nI 1) = sc3 at hMc1
    have hMS4 : mS S gn sc3 R := by rw [← hssc3]; exact hMS.can _
    have e28 : sc3 28 = nI 1 := by rw [← hssc3]; exact upd_at _ _ _
    refine x_if_eq (tgt := 31) hE dX8_levelAnew_17 (by decide) (fun c17 => ?_) (fun c17 => ?_)
    · refine x_iconst (v := nI 0) hE dX8_levelAnew_31 (by decide) ?_
      exact x_iret hE dX8_levelAnew_32 (mP.no (by unfold fLamp; simp [*]) (by decide) hMc1 hMS4 e28 (Nat.le_refl _))
    · exact absurd c17 (by decide)
  · have q6 : (isN i (s_L S)) = true := b2i_n0.mp c6
    clear c6
    refine x_iconst (v := nI 0) hE dX8_levelAnew_9 (by decide) ?_
    refine x_goto (tgt := 14) hE dX8_levelAnew_10 (by decide) ?_
    refine x_callV (ci := 8) (st := []) hE 1 (c_X8_can G hM (nI 0)) gX8_levelAnew_X8_can rfl rfl rfl (by decide +kernel) ⟨Nat.le_of_ble_eq_true rfl, Nat.le_of_ble_eq_true rfl⟩ hM.o rfl rfl rfl dX8_levelAnew_14 rfl (Nat.le_of_ble_eq_true rfl) ⟨Nat.le_of_ble_eq_true rfl, Nat.le_of_ble_eq_true rfl⟩ (fun v hc6 hp => ?_)
    obtain ⟨rfl, hMc5⟩ := hp
    refine x_ieq (y := nI 1) (by decide) ?_
    generalize hssc7 : upd sc 28 (nI 0) = sc7 at hMc5
    have hMS8 : mS S gn sc7 R := by rw [← hssc7]; exact hMS.can _
    have e28 : sc7 28 = nI 0 := by rw [← hssc7]; exact upd_at _ _ _
    refine x_if_eq (tgt := 31) hE dX8_levelAnew_17 (by decide) (fun c17 => ?_) (fun c17 => ?_)
    · exact absurd c17 (by decide)
    · obtain ⟨k, hk, rfl⟩ := isN_t (by omega) q6
      have ek : (nI k).toNatClampNeg = k := nI_clamp (by omega)
      rw [ek]
      have hA := hMS8.1.2.2.2.2.2.2.1
      refine x_aload_n hE dX8_levelAnew_20 rfl rfl ?_
      refine x_iload_n hE dX8_levelAnew_21 rfl ?_
      refine x_callV (ci := 8) (st := []) hE 1 (c_X8_levelNow G hMc5 hMS8.1.2.1 hMS8.1.2.2.1 hL16 hMS8.1.2.2.2.1 hMS8.1.1 (hA.fI hI.1) hMS8.1.2.2.2.2.2.2.2.1 hgn hk) gX8_levelAnew_X8_levelNow rfl rfl rfl (by decide +kernel) ⟨Nat.le_of_ble_eq_true rfl, Nat.le_of_ble_eq_true rfl⟩ hMc5.o rfl rfl rfl dX8_levelAnew_22 rfl (Nat.le_of_ble_eq_true rfl) ⟨Nat.le_of_ble_eq_true rfl, Nat.le_of_ble_eq_true rfl⟩ (fun v h3 hp => ?_)
      obtain ⟨rfl, R3, hM3, s3⟩ := hp
      refine x_fq (y := (levS S (s_G S) k)) (hA.mix _ _ _ _ _) ?_
      have hb := (mixG_lv (L := s_L S) (B := s_B S) (i := k) hI.1.2.1 hI.1.2.2.1 hI.1.2.2.2.1 hI.1.2.2.2.2).bit0 (by decide)
      refine x_fq (y := (fB (levS S (s_G S) k).toNat)) ((fB_of _).symm) ?_
      refine x_callS (st := []) hE 1 (c_X8_bitsOf G (X := (levS S (s_G S) k).toNat) hb) gX8_levelAnew_X8_bitsOf rfl rfl rfl (by decide +kernel) ⟨Nat.le_of_ble_eq_true rfl, Nat.le_of_ble_eq_true rfl⟩ rfl rfl dX8_levelAnew_25 rfl (Nat.le_of_ble_eq_true rfl) ⟨Nat.le_of_ble_eq_true rfl, Nat.le_of_ble_eq_true rfl⟩ (fun v h9 hp => ?_)
      obtain ⟨rfl, rfl⟩ := hp
      refine x_goto (tgt := 32) hE dX8_levelAnew_28 (by decide) ?_
      exact x_iret hE dX8_levelAnew_32 (mP.ok (by unfold fLamp; rw [if_pos q6]) rfl hM3 (hMS8.sR s3) e28 (Nat.le_refl _))

set_option maxHeartbeats 4000000 in
set_option maxRecDepth 100000 in
theorem c_X8_loadOf (G : XG) {ma ow : Nat → Nat} {sc : Nat → Int32} {R : Nat → Nat → Int32} {h : HM} (hM : mM G ma ow sc R h) {S : PS} {gn : Nat} (hMS : mS S gn sc R) (hI : mI S) (hgn : gn ≤ 2 ^ 30) (ph : Int32) : x_M G yX8_loadOf wsX8_loadOf ({ frames := 6, cells := 0, slots := 0, locals := 139 } : Room) [.ref (ma 30), .int ph] h (mP G ma ow (fPhase ph) (nI (ldN (s_ar S) (s_L S) (s_B S) (s_t S) (s_G S) ph 16).toNat) (iff0 (fPhase ph) (S) S) (gn)) 0 0 := by
  refine x_M.of (cc := cX8_loadOf) (maxL := 2) (ret := (some .int)) (ent := [some (.ref (ma 30)), some (.int ph)]) (by decide +kernel) rfl (Nat.le_of_ble_eq_true rfl) rfl rfl ?_
  intro F hE hname
  have hL16 : s_L S ≤ 16 := hI.2.1
  have hC12 : s_C S ≤ 12 := hI.1.2.2.1
  refine x_aload_n hE dX8_loadOf_0 rfl rfl ?_
  refine x_iload_n hE dX8_loadOf_1 rfl ?_
  refine x_callS (st := [.ref (ma 30)]) hE 1 (c_X8_isPhase G ph) gX8_loadOf_X8_isPhase rfl rfl rfl (by decide +kernel) ⟨Nat.le_of_ble_eq_true rfl, Nat.le_of_ble_eq_true rfl⟩ rfl rfl dX8_loadOf_2 rfl (Nat.le_of_ble_eq_true rfl) ⟨Nat.le_of_ble_eq_true rfl, Nat.le_of_ble_eq_true rfl⟩ (fun v h9 hp => ?_)
  obtain ⟨rfl, rfl⟩ := hp
  refine x_if_eq (tgt := 12) hE dX8_loadOf_5 (by decide) (fun c5 => ?_) (fun c5 => ?_)
  · have q5 : (inI ph 0 2) = false := b2i_0.mp c5
    clear c5
    refine x_iconst (v := nI 1) hE dX8_loadOf_12 (by decide) ?_
    refine x_callV (ci := 8) (st := []) hE 1 (c_X8_can G hM (nI 1)) gX8_loadOf_X8_can rfl rfl rfl (by decide +kernel) ⟨Nat.le_of_ble_eq_true rfl, Nat.le_of_ble_eq_true rfl⟩ hM.o rfl rfl rfl dX8_loadOf_13 rfl (Nat.le_of_ble_eq_true rfl) ⟨Nat.le_of_ble_eq_true rfl, Nat.le_of_ble_eq_true rfl⟩ (fun v hc2 hp => ?_)
    obtain ⟨rfl, hMc1⟩ := hp
    refine x_ieq (y := nI 0) (by decide) ?_
    generalize hssc3 : upd sc 28 (nI 1) = sc3 at hMc1
    have hMS4 : mS S gn sc3 R := by rw [← hssc3]; exact hMS.can _
    have e28 : sc3 28 = nI 1 := by rw [← hssc3]; exact upd_at _ _ _
    refine x_if_eq (tgt := 30) hE dX8_loadOf_16 (by decide) (fun c16 => ?_) (fun c16 => ?_)
    · refine x_iconst (v := nI 0) hE dX8_loadOf_30 (by decide) ?_
      exact x_iret hE dX8_loadOf_31 (mP.no (by unfold fPhase; simp [*]) (by decide) hMc1 hMS4 e28 (Nat.le_refl _))
    · exact absurd c16 (by decide)
  · have q5 : (inI ph 0 2) = true := b2i_n0.mp c5
    clear c5
    refine x_iconst (v := nI 0) hE dX8_loadOf_8 (by decide) ?_
    refine x_goto (tgt := 13) hE dX8_loadOf_9 (by decide) ?_
    refine x_callV (ci := 8) (st := []) hE 1 (c_X8_can G hM (nI 0)) gX8_loadOf_X8_can rfl rfl rfl (by decide +kernel) ⟨Nat.le_of_ble_eq_true rfl, Nat.le_of_ble_eq_true rfl⟩ hM.o rfl rfl rfl dX8_loadOf_13 rfl (Nat.le_of_ble_eq_true rfl) ⟨Nat.le_of_ble_eq_true rfl, Nat.le_of_ble_eq_true rfl⟩ (fun v hc6 hp => ?_)
    obtain ⟨rfl, hMc5⟩ := hp
    refine x_ieq (y := nI 1) (by decide) ?_
    generalize hssc7 : upd sc 28 (nI 0) = sc7 at hMc5
    have hMS8 : mS S gn sc7 R := by rw [← hssc7]; exact hMS.can _
    have e28 : sc7 28 = nI 0 := by rw [← hssc7]; exact upd_at _ _ _
    refine x_if_eq (tgt := 30) hE dX8_loadOf_16 (by decide) (fun c16 => ?_) (fun c16 => ?_)
    · exact absurd c16 (by decide)
    · have hA := hMS8.1.2.2.2.2.2.2.1
      refine x_aload_n hE dX8_loadOf_19 rfl rfl ?_
      refine x_iload_n hE dX8_loadOf_20 rfl ?_
      refine x_callV (ci := 8) (st := []) hE 1 (c_X8_load G hMc5 hMS8.1.2.1 hMS8.1.2.2.1 hL16 hMS8.1.2.2.2.1 hMS8.1.1 (hA.fI hI.1) hMS8.1.2.2.2.2.2.2.2.1 hgn ph) gX8_loadOf_X8_load rfl rfl rfl (by decide +kernel) ⟨Nat.le_of_ble_eq_true rfl, Nat.le_of_ble_eq_true rfl⟩ hMc5.o rfl rfl rfl dX8_loadOf_21 rfl (Nat.le_of_ble_eq_true rfl) ⟨Nat.le_of_ble_eq_true rfl, Nat.le_of_ble_eq_true rfl⟩ (fun v h3 hp => ?_)
      obtain ⟨rfl, R3, hM3, s3⟩ := hp
      refine x_fq (y := (ldN (s_ar S) (s_L S) (s_B S) (s_t S) (s_G S) ph 16)) ((hA.ldN _ _ _ _ _ _).trans (ldN_16 hL16).symm) ?_
      have hb := (ldN_is (B := s_B S) (ph := ph) hI.1 16 (Nat.le_refl _)).bit0 (by decide)
      refine x_fq (y := (fB (ldN (s_ar S) (s_L S) (s_B S) (s_t S) (s_G S) ph 16).toNat)) ((fB_of _).symm) ?_
      refine x_callS (st := []) hE 1 (c_X8_bitsOf G (X := (ldN (s_ar S) (s_L S) (s_B S) (s_t S) (s_G S) ph 16).toNat) hb) gX8_loadOf_X8_bitsOf rfl rfl rfl (by decide +kernel) ⟨Nat.le_of_ble_eq_true rfl, Nat.le_of_ble_eq_true rfl⟩ rfl rfl dX8_loadOf_24 rfl (Nat.le_of_ble_eq_true rfl) ⟨Nat.le_of_ble_eq_true rfl, Nat.le_of_ble_eq_true rfl⟩ (fun v h9 hp => ?_)
      obtain ⟨rfl, rfl⟩ := hp
      refine x_goto (tgt := 31) hE dX8_loadOf_27 (by decide) ?_
      exact x_iret hE dX8_loadOf_31 (mP.ok (by unfold fPhase; rw [if_pos q5]) rfl hM3 (hMS8.sR s3) e28 (Nat.le_refl _))

set_option maxHeartbeats 4000000 in
set_option maxRecDepth 100000 in
theorem c_X8_watts (G : XG) {ma ow : Nat → Nat} {sc : Nat → Int32} {R : Nat → Nat → Int32} {h : HM} (hM : mM G ma ow sc R h) {S : PS} {gn : Nat} (hMS : mS S gn sc R) (hI : mI S) (hgn : gn ≤ 2 ^ 30) (ph : Int32) : x_M G yX8_watts wsX8_watts ({ frames := 6, cells := 0, slots := 0, locals := 139 } : Room) [.ref (ma 30), .int ph] h (mP G ma ow (fPhase ph) (FP.f2i (ldN (s_ar S) (s_L S) (s_B S) (s_t S) (s_G S) ph 16)) (iff0 (fPhase ph) (S) S) (gn)) 0 0 := by
  refine x_M.of (cc := cX8_watts) (maxL := 2) (ret := (some .int)) (ent := [some (.ref (ma 30)), some (.int ph)]) (by decide +kernel) rfl (Nat.le_of_ble_eq_true rfl) rfl rfl ?_
  intro F hE hname
  have hL16 : s_L S ≤ 16 := hI.2.1
  have hC12 : s_C S ≤ 12 := hI.1.2.2.1
  refine x_aload_n hE dX8_watts_0 rfl rfl ?_
  refine x_iload_n hE dX8_watts_1 rfl ?_
  refine x_callS (st := [.ref (ma 30)]) hE 1 (c_X8_isPhase G ph) gX8_watts_X8_isPhase rfl rfl rfl (by decide +kernel) ⟨Nat.le_of_ble_eq_true rfl, Nat.le_of_ble_eq_true rfl⟩ rfl rfl dX8_watts_2 rfl (Nat.le_of_ble_eq_true rfl) ⟨Nat.le_of_ble_eq_true rfl, Nat.le_of_ble_eq_true rfl⟩ (fun v h9 hp => ?_)
  obtain ⟨rfl, rfl⟩ := hp
  refine x_if_eq (tgt := 12) hE dX8_watts_5 (by decide) (fun c5 => ?_) (fun c5 => ?_)
  · have q5 : (inI ph 0 2) = false := b2i_0.mp c5
    clear c5
    refine x_iconst (v := nI 1) hE dX8_watts_12 (by decide) ?_
    refine x_callV (ci := 8) (st := []) hE 1 (c_X8_can G hM (nI 1)) gX8_watts_X8_can rfl rfl rfl (by decide +kernel) ⟨Nat.le_of_ble_eq_true rfl, Nat.le_of_ble_eq_true rfl⟩ hM.o rfl rfl rfl dX8_watts_13 rfl (Nat.le_of_ble_eq_true rfl) ⟨Nat.le_of_ble_eq_true rfl, Nat.le_of_ble_eq_true rfl⟩ (fun v hc2 hp => ?_)
    obtain ⟨rfl, hMc1⟩ := hp
    refine x_ieq (y := nI 0) (by decide) ?_
    generalize hssc3 : upd sc 28 (nI 1) = sc3 at hMc1
    have hMS4 : mS S gn sc3 R := by rw [← hssc3]; exact hMS.can _
    have e28 : sc3 28 = nI 1 := by rw [← hssc3]; exact upd_at _ _ _
    refine x_if_eq (tgt := 28) hE dX8_watts_16 (by decide) (fun c16 => ?_) (fun c16 => ?_)
    · refine x_iconst (v := nI 0) hE dX8_watts_28 (by decide) ?_
      exact x_iret hE dX8_watts_29 (mP.no (by unfold fPhase; simp [*]) (by decide) hMc1 hMS4 e28 (Nat.le_refl _))
    · exact absurd c16 (by decide)
  · have q5 : (inI ph 0 2) = true := b2i_n0.mp c5
    clear c5
    refine x_iconst (v := nI 0) hE dX8_watts_8 (by decide) ?_
    refine x_goto (tgt := 13) hE dX8_watts_9 (by decide) ?_
    refine x_callV (ci := 8) (st := []) hE 1 (c_X8_can G hM (nI 0)) gX8_watts_X8_can rfl rfl rfl (by decide +kernel) ⟨Nat.le_of_ble_eq_true rfl, Nat.le_of_ble_eq_true rfl⟩ hM.o rfl rfl rfl dX8_watts_13 rfl (Nat.le_of_ble_eq_true rfl) ⟨Nat.le_of_ble_eq_true rfl, Nat.le_of_ble_eq_true rfl⟩ (fun v hc6 hp => ?_)
    obtain ⟨rfl, hMc5⟩ := hp
    refine x_ieq (y := nI 1) (by decide) ?_
    generalize hssc7 : upd sc 28 (nI 0) = sc7 at hMc5
    have hMS8 : mS S gn sc7 R := by rw [← hssc7]; exact hMS.can _
    have e28 : sc7 28 = nI 0 := by rw [← hssc7]; exact upd_at _ _ _
    refine x_if_eq (tgt := 28) hE dX8_watts_16 (by decide) (fun c16 => ?_) (fun c16 => ?_)
    · exact absurd c16 (by decide)
    · have hA := hMS8.1.2.2.2.2.2.2.1
      refine x_aload_n hE dX8_watts_19 rfl rfl ?_
      refine x_iload_n hE dX8_watts_20 rfl ?_
      refine x_callV (ci := 8) (st := []) hE 1 (c_X8_load G hMc5 hMS8.1.2.1 hMS8.1.2.2.1 hL16 hMS8.1.2.2.2.1 hMS8.1.1 (hA.fI hI.1) hMS8.1.2.2.2.2.2.2.2.1 hgn ph) gX8_watts_X8_load rfl rfl rfl (by decide +kernel) ⟨Nat.le_of_ble_eq_true rfl, Nat.le_of_ble_eq_true rfl⟩ hMc5.o rfl rfl rfl dX8_watts_21 rfl (Nat.le_of_ble_eq_true rfl) ⟨Nat.le_of_ble_eq_true rfl, Nat.le_of_ble_eq_true rfl⟩ (fun v h3 hp => ?_)
      obtain ⟨rfl, R3, hM3, s3⟩ := hp
      refine x_fq (y := (ldN (s_ar S) (s_L S) (s_B S) (s_t S) (s_G S) ph 16)) ((hA.ldN _ _ _ _ _ _).trans (ldN_16 hL16).symm) ?_
      refine x_f2i hE dX8_watts_24 ?_
      refine x_goto (tgt := 29) hE dX8_watts_25 (by decide) ?_
      exact x_iret hE dX8_watts_29 (mP.ok (by unfold fPhase; rw [if_pos q5]) rfl hM3 (hMS8.sR s3) e28 (Nat.le_refl _))

set_option maxHeartbeats 4000000 in
set_option maxRecDepth 100000 in
theorem c_X8_asks (G : XG) {ma ow : Nat → Nat} {sc : Nat → Int32} {R : Nat → Nat → Int32} {h : HM} (hM : mM G ma ow sc R h) {S : PS} {gn : Nat} (hMS : mS S gn sc R) (hI : mI S) (c ph : Int32) : x_M G yX8_asks wsX8_asks ({ frames := 6, cells := 0, slots := 0, locals := 136 } : Room) [.ref (ma 30), .int c, .int ph] h (mP G ma ow (fAsks S c ph) (askP (s_ar S) (s_L S) (s_B S) (s_G S) c.toNatClampNeg ph) (iff0 (fAsks S c ph) (S) S) (gn)) 0 0 := by
  refine x_M.of (cc := cX8_asks) (maxL := 3) (ret := (some .int)) (ent := [some (.ref (ma 30)), some (.int c), some (.int ph)]) (by decide +kernel) rfl (Nat.le_of_ble_eq_true rfl) rfl rfl ?_
  intro F hE hname
  have hL16 : s_L S ≤ 16 := hI.2.1
  have hC12 : s_C S ≤ 12 := hI.1.2.2.1
  refine x_aload_n hE dX8_asks_0 rfl rfl ?_
  refine x_aload_n hE dX8_asks_1 rfl rfl ?_
  refine x_iload_n hE dX8_asks_2 rfl ?_
  refine x_callV (ci := 8) (st := [.ref (ma 30)]) hE 1 (c_X8_isCue G hM hMS.1.2.2.2.1 (by omega) c) gX8_asks_X8_isCue rfl rfl rfl (by decide +kernel) ⟨Nat.le_of_ble_eq_true rfl, Nat.le_of_ble_eq_true rfl⟩ hM.o rfl rfl rfl dX8_asks_3 rfl (Nat.le_of_ble_eq_true rfl) ⟨Nat.le_of_ble_eq_true rfl, Nat.le_of_ble_eq_true rfl⟩ (fun v h9 hp => ?_)
  obtain ⟨rfl, rfl⟩ := hp
  refine x_if_eq (tgt := 20) hE dX8_asks_6 (by decide) (fun c6 => ?_) (fun c6 => ?_)
  · have q6 : (isN c (s_C S)) = false := b2i_0.mp c6
    clear c6
    refine x_iconst (v := nI 1) hE dX8_asks_20 (by decide) ?_
    refine x_callV (ci := 8) (st := []) hE 1 (c_X8_can G hM (nI 1)) gX8_asks_X8_can rfl rfl rfl (by decide +kernel) ⟨Nat.le_of_ble_eq_true rfl, Nat.le_of_ble_eq_true rfl⟩ hM.o rfl rfl rfl dX8_asks_21 rfl (Nat.le_of_ble_eq_true rfl) ⟨Nat.le_of_ble_eq_true rfl, Nat.le_of_ble_eq_true rfl⟩ (fun v hc2 hp => ?_)
    obtain ⟨rfl, hMc1⟩ := hp
    refine x_ieq (y := nI 0) (by decide) ?_
    generalize hssc3 : upd sc 28 (nI 1) = sc3 at hMc1
    have hMS4 : mS S gn sc3 R := by rw [← hssc3]; exact hMS.can _
    have e28 : sc3 28 = nI 1 := by rw [← hssc3]; exact upd_at _ _ _
    refine x_if_eq (tgt := 36) hE dX8_asks_24 (by decide) (fun c24 => ?_) (fun c24 => ?_)
    · refine x_iconst (v := nI 0) hE dX8_asks_36 (by decide) ?_
      exact x_iret hE dX8_asks_37 (mP.no (by unfold fAsks; simp [*]) (by decide) hMc1 hMS4 e28 (Nat.le_refl _))
    · exact absurd c24 (by decide)
  · have q6 : (isN c (s_C S)) = true := b2i_n0.mp c6
    clear c6
    refine x_iload_n hE dX8_asks_9 rfl ?_
    refine x_callS (st := [.ref (ma 30)]) hE 1 (c_X8_isPhase G ph) gX8_asks_X8_isPhase rfl rfl rfl (by decide +kernel) ⟨Nat.le_of_ble_eq_true rfl, Nat.le_of_ble_eq_true rfl⟩ rfl rfl dX8_asks_10 rfl (Nat.le_of_ble_eq_true rfl) ⟨Nat.le_of_ble_eq_true rfl, Nat.le_of_ble_eq_true rfl⟩ (fun v h9 hp => ?_)
    obtain ⟨rfl, rfl⟩ := hp
    refine x_if_eq (tgt := 20) hE dX8_asks_13 (by decide) (fun c13 => ?_) (fun c13 => ?_)
    · have q13 : (inI ph 0 2) = false := b2i_0.mp c13
      clear c13
      refine x_iconst (v := nI 1) hE dX8_asks_20 (by decide) ?_
      refine x_callV (ci := 8) (st := []) hE 1 (c_X8_can G hM (nI 1)) gX8_asks_X8_can rfl rfl rfl (by decide +kernel) ⟨Nat.le_of_ble_eq_true rfl, Nat.le_of_ble_eq_true rfl⟩ hM.o rfl rfl rfl dX8_asks_21 rfl (Nat.le_of_ble_eq_true rfl) ⟨Nat.le_of_ble_eq_true rfl, Nat.le_of_ble_eq_true rfl⟩ (fun v hc6 hp => ?_)
      obtain ⟨rfl, hMc5⟩ := hp
      refine x_ieq (y := nI 0) (by decide) ?_
      generalize hssc7 : upd sc 28 (nI 1) = sc7 at hMc5
      have hMS8 : mS S gn sc7 R := by rw [← hssc7]; exact hMS.can _
      have e28 : sc7 28 = nI 1 := by rw [← hssc7]; exact upd_at _ _ _
      refine x_if_eq (tgt := 36) hE dX8_asks_24 (by decide) (fun c24 => ?_) (fun c24 => ?_)
      · refine x_iconst (v := nI 0) hE dX8_asks_36 (by decide) ?_
        exact x_iret hE dX8_asks_37 (mP.no (by unfold fAsks; simp [*]) (by decide) hMc5 hMS8 e28 (Nat.le_refl _))
      · exact absurd c24 (by decide)
    · have q13 : (inI ph 0 2) = true := b2i_n0.mp c13
      clear c13
      refine x_iconst (v := nI 0) hE dX8_asks_16 (by decide) ?_
      refine x_goto (tgt := 21) hE dX8_asks_17 (by decide) ?_
      refine x_callV (ci := 8) (st := []) hE 1 (c_X8_can G hM (nI 0)) gX8_asks_X8_can rfl rfl rfl (by decide +kernel) ⟨Nat.le_of_ble_eq_true rfl, Nat.le_of_ble_eq_true rfl⟩ hM.o rfl rfl rfl dX8_asks_21 rfl (Nat.le_of_ble_eq_true rfl) ⟨Nat.le_of_ble_eq_true rfl, Nat.le_of_ble_eq_true rfl⟩ (fun v hc10 hp => ?_)
      obtain ⟨rfl, hMc9⟩ := hp
      refine x_ieq (y := nI 1) (by decide) ?_
      generalize hssc11 : upd sc 28 (nI 0) = sc11 at hMc9
      have hMS12 : mS S gn sc11 R := by rw [← hssc11]; exact hMS.can _
      have e28 : sc11 28 = nI 0 := by rw [← hssc11]; exact upd_at _ _ _
      refine x_if_eq (tgt := 36) hE dX8_asks_24 (by decide) (fun c24 => ?_) (fun c24 => ?_)
      · exact absurd c24 (by decide)
      · obtain ⟨k, hk, rfl⟩ := isN_t (by omega) q6
        have ek : (nI k).toNatClampNeg = k := nI_clamp (by omega)
        rw [ek]
        have hA := hMS12.1.2.2.2.2.2.2.1
        refine x_aload_n hE dX8_asks_27 rfl rfl ?_
        refine x_iload_n hE dX8_asks_28 rfl ?_
        refine x_iload_n hE dX8_asks_29 rfl ?_
        refine x_callV (ci := 8) (st := []) hE 2 (c_X8_asked G hMc9 hMS12.1.2.1 hMS12.1.2.2.1 hMS12.1.2.2.2.1 hL16 hC12 hk (hA.to hI.1.2.1) hI.1.2.2.2.1 hMS12.1.2.2.2.2.2.2.2.1 ph) gX8_asks_X8_asked rfl rfl rfl (by decide +kernel) ⟨Nat.le_of_ble_eq_true rfl, Nat.le_of_ble_eq_true rfl⟩ hMc9.o rfl rfl rfl dX8_asks_30 rfl (Nat.le_of_ble_eq_true rfl) ⟨Nat.le_of_ble_eq_true rfl, Nat.le_of_ble_eq_true rfl⟩ (fun v h3 hp => ?_)
        obtain ⟨rfl, R3, hM3, s3⟩ := hp
        refine x_ieq (y := askP (s_ar S) (s_L S) (s_B S) (s_G S) k ph) (hA.ask _ _ _ _ _) ?_
        refine x_goto (tgt := 37) hE dX8_asks_33 (by decide) ?_
        exact x_iret hE dX8_asks_37 (mP.ok (by unfold fAsks; rw [if_pos ⟨q6, q13⟩]) rfl hM3 (hMS12.sR s3) e28 (Nat.le_refl _))

set_option maxHeartbeats 4000000 in
set_option maxRecDepth 100000 in
theorem c_X8_shines (G : XG) {ma ow : Nat → Nat} {sc : Nat → Int32} {R : Nat → Nat → Int32} {h : HM} (hM : mM G ma ow sc R h) {S : PS} {gn : Nat} (hMS : mS S gn sc R) (hI : mI S) (c i : Int32) : x_M G yX8_shines wsX8_shines ({ frames := 4, cells := 0, slots := 0, locals := 90 } : Room) [.ref (ma 30), .int c, .int i] h (mP G ma ow (fShines S c i) (shiP S c.toNatClampNeg i.toNatClampNeg) (iff0 (fShines S c i) (S) S) (gn)) 0 0 := by
  refine x_M.of (cc := cX8_shines) (maxL := 3) (ret := (some .int)) (ent := [some (.ref (ma 30)), some (.int c), some (.int i)]) (by decide +kernel) rfl (Nat.le_of_ble_eq_true rfl) rfl rfl ?_
  intro F hE hname
  have hinX8 : ∀ w ∈ wsX80, w ∈ wsX8_shines := by decide +kernel
  have hL16 : s_L S ≤ 16 := hI.2.1
  have hC12 : s_C S ≤ 12 := hI.1.2.2.1
  refine x_aload_n hE dX8_shines_0 rfl rfl ?_
  refine x_aload_n hE dX8_shines_1 rfl rfl ?_
  refine x_iload_n hE dX8_shines_2 rfl ?_
  refine x_callV (ci := 8) (st := [.ref (ma 30)]) hE 1 (c_X8_isCue G hM hMS.1.2.2.2.1 (by omega) c) gX8_shines_X8_isCue rfl rfl rfl (by decide +kernel) ⟨Nat.le_of_ble_eq_true rfl, Nat.le_of_ble_eq_true rfl⟩ hM.o rfl rfl rfl dX8_shines_3 rfl (Nat.le_of_ble_eq_true rfl) ⟨Nat.le_of_ble_eq_true rfl, Nat.le_of_ble_eq_true rfl⟩ (fun v h9 hp => ?_)
  obtain ⟨rfl, rfl⟩ := hp
  refine x_if_eq (tgt := 21) hE dX8_shines_6 (by decide) (fun c6 => ?_) (fun c6 => ?_)
  · have q6 : (isN c (s_C S)) = false := b2i_0.mp c6
    clear c6
    refine x_iconst (v := nI 1) hE dX8_shines_21 (by decide) ?_
    refine x_callV (ci := 8) (st := []) hE 1 (c_X8_can G hM (nI 1)) gX8_shines_X8_can rfl rfl rfl (by decide +kernel) ⟨Nat.le_of_ble_eq_true rfl, Nat.le_of_ble_eq_true rfl⟩ hM.o rfl rfl rfl dX8_shines_22 rfl (Nat.le_of_ble_eq_true rfl) ⟨Nat.le_of_ble_eq_true rfl, Nat.le_of_ble_eq_true rfl⟩ (fun v hc2 hp => ?_)
    obtain ⟨rfl, hMc1⟩ := hp
    refine x_ieq (y := nI 0) (by decide) ?_
    generalize hssc3 : upd sc 28 (nI 1) = sc3 at hMc1
    have hMS4 : mS S gn sc3 R := by rw [← hssc3]; exact hMS.can _
    have e28 : sc3 28 = nI 1 := by rw [← hssc3]; exact upd_at _ _ _
    refine x_if_ne (tgt := 30) hE dX8_shines_25 (by decide) (fun c25 => ?_) (fun c25 => ?_)
    · exact absurd c25 (by decide)
    · refine x_iconst (v := nI 0) hE dX8_shines_28 (by decide) ?_
      exact x_iret hE dX8_shines_29 (mP.no (by unfold fShines; simp [*]) (by decide) hMc1 hMS4 e28 (Nat.le_refl _))
  · have q6 : (isN c (s_C S)) = true := b2i_n0.mp c6
    clear c6
    refine x_aload_n hE dX8_shines_9 rfl rfl ?_
    refine x_iload_n hE dX8_shines_10 rfl ?_
    refine x_callV (ci := 8) (st := [.ref (ma 30)]) hE 1 (c_X8_isLamp G hM hMS.1.2.1 (by omega) i) gX8_shines_X8_isLamp rfl rfl rfl (by decide +kernel) ⟨Nat.le_of_ble_eq_true rfl, Nat.le_of_ble_eq_true rfl⟩ hM.o rfl rfl rfl dX8_shines_11 rfl (Nat.le_of_ble_eq_true rfl) ⟨Nat.le_of_ble_eq_true rfl, Nat.le_of_ble_eq_true rfl⟩ (fun v h9 hp => ?_)
    obtain ⟨rfl, rfl⟩ := hp
    refine x_if_eq (tgt := 21) hE dX8_shines_14 (by decide) (fun c14 => ?_) (fun c14 => ?_)
    · have q14 : (isN i (s_L S)) = false := b2i_0.mp c14
      clear c14
      refine x_iconst (v := nI 1) hE dX8_shines_21 (by decide) ?_
      refine x_callV (ci := 8) (st := []) hE 1 (c_X8_can G hM (nI 1)) gX8_shines_X8_can rfl rfl rfl (by decide +kernel) ⟨Nat.le_of_ble_eq_true rfl, Nat.le_of_ble_eq_true rfl⟩ hM.o rfl rfl rfl dX8_shines_22 rfl (Nat.le_of_ble_eq_true rfl) ⟨Nat.le_of_ble_eq_true rfl, Nat.le_of_ble_eq_true rfl⟩ (fun v hc6 hp => ?_)
      obtain ⟨rfl, hMc5⟩ := hp
      refine x_ieq (y := nI 0) (by decide) ?_
      generalize hssc7 : upd sc 28 (nI 1) = sc7 at hMc5
      have hMS8 : mS S gn sc7 R := by rw [← hssc7]; exact hMS.can _
      have e28 : sc7 28 = nI 1 := by rw [← hssc7]; exact upd_at _ _ _
      refine x_if_ne (tgt := 30) hE dX8_shines_25 (by decide) (fun c25 => ?_) (fun c25 => ?_)
      · exact absurd c25 (by decide)
      · refine x_iconst (v := nI 0) hE dX8_shines_28 (by decide) ?_
        exact x_iret hE dX8_shines_29 (mP.no (by unfold fShines; simp [*]) (by decide) hMc5 hMS8 e28 (Nat.le_refl _))
    · have q14 : (isN i (s_L S)) = true := b2i_n0.mp c14
      clear c14
      refine x_iconst (v := nI 0) hE dX8_shines_17 (by decide) ?_
      refine x_goto (tgt := 22) hE dX8_shines_18 (by decide) ?_
      refine x_callV (ci := 8) (st := []) hE 1 (c_X8_can G hM (nI 0)) gX8_shines_X8_can rfl rfl rfl (by decide +kernel) ⟨Nat.le_of_ble_eq_true rfl, Nat.le_of_ble_eq_true rfl⟩ hM.o rfl rfl rfl dX8_shines_22 rfl (Nat.le_of_ble_eq_true rfl) ⟨Nat.le_of_ble_eq_true rfl, Nat.le_of_ble_eq_true rfl⟩ (fun v hc10 hp => ?_)
      obtain ⟨rfl, hMc9⟩ := hp
      refine x_ieq (y := nI 1) (by decide) ?_
      generalize hssc11 : upd sc 28 (nI 0) = sc11 at hMc9
      have hMS12 : mS S gn sc11 R := by rw [← hssc11]; exact hMS.can _
      have e28 : sc11 28 = nI 0 := by rw [← hssc11]; exact upd_at _ _ _
      refine x_if_ne (tgt := 30) hE dX8_shines_25 (by decide) (fun c25 => ?_) (fun c25 => ?_)
      · obtain ⟨k, hk, rfl⟩ := isN_t (by omega) q6
        have ek : (nI k).toNatClampNeg = k := nI_clamp (by omega)
        rw [ek]
        obtain ⟨j, hj, rfl⟩ := isN_t (by omega) q14
        have ej : (nI j).toNatClampNeg = j := nI_clamp (by omega)
        rw [ej]
        have hA := hMS12.1.2.2.2.2.2.2.1
        refine x_aload_n hE dX8_shines_30 rfl rfl ?_
        refine x_iload_n hE dX8_shines_31 rfl ?_
        refine x_callV (ci := 8) (st := []) hE 1 (c_X8_finds G hMc9 hMS12.1.2.1 hMS12.1.2.2.1 hL16 (by omega : k < 12) (fun j9 hj9 => hA.to hI.1.2.1 _ j9 hk hj9)) gX8_shines_X8_finds rfl rfl rfl (by decide +kernel) ⟨Nat.le_of_ble_eq_true rfl, Nat.le_of_ble_eq_true rfl⟩ hMc9.o rfl rfl rfl dX8_shines_32 rfl (Nat.le_of_ble_eq_true rfl) ⟨Nat.le_of_ble_eq_true rfl, Nat.le_of_ble_eq_true rfl⟩ (fun v h3 hp => ?_)
        obtain ⟨rfl, I9, Sh, hM3, hIS⟩ := hp
        generalize hR1 : rowUp (rowUp R 26 I9) 27 Sh = R1 at hM3
        have s1 : sR R R1 := by rw [← hR1]; exact ((sR.refl R).up (Or.inl rfl)).up (Or.inr (Or.inl rfl))
        have e27 : R1 27 j = shiP S k j := by rw [← hR1, rowUp_at, (hIS j hj).2, hA.arr]; rfl
        refine x_aload_n hE dX8_shines_35 rfl rfl ?_
        refine x_get hE hinX8 hM3.o rfl 27 (by decide) (List.mem_of_getElem? (i := 1) rfl) rfl dX8_shines_36 ?_
        refine x_iload_n hE dX8_shines_39 rfl ?_
        refine x_iald (v := shiP S k j) hE hM3.a27 (vp_in_nI (by omega) (by decide)) ((x_atN _ (by omega)).trans e27) dX8_shines_40 ?_
        exact x_iret hE dX8_shines_41 (mP.ok (by unfold fShines; rw [if_pos ⟨q6, q14⟩]) rfl hM3 (hMS12.sR s1) e28 (Nat.le_refl _))
      · exact absurd c25 (by decide)

set_option maxHeartbeats 4000000 in
set_option maxRecDepth 100000 in
theorem c_X8_barred (G : XG) {ma ow : Nat → Nat} {sc : Nat → Int32} {R : Nat → Nat → Int32} {h : HM} (hM : mM G ma ow sc R h) {S : PS} {gn : Nat} (hMS : mS S gn sc R) (hI : mI S) : x_M G yX8_barred wsX8_barred ({ frames := 0, cells := 0, slots := 0, locals := 0 } : Room) [.ref (ma 30)] h (mP G ma ow (0) (nI (s_b S)) (iff0 (0) (S) S) (gn)) 0 0 := by
  refine x_M.of (cc := cX8_barred) (maxL := 1) (ret := (some .int)) (ent := [some (.ref (ma 30))]) (by decide +kernel) rfl (Nat.le_of_ble_eq_true rfl) rfl rfl ?_
  intro F hE hname
  have hinX8 : ∀ w ∈ wsX80, w ∈ wsX8_barred := by decide +kernel
  have hL16 : s_L S ≤ 16 := hI.2.1
  have hC12 : s_C S ≤ 12 := hI.1.2.2.1
  refine x_aload_n hE dX8_barred_0 rfl rfl ?_
  refine x_iconst (v := nI 0) hE dX8_barred_1 (by decide) ?_
  refine x_put (fs' := [.int (sc 0), .int (sc 1), .ref (ma 2), .ref (ma 3), .ref (ma 4), .ref (ma 5), .ref (ma 6), .ref (ma 7), .int (sc 8), .ref (ma 9), .int (sc 10), .ref (ma 11), .ref (ma 12), .ref (ma 13), .ref (ma 14), .ref (ma 15), .ref (ma 16), .ref (ma 17), .ref (ma 18), .ref (ma 19), .ref (ma 20), .int (sc 21), .int (sc 22), .ref (ma 23), .ref (ma 24), .int (sc 25), .ref (ma 26), .ref (ma 27), .int (nI 0), .ref (ma 29)]) hE hinX8 tyX8 tyX8_ok nmX8 hM.o rfl 28 (by decide) (List.mem_of_getElem? (i := 1) rfl) rfl rfl rfl (Nat.le_of_ble_eq_true rfl) rfl dX8_barred_2 ?_
  generalize hhh1 : x_up h (ma 30) (.inr (8, [.int (sc 0), .int (sc 1), .ref (ma 2), .ref (ma 3), .ref (ma 4), .ref (ma 5), .ref (ma 6), .ref (ma 7), .int (sc 8), .ref (ma 9), .int (sc 10), .ref (ma 11), .ref (ma 12), .ref (ma 13), .ref (ma 14), .ref (ma 15), .ref (ma 16), .ref (ma 17), .ref (ma 18), .ref (ma 19), .ref (ma 20), .int (sc 21), .int (sc 22), .ref (ma 23), .ref (ma 24), .int (sc 25), .ref (ma 26), .ref (ma 27), .int (nI 0), .ref (ma 29)])) = h1
  have hM2 : mM G ma ow (upd sc 28 (nI 0)) R h1 := by rw [← hhh1]; exact hM.num (upd sc 28 (nI 0))
  refine x_aload_n hE dX8_barred_5 rfl rfl ?_
  refine x_get hE hinX8 hM2.o rfl 25 (by decide) (List.mem_of_getElem? (i := 2) rfl) rfl dX8_barred_6 ?_
  refine x_ieq (y := nI (s_b S)) ((upd_ne (by decide)).trans hMS.1.2.2.2.2.2.1) ?_
  exact x_iret hE dX8_barred_9 (mP.ok rfl rfl hM2 (hMS.can _) (upd_at _ _ _) (Nat.le_refl _))
