/-! the class asked what it answers: no cost, the heap as it was -/
set_option maxHeartbeats 4000000 in
set_option maxRecDepth 100000 in
theorem n_X7_loadOf (G : XG) {ad ow : Nat → Nat} {eA : Nat} {A1 P1 : List Nat} {c1 : Nat → GC} {A2 P2 : List Nat} {c2 : Nat → GC} {RY : List Nat} {S : PS} {h : HM} (hW : cW G ad ow eA A1 P1 c1 A2 P2 c2 RY S h) (hf : fI (s_ar S) (s_L S) (s_C S) (s_t S) (s_G S)) (ph : Int32) (hf0 : fPhase ph = 0) : x_M G yX7_loadOf wsX7_loadOf ({ frames := 6, cells := 0, slots := 0, locals := 93 } : Room) [.ref (ad 0), .int ph] h (x_is (some (.int (nI (ldN (s_ar S) (s_L S) (s_B S) (s_t S) (s_G S) ph 16).toNat))) h) 0 0 := by
  refine x_M.of (cc := cX7_loadOf) (maxL := 2) (ret := (some .int)) (ent := [some (.ref (ad 0)), some (.int ph)]) (by decide +kernel) rfl (Nat.le_of_ble_eq_true rfl) rfl rfl ?_
  intro F hE hname
  have hW0 := hW
  obtain ⟨hB, hR, hC, hp, hl, hr, hw, hI, hO⟩ := hW0
  refine x_iload_n hE dX7_loadOf_0 rfl ?_
  refine x_callS (st := []) hE 1 (c_X7_isPhase G ph) gX7_loadOf_X7_isPhase rfl rfl rfl (by decide +kernel) ⟨Nat.le_of_ble_eq_true rfl, Nat.le_of_ble_eq_true rfl⟩ rfl rfl dX7_loadOf_1 rfl (Nat.le_of_ble_eq_true rfl) ⟨Nat.le_of_ble_eq_true rfl, Nat.le_of_ble_eq_true rfl⟩ (fun v h9 hp => ?_)
  obtain ⟨rfl, rfl⟩ := hp
  refine x_if_ne (tgt := 17) hE dX7_loadOf_4 (by decide) (fun c4 => ?_) (fun c4 => ?_)
  · have q1 : inI ph 0 2 = true := b2i_n0.mp c4
    refine x_aload_n hE dX7_loadOf_17 rfl rfl ?_
    refine x_iload_n hE dX7_loadOf_18 rfl ?_
    refine x_callV (ci := 7) (st := []) hE 1 (c_X7_loadNow G hW hf ph) gX7_loadOf_X7_loadNow rfl rfl rfl (by decide +kernel) ⟨Nat.le_of_ble_eq_true rfl, Nat.le_of_ble_eq_true rfl⟩ hB rfl rfl rfl dX7_loadOf_19 rfl (Nat.le_of_ble_eq_true rfl) ⟨Nat.le_of_ble_eq_true rfl, Nat.le_of_ble_eq_true rfl⟩ (fun v h9 hp => ?_)
    obtain ⟨rfl, rfl⟩ := hp
    have hb := (ldN_is (B := s_B S) (ph := ph) hf 16 (Nat.le_refl _)).bits (by decide)
    refine x_fq (y := (fB (ldN (s_ar S) (s_L S) (s_B S) (s_t S) (s_G S) ph 16).toNat)) ((fB_of _).symm) ?_
    refine x_callS (st := []) hE 1 (c_X7_bitsOf G (X := (ldN (s_ar S) (s_L S) (s_B S) (s_t S) (s_G S) ph 16).toNat) (hb.elim (fun z => Or.inl (by rw [z]; exact fB_nat (by decide))) Or.inr)) gX7_loadOf_X7_bitsOf rfl rfl rfl (by decide +kernel) ⟨Nat.le_of_ble_eq_true rfl, Nat.le_of_ble_eq_true rfl⟩ rfl rfl dX7_loadOf_22 rfl (Nat.le_of_ble_eq_true rfl) ⟨Nat.le_of_ble_eq_true rfl, Nat.le_of_ble_eq_true rfl⟩ (fun v h9 hp => ?_)
    obtain ⟨rfl, rfl⟩ := hp
    exact x_iret hE dX7_loadOf_25 ⟨rfl, rfl⟩
  · (unfold fPhase at hf0; rw [if_neg (by rw [show inI ph 0 2 = false from b2i_0.mp c4]; decide)] at hf0; exact absurd hf0 (by decide))
set_option maxHeartbeats 4000000 in
set_option maxRecDepth 100000 in
theorem n_X7_watts (G : XG) {ad ow : Nat → Nat} {eA : Nat} {A1 P1 : List Nat} {c1 : Nat → GC} {A2 P2 : List Nat} {c2 : Nat → GC} {RY : List Nat} {S : PS} {h : HM} (hW : cW G ad ow eA A1 P1 c1 A2 P2 c2 RY S h) (hf : fI (s_ar S) (s_L S) (s_C S) (s_t S) (s_G S)) (ph : Int32) (hf0 : fPhase ph = 0) : x_M G yX7_watts wsX7_watts ({ frames := 6, cells := 0, slots := 0, locals := 93 } : Room) [.ref (ad 0), .int ph] h (x_is (some (.int (FP.f2i (ldN (s_ar S) (s_L S) (s_B S) (s_t S) (s_G S) ph 16)))) h) 0 0 := by
  refine x_M.of (cc := cX7_watts) (maxL := 2) (ret := (some .int)) (ent := [some (.ref (ad 0)), some (.int ph)]) (by decide +kernel) rfl (Nat.le_of_ble_eq_true rfl) rfl rfl ?_
  intro F hE hname
  have hW0 := hW
  obtain ⟨hB, hR, hC, hp, hl, hr, hw, hI, hO⟩ := hW0
  refine x_iload_n hE dX7_watts_0 rfl ?_
  refine x_callS (st := []) hE 1 (c_X7_isPhase G ph) gX7_watts_X7_isPhase rfl rfl rfl (by decide +kernel) ⟨Nat.le_of_ble_eq_true rfl, Nat.le_of_ble_eq_true rfl⟩ rfl rfl dX7_watts_1 rfl (Nat.le_of_ble_eq_true rfl) ⟨Nat.le_of_ble_eq_true rfl, Nat.le_of_ble_eq_true rfl⟩ (fun v h9 hp => ?_)
  obtain ⟨rfl, rfl⟩ := hp
  refine x_if_ne (tgt := 17) hE dX7_watts_4 (by decide) (fun c4 => ?_) (fun c4 => ?_)
  · have q1 : inI ph 0 2 = true := b2i_n0.mp c4
    refine x_aload_n hE dX7_watts_17 rfl rfl ?_
    refine x_iload_n hE dX7_watts_18 rfl ?_
    refine x_callV (ci := 7) (st := []) hE 1 (c_X7_loadNow G hW hf ph) gX7_watts_X7_loadNow rfl rfl rfl (by decide +kernel) ⟨Nat.le_of_ble_eq_true rfl, Nat.le_of_ble_eq_true rfl⟩ hB rfl rfl rfl dX7_watts_19 rfl (Nat.le_of_ble_eq_true rfl) ⟨Nat.le_of_ble_eq_true rfl, Nat.le_of_ble_eq_true rfl⟩ (fun v h9 hp => ?_)
    obtain ⟨rfl, rfl⟩ := hp
    refine x_f2i hE dX7_watts_22 ?_
    exact x_iret hE dX7_watts_23 ⟨rfl, rfl⟩
  · (unfold fPhase at hf0; rw [if_neg (by rw [show inI ph 0 2 = false from b2i_0.mp c4]; decide)] at hf0; exact absurd hf0 (by decide))
set_option maxHeartbeats 4000000 in
set_option maxRecDepth 100000 in
theorem n_X7_levelOf (G : XG) {ad ow : Nat → Nat} {eA : Nat} {A1 P1 : List Nat} {c1 : Nat → GC} {A2 P2 : List Nat} {c2 : Nat → GC} {RY : List Nat} {S : PS} {h : HM} (hW : cW G ad ow eA A1 P1 c1 A2 P2 c2 RY S h) (hf : fI (s_ar S) (s_L S) (s_C S) (s_t S) (s_G S)) (i : Int32) (hf0 : fLamp S i = 0) : x_M G yX7_levelOf wsX7_levelOf ({ frames := 6, cells := 0, slots := 0, locals := 90 } : Room) [.ref (ad 0), .int i] h (x_is (some (.int (nI (levS S (s_G S) i.toNatClampNeg).toNat))) h) 0 0 := by
  refine x_M.of (cc := cX7_levelOf) (maxL := 2) (ret := (some .int)) (ent := [some (.ref (ad 0)), some (.int i)]) (by decide +kernel) rfl (Nat.le_of_ble_eq_true rfl) rfl rfl ?_
  intro F hE hname
  have hinX7 : ∀ w ∈ wsX70, w ∈ wsX7_levelOf := by decide +kernel
  have hW0 := hW
  obtain ⟨hB, hR, hC, hp, hl, hr, hw, hI, hO⟩ := hW0
  refine x_aload_n hE dX7_levelOf_0 rfl rfl ?_
  refine x_get hE hinX7 hB rfl 0 (by decide) (List.mem_of_getElem? (i := 3) rfl) rfl dX7_levelOf_1 ?_
  refine x_iload_n hE dX7_levelOf_4 rfl ?_
  refine x_callV (ci := 5) (st := []) hE 1 (c_X5_lampAt G hR.1 hR.2.1 i) gX7_levelOf_X5_lampAt rfl rfl rfl (by decide +kernel) ⟨Nat.le_of_ble_eq_true rfl, Nat.le_of_ble_eq_true rfl⟩ hR.1 rfl rfl rfl dX7_levelOf_5 rfl (Nat.le_of_ble_eq_true rfl) ⟨Nat.le_of_ble_eq_true rfl, Nat.le_of_ble_eq_true rfl⟩ (fun v h9 hp => ?_)
  obtain ⟨rfl, rfl⟩ := hp
  rcases sel_n (x := i) (f := fun i => ad (20 + i)) hR.2.2.1 (by decide : 16 < 2 ^ 31) with ⟨hq, k, hk1, hk, hz⟩ | ⟨hq, hz⟩
  · subst hk
    refine x_qref (q := (ad (20 + k))) (hz) ?_
    refine x_ifnonnull (tgt := 21) hE dX7_levelOf_8 (by decide) ?_
    have hL16 := hR.2.2.1
    refine x_aload_n hE dX7_levelOf_21 rfl rfl ?_
    refine x_get hE hinX7 hB rfl 3 (by decide) (List.mem_of_getElem? (i := 4) rfl) rfl dX7_levelOf_22 ?_
    refine x_iload_n hE dX7_levelOf_25 rfl ?_
    refine x_aload_n hE dX7_levelOf_26 rfl rfl ?_
    refine x_get hE hinX7 hB rfl 8 (by decide) (List.mem_of_getElem? (i := 5) rfl) rfl dX7_levelOf_27 ?_
    have hK := goK_of (ar := s_ar S) (L := s_L S) (B := s_B S) hO hC hl.2 hf.2.2.2.1.2
    refine x_callV (ci := 2) (st := []) hE 2 (c_X2_mix G hl.1 (now := nI (s_t S)) hK (by omega : k < 16) (mas_mg hO hl.2 hf)) gX7_levelOf_X2_mix rfl rfl rfl (by decide +kernel) ⟨Nat.le_of_ble_eq_true rfl, Nat.le_of_ble_eq_true rfl⟩ hl.1.1 rfl rfl rfl dX7_levelOf_30 rfl (Nat.le_of_ble_eq_true rfl) ⟨Nat.le_of_ble_eq_true rfl, Nat.le_of_ble_eq_true rfl⟩ (fun v h9 hp => ?_)
    obtain ⟨rfl, rfl⟩ := hp
    refine x_fq (y := (levS S (s_G S) k)) (mixG_of hO hl.2 hf.2.2.2.1.2 _ _) ?_
    have hb := (mixG_lv (L := s_L S) (B := s_B S) (i := k) hf.2.1 hf.2.2.1 hf.2.2.2.1 hf.2.2.2.2).bits (by decide)
    refine x_fq (y := (fB (levS S (s_G S) k).toNat)) ((fB_of _).symm) ?_
    refine x_callS (st := []) hE 1 (c_X7_bitsOf G (X := (levS S (s_G S) k).toNat) (hb.elim (fun z => Or.inl (by unfold levS; rw [z]; exact fB_nat (by decide))) Or.inr)) gX7_levelOf_X7_bitsOf rfl rfl rfl (by decide +kernel) ⟨Nat.le_of_ble_eq_true rfl, Nat.le_of_ble_eq_true rfl⟩ rfl rfl dX7_levelOf_33 rfl (Nat.le_of_ble_eq_true rfl) ⟨Nat.le_of_ble_eq_true rfl, Nat.le_of_ble_eq_true rfl⟩ (fun v h9 hp => ?_)
    obtain ⟨rfl, rfl⟩ := hp
    exact x_iret hE dX7_levelOf_36 ⟨by rw [nI_clamp (by omega)], rfl⟩
  · refine x_qnull (hz) ?_
    refine x_ifnonnullN hE dX7_levelOf_8 ?_
    (unfold fLamp at hf0; rw [if_neg (by rw [hq]; decide)] at hf0; exact absurd hf0 (by decide))
set_option maxHeartbeats 4000000 in
set_option maxRecDepth 100000 in
theorem n_X7_asks (G : XG) {ad ow : Nat → Nat} {eA : Nat} {A1 P1 : List Nat} {c1 : Nat → GC} {A2 P2 : List Nat} {c2 : Nat → GC} {RY : List Nat} {S : PS} {h : HM} (hW : cW G ad ow eA A1 P1 c1 A2 P2 c2 RY S h) (hg : gI (s_C S) (s_G S)) (c ph : Int32) (hf0 : fAsks S c ph = 0) : x_M G yX7_asks wsX7_asks ({ frames := 6, cells := 0, slots := 0, locals := 91 } : Room) [.ref (ad 0), .int c, .int ph] h (x_is (some (.int (askP (s_ar S) (s_L S) (s_B S) (s_G S) c.toNatClampNeg ph))) h) 0 0 := by
  refine x_M.of (cc := cX7_asks) (maxL := 4) (ret := (some .int)) (ent := [some (.ref (ad 0)), some (.int c), some (.int ph), none]) (by decide +kernel) rfl (Nat.le_of_ble_eq_true rfl) rfl rfl ?_
  intro F hE hname
  have hW0 := hW
  obtain ⟨hB, hR, hC, hp, hl, hr, hw, hI, hO⟩ := hW0
  refine x_aload_n hE dX7_asks_0 rfl rfl ?_
  refine x_iload_n hE dX7_asks_1 rfl ?_
  refine x_callV (ci := 7) (st := []) hE 1 (c_X7_cueAt G hB hC.1 c) gX7_asks_X7_cueAt rfl rfl rfl (by decide +kernel) ⟨Nat.le_of_ble_eq_true rfl, Nat.le_of_ble_eq_true rfl⟩ hB rfl rfl rfl dX7_asks_2 rfl (Nat.le_of_ble_eq_true rfl) ⟨Nat.le_of_ble_eq_true rfl, Nat.le_of_ble_eq_true rfl⟩ (fun v h9 hp => ?_)
  obtain ⟨rfl, rfl⟩ := hp
  rcases sel_n (x := c) (f := fun i => ad (100 + 4 * i)) hC.2.1 (by decide : 12 < 2 ^ 31) with ⟨hq, k, hk1, hk, hz⟩ | ⟨hq, hz⟩
  · subst hk
    refine x_qref (q := (ad (100 + 4 * k))) (hz) ?_
    refine x_astore_n (L' := [some (.ref (ad 0)), some (.int (nI k)), some (.int ph), some (.ref (ad (100 + 4 * k)))]) hE dX7_asks_5 rfl (Nat.le_of_ble_eq_true rfl) rfl rfl ?_
    refine x_aload_n hE dX7_asks_6 rfl rfl ?_
    refine x_ifnull hE dX7_asks_7 ?_
    have hC12 := hC.2.1
    refine x_iload_n hE dX7_asks_10 rfl ?_
    refine x_callS (st := []) hE 1 (c_X7_isPhase G ph) gX7_asks_X7_isPhase rfl rfl rfl (by decide +kernel) ⟨Nat.le_of_ble_eq_true rfl, Nat.le_of_ble_eq_true rfl⟩ rfl rfl dX7_asks_11 rfl (Nat.le_of_ble_eq_true rfl) ⟨Nat.le_of_ble_eq_true rfl, Nat.le_of_ble_eq_true rfl⟩ (fun v h9 hp => ?_)
    obtain ⟨rfl, rfl⟩ := hp
    refine x_if_ne (tgt := 27) hE dX7_asks_14 (by decide) (fun cc => ?_) (fun cc => ?_)
    · have q1 : inI ph 0 2 = true := b2i_n0.mp cc
      refine x_aload_n hE dX7_asks_27 rfl rfl ?_
      refine x_aload_n hE dX7_asks_28 rfl rfl ?_
      refine x_iload_n hE dX7_asks_29 rfl ?_
      refine x_callV (ci := 7) (st := []) hE 2 (c_X7_wattsAsked G hB hO hR hC hl hg.2 hk1 ph) gX7_asks_X7_wattsAsked rfl rfl rfl (by decide +kernel) ⟨Nat.le_of_ble_eq_true rfl, Nat.le_of_ble_eq_true rfl⟩ hB rfl rfl rfl dX7_asks_30 rfl (Nat.le_of_ble_eq_true rfl) ⟨Nat.le_of_ble_eq_true rfl, Nat.le_of_ble_eq_true rfl⟩ (fun v h9 hp => ?_)
      obtain ⟨rfl, rfl⟩ := hp
      exact x_iret hE dX7_asks_33 ⟨by rw [nI_clamp (by omega)], rfl⟩
    · (unfold fAsks at hf0; rw [if_neg (by rw [show inI ph 0 2 = false from b2i_0.mp cc]; simp)] at hf0; exact absurd hf0 (by decide))
  · refine x_qnull (hz) ?_
    refine x_astore_n (L' := [some (.ref (ad 0)), some (.int c), some (.int ph), some (.null)]) hE dX7_asks_5 rfl (Nat.le_of_ble_eq_true rfl) rfl rfl ?_
    refine x_aload_n hE dX7_asks_6 rfl rfl ?_
    refine x_ifnullN (tgt := 17) hE dX7_asks_7 (by decide) ?_
    (unfold fAsks at hf0; rw [if_neg (by rw [hq]; simp)] at hf0; exact absurd hf0 (by decide))
set_option maxHeartbeats 4000000 in
set_option maxRecDepth 100000 in
theorem n_X7_shines (G : XG) {ad ow : Nat → Nat} {eA : Nat} {A1 P1 : List Nat} {c1 : Nat → GC} {A2 P2 : List Nat} {c2 : Nat → GC} {RY : List Nat} {S : PS} {h : HM} (hW : cW G ad ow eA A1 P1 c1 A2 P2 c2 RY S h) (c i : Int32) (hf0 : fShines S c i = 0) : x_M G yX7_shines wsX7_shines ({ frames := 6, cells := 0, slots := 0, locals := 90 } : Room) [.ref (ad 0), .int c, .int i] h (x_is (some (.int (shiP S c.toNatClampNeg i.toNatClampNeg))) h) 0 0 := by
  refine x_M.of (cc := cX7_shines) (maxL := 4) (ret := (some .int)) (ent := [some (.ref (ad 0)), some (.int c), some (.int i), none]) (by decide +kernel) rfl (Nat.le_of_ble_eq_true rfl) rfl rfl ?_
  intro F hE hname
  have hinX7 : ∀ w ∈ wsX70, w ∈ wsX7_shines := by decide +kernel
  have hW0 := hW
  obtain ⟨hB, hR, hC, hp, hl, hr, hw, hI, hO⟩ := hW0
  refine x_aload_n hE dX7_shines_0 rfl rfl ?_
  refine x_iload_n hE dX7_shines_1 rfl ?_
  refine x_callV (ci := 7) (st := []) hE 1 (c_X7_cueAt G hB hC.1 c) gX7_shines_X7_cueAt rfl rfl rfl (by decide +kernel) ⟨Nat.le_of_ble_eq_true rfl, Nat.le_of_ble_eq_true rfl⟩ hB rfl rfl rfl dX7_shines_2 rfl (Nat.le_of_ble_eq_true rfl) ⟨Nat.le_of_ble_eq_true rfl, Nat.le_of_ble_eq_true rfl⟩ (fun v h9 hp => ?_)
  obtain ⟨rfl, rfl⟩ := hp
  rcases sel_n (x := c) (f := fun i => ad (100 + 4 * i)) hC.2.1 (by decide : 12 < 2 ^ 31) with ⟨hq, k, hk1, hk, hz⟩ | ⟨hq, hz⟩
  · subst hk
    refine x_qref (q := (ad (100 + 4 * k))) (hz) ?_
    refine x_astore_n (L' := [some (.ref (ad 0)), some (.int (nI k)), some (.int i), some (.ref (ad (100 + 4 * k)))]) hE dX7_shines_5 rfl (Nat.le_of_ble_eq_true rfl) rfl rfl ?_
    refine x_aload_n hE dX7_shines_6 rfl rfl ?_
    refine x_ifnull hE dX7_shines_7 ?_
    have hC12 := hC.2.1
    refine x_aload_n hE dX7_shines_10 rfl rfl ?_
    refine x_get hE hinX7 hB rfl 0 (by decide) (List.mem_of_getElem? (i := 3) rfl) rfl dX7_shines_11 ?_
    refine x_iload_n hE dX7_shines_14 rfl ?_
    refine x_callV (ci := 5) (st := []) hE 1 (c_X5_lampAt G hR.1 hR.2.1 i) gX7_shines_X5_lampAt rfl rfl rfl (by decide +kernel) ⟨Nat.le_of_ble_eq_true rfl, Nat.le_of_ble_eq_true rfl⟩ hR.1 rfl rfl rfl dX7_shines_15 rfl (Nat.le_of_ble_eq_true rfl) ⟨Nat.le_of_ble_eq_true rfl, Nat.le_of_ble_eq_true rfl⟩ (fun v h9 hp => ?_)
    obtain ⟨rfl, rfl⟩ := hp
    rcases sel_n (x := i) (f := fun i => ad (20 + i)) hR.2.2.1 (by decide : 16 < 2 ^ 31) with ⟨hq2, j, hj1, hj, hz2⟩ | ⟨hq2, hz2⟩
    · subst hj
      refine x_qref (q := (ad (20 + j))) (hz2) ?_
      refine x_ifnonnull (tgt := 31) hE dX7_shines_18 (by decide) ?_
      have hL16 := hR.2.2.1
      refine x_aload_n hE dX7_shines_31 rfl rfl ?_
      refine x_iload_n hE dX7_shines_32 rfl ?_
      refine x_callV (ci := 0) (st := []) hE 1 (c_X0_shinerFor G (hC.2.2 k hk1).1 (hC.2.2 k hk1).2.2.1 (by omega : j < 16)) gX7_shines_X0_shinerFor rfl rfl rfl (by decide +kernel) ⟨Nat.le_of_ble_eq_true rfl, Nat.le_of_ble_eq_true rfl⟩ (hC.2.2 k hk1).1 rfl rfl rfl dX7_shines_33 rfl (Nat.le_of_ble_eq_true rfl) ⟨Nat.le_of_ble_eq_true rfl, Nat.le_of_ble_eq_true rfl⟩ (fun v h9 hp => ?_)
      obtain ⟨rfl, rfl⟩ := hp
      exact x_iret hE dX7_shines_36 ⟨by rw [nI_clamp (by omega), nI_clamp (by omega)]; rfl, rfl⟩
    · refine x_qnull (hz2) ?_
      refine x_ifnonnullN hE dX7_shines_18 ?_
      (unfold fShines at hf0; rw [if_neg (by rw [hq2]; simp)] at hf0; exact absurd hf0 (by decide))
  · refine x_qnull (hz) ?_
    refine x_astore_n (L' := [some (.ref (ad 0)), some (.int c), some (.int i), some (.null)]) hE dX7_shines_5 rfl (Nat.le_of_ble_eq_true rfl) rfl rfl ?_
    refine x_aload_n hE dX7_shines_6 rfl rfl ?_
    refine x_ifnullN (tgt := 21) hE dX7_shines_7 (by decide) ?_
    (unfold fShines at hf0; rw [if_neg (by rw [hq]; simp)] at hf0; exact absurd hf0 (by decide))
set_option maxHeartbeats 4000000 in
set_option maxRecDepth 100000 in
theorem n_X7_playing (G : XG) {ad ow : Nat → Nat} {eA : Nat} {A1 P1 : List Nat} {c1 : Nat → GC} {A2 P2 : List Nat} {c2 : Nat → GC} {RY : List Nat} {S : PS} {h : HM} (hW : cW G ad ow eA A1 P1 c1 A2 P2 c2 RY S h) (hf : fI (s_ar S) (s_L S) (s_C S) (s_t S) (s_G S)) (c wh : Int32) (hf0 : fPlay S c wh = 0) : x_M G yX7_playing wsX7_playing ({ frames := 6, cells := 0, slots := 0, locals := 90 } : Room) [.ref (ad 0), .int c, .int wh] h (x_is (some (.int (playP S c.toNatClampNeg wh.toNatClampNeg))) h) 0 0 := by
  refine x_M.of (cc := cX7_playing) (maxL := 5) (ret := (some .int)) (ent := [some (.ref (ad 0)), some (.int c), some (.int wh), none, none]) (by decide +kernel) rfl (Nat.le_of_ble_eq_true rfl) rfl rfl ?_
  intro F hE hname
  have hinX1 : ∀ w ∈ wsX10, w ∈ wsX7_playing := by decide +kernel
  have hinX7 : ∀ w ∈ wsX70, w ∈ wsX7_playing := by decide +kernel
  have hW0 := hW
  obtain ⟨hB, hR, hC, hp, hl, hr, hw, hI, hO⟩ := hW0
  refine x_aload_n hE dX7_playing_0 rfl rfl ?_
  refine x_iload_n hE dX7_playing_1 rfl ?_
  refine x_callV (ci := 7) (st := []) hE 1 (c_X7_cueAt G hB hC.1 c) gX7_playing_X7_cueAt rfl rfl rfl (by decide +kernel) ⟨Nat.le_of_ble_eq_true rfl, Nat.le_of_ble_eq_true rfl⟩ hB rfl rfl rfl dX7_playing_2 rfl (Nat.le_of_ble_eq_true rfl) ⟨Nat.le_of_ble_eq_true rfl, Nat.le_of_ble_eq_true rfl⟩ (fun v h9 hp => ?_)
  obtain ⟨rfl, rfl⟩ := hp
  rcases sel_n (x := c) (f := fun i => ad (100 + 4 * i)) hC.2.1 (by decide : 12 < 2 ^ 31) with ⟨hq, k, hk1, hk, hz⟩ | ⟨hq, hz⟩
  · subst hk
    refine x_qref (q := (ad (100 + 4 * k))) (hz) ?_
    refine x_astore_n (L' := [some (.ref (ad 0)), some (.int (nI k)), some (.int wh), some (.ref (ad (100 + 4 * k))), none]) hE dX7_playing_5 rfl (Nat.le_of_ble_eq_true rfl) rfl rfl ?_
    refine x_aload_n hE dX7_playing_6 rfl rfl ?_
    refine x_ifnonnull (tgt := 20) hE dX7_playing_7 (by decide) ?_
    have hC12 := hC.2.1
    refine x_iload_n hE dX7_playing_20 rfl ?_
    refine x_iconst (v := nI 0) hE dX7_playing_21 (by decide) ?_
    refine x_iconst (v := nI 3) hE dX7_playing_22 (by decide) ?_
    refine x_callS (st := []) hE 3 (c_X7_isWithin G wh (nI 0) (nI 3)) gX7_playing_X7_isWithin rfl rfl rfl (by decide +kernel) ⟨Nat.le_of_ble_eq_true rfl, Nat.le_of_ble_eq_true rfl⟩ rfl rfl dX7_playing_23 rfl (Nat.le_of_ble_eq_true rfl) ⟨Nat.le_of_ble_eq_true rfl, Nat.le_of_ble_eq_true rfl⟩ (fun v h9 hp => ?_)
    obtain ⟨rfl, rfl⟩ := hp
    refine x_if_ne (tgt := 39) hE dX7_playing_26 (by decide) (fun cc => ?_) (fun cc => ?_)
    · have q1 : inI wh 0 3 = true := b2i_n0.mp cc
      obtain ⟨x, -, hx3, rfl⟩ := inI_is q1 (by decide) (by decide)
      have ek : (nI k).toNatClampNeg = k := nI_clamp (by omega)
      have ex : (nI x).toNatClampNeg = x := nI_clamp (by omega)
      have ef : fPlay S (nI k) (nI x) = 0 := by unfold fPlay; rw [if_pos hq, if_pos q1]
      rw [ek, ex]
      refine x_aload_n hE dX7_playing_39 rfl rfl ?_
      refine x_get hE hinX7 hB rfl 3 (by decide) (List.mem_of_getElem? (i := 5) rfl) rfl dX7_playing_40 ?_
      refine x_aload_n hE dX7_playing_43 rfl rfl ?_
      refine x_callV (ci := 2) (st := []) hE 1 (c_X2_goingOf G hl.1) gX7_playing_X2_goingOf rfl rfl rfl (by decide +kernel) ⟨Nat.le_of_ble_eq_true rfl, Nat.le_of_ble_eq_true rfl⟩ hl.1.1 rfl rfl rfl dX7_playing_44 rfl (Nat.le_of_ble_eq_true rfl) ⟨Nat.le_of_ble_eq_true rfl, Nat.le_of_ble_eq_true rfl⟩ (fun v h9 hp => ?_)
      obtain ⟨⟨go, rfl, hgo⟩, rfl⟩ := hp
      have hgr := goR_is hO hl.2 hf.2.2.2.1 hk1 hgo
      rcases hgr with ⟨hgo1, hgo2⟩ | ⟨kk, y, g, hy, hgm, hyg, hgc, hgo1, hgo2⟩
      · subst hgo1
        have ep : playP S k x = if x = 0 ∨ x = 1 then 0 else -1 := by unfold playP; rw [hgo2]
        refine x_astore (L' := [some (.ref (ad 0)), some (.int (nI k)), some (.int (nI x)), some (.ref (ad (100 + 4 * k))), some (.null)]) hE dX7_playing_47 (Nat.le_of_ble_eq_true rfl) rfl rfl ?_
        refine x_aload hE dX7_playing_49 rfl rfl ?_
        refine x_ifnonnullN hE dX7_playing_51 ?_
        have u0 : nI x = 0 ↔ x = 0 := up0 (by omega)
        have u1 : nI x = nI 1 ↔ x = 1 := nI_eq (by omega) (by omega)
        refine x_iload_n hE dX7_playing_54 rfl ?_
        refine x_if_eq (tgt := 63) hE dX7_playing_55 (by decide) (fun c55 => ?_) (fun c55 => ?_)
        · refine x_iconst (v := nI 0) hE dX7_playing_63 (by decide) ?_
          refine x_goto (tgt := 68) hE dX7_playing_64 (by decide) ?_
          exact x_iret hE dX7_playing_68 ⟨by rw [ep]; rw [if_pos (by first | omega | (rw [u0] at c55; omega) | (rw [u0] at c55; rw [u1] at c60; omega))]; rfl, rfl⟩
        · refine x_iload_n hE dX7_playing_58 rfl ?_
          refine x_iconst (v := nI 1) hE dX7_playing_59 (by decide) ?_
          refine x_icmp_ne (tgt := 67) hE dX7_playing_60 (by decide) (fun c60 => ?_) (fun c60 => ?_)
          · refine x_iconst (v := (-1 : Int32)) hE dX7_playing_67 (by decide) ?_
            exact x_iret hE dX7_playing_68 ⟨by rw [ep]; rw [if_neg (by first | omega | (rw [u0] at c55; omega) | (rw [u0] at c55; rw [u1] at c60; omega))], rfl⟩
          · replace c60 := x_nIinj c60 (by omega) (by omega)
            refine x_iconst (v := nI 0) hE dX7_playing_63 (by decide) ?_
            refine x_goto (tgt := 68) hE dX7_playing_64 (by decide) ?_
            exact x_iret hE dX7_playing_68 ⟨by rw [ep]; rw [if_pos (by first | omega | (rw [u0] at c55; omega) | (rw [u0] at c55; rw [u1] at c60; omega))]; rfl, rfl⟩
      · subst hgo1
        refine x_qref (q := y) (rfl) ?_
        have hyc : h y = some (.inr (1, [.ref (ad (100 + 4 * k)), .int (nI g.2.1), .int (relI g.2.2)])) := by have z := hl.1.at hy; rw [hyg] at z; rw [← hgc]; exact z
        refine x_astore (L' := [some (.ref (ad 0)), some (.int (nI k)), some (.int (nI x)), some (.ref (ad (100 + 4 * k))), some (.ref y)]) hE dX7_playing_47 (Nat.le_of_ble_eq_true rfl) rfl rfl ?_
        refine x_aload hE dX7_playing_49 rfl rfl ?_
        refine x_ifnonnull (tgt := 69) hE dX7_playing_51 (by decide) ?_
        refine x_iload_n hE dX7_playing_69 rfl ?_
        have ep : playP S k x = if x = 0 then 1 else if x = 1 then (if relI g.2.2 = -1 then 0 else 1) else if x = 2 then nI g.2.1 else nI (masP (s_ar S) (s_t S) g).toNat := by unfold playP; rw [hgo2]
        rcases (show x = 0 ∨ x = 1 ∨ x = 2 ∨ x = 3 by omega) with rfl | rfl | rfl | rfl
        · refine x_tableIn (off := 26) (tgt := 96) hE dX7_playing_70 (by decide) (by decide) (by decide) (by decide) ?_
          refine x_iconst (v := nI 1) hE dX7_playing_96 (by decide) ?_
          exact x_iret hE dX7_playing_97 ⟨by rw [ep]; rfl, rfl⟩
        · refine x_tableIn (off := 28) (tgt := 98) hE dX7_playing_70 (by decide) (by decide) (by decide) (by decide) ?_
          refine x_aload hE dX7_playing_98 rfl rfl ?_
          refine x_callV (ci := 1) (st := []) hE 0 (c_X1_isReleased G (cu := some (ad (100 + 4 * k))) hyc) gX7_playing_X1_isReleased rfl rfl rfl (by decide +kernel) ⟨Nat.le_of_ble_eq_true rfl, Nat.le_of_ble_eq_true rfl⟩ hyc rfl rfl rfl dX7_playing_100 rfl (Nat.le_of_ble_eq_true rfl) ⟨Nat.le_of_ble_eq_true rfl, Nat.le_of_ble_eq_true rfl⟩ (fun v h9 hp => ?_)
          obtain ⟨rfl, rfl⟩ := hp
          refine x_if_eq (tgt := 110) hE dX7_playing_103 (by decide) (fun c103 => ?_) (fun c103 => ?_)
          · refine x_iconst (v := nI 0) hE dX7_playing_110 (by decide) ?_
            exact x_iret hE dX7_playing_111 ⟨by rw [ep, if_neg (by decide), if_pos rfl, if_pos (by have := b2i_0.mp c103; simpa using this)]; rfl, rfl⟩
          · refine x_iconst (v := nI 1) hE dX7_playing_106 (by decide) ?_
            refine x_goto (tgt := 111) hE dX7_playing_107 (by decide) ?_
            exact x_iret hE dX7_playing_111 ⟨by rw [ep, if_neg (by decide), if_pos rfl, if_neg (by have := b2i_n0.mp c103; simpa using this)]; rfl, rfl⟩
        · refine x_tableIn (off := 42) (tgt := 112) hE dX7_playing_70 (by decide) (by decide) (by decide) (by decide) ?_
          refine x_aload hE dX7_playing_112 rfl rfl ?_
          refine x_get hE hinX1 hyc rfl 1 (by decide) (List.mem_of_getElem? (i := 6) rfl) rfl dX7_playing_114 ?_
          exact x_iret hE dX7_playing_117 ⟨by rw [ep, if_neg (by decide), if_neg (by decide), if_pos rfl], rfl⟩
        · refine x_tableOut (tgt := 118) hE dX7_playing_70 (by decide) (by decide) ?_
          refine x_aload hE dX7_playing_118 rfl rfl ?_
          refine x_aload_n hE dX7_playing_120 rfl rfl ?_
          refine x_get hE hinX7 hB rfl 8 (by decide) (List.mem_of_getElem? (i := 7) rfl) rfl dX7_playing_121 ?_
          refine x_callV (ci := 1) (st := []) hE 1 (c_X1_master G hyc (hC.2.2 k hk1).1 (now := nI (s_t S))) gX7_playing_X1_master rfl rfl rfl (by decide +kernel) ⟨Nat.le_of_ble_eq_true rfl, Nat.le_of_ble_eq_true rfl⟩ hyc rfl rfl rfl dX7_playing_124 rfl (Nat.le_of_ble_eq_true rfl) ⟨Nat.le_of_ble_eq_true rfl, Nat.le_of_ble_eq_true rfl⟩ (fun v h9 hp => ?_)
          obtain ⟨rfl, rfl⟩ := hp
          refine x_fq (y := (fB (masP (s_ar S) (s_t S) g).toNat)) (by rw [fB_of]; unfold masP; rw [hgc]) ?_
          have hm := masP_is (hf.2.2.2.2 g hgm)
          have hb := lvI.bits (K := 1) ⟨hm.1, by rw [show ((1 : Nat) : Int) = 1 from rfl, Int.one_mul]; exact hm.2.1, hm.2.2⟩ (by decide)
          refine x_callS (st := []) hE 1 (c_X7_bitsOf G (X := (masP (s_ar S) (s_t S) g).toNat) (hb.elim (fun z => Or.inl (by rw [z]; exact fB_nat (by decide))) Or.inr)) gX7_playing_X7_bitsOf rfl rfl rfl (by decide +kernel) ⟨Nat.le_of_ble_eq_true rfl, Nat.le_of_ble_eq_true rfl⟩ rfl rfl dX7_playing_127 rfl (Nat.le_of_ble_eq_true rfl) ⟨Nat.le_of_ble_eq_true rfl, Nat.le_of_ble_eq_true rfl⟩ (fun v h9 hp => ?_)
          obtain ⟨rfl, rfl⟩ := hp
          exact x_iret hE dX7_playing_130 ⟨by rw [ep, if_neg (by decide), if_neg (by decide), if_neg (by decide)], rfl⟩
    · (unfold fPlay at hf0; rw [if_pos hq, if_neg (by rw [show inI wh 0 3 = false from b2i_0.mp cc]; decide)] at hf0; exact absurd hf0 (by decide))
  · refine x_qnull (hz) ?_
    refine x_astore_n (L' := [some (.ref (ad 0)), some (.int c), some (.int wh), some (.null), none]) hE dX7_playing_5 rfl (Nat.le_of_ble_eq_true rfl) rfl rfl ?_
    refine x_aload_n hE dX7_playing_6 rfl rfl ?_
    refine x_ifnonnullN hE dX7_playing_7 ?_
    (unfold fPlay at hf0; rw [if_neg (by rw [hq]; decide)] at hf0; exact absurd hf0 (by decide))
