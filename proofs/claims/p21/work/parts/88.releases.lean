set_option maxHeartbeats 4000000 in
set_option maxRecDepth 100000 in
theorem c_L_releases (G : XG) {xa : Nat} {S : PS} {hA h : HM} (hh : lH G xa S hA h) (hS : lS S) {kk : Nat} (hI : iI S kk) (hk : kk ≤ 511) {ca : Nat} {cf : Nat → Int32} (hca : hA ca = some (rowI G 5 cf)) (hcc : lRc S cf) {ta : Nat} {tf : Nat → Int32} (hta : hA ta = some (rowI G 18 tf)) (htt : lRt S tf) {x cu : Nat} (hx : x < 2 ^ 31) (hcu : x % 6 = cu) : w_M G (x_TF G) yL_releases wsL_releases ({ frames := 8, cells := s_n (rW S cu) - s_n S + 1, slots := 3 * (s_n (rW S cu) - s_n S) + 6, locals := 159 } : Room) [.ref xa, .int (nI x), .ref ca, .ref ta] h (fun v h' => v = some (.int (nI 1)) ∧ lH G xa (rW S cu) hA h') (s_n (rW S cu) - s_n S + 1) (3 * (s_n (rW S cu) - s_n S) + 6) := by
  refine w_M.of (cc := cL_releases) (maxL := 8) (ret := (some .boolean)) (ent := [some (.ref xa), some (.int (nI x)), some (.ref ca), some (.ref ta), none, none, none, none]) (by decide +kernel) rfl (Nat.le_of_ble_eq_true rfl) rfl rfl ?_
  intro F hE hname hT
  obtain ⟨hL10, hC6, hV⟩ := hS
  have hf := hI.1.1
  have hf0 := hf
  obtain ⟨f1, f2, f3, f4, f5⟩ := hf
  have g4 := f4
  have g2 := f2
  rw [hC6] at f2 f4
  have hcu6 : cu < 6 := by omega
  have hcS : cu < s_C S := by omega
  have hcap := hI.1.2.2.2.2.2.2.1
  have hlen : (s_H S).length < 122880 := by have := hI.2.2.2; omega
  have ht20 : s_t S < 2 ^ 20 := by have := hI.2.1; omega
  refine x_iload_n hE dL_releases_0 rfl ?_
  refine x_aload_n hE dL_releases_1 rfl rfl ?_
  refine x_iconst (v := nI 1) hE dL_releases_2 (by decide) ?_
  refine x_iald (v := nI 6) hE (hh.at hca) (vp_in_nI (by omega) (by decide)) (by rw [nI_clamp (by omega)]; exact hcc.2.1) dL_releases_3 ?_
  refine x_irem hE dL_releases_4 (by decide) ?_
  refine x_ieq (y := nI cu) (by rw [pk_rem (by omega) (by decide) (by decide), hcu]) ?_
  refine x_istore (L' := [some (.ref xa), some (.int (nI x)), some (.ref ca), some (.ref ta), some (.int (nI cu)), none, none, none]) hE dL_releases_5 (Nat.le_of_ble_eq_true rfl) rfl ?_
  refine x_aload_n hE dL_releases_7 rfl rfl ?_
  refine x_iload hE dL_releases_8 rfl ?_
  refine x_iconst (v := nI 0) hE dL_releases_10 (by decide) ?_
  refine k_ask (st := []) hE 2 (Q_playing G hh.bw hf0 (c := cu) (w := 0) hcS (by decide)) hh.bw gL_releases_X7_playing rfl rfl rfl (by decide +kernel) ⟨(Nat.le_of_ble_eq_true rfl), (Nat.le_of_ble_eq_true rfl)⟩ rfl rfl dL_releases_11 rfl (Nat.le_of_ble_eq_true rfl) ⟨by show 0 ≤ s_n (rW S cu) - s_n S + 1; omega, by show 0 ≤ 3 * (s_n (rW S cu) - s_n S) + 6; omega⟩ ?_
  rcases goF_act (c := cu) f4 with ⟨_, hno⟩ | ⟨g, hg1, hg2, _, hso⟩
  · obtain ⟨p0, p1, p2, p3⟩ := play_none hno
    have egw := rW_none hno
    refine x_ieq (y := nI 0) (p0) ?_
    refine x_iconst (v := nI 1) hE dL_releases_14 (by decide) ?_
    refine x_icmp_ne (tgt := 32) hE dL_releases_15 (by decide) (fun c15 => ?_) (fun c15 => absurd c15 n0_1)
    refine x_iconst (v := nI 0) hE dL_releases_32 (by decide) ?_
    refine x_istore (L' := [some (.ref xa), some (.int (nI x)), some (.ref ca), some (.ref ta), some (.int (nI cu)), some (.int (nI 0)), none, none]) hE dL_releases_33 (Nat.le_of_ble_eq_true rfl) rfl ?_
    refine x_aload_n hE dL_releases_35 rfl rfl ?_
    refine x_iload hE dL_releases_36 rfl ?_
    refine x_iconst (v := nI 3) hE dL_releases_38 (by decide) ?_
    refine k_ask (st := []) hE 2 (Q_playing G hh.bw hf0 (c := cu) (w := 3) hcS (by decide)) hh.bw gL_releases_X7_playing rfl rfl rfl (by decide +kernel) ⟨(Nat.le_of_ble_eq_true rfl), (Nat.le_of_ble_eq_true rfl)⟩ rfl rfl dL_releases_39 rfl (Nat.le_of_ble_eq_true rfl) ⟨by show 0 ≤ s_n (rW S cu) - s_n S + 1; omega, by show 0 ≤ 3 * (s_n (rW S cu) - s_n S) + 6; omega⟩ ?_
    refine x_ieq (y := (-1 : Int32)) (p3) ?_
    refine x_istore (L' := [some (.ref xa), some (.int (nI x)), some (.ref ca), some (.ref ta), some (.int (nI cu)), some (.int (nI 0)), some (.int (-1 : Int32)), none]) hE dL_releases_42 (Nat.le_of_ble_eq_true rfl) rfl ?_
    refine x_aload_n hE dL_releases_44 rfl rfl ?_
    refine x_iconst (v := nI 1) hE dL_releases_45 (by decide) ?_
    refine x_iload hE dL_releases_46 rfl ?_
    refine x_iconst (v := nI 0) hE dL_releases_48 (by decide) ?_
    refine w_callH (st := []) hE hT 4 (A_rel_n G hh g4 hlen hcap hcS (fun g hgo => by rw [hno] at hgo; cases hgo)) gL_releases_L_asks rfl rfl rfl (by decide +kernel) ⟨(Nat.le_of_ble_eq_true rfl), (Nat.le_of_ble_eq_true rfl)⟩ rfl rfl dL_releases_49 rfl (Nat.le_of_ble_eq_true rfl) ⟨by show 0 + (1) ≤ s_n (rW S cu) - s_n S + 1; (rw [egw]; omega), by show 0 + (6) ≤ 3 * (s_n (rW S cu) - s_n S) + 6; (rw [egw]; omega)⟩ (fun v h2 hp => ?_)
    obtain ⟨rfl, hh2⟩ := hp
    refine x_istore (L' := [some (.ref xa), some (.int (nI x)), some (.ref ca), some (.ref ta), some (.int (nI cu)), some (.int (nI 0)), some (.int (-1 : Int32)), some (.int (-70008 : Int32))]) hE dL_releases_52 (Nat.le_of_ble_eq_true rfl) rfl ?_
    refine x_iload hE dL_releases_54 rfl ?_
    refine x_if_ne (tgt := 72) hE dL_releases_56 (by decide) (fun c56 => absurd c56 (by decide)) (fun c56 => ?_)
    refine x_iload hE dL_releases_59 rfl ?_
    refine x_ldc (v := (-70008)) hE (List.mem_of_getElem? (i := 1) rfl) dL_releases_61 ?_
    refine x_icmp_ne (tgt := 70) hE dL_releases_63 (by decide) (fun c63 => absurd rfl c63) (fun c63 => ?_)
    refine x_iconst (v := nI 1) hE dL_releases_66 (by decide) ?_
    refine x_goto (tgt := 71) hE dL_releases_67 (by decide) ?_
    refine x_widen (k := s_n (rW S cu) - s_n S + 1) (n := 3 * (s_n (rW S cu) - s_n S) + 6) (by (rw [egw]; omega)) (by (rw [egw]; omega)) ?_
    exact x_zret hE (Or.inr rfl) dL_releases_71 (⟨rfl, by rw [egw]; exact hh2⟩)
  · obtain ⟨p0, p1, p2, p3⟩ := play_some hso
    refine x_ieq (y := nI 1) (p0) ?_
    refine x_iconst (v := nI 1) hE dL_releases_14 (by decide) ?_
    refine x_icmp_ne (tgt := 32) hE dL_releases_15 (by decide) (fun c15 => absurd rfl c15) (fun c15 => ?_)
    refine x_aload_n hE dL_releases_18 rfl rfl ?_
    refine x_iload hE dL_releases_19 rfl ?_
    refine x_iconst (v := nI 1) hE dL_releases_21 (by decide) ?_
    refine k_ask (st := []) hE 2 (Q_playing G hh.bw hf0 (c := cu) (w := 1) hcS (by decide)) hh.bw gL_releases_X7_playing rfl rfl rfl (by decide +kernel) ⟨(Nat.le_of_ble_eq_true rfl), (Nat.le_of_ble_eq_true rfl)⟩ rfl rfl dL_releases_22 rfl (Nat.le_of_ble_eq_true rfl) ⟨by show 0 ≤ s_n (rW S cu) - s_n S + 1; omega, by show 0 ≤ 3 * (s_n (rW S cu) - s_n S) + 6; omega⟩ ?_
    by_cases hr : relI g.2.2 = -1
    · have egw := rW_y hso hr
      refine x_ieq (y := nI 0) (by rw [p1, if_pos hr]) ?_
      refine x_if_ne (tgt := 32) hE dL_releases_25 (by decide) (fun c25 => absurd c25 (by decide)) (fun c25 => ?_)
      refine x_iconst (v := nI 1) hE dL_releases_28 (by decide) ?_
      refine x_goto (tgt := 33) hE dL_releases_29 (by decide) ?_
      refine x_istore (L' := [some (.ref xa), some (.int (nI x)), some (.ref ca), some (.ref ta), some (.int (nI cu)), some (.int (nI 1)), none, none]) hE dL_releases_33 (Nat.le_of_ble_eq_true rfl) rfl ?_
      have hgo := f5 g hg1
      obtain ⟨⟨u, hu, eu⟩, d, hd, ed⟩ := hI.1.2.2.2.2.1 cu hcS
      obtain ⟨r1, r2⟩ := rel_go hI.1 ht20 hso hd ed
      have hI2 := cI_rel hI.1 hcS ht20 hlen hg1 hg2
      have hf2 := hI2.1
      refine x_aload_n hE dL_releases_35 rfl rfl ?_
      refine x_iload hE dL_releases_36 rfl ?_
      refine x_iconst (v := nI 3) hE dL_releases_38 (by decide) ?_
      refine k_ask (st := []) hE 2 (Q_playing G hh.bw hf0 (c := cu) (w := 3) hcS (by decide)) hh.bw gL_releases_X7_playing rfl rfl rfl (by decide +kernel) ⟨(Nat.le_of_ble_eq_true rfl), (Nat.le_of_ble_eq_true rfl)⟩ rfl rfl dL_releases_39 rfl (Nat.le_of_ble_eq_true rfl) ⟨by show 0 ≤ s_n (rW S cu) - s_n S + 1; (rw [egw]; omega), by show 0 ≤ 3 * (s_n (rW S cu) - s_n S) + 6; (rw [egw]; omega)⟩ ?_
      refine x_ieq (y := nI (masP (s_ar S) (s_t S) g).toNat) (p3) ?_
      refine x_istore (L' := [some (.ref xa), some (.int (nI x)), some (.ref ca), some (.ref ta), some (.int (nI cu)), some (.int (nI 1)), some (.int (nI (masP (s_ar S) (s_t S) g).toNat)), none]) hE dL_releases_42 (Nat.le_of_ble_eq_true rfl) rfl ?_
      refine x_aload_n hE dL_releases_44 rfl rfl ?_
      refine x_iconst (v := nI 1) hE dL_releases_45 (by decide) ?_
      refine x_iload hE dL_releases_46 rfl ?_
      refine x_iconst (v := nI 0) hE dL_releases_48 (by decide) ?_
      refine w_callH (st := []) hE hT 4 (A_rel_y G hh g4 hlen hcap hcS hso hr) gL_releases_L_asks rfl rfl rfl (by decide +kernel) ⟨(Nat.le_of_ble_eq_true rfl), (Nat.le_of_ble_eq_true rfl)⟩ rfl rfl dL_releases_49 rfl (Nat.le_of_ble_eq_true rfl) ⟨by show 0 + (s_n (relP cu S) - s_n S + 1) ≤ s_n (rW S cu) - s_n S + 1; (rw [egw]; omega), by show 0 + (3 * (s_n (relP cu S) - s_n S) + 6) ≤ 3 * (s_n (rW S cu) - s_n S) + 6; (rw [egw]; omega)⟩ (fun v h2 hp => ?_)
      obtain ⟨rfl, hh2⟩ := hp
      refine x_istore (L' := [some (.ref xa), some (.int (nI x)), some (.ref ca), some (.ref ta), some (.int (nI cu)), some (.int (nI 1)), some (.int (nI (masP (s_ar S) (s_t S) g).toNat)), some (.int (b2i (goF (s_G (relP cu S)) cu).isSome))]) hE dL_releases_52 (Nat.le_of_ble_eq_true rfl) rfl ?_
      refine x_iload hE dL_releases_54 rfl ?_
      refine x_if_ne (tgt := 72) hE dL_releases_56 (by decide) (fun c56 => ?_) (fun c56 => absurd c56 (by decide))
      by_cases hd0 : d = 0
      · have hn2 := r1 hd0
        obtain ⟨z0, z1, z2, z3⟩ := play_none hn2
        have e7 : b2i (goF (s_G (relP cu S)) cu).isSome = nI 0 := by rw [hn2]; rfl
        refine x_iload hE dL_releases_72 rfl ?_
        refine x_ieq (y := nI 0) (e7) ?_
        refine x_aload_n hE dL_releases_74 rfl rfl ?_
        refine x_iconst (v := nI 3) hE dL_releases_75 (by decide) ?_
        refine x_iload hE dL_releases_76 rfl ?_
        refine x_imul hE dL_releases_78 ?_
        refine x_ieq (y := nI (3 * cu)) (pk_mul _ _) ?_
        refine x_iconst (v := nI 2) hE dL_releases_79 (by decide) ?_
        refine x_iadd hE dL_releases_80 ?_
        refine x_ieq (y := nI (3 * cu + 2)) (nI_add _ _) ?_
        refine x_iald (v := nI d) hE (hh2.at hta) (vp_in_nI (by omega) (by decide)) (by rw [nI_clamp (by omega)]; exact ((htt cu hcu6).2.2.trans ed)) dL_releases_81 ?_
        refine x_ieq (y := nI 0) (by rw [hd0]) ?_
        refine x_if_ne (tgt := 89) hE dL_releases_82 (by decide) (fun c82 => absurd c82 (by decide)) (fun c82 => ?_)
        refine x_iconst (v := nI 0) hE dL_releases_85 (by decide) ?_
        refine x_goto (tgt := 90) hE dL_releases_86 (by decide) ?_
        refine x_icmp_ne (tgt := 138) hE dL_releases_90 (by decide) (fun c90 => absurd rfl c90) (fun c90 => ?_)
        refine x_aload_n hE dL_releases_93 rfl rfl ?_
        refine x_iload hE dL_releases_94 rfl ?_
        refine x_iconst (v := nI 0) hE dL_releases_96 (by decide) ?_
        refine k_ask (st := []) hE 2 (Q_playing G hh2.bw hf2 (c := cu) (w := 0) hcS (by decide)) hh2.bw gL_releases_X7_playing rfl rfl rfl (by decide +kernel) ⟨(Nat.le_of_ble_eq_true rfl), (Nat.le_of_ble_eq_true rfl)⟩ rfl rfl dL_releases_97 rfl (Nat.le_of_ble_eq_true rfl) ⟨by show 0 + (s_n (relP cu S) - s_n S + 1) ≤ s_n (rW S cu) - s_n S + 1; (rw [egw]; omega), by show 0 + (3 * (s_n (relP cu S) - s_n S) + 6) ≤ 3 * (s_n (rW S cu) - s_n S) + 6; (rw [egw]; omega)⟩ ?_
        refine x_ieq (y := nI 0) (z0) ?_
        refine x_iload hE dL_releases_100 rfl ?_
        refine x_ieq (y := nI 0) (e7) ?_
        refine x_icmp_ne (tgt := 138) hE dL_releases_102 (by decide) (fun c102 => absurd rfl c102) (fun c102 => ?_)
        refine x_aload_n hE dL_releases_105 rfl rfl ?_
        refine x_iload hE dL_releases_106 rfl ?_
        refine x_iconst (v := nI 1) hE dL_releases_108 (by decide) ?_
        refine k_ask (st := []) hE 2 (Q_playing G hh2.bw hf2 (c := cu) (w := 1) hcS (by decide)) hh2.bw gL_releases_X7_playing rfl rfl rfl (by decide +kernel) ⟨(Nat.le_of_ble_eq_true rfl), (Nat.le_of_ble_eq_true rfl)⟩ rfl rfl dL_releases_109 rfl (Nat.le_of_ble_eq_true rfl) ⟨by show 0 + (s_n (relP cu S) - s_n S + 1) ≤ s_n (rW S cu) - s_n S + 1; (rw [egw]; omega), by show 0 + (3 * (s_n (relP cu S) - s_n S) + 6) ≤ 3 * (s_n (rW S cu) - s_n S) + 6; (rw [egw]; omega)⟩ ?_
        refine x_ieq (y := nI 0) (z1) ?_
        refine x_iload hE dL_releases_112 rfl ?_
        refine x_ieq (y := nI 0) (e7) ?_
        refine x_icmp_ne (tgt := 138) hE dL_releases_114 (by decide) (fun c114 => absurd rfl c114) (fun c114 => ?_)
        refine x_iload hE dL_releases_117 rfl ?_
        refine x_ieq (y := nI 0) (e7) ?_
        refine x_if_eq (tgt := 134) hE dL_releases_119 (by decide) (fun c119 => ?_) (fun c119 => absurd c119 (by decide))
        refine x_iconst (v := nI 1) hE dL_releases_134 (by decide) ?_
        refine x_goto (tgt := 139) hE dL_releases_135 (by decide) ?_
        refine x_widen (k := s_n (rW S cu) - s_n S + 1) (n := 3 * (s_n (rW S cu) - s_n S) + 6) (by (rw [egw]; omega)) (by (rw [egw]; omega)) ?_
        exact x_zret hE (Or.inr rfl) dL_releases_139 (⟨rfl, by rw [egw]; exact hh2⟩)
      · have hn2 := r2 hd0
        obtain ⟨z0, z1, z2, z3⟩ := play_some hn2
        have e7 : b2i (goF (s_G (relP cu S)) cu).isSome = nI 1 := by rw [hn2]; rfl
        refine x_iload hE dL_releases_72 rfl ?_
        refine x_ieq (y := nI 1) (e7) ?_
        refine x_aload_n hE dL_releases_74 rfl rfl ?_
        refine x_iconst (v := nI 3) hE dL_releases_75 (by decide) ?_
        refine x_iload hE dL_releases_76 rfl ?_
        refine x_imul hE dL_releases_78 ?_
        refine x_ieq (y := nI (3 * cu)) (pk_mul _ _) ?_
        refine x_iconst (v := nI 2) hE dL_releases_79 (by decide) ?_
        refine x_iadd hE dL_releases_80 ?_
        refine x_ieq (y := nI (3 * cu + 2)) (nI_add _ _) ?_
        refine x_iald (v := nI d) hE (hh2.at hta) (vp_in_nI (by omega) (by decide)) (by rw [nI_clamp (by omega)]; exact ((htt cu hcu6).2.2.trans ed)) dL_releases_81 ?_
        refine x_if_ne (tgt := 89) hE dL_releases_82 (by decide) (fun c82 => ?_) (fun c82 => absurd (x_nIinj (a := d) (b := 0) c82 (by omega) (by decide)) hd0)
        refine x_iconst (v := nI 1) hE dL_releases_89 (by decide) ?_
        refine x_icmp_ne (tgt := 138) hE dL_releases_90 (by decide) (fun c90 => absurd rfl c90) (fun c90 => ?_)
        refine x_aload_n hE dL_releases_93 rfl rfl ?_
        refine x_iload hE dL_releases_94 rfl ?_
        refine x_iconst (v := nI 0) hE dL_releases_96 (by decide) ?_
        refine k_ask (st := []) hE 2 (Q_playing G hh2.bw hf2 (c := cu) (w := 0) hcS (by decide)) hh2.bw gL_releases_X7_playing rfl rfl rfl (by decide +kernel) ⟨(Nat.le_of_ble_eq_true rfl), (Nat.le_of_ble_eq_true rfl)⟩ rfl rfl dL_releases_97 rfl (Nat.le_of_ble_eq_true rfl) ⟨by show 0 + (s_n (relP cu S) - s_n S + 1) ≤ s_n (rW S cu) - s_n S + 1; (rw [egw]; omega), by show 0 + (3 * (s_n (relP cu S) - s_n S) + 6) ≤ 3 * (s_n (rW S cu) - s_n S) + 6; (rw [egw]; omega)⟩ ?_
        refine x_ieq (y := nI 1) (z0) ?_
        refine x_iload hE dL_releases_100 rfl ?_
        refine x_ieq (y := nI 1) (e7) ?_
        refine x_icmp_ne (tgt := 138) hE dL_releases_102 (by decide) (fun c102 => absurd rfl c102) (fun c102 => ?_)
        refine x_aload_n hE dL_releases_105 rfl rfl ?_
        refine x_iload hE dL_releases_106 rfl ?_
        refine x_iconst (v := nI 1) hE dL_releases_108 (by decide) ?_
        refine k_ask (st := []) hE 2 (Q_playing G hh2.bw hf2 (c := cu) (w := 1) hcS (by decide)) hh2.bw gL_releases_X7_playing rfl rfl rfl (by decide +kernel) ⟨(Nat.le_of_ble_eq_true rfl), (Nat.le_of_ble_eq_true rfl)⟩ rfl rfl dL_releases_109 rfl (Nat.le_of_ble_eq_true rfl) ⟨by show 0 + (s_n (relP cu S) - s_n S + 1) ≤ s_n (rW S cu) - s_n S + 1; (rw [egw]; omega), by show 0 + (3 * (s_n (relP cu S) - s_n S) + 6) ≤ 3 * (s_n (rW S cu) - s_n S) + 6; (rw [egw]; omega)⟩ ?_
        refine x_ieq (y := nI 1) (by rw [z1, if_neg (relI_ne (by omega))]) ?_
        refine x_iload hE dL_releases_112 rfl ?_
        refine x_ieq (y := nI 1) (e7) ?_
        refine x_icmp_ne (tgt := 138) hE dL_releases_114 (by decide) (fun c114 => absurd rfl c114) (fun c114 => ?_)
        refine x_iload hE dL_releases_117 rfl ?_
        refine x_ieq (y := nI 1) (e7) ?_
        refine x_if_eq (tgt := 134) hE dL_releases_119 (by decide) (fun c119 => absurd c119 (by decide)) (fun c119 => ?_)
        refine x_aload_n hE dL_releases_122 rfl rfl ?_
        refine x_iload hE dL_releases_123 rfl ?_
        refine x_iconst (v := nI 3) hE dL_releases_125 (by decide) ?_
        refine k_ask (st := []) hE 2 (Q_playing G hh2.bw hf2 (c := cu) (w := 3) hcS (by decide)) hh2.bw gL_releases_X7_playing rfl rfl rfl (by decide +kernel) ⟨(Nat.le_of_ble_eq_true rfl), (Nat.le_of_ble_eq_true rfl)⟩ rfl rfl dL_releases_126 rfl (Nat.le_of_ble_eq_true rfl) ⟨by show 0 + (s_n (relP cu S) - s_n S + 1) ≤ s_n (rW S cu) - s_n S + 1; (rw [egw]; omega), by show 0 + (3 * (s_n (relP cu S) - s_n S) + 6) ≤ 3 * (s_n (rW S cu) - s_n S) + 6; (rw [egw]; omega)⟩ ?_
        refine x_ieq (y := nI (masP (s_ar S) (s_t S) g).toNat) (by rw [z3, ← hg2]; exact congrArg (fun z : UInt32 => nI z.toNat) (mas_rel hgo hr hd hd0 (by rw [hg2]; exact ed) ht20)) ?_
        refine x_iload hE dL_releases_129 rfl ?_
        refine x_icmp_ne (tgt := 138) hE dL_releases_131 (by decide) (fun c131 => absurd rfl c131) (fun c131 => ?_)
        refine x_iconst (v := nI 1) hE dL_releases_134 (by decide) ?_
        refine x_goto (tgt := 139) hE dL_releases_135 (by decide) ?_
        refine x_widen (k := s_n (rW S cu) - s_n S + 1) (n := 3 * (s_n (rW S cu) - s_n S) + 6) (by (rw [egw]; omega)) (by (rw [egw]; omega)) ?_
        exact x_zret hE (Or.inr rfl) dL_releases_139 (⟨rfl, by rw [egw]; exact hh2⟩)
    · have egw := rW_rel hso hr
      refine x_ieq (y := nI 1) (by rw [p1, if_neg hr]) ?_
      refine x_if_ne (tgt := 32) hE dL_releases_25 (by decide) (fun c25 => ?_) (fun c25 => absurd c25 (by decide))
      refine x_iconst (v := nI 0) hE dL_releases_32 (by decide) ?_
      refine x_istore (L' := [some (.ref xa), some (.int (nI x)), some (.ref ca), some (.ref ta), some (.int (nI cu)), some (.int (nI 0)), none, none]) hE dL_releases_33 (Nat.le_of_ble_eq_true rfl) rfl ?_
      refine x_aload_n hE dL_releases_35 rfl rfl ?_
      refine x_iload hE dL_releases_36 rfl ?_
      refine x_iconst (v := nI 3) hE dL_releases_38 (by decide) ?_
      refine k_ask (st := []) hE 2 (Q_playing G hh.bw hf0 (c := cu) (w := 3) hcS (by decide)) hh.bw gL_releases_X7_playing rfl rfl rfl (by decide +kernel) ⟨(Nat.le_of_ble_eq_true rfl), (Nat.le_of_ble_eq_true rfl)⟩ rfl rfl dL_releases_39 rfl (Nat.le_of_ble_eq_true rfl) ⟨by show 0 ≤ s_n (rW S cu) - s_n S + 1; omega, by show 0 ≤ 3 * (s_n (rW S cu) - s_n S) + 6; omega⟩ ?_
      refine x_ieq (y := nI (masP (s_ar S) (s_t S) g).toNat) (p3) ?_
      refine x_istore (L' := [some (.ref xa), some (.int (nI x)), some (.ref ca), some (.ref ta), some (.int (nI cu)), some (.int (nI 0)), some (.int (nI (masP (s_ar S) (s_t S) g).toNat)), none]) hE dL_releases_42 (Nat.le_of_ble_eq_true rfl) rfl ?_
      refine x_aload_n hE dL_releases_44 rfl rfl ?_
      refine x_iconst (v := nI 1) hE dL_releases_45 (by decide) ?_
      refine x_iload hE dL_releases_46 rfl ?_
      refine x_iconst (v := nI 0) hE dL_releases_48 (by decide) ?_
      refine w_callH (st := []) hE hT 4 (A_rel_n G hh g4 hlen hcap hcS (fun g' h' => by rw [hso] at h'; cases h'; exact hr)) gL_releases_L_asks rfl rfl rfl (by decide +kernel) ⟨(Nat.le_of_ble_eq_true rfl), (Nat.le_of_ble_eq_true rfl)⟩ rfl rfl dL_releases_49 rfl (Nat.le_of_ble_eq_true rfl) ⟨by show 0 + (1) ≤ s_n (rW S cu) - s_n S + 1; (rw [egw]; omega), by show 0 + (6) ≤ 3 * (s_n (rW S cu) - s_n S) + 6; (rw [egw]; omega)⟩ (fun v h2 hp => ?_)
      obtain ⟨rfl, hh2⟩ := hp
      refine x_istore (L' := [some (.ref xa), some (.int (nI x)), some (.ref ca), some (.ref ta), some (.int (nI cu)), some (.int (nI 0)), some (.int (nI (masP (s_ar S) (s_t S) g).toNat)), some (.int (-70008 : Int32))]) hE dL_releases_52 (Nat.le_of_ble_eq_true rfl) rfl ?_
      refine x_iload hE dL_releases_54 rfl ?_
      refine x_if_ne (tgt := 72) hE dL_releases_56 (by decide) (fun c56 => absurd c56 (by decide)) (fun c56 => ?_)
      refine x_iload hE dL_releases_59 rfl ?_
      refine x_ldc (v := (-70008)) hE (List.mem_of_getElem? (i := 1) rfl) dL_releases_61 ?_
      refine x_icmp_ne (tgt := 70) hE dL_releases_63 (by decide) (fun c63 => absurd rfl c63) (fun c63 => ?_)
      refine x_iconst (v := nI 1) hE dL_releases_66 (by decide) ?_
      refine x_goto (tgt := 71) hE dL_releases_67 (by decide) ?_
      refine x_widen (k := s_n (rW S cu) - s_n S + 1) (n := 3 * (s_n (rW S cu) - s_n S) + 6) (by (rw [egw]; omega)) (by (rw [egw]; omega)) ?_
      exact x_zret hE (Or.inr rfl) dL_releases_71 (⟨rfl, by rw [egw]; exact hh2⟩)
