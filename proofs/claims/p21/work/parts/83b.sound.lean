set_option maxHeartbeats 4000000 in
set_option maxRecDepth 100000 in
theorem c_L_isSound (G : XG) {xa : Nat} {S : PS} {hA h : HM} (hh : lH G xa S hA h) (hS : lS S) (hI : cI S) (ht20 : s_t S < 2 ^ 20) (hsb : s_b S < 2 ^ 31) {ca : Nat} {cf : Nat → Int32} (hca : hA ca = some (rowI G 5 cf)) (hcc : lRc S cf) {ma : Nat} {mf : Nat → Int32} (hma : hA ma = some (rowI G 60 mf)) (hmm : lRm S mf) {la : Nat} {lf : Nat → Int32} (hla : hA la = some (rowI G 60 lf)) (hll : lRl S lf) {ta : Nat} {tf : Nat → Int32} (hta : hA ta = some (rowI G 18 tf)) (htt : lRt S tf) : w_M G (x_TF G) yL_isSound wsL_isSound ({ frames := 9, cells := 13, slots := 75, locals := 169 } : Room) [.ref xa, .ref ca, .ref ma, .ref la, .ref ta] h (fun v h' => v = some (.int (nI 1)) ∧ lH G xa S (x_up hA ca (rowI G 5 (upd cf 4 (nI (s_b S))))) h') 13 75 := by
  refine w_M.of (cc := cL_isSound) (maxL := 11) (ret := (some .boolean)) (ent := [some (.ref xa), some (.ref ca), some (.ref ma), some (.ref la), some (.ref ta), none, none, none, none, none, none]) (by decide +kernel) rfl (Nat.le_of_ble_eq_true rfl) rfl rfl ?_
  intro F hE hname hT
  have hS0 := hS
  obtain ⟨hL10, hC6, hV⟩ := hS
  have hf := hI.1
  have hf0 := hf
  obtain ⟨f1, f2, f3, f4, f5⟩ := hf
  have g4 := f4
  have g2 := f2
  rw [hC6] at f2 f4
  have hcc0 := hcc
  obtain ⟨k0, k1, k2, k3, bl, hbl, k4⟩ := hcc
  refine x_aload_n hE dL_isSound_0 rfl rfl ?_
  refine x_iconst (v := nI 2) hE dL_isSound_1 (by decide) ?_
  refine x_aload_n hE dL_isSound_2 rfl rfl ?_
  refine x_iconst (v := nI 1) hE dL_isSound_3 (by decide) ?_
  refine x_iald (v := nI 6) hE (hh.at hca) (vp_in_nI (by omega) (by decide)) (by rw [nI_clamp (by omega)]; exact k1) dL_isSound_4 ?_
  refine x_ieq (y := nI (s_C S)) (by rw [hC6]) ?_
  refine x_iconst (v := nI 0) hE dL_isSound_5 (by decide) ?_
  refine w_callH (st := []) hE hT 4 (A_play G hh hf0) gL_isSound_L_asks rfl rfl rfl (by decide +kernel) ⟨(Nat.le_of_ble_eq_true rfl), (Nat.le_of_ble_eq_true rfl)⟩ rfl rfl dL_isSound_6 rfl (Nat.le_of_ble_eq_true rfl) ⟨by show 0 + (1) ≤ 13; omega, by show 0 + (6) ≤ 75; omega⟩ (fun v h2 hp => ?_)
  obtain ⟨rfl, hh2⟩ := hp
  refine x_ldc (v := (-70007)) hE (List.mem_of_getElem? (i := 1) rfl) dL_isSound_9 ?_
  refine x_icmp_ne (tgt := 42) hE dL_isSound_11 (by decide) (fun c11 => absurd rfl c11) (fun c11 => ?_)
  refine x_aload_n hE dL_isSound_14 rfl rfl ?_
  refine x_iconst (v := nI 3) hE dL_isSound_15 (by decide) ?_
  refine x_aload_n hE dL_isSound_16 rfl rfl ?_
  refine x_iconst (v := nI 0) hE dL_isSound_17 (by decide) ?_
  refine x_iald (v := nI 10) hE (hh2.at hca) (vp_in_nI (by omega) (by decide)) (by rw [nI_clamp (by omega)]; exact k0) dL_isSound_18 ?_
  refine x_ieq (y := nI (s_L S)) (by rw [hL10]) ?_
  refine x_iconst (v := nI 0) hE dL_isSound_19 (by decide) ?_
  refine w_callH (st := []) hE hT 4 (A_level G hh2 hf0) gL_isSound_L_asks rfl rfl rfl (by decide +kernel) ⟨(Nat.le_of_ble_eq_true rfl), (Nat.le_of_ble_eq_true rfl)⟩ rfl rfl dL_isSound_20 rfl (Nat.le_of_ble_eq_true rfl) ⟨by show 0 + (1) + (1) ≤ 13; omega, by show 0 + (6) + (6) ≤ 75; omega⟩ (fun v h3 hp => ?_)
  obtain ⟨rfl, hh3⟩ := hp
  refine x_ldc (v := (-70007)) hE (List.mem_of_getElem? (i := 1) rfl) dL_isSound_23 ?_
  refine x_icmp_ne (tgt := 42) hE dL_isSound_25 (by decide) (fun c25 => absurd rfl c25) (fun c25 => ?_)
  refine x_aload_n hE dL_isSound_28 rfl rfl ?_
  refine k_ask (st := []) hE 0 (Q_barred G hh3.bw) hh3.bw gL_isSound_X7_barred rfl rfl rfl (by decide +kernel) ⟨(Nat.le_of_ble_eq_true rfl), (Nat.le_of_ble_eq_true rfl)⟩ rfl rfl dL_isSound_29 rfl (Nat.le_of_ble_eq_true rfl) ⟨by show 0 + (1) + (1) ≤ 13; omega, by show 0 + (6) + (6) ≤ 75; omega⟩ ?_
  refine x_aload_n hE dL_isSound_32 rfl rfl ?_
  refine x_iconst (v := nI 4) hE dL_isSound_33 (by decide) ?_
  refine x_iald (v := nI bl) hE (hh3.at hca) (vp_in_nI (by omega) (by decide)) (by rw [nI_clamp (by omega)]; exact k4) dL_isSound_34 ?_
  refine x_icmp_lt (tgt := 42) hE dL_isSound_35 (by decide) (fun c35 => absurd (x_nIlt c35 hsb (by omega)) (by omega)) (fun c35 => ?_)
  refine x_iconst (v := nI 1) hE dL_isSound_38 (by decide) ?_
  refine x_goto (tgt := 43) hE dL_isSound_39 (by decide) ?_
  refine x_istore (L' := [some (.ref xa), some (.ref ca), some (.ref ma), some (.ref la), some (.ref ta), some (.int (nI 1)), none, none, none, none, none]) hE dL_isSound_43 (Nat.le_of_ble_eq_true rfl) rfl ?_
  refine x_aload_n hE dL_isSound_45 rfl rfl ?_
  refine x_iconst (v := nI 4) hE dL_isSound_46 (by decide) ?_
  refine x_aload_n hE dL_isSound_47 rfl rfl ?_
  refine k_ask (st := [.int (nI 4), .ref ca]) hE 0 (Q_barred G hh3.bw) hh3.bw gL_isSound_X7_barred rfl rfl rfl (by decide +kernel) ⟨(Nat.le_of_ble_eq_true rfl), (Nat.le_of_ble_eq_true rfl)⟩ rfl rfl dL_isSound_48 rfl (Nat.le_of_ble_eq_true rfl) ⟨by show 0 + (1) + (1) ≤ 13; omega, by show 0 + (6) + (6) ≤ 75; omega⟩ ?_
  refine x_iast (f' := (upd cf 4 (nI (s_b S)))) hE (hh3.at hca) (vp_in_nI (by omega) (by decide)) (x_updN _ (by omega) _) dL_isSound_51 ?_
  have hh4 := hh3.up hca (rowI G 5 (upd cf 4 (nI (s_b S))))
  have hcc4 : lRc S (upd cf 4 (nI (s_b S))) := ⟨by rw [upd_ne (by decide)]; exact k0, by rw [upd_ne (by decide)]; exact k1, by rw [upd_ne (by decide)]; exact k2, by rw [upd_ne (by decide)]; exact k3, s_b S, Nat.le_refl _, upd_at _ _ _⟩
  obtain ⟨hA4, eA4⟩ : ∃ hA4, x_up hA ca (rowI G 5 (upd cf 4 (nI (s_b S)))) = hA4 := ⟨_, rfl⟩
  have hca4 : hA4 ca = some (rowI G 5 (upd cf 4 (nI (s_b S)))) := by rw [← eA4]; exact x_up_eq _ _ _
  have hma4 : hA4 ma = some (rowI G 60 mf) := by rw [← eA4]; exact (x_up_ne (row_ne hma hca (by decide))).trans hma
  have hla4 : hA4 la = some (rowI G 60 lf) := by rw [← eA4]; exact (x_up_ne (row_ne hla hca (by decide))).trans hla
  have hta4 : hA4 ta = some (rowI G 18 tf) := by rw [← eA4]; exact (x_up_ne (row_ne hta hca (by decide))).trans hta
  rw [eA4] at hh4 ⊢
  generalize x_up h3 ca (rowI G 5 (upd cf 4 (nI (s_b S)))) = h4 at hh4 ⊢
  obtain ⟨Q9, hQ9⟩ : ∃ Q9, x_Q G F (fun v h' => v = some (.int (nI 1)) ∧ lH G xa S hA4 h') 13 75 = Q9 := ⟨_, rfl⟩
  rw [hQ9]
  refine x_iconst (v := nI 0) hE dL_isSound_52 (by decide) ?_
  refine x_istore (L' := [some (.ref xa), some (.ref ca), some (.ref ma), some (.ref la), some (.ref ta), some (.int (nI 1)), some (.int (nI 0)), none, none, none, none]) hE dL_isSound_53 (Nat.le_of_ble_eq_true rfl) rfl ?_
  refine x_down (N := 6) (P := fun k => x_W G F Q9 (0 + (1) + (1)) (0 + (6) + (6)) h4 55 [some (.ref xa), some (.ref ca), some (.ref ma), some (.ref la), some (.ref ta), some (.int (nI 1)), some (.int (nI k)), none, none, none, none] []) (fun k hkN ih => ?_) 0 (by omega)
  refine x_iload hE dL_isSound_55 rfl ?_
  refine x_aload_n hE dL_isSound_57 rfl rfl ?_
  refine x_iconst (v := nI 1) hE dL_isSound_58 (by decide) ?_
  refine x_iald (v := nI 6) hE (hh4.at hca4) (vp_in_nI (by omega) (by decide)) (by rw [nI_clamp (by omega)]; exact hcc4.2.1) dL_isSound_59 ?_
  refine x_icmp_ge (tgt := 277) hE dL_isSound_60 (by decide) (fun c60 => ?_) (fun c60 => ?_)
  · refine x_iload hE dL_isSound_277 rfl ?_
    refine x_if_eq (tgt := 296) hE dL_isSound_279 (by decide) (fun c279 => absurd c279 (by decide)) (fun c279 => ?_)
    refine x_aload_n hE dL_isSound_282 rfl rfl ?_
    refine x_aload_n hE dL_isSound_283 rfl rfl ?_
    refine x_aload_n hE dL_isSound_284 rfl rfl ?_
    refine x_aload_n hE dL_isSound_285 rfl rfl ?_
    rw [← hQ9]
    refine w_callS (st := []) hE (zS_T G) hT 4 (c_L_areLevels G hh4 hS0 hI (by omega) hca4 hcc4 hma4 hmm hla4 hll) gL_isSound_L_areLevels rfl rfl rfl (by decide +kernel) ⟨(Nat.le_of_ble_eq_true rfl), (Nat.le_of_ble_eq_true rfl)⟩ rfl rfl dL_isSound_286 rfl (Nat.le_of_ble_eq_true rfl) ⟨by show 0 + (1) + (1) + (11) ≤ 13; omega, by show 0 + (6) + (6) + (63) ≤ 75; omega⟩ (fun v h5 hp => ?_)
    obtain ⟨rfl, hh5⟩ := hp
    refine x_if_eq (tgt := 296) hE dL_isSound_289 (by decide) (fun c289 => absurd c289 (by decide)) (fun c289 => ?_)
    refine x_iconst (v := nI 1) hE dL_isSound_292 (by decide) ?_
    refine x_goto (tgt := 297) hE dL_isSound_293 (by decide) ?_
    refine x_widen (k := 13) (n := 75) (by omega) (by omega) ?_
    exact x_zret hE (Or.inr rfl) dL_isSound_297 (⟨rfl, hh5⟩)
  · replace c60 := x_nInle c60 (by omega) (by omega)
    refine x_iload hE dL_isSound_63 rfl ?_
    refine x_if_eq (tgt := 277) hE dL_isSound_65 (by decide) (fun c65 => absurd c65 (by decide)) (fun c65 => ?_)
    rcases goF_act (c := k) f4 with ⟨_, hno⟩ | ⟨g, hg1, hg2, _, hso⟩
    · obtain ⟨p0, p1, p2, p3⟩ := play_none hno
      refine x_aload_n hE dL_isSound_68 rfl rfl ?_
      refine x_iload hE dL_isSound_69 rfl ?_
      refine x_iconst (v := nI 0) hE dL_isSound_71 (by decide) ?_
      refine k_ask (st := []) hE 2 (Q_playing G hh4.bw hf0 (c := k) (w := 0) (by omega) (by decide)) hh4.bw gL_isSound_X7_playing rfl rfl rfl (by decide +kernel) ⟨(Nat.le_of_ble_eq_true rfl), (Nat.le_of_ble_eq_true rfl)⟩ rfl rfl dL_isSound_72 rfl (Nat.le_of_ble_eq_true rfl) ⟨by show 0 + (1) + (1) ≤ 13; omega, by show 0 + (6) + (6) ≤ 75; omega⟩ ?_
      refine x_ieq (y := nI 0) (p0) ?_
      refine x_iconst (v := nI 1) hE dL_isSound_75 (by decide) ?_
      refine x_icmp_ne (tgt := 83) hE dL_isSound_76 (by decide) (fun c76 => ?_) (fun c76 => absurd c76 n0_1)
      refine x_iconst (v := nI 0) hE dL_isSound_83 (by decide) ?_
      refine x_istore (L' := [some (.ref xa), some (.ref ca), some (.ref ma), some (.ref la), some (.ref ta), some (.int (nI 1)), some (.int (nI k)), some (.int (nI 0)), none, none, none]) hE dL_isSound_84 (Nat.le_of_ble_eq_true rfl) rfl ?_
      refine x_aload_n hE dL_isSound_86 rfl rfl ?_
      refine x_iload hE dL_isSound_87 rfl ?_
      refine x_iconst (v := nI 2) hE dL_isSound_89 (by decide) ?_
      refine k_ask (st := []) hE 2 (Q_playing G hh4.bw hf0 (c := k) (w := 2) (by omega) (by decide)) hh4.bw gL_isSound_X7_playing rfl rfl rfl (by decide +kernel) ⟨(Nat.le_of_ble_eq_true rfl), (Nat.le_of_ble_eq_true rfl)⟩ rfl rfl dL_isSound_90 rfl (Nat.le_of_ble_eq_true rfl) ⟨by show 0 + (1) + (1) ≤ 13; omega, by show 0 + (6) + (6) ≤ 75; omega⟩ ?_
      refine x_ieq (y := (-1 : Int32)) (p2) ?_
      refine x_istore (L' := [some (.ref xa), some (.ref ca), some (.ref ma), some (.ref la), some (.ref ta), some (.int (nI 1)), some (.int (nI k)), some (.int (nI 0)), some (.int (-1 : Int32)), none, none]) hE dL_isSound_93 (Nat.le_of_ble_eq_true rfl) rfl ?_
      refine x_iload hE dL_isSound_95 rfl ?_
      refine x_if_eq (tgt := 110) hE dL_isSound_97 (by decide) (fun c97 => ?_) (fun c97 => absurd c97 (by decide))
      refine x_iconst (v := nI 0) hE dL_isSound_110 (by decide) ?_
      refine x_istore (L' := [some (.ref xa), some (.ref ca), some (.ref ma), some (.ref la), some (.ref ta), some (.int (nI 1)), some (.int (nI k)), some (.int (nI 0)), some (.int (-1 : Int32)), some (.int (nI 0)), none]) hE dL_isSound_111 (Nat.le_of_ble_eq_true rfl) rfl ?_
      refine x_aload_n hE dL_isSound_113 rfl rfl ?_
      refine x_iload hE dL_isSound_114 rfl ?_
      refine x_aload_n hE dL_isSound_116 rfl rfl ?_
      refine x_aload_n hE dL_isSound_117 rfl rfl ?_
      refine x_aload_n hE dL_isSound_118 rfl rfl ?_
      refine k_st (st := []) hE 5 (D_areShining G hh4.bw hS0 (hh4.at hca4) hcc4 (hh4.at hma4) hmm (hh4.at hla4) hll g2 (c := k) (by omega)) gL_isSound_L_areShining rfl rfl rfl (by decide +kernel) ⟨(Nat.le_of_ble_eq_true rfl), (Nat.le_of_ble_eq_true rfl)⟩ rfl rfl dL_isSound_119 rfl (Nat.le_of_ble_eq_true rfl) ⟨by show 0 + (1) + (1) ≤ 13; omega, by show 0 + (6) + (6) ≤ 75; omega⟩ ?_
      refine x_if_eq (tgt := 189) hE dL_isSound_122 (by decide) (fun c122 => absurd c122 (by decide)) (fun c122 => ?_)
      refine x_iload hE dL_isSound_125 rfl ?_
      refine x_if_eq (tgt := 158) hE dL_isSound_127 (by decide) (fun c127 => ?_) (fun c127 => absurd c127 (by decide))
      refine x_aload_n hE dL_isSound_158 rfl rfl ?_
      refine x_iload hE dL_isSound_159 rfl ?_
      refine x_iconst (v := nI 1) hE dL_isSound_161 (by decide) ?_
      refine k_ask (st := []) hE 2 (Q_playing G hh4.bw hf0 (c := k) (w := 1) (by omega) (by decide)) hh4.bw gL_isSound_X7_playing rfl rfl rfl (by decide +kernel) ⟨(Nat.le_of_ble_eq_true rfl), (Nat.le_of_ble_eq_true rfl)⟩ rfl rfl dL_isSound_162 rfl (Nat.le_of_ble_eq_true rfl) ⟨by show 0 + (1) + (1) ≤ 13; omega, by show 0 + (6) + (6) ≤ 75; omega⟩ ?_
      refine x_ieq (y := nI 0) (p1) ?_
      refine x_if_ne (tgt := 189) hE dL_isSound_165 (by decide) (fun c165 => absurd c165 (by decide)) (fun c165 => ?_)
      refine x_iload hE dL_isSound_168 rfl ?_
      refine x_iconst (v := (-1 : Int32)) hE dL_isSound_170 (by decide) ?_
      refine x_icmp_ne (tgt := 189) hE dL_isSound_171 (by decide) (fun c171 => absurd rfl c171) (fun c171 => ?_)
      refine x_aload_n hE dL_isSound_174 rfl rfl ?_
      refine x_iload hE dL_isSound_175 rfl ?_
      refine x_iconst (v := nI 3) hE dL_isSound_177 (by decide) ?_
      refine k_ask (st := []) hE 2 (Q_playing G hh4.bw hf0 (c := k) (w := 3) (by omega) (by decide)) hh4.bw gL_isSound_X7_playing rfl rfl rfl (by decide +kernel) ⟨(Nat.le_of_ble_eq_true rfl), (Nat.le_of_ble_eq_true rfl)⟩ rfl rfl dL_isSound_178 rfl (Nat.le_of_ble_eq_true rfl) ⟨by show 0 + (1) + (1) ≤ 13; omega, by show 0 + (6) + (6) ≤ 75; omega⟩ ?_
      refine x_ieq (y := (-1 : Int32)) (p3) ?_
      refine x_iconst (v := (-1 : Int32)) hE dL_isSound_181 (by decide) ?_
      refine x_icmp_ne (tgt := 189) hE dL_isSound_182 (by decide) (fun c182 => absurd rfl c182) (fun c182 => ?_)
      refine x_iconst (v := nI 1) hE dL_isSound_185 (by decide) ?_
      refine x_goto (tgt := 190) hE dL_isSound_186 (by decide) ?_
      refine x_istore (L' := [some (.ref xa), some (.ref ca), some (.ref ma), some (.ref la), some (.ref ta), some (.int (nI 1)), some (.int (nI k)), some (.int (nI 0)), some (.int (-1 : Int32)), some (.int (nI 0)), none]) hE dL_isSound_190 (Nat.le_of_ble_eq_true rfl) rfl ?_
      refine x_iload hE dL_isSound_192 rfl ?_
      refine x_if_eq (tgt := 271) hE dL_isSound_194 (by decide) (fun c194 => ?_) (fun c194 => absurd c194 (by decide))
      refine x_iinc (v := nI (k + 1)) (L' := [some (.ref xa), some (.ref ca), some (.ref ma), some (.ref la), some (.ref ta), some (.int (nI 1)), some (.int (nI (k + 1))), some (.int (nI 0)), some (.int (-1 : Int32)), some (.int (nI 0)), none]) hE dL_isSound_271 rfl (nI_1 _) rfl ?_
      refine x_goto (tgt := 55) hE dL_isSound_274 (by decide) ?_
      refine x_forget (L' := [some (.ref xa), some (.ref ca), some (.ref ma), some (.ref la), some (.ref ta), some (.int (nI 1)), some (.int (nI (k + 1))), none, none, none, none]) (And.intro rfl (And.intro rfl (And.intro rfl (And.intro rfl (And.intro rfl (And.intro rfl (And.intro rfl trivial))))))) ?_
      exact ih (k + 1) (by omega) (by omega)
    · obtain ⟨p0, p1, p2, p3⟩ := play_some hso
      have hgo := f5 g hg1
      have hmb := mas_bits hgo
      have hwt := hgo.2.2.1
      obtain ⟨⟨u, hu, eu⟩, _⟩ := id hgo
      refine x_aload_n hE dL_isSound_68 rfl rfl ?_
      refine x_iload hE dL_isSound_69 rfl ?_
      refine x_iconst (v := nI 0) hE dL_isSound_71 (by decide) ?_
      refine k_ask (st := []) hE 2 (Q_playing G hh4.bw hf0 (c := k) (w := 0) (by omega) (by decide)) hh4.bw gL_isSound_X7_playing rfl rfl rfl (by decide +kernel) ⟨(Nat.le_of_ble_eq_true rfl), (Nat.le_of_ble_eq_true rfl)⟩ rfl rfl dL_isSound_72 rfl (Nat.le_of_ble_eq_true rfl) ⟨by show 0 + (1) + (1) ≤ 13; omega, by show 0 + (6) + (6) ≤ 75; omega⟩ ?_
      refine x_ieq (y := nI 1) (p0) ?_
      refine x_iconst (v := nI 1) hE dL_isSound_75 (by decide) ?_
      refine x_icmp_ne (tgt := 83) hE dL_isSound_76 (by decide) (fun c76 => absurd rfl c76) (fun c76 => ?_)
      refine x_iconst (v := nI 1) hE dL_isSound_79 (by decide) ?_
      refine x_goto (tgt := 84) hE dL_isSound_80 (by decide) ?_
      refine x_istore (L' := [some (.ref xa), some (.ref ca), some (.ref ma), some (.ref la), some (.ref ta), some (.int (nI 1)), some (.int (nI k)), some (.int (nI 1)), none, none, none]) hE dL_isSound_84 (Nat.le_of_ble_eq_true rfl) rfl ?_
      refine x_aload_n hE dL_isSound_86 rfl rfl ?_
      refine x_iload hE dL_isSound_87 rfl ?_
      refine x_iconst (v := nI 2) hE dL_isSound_89 (by decide) ?_
      refine k_ask (st := []) hE 2 (Q_playing G hh4.bw hf0 (c := k) (w := 2) (by omega) (by decide)) hh4.bw gL_isSound_X7_playing rfl rfl rfl (by decide +kernel) ⟨(Nat.le_of_ble_eq_true rfl), (Nat.le_of_ble_eq_true rfl)⟩ rfl rfl dL_isSound_90 rfl (Nat.le_of_ble_eq_true rfl) ⟨by show 0 + (1) + (1) ≤ 13; omega, by show 0 + (6) + (6) ≤ 75; omega⟩ ?_
      refine x_ieq (y := nI g.2.1) (p2) ?_
      refine x_istore (L' := [some (.ref xa), some (.ref ca), some (.ref ma), some (.ref la), some (.ref ta), some (.int (nI 1)), some (.int (nI k)), some (.int (nI 1)), some (.int (nI g.2.1)), none, none]) hE dL_isSound_93 (Nat.le_of_ble_eq_true rfl) rfl ?_
      refine x_iload hE dL_isSound_95 rfl ?_
      refine x_if_eq (tgt := 110) hE dL_isSound_97 (by decide) (fun c97 => absurd c97 (by decide)) (fun c97 => ?_)
      refine x_aload_n hE dL_isSound_100 rfl rfl ?_
      refine x_iload hE dL_isSound_101 rfl ?_
      refine x_iconst (v := nI 3) hE dL_isSound_103 (by decide) ?_
      refine k_ask (st := []) hE 2 (Q_playing G hh4.bw hf0 (c := k) (w := 3) (by omega) (by decide)) hh4.bw gL_isSound_X7_playing rfl rfl rfl (by decide +kernel) ⟨(Nat.le_of_ble_eq_true rfl), (Nat.le_of_ble_eq_true rfl)⟩ rfl rfl dL_isSound_104 rfl (Nat.le_of_ble_eq_true rfl) ⟨by show 0 + (1) + (1) ≤ 13; omega, by show 0 + (6) + (6) ≤ 75; omega⟩ ?_
      refine x_ieq (y := nI (masP (s_ar S) (s_t S) g).toNat) (p3) ?_
      refine x_goto (tgt := 111) hE dL_isSound_107 (by decide) ?_
      refine x_istore (L' := [some (.ref xa), some (.ref ca), some (.ref ma), some (.ref la), some (.ref ta), some (.int (nI 1)), some (.int (nI k)), some (.int (nI 1)), some (.int (nI g.2.1)), some (.int (nI (masP (s_ar S) (s_t S) g).toNat)), none]) hE dL_isSound_111 (Nat.le_of_ble_eq_true rfl) rfl ?_
      refine x_aload_n hE dL_isSound_113 rfl rfl ?_
      refine x_iload hE dL_isSound_114 rfl ?_
      refine x_aload_n hE dL_isSound_116 rfl rfl ?_
      refine x_aload_n hE dL_isSound_117 rfl rfl ?_
      refine x_aload_n hE dL_isSound_118 rfl rfl ?_
      refine k_st (st := []) hE 5 (D_areShining G hh4.bw hS0 (hh4.at hca4) hcc4 (hh4.at hma4) hmm (hh4.at hla4) hll g2 (c := k) (by omega)) gL_isSound_L_areShining rfl rfl rfl (by decide +kernel) ⟨(Nat.le_of_ble_eq_true rfl), (Nat.le_of_ble_eq_true rfl)⟩ rfl rfl dL_isSound_119 rfl (Nat.le_of_ble_eq_true rfl) ⟨by show 0 + (1) + (1) ≤ 13; omega, by show 0 + (6) + (6) ≤ 75; omega⟩ ?_
      refine x_if_eq (tgt := 189) hE dL_isSound_122 (by decide) (fun c122 => absurd c122 (by decide)) (fun c122 => ?_)
      refine x_iload hE dL_isSound_125 rfl ?_
      refine x_if_eq (tgt := 158) hE dL_isSound_127 (by decide) (fun c127 => absurd c127 (by decide)) (fun c127 => ?_)
      refine x_iload hE dL_isSound_130 rfl ?_
      refine x_if_lt (tgt := 189) hE dL_isSound_132 (by decide) (fun c132 => absurd c132 (nI_pos (by omega))) (fun c132 => ?_)
      refine x_iload hE dL_isSound_135 rfl ?_
      refine x_aload_n hE dL_isSound_137 rfl rfl ?_
      refine x_iconst (v := nI 3) hE dL_isSound_138 (by decide) ?_
      refine x_iald (v := nI (s_t S)) hE (hh4.at hca4) (vp_in_nI (by omega) (by decide)) (by rw [nI_clamp (by omega)]; exact hcc4.2.2.2.1) dL_isSound_139 ?_
      refine x_icmp_gt (tgt := 189) hE dL_isSound_140 (by decide) (fun c140 => absurd (x_nIlt c140 (by omega) (by omega)) (by omega)) (fun c140 => ?_)
      refine x_iload hE dL_isSound_143 rfl ?_
      refine x_if_lt (tgt := 189) hE dL_isSound_145 (by decide) (fun c145 => absurd c145 (nI_pos (by omega))) (fun c145 => ?_)
      refine x_iload hE dL_isSound_148 rfl ?_
      refine x_ldc (v := (1065353216)) hE (List.mem_of_getElem? (i := 2) rfl) dL_isSound_150 ?_
      refine x_icmp_gt (tgt := 189) hE dL_isSound_152 (by decide) (fun c152 => absurd (x_nIlt (a := 1065353216) (b := (masP (s_ar S) (s_t S) g).toNat) c152 (by omega) (by omega)) (by omega)) (fun c152 => ?_)
      refine x_goto (tgt := 185) hE dL_isSound_155 (by decide) ?_
      refine x_iconst (v := nI 1) hE dL_isSound_185 (by decide) ?_
      refine x_goto (tgt := 190) hE dL_isSound_186 (by decide) ?_
      refine x_istore (L' := [some (.ref xa), some (.ref ca), some (.ref ma), some (.ref la), some (.ref ta), some (.int (nI 1)), some (.int (nI k)), some (.int (nI 1)), some (.int (nI g.2.1)), some (.int (nI (masP (s_ar S) (s_t S) g).toNat)), none]) hE dL_isSound_190 (Nat.le_of_ble_eq_true rfl) rfl ?_
      refine x_iload hE dL_isSound_192 rfl ?_
      refine x_if_eq (tgt := 271) hE dL_isSound_194 (by decide) (fun c194 => absurd c194 (by decide)) (fun c194 => ?_)
      refine x_aload_n hE dL_isSound_197 rfl rfl ?_
      refine x_iload hE dL_isSound_198 rfl ?_
      refine x_iconst (v := nI 1) hE dL_isSound_200 (by decide) ?_
      refine k_ask (st := []) hE 2 (Q_playing G hh4.bw hf0 (c := k) (w := 1) (by omega) (by decide)) hh4.bw gL_isSound_X7_playing rfl rfl rfl (by decide +kernel) ⟨(Nat.le_of_ble_eq_true rfl), (Nat.le_of_ble_eq_true rfl)⟩ rfl rfl dL_isSound_201 rfl (Nat.le_of_ble_eq_true rfl) ⟨by show 0 + (1) + (1) ≤ 13; omega, by show 0 + (6) + (6) ≤ 75; omega⟩ ?_
      by_cases hr : relI g.2.2 = -1
      · refine x_ieq (y := nI 0) (by rw [p1, if_pos hr]) ?_
        refine x_if_ne (tgt := 271) hE dL_isSound_204 (by decide) (fun c204 => absurd c204 (by decide)) (fun c204 => ?_)
        refine x_iload hE dL_isSound_207 rfl ?_
        refine x_if_eq (tgt := 271) hE dL_isSound_209 (by decide) (fun c209 => absurd c209 (by decide)) (fun c209 => ?_)
        refine x_aload_n hE dL_isSound_212 rfl rfl ?_
        refine x_iconst (v := nI 3) hE dL_isSound_213 (by decide) ?_
        refine x_iald (v := nI (s_t S)) hE (hh4.at hca4) (vp_in_nI (by omega) (by decide)) (by rw [nI_clamp (by omega)]; exact hcc4.2.2.2.1) dL_isSound_214 ?_
        refine x_iload hE dL_isSound_215 rfl ?_
        refine x_isub hE dL_isSound_217 ?_
        refine x_ieq (y := nI (s_t S - g.2.1)) (sub_nI hwt) ?_
        refine x_istore (L' := [some (.ref xa), some (.ref ca), some (.ref ma), some (.ref la), some (.ref ta), some (.int (nI 1)), some (.int (nI k)), some (.int (nI 1)), some (.int (nI g.2.1)), some (.int (nI (masP (s_ar S) (s_t S) g).toNat)), some (.int (nI (s_t S - g.2.1)))]) hE dL_isSound_218 (Nat.le_of_ble_eq_true rfl) rfl ?_
        refine x_iload hE dL_isSound_220 rfl ?_
        refine x_aload hE dL_isSound_222 rfl rfl ?_
        refine x_iconst (v := nI 3) hE dL_isSound_224 (by decide) ?_
        refine x_iload hE dL_isSound_225 rfl ?_
        refine x_imul hE dL_isSound_227 ?_
        refine x_ieq (y := nI (3 * k)) (pk_mul _ _) ?_
        refine x_iconst (v := nI 1) hE dL_isSound_228 (by decide) ?_
        refine x_iadd hE dL_isSound_229 ?_
        refine x_ieq (y := nI (3 * k + 1)) (nI_add _ _) ?_
        refine x_iald (v := nI u) hE (hh4.at hta4) (vp_in_nI (by omega) (by decide)) (by rw [nI_clamp (by omega)]; exact ((htt k (by omega)).2.1.trans (by rw [← hg2]; exact eu))) dL_isSound_230 ?_
        refine x_iload hE dL_isSound_231 rfl ?_
        have hm := mas_unrel hgo hr eu
        obtain ⟨mu1, mu2⟩ := mas_up (u := u) (s := s_t S - g.2.1) hu (by omega)
        refine x_icmp_gt (tgt := 241) hE dL_isSound_233 (by decide) (fun c233 => ?_) (fun c233 => ?_)
        · have hlt : s_t S - g.2.1 < u := x_nIlt c233 (by omega) (by omega)
          refine x_iload hE dL_isSound_241 rfl ?_
          refine k_st (st := [.int (nI (masP (s_ar S) (s_t S) g).toNat)]) hE 1 (c_L_whole G (n := s_t S - g.2.1) (by omega)) gL_isSound_L_whole rfl rfl rfl (by decide +kernel) ⟨(Nat.le_of_ble_eq_true rfl), (Nat.le_of_ble_eq_true rfl)⟩ rfl rfl dL_isSound_243 rfl (Nat.le_of_ble_eq_true rfl) ⟨by show 0 + (1) + (1) ≤ 13; omega, by show 0 + (6) + (6) ≤ 75; omega⟩ ?_
          refine x_aload hE dL_isSound_246 rfl rfl ?_
          refine x_iconst (v := nI 3) hE dL_isSound_248 (by decide) ?_
          refine x_iload hE dL_isSound_249 rfl ?_
          refine x_imul hE dL_isSound_251 ?_
          refine x_ieq (y := nI (3 * k)) (pk_mul _ _) ?_
          refine x_iconst (v := nI 1) hE dL_isSound_252 (by decide) ?_
          refine x_iadd hE dL_isSound_253 ?_
          refine x_ieq (y := nI (3 * k + 1)) (nI_add _ _) ?_
          refine x_iald (v := nI u) hE (hh4.at hta4) (vp_in_nI (by omega) (by decide)) (by rw [nI_clamp (by omega)]; exact ((htt k (by omega)).2.1.trans (by rw [← hg2]; exact eu))) dL_isSound_254 ?_
          refine k_st (st := [.int (nI (FP.i2f (nI (s_t S - g.2.1))).toNat), .int (nI (masP (s_ar S) (s_t S) g).toNat)]) hE 1 (c_L_whole G (n := u) (by omega)) gL_isSound_L_whole rfl rfl rfl (by decide +kernel) ⟨(Nat.le_of_ble_eq_true rfl), (Nat.le_of_ble_eq_true rfl)⟩ rfl rfl dL_isSound_255 rfl (Nat.le_of_ble_eq_true rfl) ⟨by show 0 + (1) + (1) ≤ 13; omega, by show 0 + (6) + (6) ≤ 75; omega⟩ ?_
          have v1 := whole_0 (n := s_t S - g.2.1) (by omega)
          have v2 := whole_0 (n := u) (by omega)
          refine k_st (st := [.int (nI (masP (s_ar S) (s_t S) g).toNat)]) hE 2 (c_L_over G (A := (FP.i2f (nI (s_t S - g.2.1))).toNat) (B := (FP.i2f (nI u)).toNat) (whole_bN (by omega)) (whole_bN (by omega)) (by omega) (fun z => by unfold poF; omega)) gL_isSound_L_over rfl rfl rfl (by decide +kernel) ⟨(Nat.le_of_ble_eq_true rfl), (Nat.le_of_ble_eq_true rfl)⟩ rfl rfl dL_isSound_258 rfl (Nat.le_of_ble_eq_true rfl) ⟨by show 0 + (1) + (1) ≤ 13; omega, by show 0 + (6) + (6) ≤ 75; omega⟩ ?_
          refine x_icmp_ne (tgt := 268) hE dL_isSound_261 (by decide) (fun c261 => absurd (by rw [hm, mu2 hlt, fB_of, fB_of]) c261) (fun c261 => ?_)
          refine x_iconst (v := nI 1) hE dL_isSound_264 (by decide) ?_
          refine x_goto (tgt := 269) hE dL_isSound_265 (by decide) ?_
          refine x_istore (L' := [some (.ref xa), some (.ref ca), some (.ref ma), some (.ref la), some (.ref ta), some (.int (nI 1)), some (.int (nI k)), some (.int (nI 1)), some (.int (nI g.2.1)), some (.int (nI (masP (s_ar S) (s_t S) g).toNat)), some (.int (nI (s_t S - g.2.1)))]) hE dL_isSound_269 (Nat.le_of_ble_eq_true rfl) rfl ?_
          refine x_iinc (v := nI (k + 1)) (L' := [some (.ref xa), some (.ref ca), some (.ref ma), some (.ref la), some (.ref ta), some (.int (nI 1)), some (.int (nI (k + 1))), some (.int (nI 1)), some (.int (nI g.2.1)), some (.int (nI (masP (s_ar S) (s_t S) g).toNat)), some (.int (nI (s_t S - g.2.1)))]) hE dL_isSound_271 rfl (nI_1 _) rfl ?_
          refine x_goto (tgt := 55) hE dL_isSound_274 (by decide) ?_
          refine x_forget (L' := [some (.ref xa), some (.ref ca), some (.ref ma), some (.ref la), some (.ref ta), some (.int (nI 1)), some (.int (nI (k + 1))), none, none, none, none]) (And.intro rfl (And.intro rfl (And.intro rfl (And.intro rfl (And.intro rfl (And.intro rfl (And.intro rfl trivial))))))) ?_
          exact ih (k + 1) (by omega) (by omega)
        · have hge : u ≤ s_t S - g.2.1 := x_nInlt c233 (by omega) (by omega)
          refine x_ldc (v := (1065353216)) hE (List.mem_of_getElem? (i := 2) rfl) dL_isSound_236 ?_
          refine x_goto (tgt := 261) hE dL_isSound_238 (by decide) ?_
          refine x_icmp_ne (tgt := 268) hE dL_isSound_261 (by decide) (fun c261 => absurd (by rw [hm, mu1 hge]; rfl) c261) (fun c261 => ?_)
          refine x_iconst (v := nI 1) hE dL_isSound_264 (by decide) ?_
          refine x_goto (tgt := 269) hE dL_isSound_265 (by decide) ?_
          refine x_istore (L' := [some (.ref xa), some (.ref ca), some (.ref ma), some (.ref la), some (.ref ta), some (.int (nI 1)), some (.int (nI k)), some (.int (nI 1)), some (.int (nI g.2.1)), some (.int (nI (masP (s_ar S) (s_t S) g).toNat)), some (.int (nI (s_t S - g.2.1)))]) hE dL_isSound_269 (Nat.le_of_ble_eq_true rfl) rfl ?_
          refine x_iinc (v := nI (k + 1)) (L' := [some (.ref xa), some (.ref ca), some (.ref ma), some (.ref la), some (.ref ta), some (.int (nI 1)), some (.int (nI (k + 1))), some (.int (nI 1)), some (.int (nI g.2.1)), some (.int (nI (masP (s_ar S) (s_t S) g).toNat)), some (.int (nI (s_t S - g.2.1)))]) hE dL_isSound_271 rfl (nI_1 _) rfl ?_
          refine x_goto (tgt := 55) hE dL_isSound_274 (by decide) ?_
          refine x_forget (L' := [some (.ref xa), some (.ref ca), some (.ref ma), some (.ref la), some (.ref ta), some (.int (nI 1)), some (.int (nI (k + 1))), none, none, none, none]) (And.intro rfl (And.intro rfl (And.intro rfl (And.intro rfl (And.intro rfl (And.intro rfl (And.intro rfl trivial))))))) ?_
          exact ih (k + 1) (by omega) (by omega)
      · refine x_ieq (y := nI 1) (by rw [p1, if_neg hr]) ?_
        refine x_if_ne (tgt := 271) hE dL_isSound_204 (by decide) (fun c204 => ?_) (fun c204 => absurd c204 (by decide))
        refine x_iinc (v := nI (k + 1)) (L' := [some (.ref xa), some (.ref ca), some (.ref ma), some (.ref la), some (.ref ta), some (.int (nI 1)), some (.int (nI (k + 1))), some (.int (nI 1)), some (.int (nI g.2.1)), some (.int (nI (masP (s_ar S) (s_t S) g).toNat)), none]) hE dL_isSound_271 rfl (nI_1 _) rfl ?_
        refine x_goto (tgt := 55) hE dL_isSound_274 (by decide) ?_
        refine x_forget (L' := [some (.ref xa), some (.ref ca), some (.ref ma), some (.ref la), some (.ref ta), some (.int (nI 1)), some (.int (nI (k + 1))), none, none, none, none]) (And.intro rfl (And.intro rfl (And.intro rfl (And.intro rfl (And.intro rfl (And.intro rfl (And.intro rfl trivial))))))) ?_
        exact ih (k + 1) (by omega) (by omega)
