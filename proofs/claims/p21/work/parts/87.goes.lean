set_option maxHeartbeats 4000000 in
set_option maxRecDepth 100000 in
theorem c_L_goes (G : XG) {xa : Nat} {S : PS} {hA h : HM} (hh : lH G xa S hA h) (hS : lS S) {kk : Nat} (hI : iI S kk) (hk : kk ≤ 511) {ca : Nat} {cf : Nat → Int32} (hca : hA ca = some (rowI G 5 cf)) (hcc : lRc S cf) {ma : Nat} {mf : Nat → Int32} (hma : hA ma = some (rowI G 60 mf)) (hmm : lRm S mf) {la : Nat} {lf : Nat → Int32} (hla : hA la = some (rowI G 60 lf)) (hll : lRl S lf) {pa : Nat} {pf : Nat → Int32} (hpa : hA pa = some (rowI G 3 pf)) (hpp : lRp S pf) {ta : Nat} {tf : Nat → Int32} (hta : hA ta = some (rowI G 18 tf)) (htt : lRt S tf) {x y cu : Nat} (hx : x < 2 ^ 31) (hy : y < 2 ^ 31) (hcu : x % 6 = cu) : w_M G (x_TF G) yL_goes wsL_goes ({ frames := 9, cells := s_n (gW S cu) - s_n S + 1, slots := 3 * (s_n (gW S cu) - s_n S) + 6, locals := 169 } : Room) [.ref xa, .int (nI x), .int (nI y), .ref ca, .ref ma, .ref la, .ref pa, .ref ta] h (fun v h' => v = some (.int (nI 1)) ∧ lH G xa (gW S cu) hA h') (s_n (gW S cu) - s_n S + 1) (3 * (s_n (gW S cu) - s_n S) + 6) := by
  refine w_M.of (cc := cL_goes) (maxL := 13) (ret := (some .boolean)) (ent := [some (.ref xa), some (.int (nI x)), some (.int (nI y)), some (.ref ca), some (.ref ma), some (.ref la), some (.ref pa), some (.ref ta), none, none, none, none, none]) (by decide +kernel) rfl (Nat.le_of_ble_eq_true rfl) rfl rfl ?_
  intro F hE hname hT
  have hS0 := hS
  obtain ⟨hL10, hC6, hV⟩ := hS
  have hf := hI.1.1
  have hf0 := hf
  obtain ⟨f1, f2, f3, f4, f5⟩ := hf
  have g4 := f4
  have g2 := f2
  rw [hC6] at f2 f4
  have hcu6 : cu < 6 := by omega
  have hcS : cu < s_C S := by omega
  refine x_iload_n hE dL_goes_0 rfl ?_
  refine x_aload_n hE dL_goes_1 rfl rfl ?_
  refine x_iconst (v := nI 1) hE dL_goes_2 (by decide) ?_
  refine x_iald (v := nI 6) hE (hh.at hca) (vp_in_nI (by omega) (by decide)) (by rw [nI_clamp (by omega)]; exact hcc.2.1) dL_goes_3 ?_
  refine x_irem hE dL_goes_4 (by decide) ?_
  refine x_ieq (y := nI cu) (by rw [pk_rem (by omega) (by decide) (by decide), hcu]) ?_
  refine x_istore (L' := [some (.ref xa), some (.int (nI x)), some (.int (nI y)), some (.ref ca), some (.ref ma), some (.ref la), some (.ref pa), some (.ref ta), some (.int (nI cu)), none, none, none, none]) hE dL_goes_5 (Nat.le_of_ble_eq_true rfl) rfl ?_
  refine x_iconst (v := nI 1) hE dL_goes_7 (by decide) ?_
  refine x_ieq (y := b2i (mayB S cu 0)) (rfl) ?_
  refine x_istore (L' := [some (.ref xa), some (.int (nI x)), some (.int (nI y)), some (.ref ca), some (.ref ma), some (.ref la), some (.ref pa), some (.ref ta), some (.int (nI cu)), some (.int (b2i (mayB S cu 0))), none, none, none]) hE dL_goes_8 (Nat.le_of_ble_eq_true rfl) rfl ?_
  refine x_iconst (v := nI 0) hE dL_goes_10 (by decide) ?_
  refine x_ieq (y := nI (acN S cu 0)) (rfl) ?_
  refine x_istore (L' := [some (.ref xa), some (.int (nI x)), some (.int (nI y)), some (.ref ca), some (.ref ma), some (.ref la), some (.ref pa), some (.ref ta), some (.int (nI cu)), some (.int (b2i (mayB S cu 0))), some (.int (nI (acN S cu 0))), none, none]) hE dL_goes_11 (Nat.le_of_ble_eq_true rfl) rfl ?_
  refine x_iconst (v := nI 0) hE dL_goes_13 (by decide) ?_
  refine x_istore (L' := [some (.ref xa), some (.int (nI x)), some (.int (nI y)), some (.ref ca), some (.ref ma), some (.ref la), some (.ref pa), some (.ref ta), some (.int (nI cu)), some (.int (b2i (mayB S cu 0))), some (.int (nI (acN S cu 0))), some (.int (nI 0)), none]) hE dL_goes_14 (Nat.le_of_ble_eq_true rfl) rfl ?_
  refine x_down (N := 3) (P := fun k => x_W G F (x_Q G F (fun v h' => v = some (.int (nI 1)) ∧ lH G xa (gW S cu) hA h') (s_n (gW S cu) - s_n S + 1) (3 * (s_n (gW S cu) - s_n S) + 6)) 0 0 h 16 [some (.ref xa), some (.int (nI x)), some (.int (nI y)), some (.ref ca), some (.ref ma), some (.ref la), some (.ref pa), some (.ref ta), some (.int (nI cu)), some (.int (b2i (mayB S cu k))), some (.int (nI (acN S cu 0))), some (.int (nI k)), none] []) (fun k hkN ih => ?_) 0 (by omega)
  refine x_iload hE dL_goes_16 rfl ?_
  refine x_iconst (v := nI 3) hE dL_goes_18 (by decide) ?_
  refine x_icmp_ge (tgt := 86) hE dL_goes_19 (by decide) (fun c19 => ?_) (fun c19 => ?_)
  · replace c19 := x_nIle c19 (by omega) (by omega)
    obtain rfl : k = 3 := by omega
    refine x_iconst (v := nI 0) hE dL_goes_86 (by decide) ?_
    refine x_istore (L' := [some (.ref xa), some (.int (nI x)), some (.int (nI y)), some (.ref ca), some (.ref ma), some (.ref la), some (.ref pa), some (.ref ta), some (.int (nI cu)), some (.int (b2i (mayB S cu 3))), some (.int (nI (acN S cu 0))), some (.int (nI 0)), none]) hE dL_goes_87 (Nat.le_of_ble_eq_true rfl) rfl ?_
    refine x_down (N := 6) (P := fun j => x_W G F (x_Q G F (fun v h' => v = some (.int (nI 1)) ∧ lH G xa (gW S cu) hA h') (s_n (gW S cu) - s_n S + 1) (3 * (s_n (gW S cu) - s_n S) + 6)) 0 0 h 89 [some (.ref xa), some (.int (nI x)), some (.int (nI y)), some (.ref ca), some (.ref ma), some (.ref la), some (.ref pa), some (.ref ta), some (.int (nI cu)), some (.int (b2i (mayB S cu 3))), some (.int (nI (acN S cu j))), some (.int (nI j)), none] []) (fun j hjN ih2 => ?_) 0 (by omega)
    refine x_iload hE dL_goes_89 rfl ?_
    refine x_aload_n hE dL_goes_91 rfl rfl ?_
    refine x_iconst (v := nI 1) hE dL_goes_92 (by decide) ?_
    refine x_iald (v := nI 6) hE (hh.at hca) (vp_in_nI (by omega) (by decide)) (by rw [nI_clamp (by omega)]; exact hcc.2.1) dL_goes_93 ?_
    refine x_icmp_ge (tgt := 126) hE dL_goes_94 (by decide) (fun c94 => ?_) (fun c94 => ?_)
    · replace c94 := x_nIle c94 (by omega) (by omega)
      obtain rfl : j = 6 := by omega
      refine x_aload_n hE dL_goes_126 rfl rfl ?_
      refine x_iconst (v := nI 0) hE dL_goes_127 (by decide) ?_
      refine x_iload hE dL_goes_128 rfl ?_
      refine x_iconst (v := nI 0) hE dL_goes_130 (by decide) ?_
      have hbI := hI.bI hk
      by_cases hcan : canP (s_ar S) (s_L S) (s_B S) (s_G S) cu = true
      · have egw := gW_y hcan
        refine w_callH (st := []) hE hT 4 (A_go_y G hh hbI hcS hcan) gL_goes_L_asks rfl rfl rfl (by decide +kernel) ⟨(Nat.le_of_ble_eq_true rfl), (Nat.le_of_ble_eq_true rfl)⟩ rfl rfl dL_goes_131 rfl (Nat.le_of_ble_eq_true rfl) ⟨by show 0 + (s_n (begP cu S) - s_n S + 1) ≤ s_n (gW S cu) - s_n S + 1; (rw [egw]; omega), by show 0 + (3 * (s_n (begP cu S) - s_n S) + 6) ≤ 3 * (s_n (gW S cu) - s_n S) + 6; (rw [egw]; omega)⟩ (fun v h2 hp => ?_)
        obtain ⟨rfl, hh2⟩ := hp
        have hI2 := iI_go hI hk hcS
        have hf2 := hI2.1.1
        obtain ⟨p0, p1, p2, p3⟩ := play_some (beg_go f4 hcu6)
        refine x_istore (L' := [some (.ref xa), some (.int (nI x)), some (.int (nI y)), some (.ref ca), some (.ref ma), some (.ref la), some (.ref pa), some (.ref ta), some (.int (nI cu)), some (.int (b2i (mayB S cu 3))), some (.int (nI (acN S cu 6))), some (.int (nI (s_G (begP cu S)).length)), none]) hE dL_goes_134 (Nat.le_of_ble_eq_true rfl) rfl ?_
        refine x_iload hE dL_goes_136 rfl ?_
        refine x_if_ne (tgt := 154) hE dL_goes_138 (by decide) (fun c138 => ?_) (fun c138 => absurd (mayB_3.trans hcan) (by rw [b2i_0.mp c138]; decide))
        refine x_iload hE dL_goes_154 rfl ?_
        refine x_iload hE dL_goes_156 rfl ?_
        refine x_icmp_ne (tgt := 227) hE dL_goes_158 (by decide) (fun c158 => absurd (by rw [acN_all f4 hcu6]) c158) (fun c158 => ?_)
        refine x_aload_n hE dL_goes_161 rfl rfl ?_
        refine x_iload hE dL_goes_162 rfl ?_
        refine x_iconst (v := nI 0) hE dL_goes_164 (by decide) ?_
        refine k_ask (st := []) hE 2 (Q_playing G hh2.bw hf2 (c := cu) (w := 0) hcS (by decide)) hh2.bw gL_goes_X7_playing rfl rfl rfl (by decide +kernel) ⟨(Nat.le_of_ble_eq_true rfl), (Nat.le_of_ble_eq_true rfl)⟩ rfl rfl dL_goes_165 rfl (Nat.le_of_ble_eq_true rfl) ⟨by show 0 + (s_n (begP cu S) - s_n S + 1) ≤ s_n (gW S cu) - s_n S + 1; (rw [egw]; omega), by show 0 + (3 * (s_n (begP cu S) - s_n S) + 6) ≤ 3 * (s_n (gW S cu) - s_n S) + 6; (rw [egw]; omega)⟩ ?_
        refine x_ieq (y := nI 1) (p0) ?_
        refine x_iconst (v := nI 1) hE dL_goes_168 (by decide) ?_
        refine x_icmp_ne (tgt := 227) hE dL_goes_169 (by decide) (fun c169 => absurd rfl c169) (fun c169 => ?_)
        refine x_aload_n hE dL_goes_172 rfl rfl ?_
        refine x_iload hE dL_goes_173 rfl ?_
        refine x_iconst (v := nI 1) hE dL_goes_175 (by decide) ?_
        refine k_ask (st := []) hE 2 (Q_playing G hh2.bw hf2 (c := cu) (w := 1) hcS (by decide)) hh2.bw gL_goes_X7_playing rfl rfl rfl (by decide +kernel) ⟨(Nat.le_of_ble_eq_true rfl), (Nat.le_of_ble_eq_true rfl)⟩ rfl rfl dL_goes_176 rfl (Nat.le_of_ble_eq_true rfl) ⟨by show 0 + (s_n (begP cu S) - s_n S + 1) ≤ s_n (gW S cu) - s_n S + 1; (rw [egw]; omega), by show 0 + (3 * (s_n (begP cu S) - s_n S) + 6) ≤ 3 * (s_n (gW S cu) - s_n S) + 6; (rw [egw]; omega)⟩ ?_
        refine x_ieq (y := nI 0) (p1) ?_
        refine x_if_ne (tgt := 227) hE dL_goes_179 (by decide) (fun c179 => absurd c179 (by decide)) (fun c179 => ?_)
        refine x_aload_n hE dL_goes_182 rfl rfl ?_
        refine x_iload hE dL_goes_183 rfl ?_
        refine x_iconst (v := nI 2) hE dL_goes_185 (by decide) ?_
        refine k_ask (st := []) hE 2 (Q_playing G hh2.bw hf2 (c := cu) (w := 2) hcS (by decide)) hh2.bw gL_goes_X7_playing rfl rfl rfl (by decide +kernel) ⟨(Nat.le_of_ble_eq_true rfl), (Nat.le_of_ble_eq_true rfl)⟩ rfl rfl dL_goes_186 rfl (Nat.le_of_ble_eq_true rfl) ⟨by show 0 + (s_n (begP cu S) - s_n S + 1) ≤ s_n (gW S cu) - s_n S + 1; (rw [egw]; omega), by show 0 + (3 * (s_n (begP cu S) - s_n S) + 6) ≤ 3 * (s_n (gW S cu) - s_n S) + 6; (rw [egw]; omega)⟩ ?_
        refine x_ieq (y := nI (s_t S)) (p2) ?_
        refine x_aload_n hE dL_goes_189 rfl rfl ?_
        refine x_iconst (v := nI 3) hE dL_goes_190 (by decide) ?_
        refine x_iald (v := nI (s_t S)) hE (hh2.at hca) (vp_in_nI (by omega) (by decide)) (by rw [nI_clamp (by omega)]; exact hcc.2.2.2.1) dL_goes_191 ?_
        refine x_icmp_ne (tgt := 227) hE dL_goes_192 (by decide) (fun c192 => absurd rfl c192) (fun c192 => ?_)
        refine x_aload_n hE dL_goes_195 rfl rfl ?_
        refine x_iload hE dL_goes_196 rfl ?_
        refine x_iconst (v := nI 3) hE dL_goes_198 (by decide) ?_
        refine k_ask (st := []) hE 2 (Q_playing G hh2.bw hf2 (c := cu) (w := 3) hcS (by decide)) hh2.bw gL_goes_X7_playing rfl rfl rfl (by decide +kernel) ⟨(Nat.le_of_ble_eq_true rfl), (Nat.le_of_ble_eq_true rfl)⟩ rfl rfl dL_goes_199 rfl (Nat.le_of_ble_eq_true rfl) ⟨by show 0 + (s_n (begP cu S) - s_n S + 1) ≤ s_n (gW S cu) - s_n S + 1; (rw [egw]; omega), by show 0 + (3 * (s_n (begP cu S) - s_n S) + 6) ≤ 3 * (s_n (gW S cu) - s_n S) + 6; (rw [egw]; omega)⟩ ?_
        refine x_ieq (y := nI (masP (s_ar S) (s_t S) (cu, s_t S, 0)).toNat) (p3) ?_
        obtain ⟨⟨u, hu, eu⟩, _⟩ := hI.1.2.2.2.2.1 cu hcS
        have hmn := mas_new (t := s_t S) hu eu
        refine x_aload hE dL_goes_202 rfl rfl ?_
        refine x_iconst (v := nI 3) hE dL_goes_204 (by decide) ?_
        refine x_iload hE dL_goes_205 rfl ?_
        refine x_imul hE dL_goes_207 ?_
        refine x_ieq (y := nI (3 * cu)) (pk_mul _ _) ?_
        refine x_iconst (v := nI 1) hE dL_goes_208 (by decide) ?_
        refine x_iadd hE dL_goes_209 ?_
        refine x_ieq (y := nI (3 * cu + 1)) (nI_add _ _) ?_
        refine x_iald (v := nI u) hE (hh2.at hta) (vp_in_nI (by omega) (by decide)) (by rw [nI_clamp (by omega)]; exact ((htt cu hcu6).2.1.trans eu)) dL_goes_210 ?_
        refine x_if_ne (tgt := 219) hE dL_goes_211 (by decide) (fun c211 => ?_) (fun c211 => ?_)
        · rw [if_neg (fun z => c211 (by rw [z]; rfl))] at hmn
          refine x_iconst (v := nI 0) hE dL_goes_219 (by decide) ?_
          refine x_icmp_ne (tgt := 227) hE dL_goes_220 (by decide) (fun c220 => absurd (by rw [hmn]) c220) (fun c220 => ?_)
          refine x_iconst (v := nI 1) hE dL_goes_223 (by decide) ?_
          refine x_goto (tgt := 228) hE dL_goes_224 (by decide) ?_
          refine x_widen (k := s_n (gW S cu) - s_n S + 1) (n := 3 * (s_n (gW S cu) - s_n S) + 6) (by (rw [egw]; omega)) (by (rw [egw]; omega)) ?_
          exact x_zret hE (Or.inr rfl) dL_goes_228 (⟨rfl, by rw [egw]; exact hh2⟩)
        · rw [if_pos (x_nIinj (a := u) (b := 0) c211 (by omega) (by decide))] at hmn
          refine x_ldc (v := (1065353216)) hE (List.mem_of_getElem? (i := 2) rfl) dL_goes_214 ?_
          refine x_goto (tgt := 220) hE dL_goes_216 (by decide) ?_
          refine x_icmp_ne (tgt := 227) hE dL_goes_220 (by decide) (fun c220 => absurd (by rw [hmn]; rfl) c220) (fun c220 => ?_)
          refine x_iconst (v := nI 1) hE dL_goes_223 (by decide) ?_
          refine x_goto (tgt := 228) hE dL_goes_224 (by decide) ?_
          refine x_widen (k := s_n (gW S cu) - s_n S + 1) (n := 3 * (s_n (gW S cu) - s_n S) + 6) (by (rw [egw]; omega)) (by (rw [egw]; omega)) ?_
          exact x_zret hE (Or.inr rfl) dL_goes_228 (⟨rfl, by rw [egw]; exact hh2⟩)
      · have egw := gW_n hcan
        refine w_callH (st := []) hE hT 4 (A_go_n G hh hbI hcS hcan) gL_goes_L_asks rfl rfl rfl (by decide +kernel) ⟨(Nat.le_of_ble_eq_true rfl), (Nat.le_of_ble_eq_true rfl)⟩ rfl rfl dL_goes_131 rfl (Nat.le_of_ble_eq_true rfl) ⟨by show 0 + (1) ≤ s_n (gW S cu) - s_n S + 1; (rw [egw]; omega), by show 0 + (6) ≤ 3 * (s_n (gW S cu) - s_n S) + 6; (rw [egw]; omega)⟩ (fun v h2 hp => ?_)
        obtain ⟨rfl, hh2⟩ := hp
        refine x_istore (L' := [some (.ref xa), some (.int (nI x)), some (.int (nI y)), some (.ref ca), some (.ref ma), some (.ref la), some (.ref pa), some (.ref ta), some (.int (nI cu)), some (.int (b2i (mayB S cu 3))), some (.int (nI (acN S cu 6))), some (.int (-70008 : Int32)), none]) hE dL_goes_134 (Nat.le_of_ble_eq_true rfl) rfl ?_
        refine x_iload hE dL_goes_136 rfl ?_
        refine x_if_ne (tgt := 154) hE dL_goes_138 (by decide) (fun c138 => absurd (mayB_3.symm.trans (b2i_n0.mp c138)) hcan) (fun c138 => ?_)
        refine x_iload hE dL_goes_141 rfl ?_
        refine x_ldc (v := (-70008)) hE (List.mem_of_getElem? (i := 1) rfl) dL_goes_143 ?_
        refine x_icmp_ne (tgt := 152) hE dL_goes_145 (by decide) (fun c145 => absurd rfl c145) (fun c145 => ?_)
        refine x_iconst (v := nI 1) hE dL_goes_148 (by decide) ?_
        refine x_goto (tgt := 153) hE dL_goes_149 (by decide) ?_
        refine x_widen (k := s_n (gW S cu) - s_n S + 1) (n := 3 * (s_n (gW S cu) - s_n S) + 6) (by (rw [egw]; omega)) (by (rw [egw]; omega)) ?_
        exact x_zret hE (Or.inr rfl) dL_goes_153 (⟨rfl, by rw [egw]; exact hh2⟩)
    · replace c94 := x_nInle c94 (by omega) (by omega)
      refine x_iload hE dL_goes_97 rfl ?_
      refine x_iload hE dL_goes_99 rfl ?_
      refine x_iload hE dL_goes_101 rfl ?_
      refine x_icmp_ne (tgt := 110) hE dL_goes_103 (by decide) (fun c103 => ?_) (fun c103 => ?_)
      · have hne : j ≠ cu := fun z => c103 (by rw [z])
        refine x_aload_n hE dL_goes_110 rfl rfl ?_
        refine x_iload hE dL_goes_111 rfl ?_
        refine x_iconst (v := nI 0) hE dL_goes_113 (by decide) ?_
        refine k_ask (st := [.int (nI (acN S cu j))]) hE 2 (Q_playing G hh.bw hf0 (c := j) (w := 0) (by omega) (by decide)) hh.bw gL_goes_X7_playing rfl rfl rfl (by decide +kernel) ⟨(Nat.le_of_ble_eq_true rfl), (Nat.le_of_ble_eq_true rfl)⟩ rfl rfl dL_goes_114 rfl (Nat.le_of_ble_eq_true rfl) ⟨by show 0 ≤ s_n (gW S cu) - s_n S + 1; omega, by show 0 ≤ 3 * (s_n (gW S cu) - s_n S) + 6; omega⟩ ?_
        rcases goF_act (c := j) f4 with ⟨_, hno⟩ | ⟨g, hg1, hg2, _, hso⟩
        · refine x_ieq (y := nI 0) ((play_none hno).1) ?_
          refine x_iadd hE dL_goes_117 ?_
          refine x_ieq (y := nI (acN S cu (j + 1))) (by rw [nI_add, acN_n hne (goF_none_iff hno), Nat.add_zero]) ?_
          refine x_istore (L' := [some (.ref xa), some (.int (nI x)), some (.int (nI y)), some (.ref ca), some (.ref ma), some (.ref la), some (.ref pa), some (.ref ta), some (.int (nI cu)), some (.int (b2i (mayB S cu 3))), some (.int (nI (acN S cu (j + 1)))), some (.int (nI j)), none]) hE dL_goes_118 (Nat.le_of_ble_eq_true rfl) rfl ?_
          refine x_iinc (v := nI (j + 1)) (L' := [some (.ref xa), some (.int (nI x)), some (.int (nI y)), some (.ref ca), some (.ref ma), some (.ref la), some (.ref pa), some (.ref ta), some (.int (nI cu)), some (.int (b2i (mayB S cu 3))), some (.int (nI (acN S cu (j + 1)))), some (.int (nI (j + 1))), none]) hE dL_goes_120 rfl (nI_1 _) rfl ?_
          refine x_goto (tgt := 89) hE dL_goes_123 (by decide) ?_
          exact ih2 (j + 1) (by omega) (by omega)
        · refine x_ieq (y := nI 1) ((play_some hso).1) ?_
          refine x_iadd hE dL_goes_117 ?_
          refine x_ieq (y := nI (acN S cu (j + 1))) (by rw [nI_add, acN_y hne hg1 hg2]) ?_
          refine x_istore (L' := [some (.ref xa), some (.int (nI x)), some (.int (nI y)), some (.ref ca), some (.ref ma), some (.ref la), some (.ref pa), some (.ref ta), some (.int (nI cu)), some (.int (b2i (mayB S cu 3))), some (.int (nI (acN S cu (j + 1)))), some (.int (nI j)), none]) hE dL_goes_118 (Nat.le_of_ble_eq_true rfl) rfl ?_
          refine x_iinc (v := nI (j + 1)) (L' := [some (.ref xa), some (.int (nI x)), some (.int (nI y)), some (.ref ca), some (.ref ma), some (.ref la), some (.ref pa), some (.ref ta), some (.int (nI cu)), some (.int (b2i (mayB S cu 3))), some (.int (nI (acN S cu (j + 1)))), some (.int (nI (j + 1))), none]) hE dL_goes_120 rfl (nI_1 _) rfl ?_
          refine x_goto (tgt := 89) hE dL_goes_123 (by decide) ?_
          exact ih2 (j + 1) (by omega) (by omega)
      · replace c103 := x_nIinj c103 (by omega) (by omega)
        subst c103
        refine x_iconst (v := nI 1) hE dL_goes_106 (by decide) ?_
        refine x_goto (tgt := 117) hE dL_goes_107 (by decide) ?_
        refine x_iadd hE dL_goes_117 ?_
        refine x_ieq (y := nI (acN S j (j + 1))) (by rw [nI_add, acN_c]) ?_
        refine x_istore (L' := [some (.ref xa), some (.int (nI x)), some (.int (nI y)), some (.ref ca), some (.ref ma), some (.ref la), some (.ref pa), some (.ref ta), some (.int (nI j)), some (.int (b2i (mayB S j 3))), some (.int (nI (acN S j (j + 1)))), some (.int (nI j)), none]) hE dL_goes_118 (Nat.le_of_ble_eq_true rfl) rfl ?_
        refine x_iinc (v := nI (j + 1)) (L' := [some (.ref xa), some (.int (nI x)), some (.int (nI y)), some (.ref ca), some (.ref ma), some (.ref la), some (.ref pa), some (.ref ta), some (.int (nI j)), some (.int (b2i (mayB S j 3))), some (.int (nI (acN S j (j + 1)))), some (.int (nI (j + 1))), none]) hE dL_goes_120 rfl (nI_1 _) rfl ?_
        refine x_goto (tgt := 89) hE dL_goes_123 (by decide) ?_
        exact ih2 (j + 1) (by omega) (by omega)
  · replace c19 := x_nInle c19 (by omega) (by omega)
    refine x_aload_n hE dL_goes_22 rfl rfl ?_
    refine x_iload hE dL_goes_23 rfl ?_
    refine x_iload hE dL_goes_25 rfl ?_
    refine k_ask (st := []) hE 2 (Q_asks G hh.bw g4 (c := cu) (p := k) hcS (by omega)) hh.bw gL_goes_X7_asks rfl rfl rfl (by decide +kernel) ⟨(Nat.le_of_ble_eq_true rfl), (Nat.le_of_ble_eq_true rfl)⟩ rfl rfl dL_goes_27 rfl (Nat.le_of_ble_eq_true rfl) ⟨by show 0 ≤ s_n (gW S cu) - s_n S + 1; omega, by show 0 ≤ 3 * (s_n (gW S cu) - s_n S) + 6; omega⟩ ?_
    refine x_istore (L' := [some (.ref xa), some (.int (nI x)), some (.int (nI y)), some (.ref ca), some (.ref ma), some (.ref la), some (.ref pa), some (.ref ta), some (.int (nI cu)), some (.int (b2i (mayB S cu k))), some (.int (nI (acN S cu 0))), some (.int (nI k)), some (.int (askP (s_ar S) (s_L S) (s_B S) (s_G S) cu (nI k)))]) hE dL_goes_30 (Nat.le_of_ble_eq_true rfl) rfl ?_
    refine x_iload hE dL_goes_32 rfl ?_
    refine x_if_eq (tgt := 51) hE dL_goes_34 (by decide) (fun c34 => ?_) (fun c34 => ?_)
    · refine x_iconst (v := nI 0) hE dL_goes_51 (by decide) ?_
      refine x_ieq (y := b2i (mayB S cu (k + 1))) ((b2i_f (mayB_n1 (b2i_0.mp c34))).symm) ?_
      refine x_istore (L' := [some (.ref xa), some (.int (nI x)), some (.int (nI y)), some (.ref ca), some (.ref ma), some (.ref la), some (.ref pa), some (.ref ta), some (.int (nI cu)), some (.int (b2i (mayB S cu (k + 1)))), some (.int (nI (acN S cu 0))), some (.int (nI k)), some (.int (askP (s_ar S) (s_L S) (s_B S) (s_G S) cu (nI k)))]) hE dL_goes_52 (Nat.le_of_ble_eq_true rfl) rfl ?_
      refine x_iload_n hE dL_goes_54 rfl ?_
      refine x_iconst (v := nI 3) hE dL_goes_55 (by decide) ?_
      refine x_irem hE dL_goes_56 (by decide) ?_
      refine x_if_ne (tgt := 80) hE dL_goes_57 (by decide) (fun c57 => ?_) (fun c57 => ?_)
      · refine x_iinc (v := nI (k + 1)) (L' := [some (.ref xa), some (.int (nI x)), some (.int (nI y)), some (.ref ca), some (.ref ma), some (.ref la), some (.ref pa), some (.ref ta), some (.int (nI cu)), some (.int (b2i (mayB S cu (k + 1)))), some (.int (nI (acN S cu 0))), some (.int (nI (k + 1))), some (.int (askP (s_ar S) (s_L S) (s_B S) (s_G S) cu (nI k)))]) hE dL_goes_80 rfl (nI_1 _) rfl ?_
        refine x_goto (tgt := 16) hE dL_goes_83 (by decide) ?_
        refine x_forget (L' := [some (.ref xa), some (.int (nI x)), some (.int (nI y)), some (.ref ca), some (.ref ma), some (.ref la), some (.ref pa), some (.ref ta), some (.int (nI cu)), some (.int (b2i (mayB S cu (k + 1)))), some (.int (nI (acN S cu 0))), some (.int (nI (k + 1))), none]) (And.intro rfl (And.intro rfl (And.intro rfl (And.intro rfl (And.intro rfl (And.intro rfl (And.intro rfl (And.intro rfl (And.intro rfl (And.intro rfl (And.intro rfl (And.intro rfl trivial)))))))))))) ?_
        exact ih (k + 1) (by omega) (by omega)
      · refine x_iload hE dL_goes_60 rfl ?_
        refine x_aload_n hE dL_goes_62 rfl rfl ?_
        refine x_iload hE dL_goes_63 rfl ?_
        refine x_iload hE dL_goes_65 rfl ?_
        refine x_aload_n hE dL_goes_67 rfl rfl ?_
        refine x_aload hE dL_goes_68 rfl rfl ?_
        refine x_aload hE dL_goes_70 rfl rfl ?_
        refine k_st (st := [.int (askP (s_ar S) (s_L S) (s_B S) (s_G S) cu (nI k))]) hE 6 (D_due G hh.bw hS0 hf0 (hh.at hca) hcc (hh.at hma) hmm (hh.at hla) hll (c := cu) (p := k) hcu6 (by omega)) gL_goes_L_due rfl rfl rfl (by decide +kernel) ⟨(Nat.le_of_ble_eq_true rfl), (Nat.le_of_ble_eq_true rfl)⟩ rfl rfl dL_goes_72 rfl (Nat.le_of_ble_eq_true rfl) ⟨by show 0 ≤ s_n (gW S cu) - s_n S + 1; omega, by show 0 ≤ 3 * (s_n (gW S cu) - s_n S) + 6; omega⟩ ?_
        refine x_icmp_eq (tgt := 80) hE dL_goes_75 (by decide) (fun c75 => ?_) (fun c75 => absurd rfl c75)
        refine x_iinc (v := nI (k + 1)) (L' := [some (.ref xa), some (.int (nI x)), some (.int (nI y)), some (.ref ca), some (.ref ma), some (.ref la), some (.ref pa), some (.ref ta), some (.int (nI cu)), some (.int (b2i (mayB S cu (k + 1)))), some (.int (nI (acN S cu 0))), some (.int (nI (k + 1))), some (.int (askP (s_ar S) (s_L S) (s_B S) (s_G S) cu (nI k)))]) hE dL_goes_80 rfl (nI_1 _) rfl ?_
        refine x_goto (tgt := 16) hE dL_goes_83 (by decide) ?_
        refine x_forget (L' := [some (.ref xa), some (.int (nI x)), some (.int (nI y)), some (.ref ca), some (.ref ma), some (.ref la), some (.ref pa), some (.ref ta), some (.int (nI cu)), some (.int (b2i (mayB S cu (k + 1)))), some (.int (nI (acN S cu 0))), some (.int (nI (k + 1))), none]) (And.intro rfl (And.intro rfl (And.intro rfl (And.intro rfl (And.intro rfl (And.intro rfl (And.intro rfl (And.intro rfl (And.intro rfl (And.intro rfl (And.intro rfl (And.intro rfl trivial)))))))))))) ?_
        exact ih (k + 1) (by omega) (by omega)
    · refine x_iload hE dL_goes_37 rfl ?_
      refine x_aload hE dL_goes_39 rfl rfl ?_
      refine x_iload hE dL_goes_41 rfl ?_
      refine x_iald (v := s_ar S 9 k) hE (hh.at hpa) (vp_in_nI (by omega) (by decide)) (by rw [nI_clamp (by omega)]; exact hpp k (by omega)) dL_goes_43 ?_
      refine x_icmp_gt (tgt := 51) hE dL_goes_44 (by decide) (fun c44 => ?_) (fun c44 => ?_)
      · refine x_iconst (v := nI 0) hE dL_goes_51 (by decide) ?_
        refine x_ieq (y := b2i (mayB S cu (k + 1))) ((b2i_f (mayB_n2 (fun z => by rw [Int32.le_iff_toInt_le] at z; rw [Int32.lt_iff_toInt_lt] at c44; omega))).symm) ?_
        refine x_istore (L' := [some (.ref xa), some (.int (nI x)), some (.int (nI y)), some (.ref ca), some (.ref ma), some (.ref la), some (.ref pa), some (.ref ta), some (.int (nI cu)), some (.int (b2i (mayB S cu (k + 1)))), some (.int (nI (acN S cu 0))), some (.int (nI k)), some (.int (askP (s_ar S) (s_L S) (s_B S) (s_G S) cu (nI k)))]) hE dL_goes_52 (Nat.le_of_ble_eq_true rfl) rfl ?_
        refine x_iload_n hE dL_goes_54 rfl ?_
        refine x_iconst (v := nI 3) hE dL_goes_55 (by decide) ?_
        refine x_irem hE dL_goes_56 (by decide) ?_
        refine x_if_ne (tgt := 80) hE dL_goes_57 (by decide) (fun c57 => ?_) (fun c57 => ?_)
        · refine x_iinc (v := nI (k + 1)) (L' := [some (.ref xa), some (.int (nI x)), some (.int (nI y)), some (.ref ca), some (.ref ma), some (.ref la), some (.ref pa), some (.ref ta), some (.int (nI cu)), some (.int (b2i (mayB S cu (k + 1)))), some (.int (nI (acN S cu 0))), some (.int (nI (k + 1))), some (.int (askP (s_ar S) (s_L S) (s_B S) (s_G S) cu (nI k)))]) hE dL_goes_80 rfl (nI_1 _) rfl ?_
          refine x_goto (tgt := 16) hE dL_goes_83 (by decide) ?_
          refine x_forget (L' := [some (.ref xa), some (.int (nI x)), some (.int (nI y)), some (.ref ca), some (.ref ma), some (.ref la), some (.ref pa), some (.ref ta), some (.int (nI cu)), some (.int (b2i (mayB S cu (k + 1)))), some (.int (nI (acN S cu 0))), some (.int (nI (k + 1))), none]) (And.intro rfl (And.intro rfl (And.intro rfl (And.intro rfl (And.intro rfl (And.intro rfl (And.intro rfl (And.intro rfl (And.intro rfl (And.intro rfl (And.intro rfl (And.intro rfl trivial)))))))))))) ?_
          exact ih (k + 1) (by omega) (by omega)
        · refine x_iload hE dL_goes_60 rfl ?_
          refine x_aload_n hE dL_goes_62 rfl rfl ?_
          refine x_iload hE dL_goes_63 rfl ?_
          refine x_iload hE dL_goes_65 rfl ?_
          refine x_aload_n hE dL_goes_67 rfl rfl ?_
          refine x_aload hE dL_goes_68 rfl rfl ?_
          refine x_aload hE dL_goes_70 rfl rfl ?_
          refine k_st (st := [.int (askP (s_ar S) (s_L S) (s_B S) (s_G S) cu (nI k))]) hE 6 (D_due G hh.bw hS0 hf0 (hh.at hca) hcc (hh.at hma) hmm (hh.at hla) hll (c := cu) (p := k) hcu6 (by omega)) gL_goes_L_due rfl rfl rfl (by decide +kernel) ⟨(Nat.le_of_ble_eq_true rfl), (Nat.le_of_ble_eq_true rfl)⟩ rfl rfl dL_goes_72 rfl (Nat.le_of_ble_eq_true rfl) ⟨by show 0 ≤ s_n (gW S cu) - s_n S + 1; omega, by show 0 ≤ 3 * (s_n (gW S cu) - s_n S) + 6; omega⟩ ?_
          refine x_icmp_eq (tgt := 80) hE dL_goes_75 (by decide) (fun c75 => ?_) (fun c75 => absurd rfl c75)
          refine x_iinc (v := nI (k + 1)) (L' := [some (.ref xa), some (.int (nI x)), some (.int (nI y)), some (.ref ca), some (.ref ma), some (.ref la), some (.ref pa), some (.ref ta), some (.int (nI cu)), some (.int (b2i (mayB S cu (k + 1)))), some (.int (nI (acN S cu 0))), some (.int (nI (k + 1))), some (.int (askP (s_ar S) (s_L S) (s_B S) (s_G S) cu (nI k)))]) hE dL_goes_80 rfl (nI_1 _) rfl ?_
          refine x_goto (tgt := 16) hE dL_goes_83 (by decide) ?_
          refine x_forget (L' := [some (.ref xa), some (.int (nI x)), some (.int (nI y)), some (.ref ca), some (.ref ma), some (.ref la), some (.ref pa), some (.ref ta), some (.int (nI cu)), some (.int (b2i (mayB S cu (k + 1)))), some (.int (nI (acN S cu 0))), some (.int (nI (k + 1))), none]) (And.intro rfl (And.intro rfl (And.intro rfl (And.intro rfl (And.intro rfl (And.intro rfl (And.intro rfl (And.intro rfl (And.intro rfl (And.intro rfl (And.intro rfl (And.intro rfl trivial)))))))))))) ?_
          exact ih (k + 1) (by omega) (by omega)
      · refine x_iconst (v := nI 1) hE dL_goes_47 (by decide) ?_
        refine x_goto (tgt := 52) hE dL_goes_48 (by decide) ?_
        refine x_ieq (y := b2i (mayB S cu (k + 1))) ((b2i_t (mayB_y (b2i_n0.mp c34) (by rw [Int32.le_iff_toInt_le]; rw [Int32.lt_iff_toInt_lt] at c44; omega))).symm) ?_
        refine x_istore (L' := [some (.ref xa), some (.int (nI x)), some (.int (nI y)), some (.ref ca), some (.ref ma), some (.ref la), some (.ref pa), some (.ref ta), some (.int (nI cu)), some (.int (b2i (mayB S cu (k + 1)))), some (.int (nI (acN S cu 0))), some (.int (nI k)), some (.int (askP (s_ar S) (s_L S) (s_B S) (s_G S) cu (nI k)))]) hE dL_goes_52 (Nat.le_of_ble_eq_true rfl) rfl ?_
        refine x_iload_n hE dL_goes_54 rfl ?_
        refine x_iconst (v := nI 3) hE dL_goes_55 (by decide) ?_
        refine x_irem hE dL_goes_56 (by decide) ?_
        refine x_if_ne (tgt := 80) hE dL_goes_57 (by decide) (fun c57 => ?_) (fun c57 => ?_)
        · refine x_iinc (v := nI (k + 1)) (L' := [some (.ref xa), some (.int (nI x)), some (.int (nI y)), some (.ref ca), some (.ref ma), some (.ref la), some (.ref pa), some (.ref ta), some (.int (nI cu)), some (.int (b2i (mayB S cu (k + 1)))), some (.int (nI (acN S cu 0))), some (.int (nI (k + 1))), some (.int (askP (s_ar S) (s_L S) (s_B S) (s_G S) cu (nI k)))]) hE dL_goes_80 rfl (nI_1 _) rfl ?_
          refine x_goto (tgt := 16) hE dL_goes_83 (by decide) ?_
          refine x_forget (L' := [some (.ref xa), some (.int (nI x)), some (.int (nI y)), some (.ref ca), some (.ref ma), some (.ref la), some (.ref pa), some (.ref ta), some (.int (nI cu)), some (.int (b2i (mayB S cu (k + 1)))), some (.int (nI (acN S cu 0))), some (.int (nI (k + 1))), none]) (And.intro rfl (And.intro rfl (And.intro rfl (And.intro rfl (And.intro rfl (And.intro rfl (And.intro rfl (And.intro rfl (And.intro rfl (And.intro rfl (And.intro rfl (And.intro rfl trivial)))))))))))) ?_
          exact ih (k + 1) (by omega) (by omega)
        · refine x_iload hE dL_goes_60 rfl ?_
          refine x_aload_n hE dL_goes_62 rfl rfl ?_
          refine x_iload hE dL_goes_63 rfl ?_
          refine x_iload hE dL_goes_65 rfl ?_
          refine x_aload_n hE dL_goes_67 rfl rfl ?_
          refine x_aload hE dL_goes_68 rfl rfl ?_
          refine x_aload hE dL_goes_70 rfl rfl ?_
          refine k_st (st := [.int (askP (s_ar S) (s_L S) (s_B S) (s_G S) cu (nI k))]) hE 6 (D_due G hh.bw hS0 hf0 (hh.at hca) hcc (hh.at hma) hmm (hh.at hla) hll (c := cu) (p := k) hcu6 (by omega)) gL_goes_L_due rfl rfl rfl (by decide +kernel) ⟨(Nat.le_of_ble_eq_true rfl), (Nat.le_of_ble_eq_true rfl)⟩ rfl rfl dL_goes_72 rfl (Nat.le_of_ble_eq_true rfl) ⟨by show 0 ≤ s_n (gW S cu) - s_n S + 1; omega, by show 0 ≤ 3 * (s_n (gW S cu) - s_n S) + 6; omega⟩ ?_
          refine x_icmp_eq (tgt := 80) hE dL_goes_75 (by decide) (fun c75 => ?_) (fun c75 => absurd rfl c75)
          refine x_iinc (v := nI (k + 1)) (L' := [some (.ref xa), some (.int (nI x)), some (.int (nI y)), some (.ref ca), some (.ref ma), some (.ref la), some (.ref pa), some (.ref ta), some (.int (nI cu)), some (.int (b2i (mayB S cu (k + 1)))), some (.int (nI (acN S cu 0))), some (.int (nI (k + 1))), some (.int (askP (s_ar S) (s_L S) (s_B S) (s_G S) cu (nI k)))]) hE dL_goes_80 rfl (nI_1 _) rfl ?_
          refine x_goto (tgt := 16) hE dL_goes_83 (by decide) ?_
          refine x_forget (L' := [some (.ref xa), some (.int (nI x)), some (.int (nI y)), some (.ref ca), some (.ref ma), some (.ref la), some (.ref pa), some (.ref ta), some (.int (nI cu)), some (.int (b2i (mayB S cu (k + 1)))), some (.int (nI (acN S cu 0))), some (.int (nI (k + 1))), none]) (And.intro rfl (And.intro rfl (And.intro rfl (And.intro rfl (And.intro rfl (And.intro rfl (And.intro rfl (And.intro rfl (And.intro rfl (And.intro rfl (And.intro rfl (And.intro rfl trivial)))))))))))) ?_
          exact ih (k + 1) (by omega) (by omega)
