set_option maxHeartbeats 4000000 in
set_option maxRecDepth 100000 in
theorem c_L_others (G : XG) {xa : Nat} {S : PS} {hA h : HM} (hh : lH G xa S hA h) (hS : lS S) {kk : Nat} (hI : iI S kk) (hk : kk ≤ 511) {ca : Nat} {cf : Nat → Int32} (hca : hA ca = some (rowI G 5 cf)) (hcc : lRc S cf) {ma : Nat} {mf : Nat → Int32} (hma : hA ma = some (rowI G 60 mf)) (hmm : lRm S mf) {la : Nat} {lf : Nat → Int32} (hla : hA la = some (rowI G 60 lf)) (hll : lRl S lf) {pa : Nat} {pf : Nat → Int32} (hpa : hA pa = some (rowI G 3 pf)) (hpp : lRp S pf) {ta : Nat} {tf : Nat → Int32} (hta : hA ta = some (rowI G 18 tf)) (htt : lRt S tf) (hml : ma ≠ la) {x y : Nat} (hx : x < 2 ^ 31) (hy : y < 2 ^ 31) : w_M G (x_TF G) yL_others wsL_others ({ frames := 7, cells := 1, slots := 6, locals := 137 } : Room) [.ref xa, .int (nI x), .int (nI y), .ref ca, .ref ma, .ref la, .ref pa, .ref ta] h (fun v h' => v = some (.int (nI 1)) ∧ ∃ (S' : PS) (hA' : HM), lH G xa S' hA' h' ∧ lwA G ca ma la pa ta S' hA' ∧ lS S' ∧ iI S' (kk + 1) ∧ s_b S' = s_b S ∧ s_n S' = s_n S) 1 6 := by
  refine w_M.of (cc := cL_others) (maxL := 11) (ret := (some .boolean)) (ent := [some (.ref xa), some (.int (nI x)), some (.int (nI y)), some (.ref ca), some (.ref ma), some (.ref la), some (.ref pa), some (.ref ta), none, none, none]) (by decide +kernel) rfl (Nat.le_of_ble_eq_true rfl) rfl rfl ?_
  intro F hE hname hT
  have hS0 := hS
  obtain ⟨hL10, hC6, hV⟩ := hS
  have hcc0 := hcc
  obtain ⟨wt, hw, ew⟩ : ∃ wt, wt < 6 ∧ x % 6 = wt := ⟨_, Nat.mod_lt _ (by decide), rfl⟩
  refine x_iload_n hE dL_others_0 rfl ?_
  refine x_bipush (v := nI 6) hE dL_others_1 (by decide) ?_
  refine x_irem hE dL_others_3 (by decide) ?_
  refine x_ieq (y := nI wt) (by rw [pk_rem (by omega) (by decide) (by decide), ew]) ?_
  refine x_istore (L' := [some (.ref xa), some (.int (nI x)), some (.int (nI y)), some (.ref ca), some (.ref ma), some (.ref la), some (.ref pa), some (.ref ta), some (.int (nI wt)), none, none]) hE dL_others_4 (Nat.le_of_ble_eq_true rfl) rfl ?_
  rcases (show wt = 0 ∨ wt = 1 ∨ wt = 2 ∨ wt = 3 ∨ 4 ≤ wt by omega) with rfl | rfl | rfl | rfl | hw4
  · refine x_iload hE dL_others_6 rfl ?_
    refine x_if_ne (tgt := 74) hE dL_others_8 (by decide) (fun c8 => absurd c8 (by decide)) (fun c8 => ?_)
    refine x_iload_n hE dL_others_11 rfl ?_
    refine x_aload_n hE dL_others_12 rfl rfl ?_
    refine x_iconst (v := nI 0) hE dL_others_13 (by decide) ?_
    refine x_iald (v := nI 10) hE (hh.at hca) (vp_in_nI (by omega) (by decide)) (by rw [nI_clamp (by omega)]; exact hcc.1) dL_others_14 ?_
    obtain ⟨j, hj, ej⟩ : ∃ j, j < 10 ∧ y % 10 = j := ⟨_, Nat.mod_lt _ (by decide), rfl⟩
    refine x_irem hE dL_others_15 (by decide) ?_
    refine x_ieq (y := nI j) (by rw [pk_rem (by omega) (by decide) (by decide), ej]) ?_
    refine x_istore (L' := [some (.ref xa), some (.int (nI x)), some (.int (nI y)), some (.ref ca), some (.ref ma), some (.ref la), some (.ref pa), some (.ref ta), some (.int (nI 0)), some (.int (nI j)), none]) hE dL_others_16 (Nat.le_of_ble_eq_true rfl) rfl ?_
    obtain ⟨d1, d2, d3, d4⟩ := die_rows hj hmm hV
    refine x_aload hE dL_others_18 rfl rfl ?_
    refine x_bipush (v := nI 6) hE dL_others_20 (by decide) ?_
    refine x_iload hE dL_others_22 rfl ?_
    refine x_imul hE dL_others_24 ?_
    refine x_ieq (y := nI (6 * j)) (pk_mul _ _) ?_
    refine x_iconst (v := nI 5) hE dL_others_25 (by decide) ?_
    refine x_iadd hE dL_others_26 ?_
    refine x_ieq (y := nI (6 * j + 5)) (nI_add _ _) ?_
    refine x_iconst (v := nI 1) hE dL_others_27 (by decide) ?_
    refine x_aload hE dL_others_28 rfl rfl ?_
    refine x_bipush (v := nI 6) hE dL_others_30 (by decide) ?_
    refine x_iload hE dL_others_32 rfl ?_
    refine x_imul hE dL_others_34 ?_
    refine x_ieq (y := nI (6 * j)) (pk_mul _ _) ?_
    refine x_iconst (v := nI 5) hE dL_others_35 (by decide) ?_
    refine x_iadd hE dL_others_36 ?_
    refine x_ieq (y := nI (6 * j + 5)) (nI_add _ _) ?_
    refine x_iald (v := s_ar S 7 j) hE (hh.at hma) (vp_in_nI (by omega) (by decide)) (by rw [nI_clamp (by omega)]; exact (hmm j hj).2.2.2.2.2) dL_others_37 ?_
    refine x_isub hE dL_others_38 ?_
    refine x_iast (f' := (upd mf (6 * j + 5) (nI 1 - s_ar S 7 j))) hE (hh.at hma) (vp_in_nI (by omega) (by decide)) (x_updN _ (by omega) _) dL_others_39 ?_
    have hh2 := hh.up hma (rowI G 60 (upd mf (6 * j + 5) (nI 1 - s_ar S 7 j)))
    obtain ⟨hA2, ehA2⟩ : ∃ z, x_up hA ma (rowI G 60 (upd mf (6 * j + 5) (nI 1 - s_ar S 7 j))) = z := ⟨_, rfl⟩
    have hma2 : hA2 ma = some (rowI G 60 (upd mf (6 * j + 5) (nI 1 - s_ar S 7 j))) := by rw [← ehA2]; exact x_up_eq _ _ _
    have hca2 : hA2 ca = some (rowI G 5 cf) := by rw [← ehA2]; exact (x_up_ne (row_ne hca hma (by decide))).trans hca
    have hla2 : hA2 la = some (rowI G 60 lf) := by rw [← ehA2]; exact (x_up_ne (Ne.symm hml)).trans hla
    have hpa2 : hA2 pa = some (rowI G 3 pf) := by rw [← ehA2]; exact (x_up_ne (row_ne hpa hma (by decide))).trans hpa
    have hta2 : hA2 ta = some (rowI G 18 tf) := by rw [← ehA2]; exact (x_up_ne (row_ne hta hma (by decide))).trans hta
    rw [ehA2] at hh2
    generalize x_up h ma (rowI G 60 (upd mf (6 * j + 5) (nI 1 - s_ar S 7 j))) = h2 at hh2 ⊢
    refine x_aload_n hE dL_others_40 rfl rfl ?_
    refine x_iload hE dL_others_41 rfl ?_
    refine k_call (st := []) hE hT 1 (m_die G (i := j) (by omega)) hh2 gL_others_X7_die rfl rfl rfl (by decide +kernel) ⟨(Nat.le_of_ble_eq_true rfl), (Nat.le_of_ble_eq_true rfl)⟩ rfl rfl dL_others_43 rfl (Nat.le_of_ble_eq_true rfl) ⟨by show 0 + (1) ≤ 1; omega, by show 0 + (6) ≤ 6; omega⟩ (fun h3 hh3 => ?_) (fun E hE9 => hE9.elim)
    refine x_ieq (y := nI 1 - s_ar S 7 j) (d3) ?_
    refine x_aload hE dL_others_46 rfl rfl ?_
    refine x_bipush (v := nI 6) hE dL_others_48 (by decide) ?_
    refine x_iload hE dL_others_50 rfl ?_
    refine x_imul hE dL_others_52 ?_
    refine x_ieq (y := nI (6 * j)) (pk_mul _ _) ?_
    refine x_iconst (v := nI 5) hE dL_others_53 (by decide) ?_
    refine x_iadd hE dL_others_54 ?_
    refine x_ieq (y := nI (6 * j + 5)) (nI_add _ _) ?_
    refine x_iald (v := nI 1 - s_ar S 7 j) hE (hh3.at hma2) (vp_in_nI (by omega) (by decide)) (by rw [nI_clamp (by omega)]; exact (upd_at _ _ _)) dL_others_55 ?_
    have hI2 : iI (dieP j S) (kk + 1) := by
      have z := iI_die (i := nI j) hI (by unfold fLamp; rw [if_pos (isN_y (by omega) (by omega))])
      rw [nI_clamp (by omega)] at z
      exact z
    rcases d4 with d4 | d4
    · refine x_ieq (y := nI 1) d4.2 ?_
      have dw := d4.2
      refine x_iconst (v := nI 1) hE dL_others_56 (by decide) ?_
      refine x_icmp_ne (tgt := 64) hE dL_others_57 (by decide) (fun c57 => absurd rfl c57) (fun c57 => ?_)
      refine x_iconst (v := nI 1) hE dL_others_60 (by decide) ?_
      refine x_goto (tgt := 65) hE dL_others_61 (by decide) ?_
      refine x_icmp_ne (tgt := 72) hE dL_others_65 (by decide) (fun c65 => absurd d4.2 c65) (fun c65 => ?_)
      refine x_iconst (v := nI 1) hE dL_others_68 (by decide) ?_
      refine x_goto (tgt := 73) hE dL_others_69 (by decide) ?_
      refine x_widen (k := 1) (n := 6) (by omega) (by omega) ?_
      exact x_zret hE (Or.inr rfl) dL_others_73 (⟨rfl, dieP j S, hA2, hh3, ⟨_, _, _, _, _, ⟨hca2, hcc.of rfl rfl rfl⟩, ⟨hma2, d1⟩, ⟨hla2, hll.of (die_ar (by decide))⟩, ⟨hpa2, hpp.of (die_ar (by decide))⟩, hta2, htt.of (die_no (by decide))⟩, ⟨hL10, hC6, d2⟩, hI2, rfl, rfl⟩)
    · refine x_ieq (y := nI 0) d4.2 ?_
      have dw := d4.2
      refine x_iconst (v := nI 1) hE dL_others_56 (by decide) ?_
      refine x_icmp_ne (tgt := 64) hE dL_others_57 (by decide) (fun c57 => ?_) (fun c57 => absurd c57 n0_1)
      refine x_iconst (v := nI 0) hE dL_others_64 (by decide) ?_
      refine x_icmp_ne (tgt := 72) hE dL_others_65 (by decide) (fun c65 => absurd d4.2 c65) (fun c65 => ?_)
      refine x_iconst (v := nI 1) hE dL_others_68 (by decide) ?_
      refine x_goto (tgt := 73) hE dL_others_69 (by decide) ?_
      refine x_widen (k := 1) (n := 6) (by omega) (by omega) ?_
      exact x_zret hE (Or.inr rfl) dL_others_73 (⟨rfl, dieP j S, hA2, hh3, ⟨_, _, _, _, _, ⟨hca2, hcc.of rfl rfl rfl⟩, ⟨hma2, d1⟩, ⟨hla2, hll.of (die_ar (by decide))⟩, ⟨hpa2, hpp.of (die_ar (by decide))⟩, hta2, htt.of (die_no (by decide))⟩, ⟨hL10, hC6, d2⟩, hI2, rfl, rfl⟩)
  · refine x_iload hE dL_others_6 rfl ?_
    refine x_if_ne (tgt := 74) hE dL_others_8 (by decide) (fun c8 => ?_) (fun c8 => absurd c8 (by decide))
    refine x_iload hE dL_others_74 rfl ?_
    refine x_iconst (v := nI 1) hE dL_others_76 (by decide) ?_
    refine x_icmp_ne (tgt := 159) hE dL_others_77 (by decide) (fun c77 => absurd rfl c77) (fun c77 => ?_)
    refine x_aload_n hE dL_others_80 rfl rfl ?_
    refine x_iconst (v := nI 2) hE dL_others_81 (by decide) ?_
    refine x_iload_n hE dL_others_82 rfl ?_
    refine x_iconst (v := nI 4) hE dL_others_83 (by decide) ?_
    refine x_irem hE dL_others_84 (by decide) ?_
    refine x_ieq (y := nI (y % 4)) (pk_rem (by omega) (by decide) (by decide)) ?_
    refine x_if_ne (tgt := 93) hE dL_others_85 (by decide) (fun c85 => ?_) (fun c85 => ?_)
    · obtain ⟨B, hB15, eB⟩ : ∃ B, B ≤ 15 ∧ y / 4 % 16 = B := ⟨_, by omega, rfl⟩
      refine x_iload_n hE dL_others_93 rfl ?_
      refine x_iconst (v := nI 4) hE dL_others_94 (by decide) ?_
      refine x_idiv hE dL_others_95 (by decide) ?_
      refine x_ieq (y := nI (y / 4)) (pk_div (by omega) (by decide) (by decide)) ?_
      refine x_bipush (v := nI 16) hE dL_others_96 (by decide) ?_
      refine x_irem hE dL_others_98 (by decide) ?_
      refine x_ieq (y := nI B) (by rw [pk_rem (by omega) (by decide) (by decide), eB]) ?_
      refine x_iast (f' := (upd cf 2 (nI B))) hE (hh.at hca) (vp_in_nI (by omega) (by decide)) (x_updN _ (by omega) _) dL_others_99 ?_
      have hh2 := hh.up hca (rowI G 5 (upd cf 2 (nI B)))
      obtain ⟨hA2, ehA2⟩ : ∃ z, x_up hA ca (rowI G 5 (upd cf 2 (nI B))) = z := ⟨_, rfl⟩
      have hca2 : hA2 ca = some (rowI G 5 (upd cf 2 (nI B))) := by rw [← ehA2]; exact x_up_eq _ _ _
      have hma2 : hA2 ma = some (rowI G 60 mf) := by rw [← ehA2]; exact (x_up_ne (row_ne hma hca (by decide))).trans hma
      have hla2 : hA2 la = some (rowI G 60 lf) := by rw [← ehA2]; exact (x_up_ne (row_ne hla hca (by decide))).trans hla
      have hpa2 : hA2 pa = some (rowI G 3 pf) := by rw [← ehA2]; exact (x_up_ne (row_ne hpa hca (by decide))).trans hpa
      have hta2 : hA2 ta = some (rowI G 18 tf) := by rw [← ehA2]; exact (x_up_ne (row_ne hta hca (by decide))).trans hta
      rw [ehA2] at hh2
      generalize x_up h ca (rowI G 5 (upd cf 2 (nI B))) = h2 at hh2 ⊢
      have hb2 : upd cf 2 (nI B) 2 = nI B := upd_at _ _ _
      refine x_iconst (v := nI 0) hE dL_others_100 (by decide) ?_
      refine x_ieq (y := nI (cnt_ (usL (s_L S) (s_ar S) (nI B)) 0)) (rfl) ?_
      refine x_istore (L' := [some (.ref xa), some (.int (nI x)), some (.int (nI y)), some (.ref ca), some (.ref ma), some (.ref la), some (.ref pa), some (.ref ta), some (.int (nI 1)), some (.int (nI (cnt_ (usL (s_L S) (s_ar S) (nI B)) 0))), none]) hE dL_others_101 (Nat.le_of_ble_eq_true rfl) rfl ?_
      refine x_iconst (v := nI 0) hE dL_others_103 (by decide) ?_
      refine x_istore (L' := [some (.ref xa), some (.int (nI x)), some (.int (nI y)), some (.ref ca), some (.ref ma), some (.ref la), some (.ref pa), some (.ref ta), some (.int (nI 1)), some (.int (nI (cnt_ (usL (s_L S) (s_ar S) (nI B)) 0))), some (.int (nI 0))]) hE dL_others_104 (Nat.le_of_ble_eq_true rfl) rfl ?_
      refine x_down (N := 10) (P := fun i => x_W G F (x_Q G F (fun v h' => v = some (.int (nI 1)) ∧ ∃ (S' : PS) (hA' : HM), lH G xa S' hA' h' ∧ lwA G ca ma la pa ta S' hA' ∧ lS S' ∧ iI S' (kk + 1) ∧ s_b S' = s_b S ∧ s_n S' = s_n S) 1 6) 0 0 h2 106 [some (.ref xa), some (.int (nI x)), some (.int (nI y)), some (.ref ca), some (.ref ma), some (.ref la), some (.ref pa), some (.ref ta), some (.int (nI 1)), some (.int (nI (cnt_ (usL (s_L S) (s_ar S) (nI B)) i))), some (.int (nI i))] []) (fun i hiN ih => ?_) 0 (by omega)
      refine x_iload hE dL_others_106 rfl ?_
      refine x_aload_n hE dL_others_108 rfl rfl ?_
      refine x_iconst (v := nI 0) hE dL_others_109 (by decide) ?_
      refine x_iald (v := nI 10) hE (hh2.at hca2) (vp_in_nI (by omega) (by decide)) (by rw [nI_clamp (by omega)]; exact (by rw [upd_ne (by decide)]; exact hcc.1)) dL_others_110 ?_
      refine x_icmp_ge (tgt := 141) hE dL_others_111 (by decide) (fun c111 => ?_) (fun c111 => ?_)
      · replace c111 := x_nIle c111 (by omega) (by omega)
        obtain rfl : i = 10 := by omega
        refine x_aload_n hE dL_others_141 rfl rfl ?_
        refine x_aload_n hE dL_others_142 rfl rfl ?_
        refine x_iconst (v := nI 2) hE dL_others_143 (by decide) ?_
        refine x_iald (v := nI B) hE (hh2.at hca2) (vp_in_nI (by omega) (by decide)) (by rw [nI_clamp (by omega)]; exact (upd_at _ _ _)) dL_others_144 ?_
        refine k_call (st := []) hE hT 1 (m_house G (x := B) hB15) hh2 gL_others_X7_house rfl rfl rfl (by decide +kernel) ⟨(Nat.le_of_ble_eq_true rfl), (Nat.le_of_ble_eq_true rfl)⟩ rfl rfl dL_others_145 rfl (Nat.le_of_ble_eq_true rfl) ⟨by show 0 + (1) ≤ 1; omega, by show 0 + (6) ≤ 6; omega⟩ (fun h3 hh3 => ?_) (fun E hE9 => hE9.elim)
        refine x_iload hE dL_others_148 rfl ?_
        refine x_icmp_ne (tgt := 157) hE dL_others_150 (by decide) (fun c150 => absurd (by rw [cnt_top (fun k hk => by unfold usL; rw [decide_eq_false (show ¬ k < s_L S by omega)]; rfl)]) c150) (fun c150 => ?_)
        refine x_iconst (v := nI 1) hE dL_others_153 (by decide) ?_
        refine x_goto (tgt := 158) hE dL_others_154 (by decide) ?_
        have hI2 : iI (houseP (nI B) S) (kk + 1) := iI_house hI
        refine x_widen (k := 1) (n := 6) (by omega) (by omega) ?_
        exact x_zret hE (Or.inr rfl) dL_others_158 (⟨rfl, houseP (nI B) S, hA2, hh3, ⟨_, _, _, _, _, ⟨hca2, ⟨by rw [upd_ne (by decide)]; exact hcc.1, by rw [upd_ne (by decide)]; exact hcc.2.1, upd_at _ _ _, by rw [upd_ne (by decide)]; exact hcc.2.2.2.1, by rw [upd_ne (by decide)]; exact hcc.2.2.2.2⟩⟩, ⟨hma2, hmm⟩, ⟨hla2, hll⟩, ⟨hpa2, hpp⟩, hta2, htt⟩, ⟨hL10, hC6, hV⟩, hI2, rfl, rfl⟩)
      · replace c111 := x_nInle c111 (by omega) (by omega)
        refine x_iload hE dL_others_114 rfl ?_
        refine x_aload_n hE dL_others_116 rfl rfl ?_
        refine x_aload hE dL_others_117 rfl rfl ?_
        refine x_iload hE dL_others_119 rfl ?_
        refine k_st (st := [.int (nI (cnt_ (usL (s_L S) (s_ar S) (nI B)) i))]) hE 3 (c_L_isUsable G (hh2.at hca2) (hh2.at hma2) (k := i) (by omega)) gL_others_L_isUsable rfl rfl rfl (by decide +kernel) ⟨(Nat.le_of_ble_eq_true rfl), (Nat.le_of_ble_eq_true rfl)⟩ rfl rfl dL_others_121 rfl (Nat.le_of_ble_eq_true rfl) ⟨by show 0 ≤ 1; omega, by show 0 ≤ 6; omega⟩ ?_
        refine x_ieq (y := b2i (usV (nI B) (s_ar S 2 i) (s_ar S 7 i))) (by rw [hb2, (hmm i (by omega)).1, (hmm i (by omega)).2.2.2.2.2]) ?_
        refine x_if_eq (tgt := 131) hE dL_others_124 (by decide) (fun c124 => ?_) (fun c124 => ?_)
        · have eU : usL (s_L S) (s_ar S) (nI B) i = false := by unfold usL; rw [decide_eq_true (show i < s_L S by omega)]; exact b2i_0.mp c124
          refine x_iconst (v := nI 0) hE dL_others_131 (by decide) ?_
          refine x_iadd hE dL_others_132 ?_
          refine x_ieq (y := nI (cnt_ (usL (s_L S) (s_ar S) (nI B)) (i + 1))) (by rw [nI_add]; show _ = nI (cnt_ _ i + (if usL (s_L S) (s_ar S) (nI B) i = true then 1 else 0)); rw [eU]; rfl) ?_
          refine x_istore (L' := [some (.ref xa), some (.int (nI x)), some (.int (nI y)), some (.ref ca), some (.ref ma), some (.ref la), some (.ref pa), some (.ref ta), some (.int (nI 1)), some (.int (nI (cnt_ (usL (s_L S) (s_ar S) (nI B)) (i + 1)))), some (.int (nI i))]) hE dL_others_133 (Nat.le_of_ble_eq_true rfl) rfl ?_
          refine x_iinc (v := nI (i + 1)) (L' := [some (.ref xa), some (.int (nI x)), some (.int (nI y)), some (.ref ca), some (.ref ma), some (.ref la), some (.ref pa), some (.ref ta), some (.int (nI 1)), some (.int (nI (cnt_ (usL (s_L S) (s_ar S) (nI B)) (i + 1)))), some (.int (nI (i + 1)))]) hE dL_others_135 rfl (nI_1 _) rfl ?_
          refine x_goto (tgt := 106) hE dL_others_138 (by decide) ?_
          exact ih (i + 1) (by omega) (by omega)
        · have eU : usL (s_L S) (s_ar S) (nI B) i = true := by unfold usL; rw [decide_eq_true (show i < s_L S by omega)]; exact b2i_n0.mp c124
          refine x_iconst (v := nI 1) hE dL_others_127 (by decide) ?_
          refine x_goto (tgt := 132) hE dL_others_128 (by decide) ?_
          refine x_iadd hE dL_others_132 ?_
          refine x_ieq (y := nI (cnt_ (usL (s_L S) (s_ar S) (nI B)) (i + 1))) (by rw [nI_add]; show _ = nI (cnt_ _ i + (if usL (s_L S) (s_ar S) (nI B) i = true then 1 else 0)); rw [eU]; rfl) ?_
          refine x_istore (L' := [some (.ref xa), some (.int (nI x)), some (.int (nI y)), some (.ref ca), some (.ref ma), some (.ref la), some (.ref pa), some (.ref ta), some (.int (nI 1)), some (.int (nI (cnt_ (usL (s_L S) (s_ar S) (nI B)) (i + 1)))), some (.int (nI i))]) hE dL_others_133 (Nat.le_of_ble_eq_true rfl) rfl ?_
          refine x_iinc (v := nI (i + 1)) (L' := [some (.ref xa), some (.int (nI x)), some (.int (nI y)), some (.ref ca), some (.ref ma), some (.ref la), some (.ref pa), some (.ref ta), some (.int (nI 1)), some (.int (nI (cnt_ (usL (s_L S) (s_ar S) (nI B)) (i + 1)))), some (.int (nI (i + 1)))]) hE dL_others_135 rfl (nI_1 _) rfl ?_
          refine x_goto (tgt := 106) hE dL_others_138 (by decide) ?_
          exact ih (i + 1) (by omega) (by omega)
    · obtain ⟨B, hB15, eB⟩ : ∃ B, B ≤ 15 ∧ 15 = B := ⟨_, by decide, rfl⟩
      refine x_bipush (v := nI 15) hE dL_others_88 (by decide) ?_
      refine x_goto (tgt := 99) hE dL_others_90 (by decide) ?_
      refine x_ieq (y := nI B) (by rw [← eB]) ?_
      refine x_iast (f' := (upd cf 2 (nI B))) hE (hh.at hca) (vp_in_nI (by omega) (by decide)) (x_updN _ (by omega) _) dL_others_99 ?_
      have hh2 := hh.up hca (rowI G 5 (upd cf 2 (nI B)))
      obtain ⟨hA2, ehA2⟩ : ∃ z, x_up hA ca (rowI G 5 (upd cf 2 (nI B))) = z := ⟨_, rfl⟩
      have hca2 : hA2 ca = some (rowI G 5 (upd cf 2 (nI B))) := by rw [← ehA2]; exact x_up_eq _ _ _
      have hma2 : hA2 ma = some (rowI G 60 mf) := by rw [← ehA2]; exact (x_up_ne (row_ne hma hca (by decide))).trans hma
      have hla2 : hA2 la = some (rowI G 60 lf) := by rw [← ehA2]; exact (x_up_ne (row_ne hla hca (by decide))).trans hla
      have hpa2 : hA2 pa = some (rowI G 3 pf) := by rw [← ehA2]; exact (x_up_ne (row_ne hpa hca (by decide))).trans hpa
      have hta2 : hA2 ta = some (rowI G 18 tf) := by rw [← ehA2]; exact (x_up_ne (row_ne hta hca (by decide))).trans hta
      rw [ehA2] at hh2
      generalize x_up h ca (rowI G 5 (upd cf 2 (nI B))) = h2 at hh2 ⊢
      have hb2 : upd cf 2 (nI B) 2 = nI B := upd_at _ _ _
      refine x_iconst (v := nI 0) hE dL_others_100 (by decide) ?_
      refine x_ieq (y := nI (cnt_ (usL (s_L S) (s_ar S) (nI B)) 0)) (rfl) ?_
      refine x_istore (L' := [some (.ref xa), some (.int (nI x)), some (.int (nI y)), some (.ref ca), some (.ref ma), some (.ref la), some (.ref pa), some (.ref ta), some (.int (nI 1)), some (.int (nI (cnt_ (usL (s_L S) (s_ar S) (nI B)) 0))), none]) hE dL_others_101 (Nat.le_of_ble_eq_true rfl) rfl ?_
      refine x_iconst (v := nI 0) hE dL_others_103 (by decide) ?_
      refine x_istore (L' := [some (.ref xa), some (.int (nI x)), some (.int (nI y)), some (.ref ca), some (.ref ma), some (.ref la), some (.ref pa), some (.ref ta), some (.int (nI 1)), some (.int (nI (cnt_ (usL (s_L S) (s_ar S) (nI B)) 0))), some (.int (nI 0))]) hE dL_others_104 (Nat.le_of_ble_eq_true rfl) rfl ?_
      refine x_down (N := 10) (P := fun i => x_W G F (x_Q G F (fun v h' => v = some (.int (nI 1)) ∧ ∃ (S' : PS) (hA' : HM), lH G xa S' hA' h' ∧ lwA G ca ma la pa ta S' hA' ∧ lS S' ∧ iI S' (kk + 1) ∧ s_b S' = s_b S ∧ s_n S' = s_n S) 1 6) 0 0 h2 106 [some (.ref xa), some (.int (nI x)), some (.int (nI y)), some (.ref ca), some (.ref ma), some (.ref la), some (.ref pa), some (.ref ta), some (.int (nI 1)), some (.int (nI (cnt_ (usL (s_L S) (s_ar S) (nI B)) i))), some (.int (nI i))] []) (fun i hiN ih => ?_) 0 (by omega)
      refine x_iload hE dL_others_106 rfl ?_
      refine x_aload_n hE dL_others_108 rfl rfl ?_
      refine x_iconst (v := nI 0) hE dL_others_109 (by decide) ?_
      refine x_iald (v := nI 10) hE (hh2.at hca2) (vp_in_nI (by omega) (by decide)) (by rw [nI_clamp (by omega)]; exact (by rw [upd_ne (by decide)]; exact hcc.1)) dL_others_110 ?_
      refine x_icmp_ge (tgt := 141) hE dL_others_111 (by decide) (fun c111 => ?_) (fun c111 => ?_)
      · replace c111 := x_nIle c111 (by omega) (by omega)
        obtain rfl : i = 10 := by omega
        refine x_aload_n hE dL_others_141 rfl rfl ?_
        refine x_aload_n hE dL_others_142 rfl rfl ?_
        refine x_iconst (v := nI 2) hE dL_others_143 (by decide) ?_
        refine x_iald (v := nI B) hE (hh2.at hca2) (vp_in_nI (by omega) (by decide)) (by rw [nI_clamp (by omega)]; exact (upd_at _ _ _)) dL_others_144 ?_
        refine k_call (st := []) hE hT 1 (m_house G (x := B) hB15) hh2 gL_others_X7_house rfl rfl rfl (by decide +kernel) ⟨(Nat.le_of_ble_eq_true rfl), (Nat.le_of_ble_eq_true rfl)⟩ rfl rfl dL_others_145 rfl (Nat.le_of_ble_eq_true rfl) ⟨by show 0 + (1) ≤ 1; omega, by show 0 + (6) ≤ 6; omega⟩ (fun h3 hh3 => ?_) (fun E hE9 => hE9.elim)
        refine x_iload hE dL_others_148 rfl ?_
        refine x_icmp_ne (tgt := 157) hE dL_others_150 (by decide) (fun c150 => absurd (by rw [cnt_top (fun k hk => by unfold usL; rw [decide_eq_false (show ¬ k < s_L S by omega)]; rfl)]) c150) (fun c150 => ?_)
        refine x_iconst (v := nI 1) hE dL_others_153 (by decide) ?_
        refine x_goto (tgt := 158) hE dL_others_154 (by decide) ?_
        have hI2 : iI (houseP (nI B) S) (kk + 1) := iI_house hI
        refine x_widen (k := 1) (n := 6) (by omega) (by omega) ?_
        exact x_zret hE (Or.inr rfl) dL_others_158 (⟨rfl, houseP (nI B) S, hA2, hh3, ⟨_, _, _, _, _, ⟨hca2, ⟨by rw [upd_ne (by decide)]; exact hcc.1, by rw [upd_ne (by decide)]; exact hcc.2.1, upd_at _ _ _, by rw [upd_ne (by decide)]; exact hcc.2.2.2.1, by rw [upd_ne (by decide)]; exact hcc.2.2.2.2⟩⟩, ⟨hma2, hmm⟩, ⟨hla2, hll⟩, ⟨hpa2, hpp⟩, hta2, htt⟩, ⟨hL10, hC6, hV⟩, hI2, rfl, rfl⟩)
      · replace c111 := x_nInle c111 (by omega) (by omega)
        refine x_iload hE dL_others_114 rfl ?_
        refine x_aload_n hE dL_others_116 rfl rfl ?_
        refine x_aload hE dL_others_117 rfl rfl ?_
        refine x_iload hE dL_others_119 rfl ?_
        refine k_st (st := [.int (nI (cnt_ (usL (s_L S) (s_ar S) (nI B)) i))]) hE 3 (c_L_isUsable G (hh2.at hca2) (hh2.at hma2) (k := i) (by omega)) gL_others_L_isUsable rfl rfl rfl (by decide +kernel) ⟨(Nat.le_of_ble_eq_true rfl), (Nat.le_of_ble_eq_true rfl)⟩ rfl rfl dL_others_121 rfl (Nat.le_of_ble_eq_true rfl) ⟨by show 0 ≤ 1; omega, by show 0 ≤ 6; omega⟩ ?_
        refine x_ieq (y := b2i (usV (nI B) (s_ar S 2 i) (s_ar S 7 i))) (by rw [hb2, (hmm i (by omega)).1, (hmm i (by omega)).2.2.2.2.2]) ?_
        refine x_if_eq (tgt := 131) hE dL_others_124 (by decide) (fun c124 => ?_) (fun c124 => ?_)
        · have eU : usL (s_L S) (s_ar S) (nI B) i = false := by unfold usL; rw [decide_eq_true (show i < s_L S by omega)]; exact b2i_0.mp c124
          refine x_iconst (v := nI 0) hE dL_others_131 (by decide) ?_
          refine x_iadd hE dL_others_132 ?_
          refine x_ieq (y := nI (cnt_ (usL (s_L S) (s_ar S) (nI B)) (i + 1))) (by rw [nI_add]; show _ = nI (cnt_ _ i + (if usL (s_L S) (s_ar S) (nI B) i = true then 1 else 0)); rw [eU]; rfl) ?_
          refine x_istore (L' := [some (.ref xa), some (.int (nI x)), some (.int (nI y)), some (.ref ca), some (.ref ma), some (.ref la), some (.ref pa), some (.ref ta), some (.int (nI 1)), some (.int (nI (cnt_ (usL (s_L S) (s_ar S) (nI B)) (i + 1)))), some (.int (nI i))]) hE dL_others_133 (Nat.le_of_ble_eq_true rfl) rfl ?_
          refine x_iinc (v := nI (i + 1)) (L' := [some (.ref xa), some (.int (nI x)), some (.int (nI y)), some (.ref ca), some (.ref ma), some (.ref la), some (.ref pa), some (.ref ta), some (.int (nI 1)), some (.int (nI (cnt_ (usL (s_L S) (s_ar S) (nI B)) (i + 1)))), some (.int (nI (i + 1)))]) hE dL_others_135 rfl (nI_1 _) rfl ?_
          refine x_goto (tgt := 106) hE dL_others_138 (by decide) ?_
          exact ih (i + 1) (by omega) (by omega)
        · have eU : usL (s_L S) (s_ar S) (nI B) i = true := by unfold usL; rw [decide_eq_true (show i < s_L S by omega)]; exact b2i_n0.mp c124
          refine x_iconst (v := nI 1) hE dL_others_127 (by decide) ?_
          refine x_goto (tgt := 132) hE dL_others_128 (by decide) ?_
          refine x_iadd hE dL_others_132 ?_
          refine x_ieq (y := nI (cnt_ (usL (s_L S) (s_ar S) (nI B)) (i + 1))) (by rw [nI_add]; show _ = nI (cnt_ _ i + (if usL (s_L S) (s_ar S) (nI B) i = true then 1 else 0)); rw [eU]; rfl) ?_
          refine x_istore (L' := [some (.ref xa), some (.int (nI x)), some (.int (nI y)), some (.ref ca), some (.ref ma), some (.ref la), some (.ref pa), some (.ref ta), some (.int (nI 1)), some (.int (nI (cnt_ (usL (s_L S) (s_ar S) (nI B)) (i + 1)))), some (.int (nI i))]) hE dL_others_133 (Nat.le_of_ble_eq_true rfl) rfl ?_
          refine x_iinc (v := nI (i + 1)) (L' := [some (.ref xa), some (.int (nI x)), some (.int (nI y)), some (.ref ca), some (.ref ma), some (.ref la), some (.ref pa), some (.ref ta), some (.int (nI 1)), some (.int (nI (cnt_ (usL (s_L S) (s_ar S) (nI B)) (i + 1)))), some (.int (nI (i + 1)))]) hE dL_others_135 rfl (nI_1 _) rfl ?_
          refine x_goto (tgt := 106) hE dL_others_138 (by decide) ?_
          exact ih (i + 1) (by omega) (by omega)
  · refine x_iload hE dL_others_6 rfl ?_
    refine x_if_ne (tgt := 74) hE dL_others_8 (by decide) (fun c8 => ?_) (fun c8 => absurd c8 (by decide))
    refine x_iload hE dL_others_74 rfl ?_
    refine x_iconst (v := nI 1) hE dL_others_76 (by decide) ?_
    refine x_icmp_ne (tgt := 159) hE dL_others_77 (by decide) (fun c77 => ?_) (fun c77 => absurd c77 (by decide))
    refine x_iload hE dL_others_159 rfl ?_
    refine x_iconst (v := nI 2) hE dL_others_161 (by decide) ?_
    refine x_icmp_ne (tgt := 214) hE dL_others_162 (by decide) (fun c162 => absurd rfl c162) (fun c162 => ?_)
    obtain ⟨p, hp3, ep⟩ : ∃ p, p < 3 ∧ y % 3 = p := ⟨_, Nat.mod_lt _ (by decide), rfl⟩
    refine x_aload hE dL_others_165 rfl rfl ?_
    refine x_iload_n hE dL_others_167 rfl ?_
    refine x_iconst (v := nI 3) hE dL_others_168 (by decide) ?_
    refine x_irem hE dL_others_169 (by decide) ?_
    refine x_ieq (y := nI p) (by rw [pk_rem (by omega) (by decide) (by decide), ep]) ?_
    refine x_iald (v := s_ar S 9 p) hE (hh.at hpa) (vp_in_nI (by omega) (by decide)) (by rw [nI_clamp (by omega)]; exact hpp p hp3) dL_others_170 ?_
    refine x_istore (L' := [some (.ref xa), some (.int (nI x)), some (.int (nI y)), some (.ref ca), some (.ref ma), some (.ref la), some (.ref pa), some (.ref ta), some (.int (nI 2)), some (.int (s_ar S 9 p)), none]) hE dL_others_171 (Nat.le_of_ble_eq_true rfl) rfl ?_
    refine x_aload hE dL_others_173 rfl rfl ?_
    refine x_iload_n hE dL_others_175 rfl ?_
    refine x_iconst (v := nI 3) hE dL_others_176 (by decide) ?_
    refine x_irem hE dL_others_177 (by decide) ?_
    refine x_ieq (y := nI p) (by rw [pk_rem (by omega) (by decide) (by decide), ep]) ?_
    obtain ⟨X, hX, eX⟩ : ∃ X, X ≤ 20000 ∧ 200 + y / 3 % 5000 = X := ⟨_, by omega, rfl⟩
    refine x_sipush (v := nI 200) hE dL_others_178 (by decide) ?_
    refine x_iload_n hE dL_others_181 rfl ?_
    refine x_iconst (v := nI 3) hE dL_others_182 (by decide) ?_
    refine x_idiv hE dL_others_183 (by decide) ?_
    refine x_ieq (y := nI (y / 3)) (pk_div (by omega) (by decide) (by decide)) ?_
    refine x_sipush (v := nI 5000) hE dL_others_184 (by decide) ?_
    refine x_irem hE dL_others_187 (by decide) ?_
    refine x_ieq (y := nI (y / 3 % 5000)) (pk_rem (by omega) (by decide) (by decide)) ?_
    refine x_iadd hE dL_others_188 ?_
    refine x_ieq (y := nI X) (by rw [nI_add, eX]) ?_
    refine x_iast (f' := (upd pf p (nI X))) hE (hh.at hpa) (vp_in_nI (by omega) (by decide)) (x_updN _ (by omega) _) dL_others_189 ?_
    have hh2 := hh.up hpa (rowI G 3 (upd pf p (nI X)))
    obtain ⟨hA2, ehA2⟩ : ∃ z, x_up hA pa (rowI G 3 (upd pf p (nI X))) = z := ⟨_, rfl⟩
    have hpa2 : hA2 pa = some (rowI G 3 (upd pf p (nI X))) := by rw [← ehA2]; exact x_up_eq _ _ _
    have hca2 : hA2 ca = some (rowI G 5 cf) := by rw [← ehA2]; exact (x_up_ne (row_ne hca hpa (by decide))).trans hca
    have hma2 : hA2 ma = some (rowI G 60 mf) := by rw [← ehA2]; exact (x_up_ne (row_ne hma hpa (by decide))).trans hma
    have hla2 : hA2 la = some (rowI G 60 lf) := by rw [← ehA2]; exact (x_up_ne (row_ne hla hpa (by decide))).trans hla
    have hta2 : hA2 ta = some (rowI G 18 tf) := by rw [← ehA2]; exact (x_up_ne (row_ne hta hpa (by decide))).trans hta
    rw [ehA2] at hh2
    generalize x_up h pa (rowI G 3 (upd pf p (nI X))) = h2 at hh2 ⊢
    refine x_aload_n hE dL_others_190 rfl rfl ?_
    refine x_iload_n hE dL_others_191 rfl ?_
    refine x_iconst (v := nI 3) hE dL_others_192 (by decide) ?_
    refine x_irem hE dL_others_193 (by decide) ?_
    refine x_ieq (y := nI p) (by rw [pk_rem (by omega) (by decide) (by decide), ep]) ?_
    refine x_aload hE dL_others_194 rfl rfl ?_
    refine x_iload_n hE dL_others_196 rfl ?_
    refine x_iconst (v := nI 3) hE dL_others_197 (by decide) ?_
    refine x_irem hE dL_others_198 (by decide) ?_
    refine x_ieq (y := nI p) (by rw [pk_rem (by omega) (by decide) (by decide), ep]) ?_
    refine x_iald (v := nI X) hE (hh2.at hpa2) (vp_in_nI (by omega) (by decide)) (by rw [nI_clamp (by omega)]; exact (upd_at _ _ _)) dL_others_199 ?_
    refine k_call (st := []) hE hT 2 (m_power G (p := p) (x := X) (by omega) hX) hh2 gL_others_X7_power rfl rfl rfl (by decide +kernel) ⟨(Nat.le_of_ble_eq_true rfl), (Nat.le_of_ble_eq_true rfl)⟩ rfl rfl dL_others_200 rfl (Nat.le_of_ble_eq_true rfl) ⟨by show 0 + (1) ≤ 1; omega, by show 0 + (6) ≤ 6; omega⟩ (fun h3 hh3 => ?_) (fun E hE9 => hE9.elim)
    refine x_iload hE dL_others_203 rfl ?_
    refine x_icmp_ne (tgt := 212) hE dL_others_205 (by decide) (fun c205 => absurd rfl c205) (fun c205 => ?_)
    refine x_iconst (v := nI 1) hE dL_others_208 (by decide) ?_
    refine x_goto (tgt := 213) hE dL_others_209 (by decide) ?_
    have hI2 : iI (powerP (nI p) (nI X) S) (kk + 1) := iI_power hI
    refine x_widen (k := 1) (n := 6) (by omega) (by omega) ?_
    exact x_zret hE (Or.inr rfl) dL_others_213 (⟨rfl, powerP (nI p) (nI X) S, hA2, hh3, ⟨_, _, _, _, _, ⟨hca2, hcc.of rfl rfl rfl⟩, ⟨hma2, hmm.of (power_no (by decide))⟩, ⟨hla2, hll.of (power_ar (by decide))⟩, ⟨hpa2, power_rows hp3 hpp⟩, hta2, htt.of (power_no (by decide))⟩, ⟨hL10, hC6, hV.of (power_no (by decide))⟩, hI2, rfl, rfl⟩)
  · refine x_iload hE dL_others_6 rfl ?_
    refine x_if_ne (tgt := 74) hE dL_others_8 (by decide) (fun c8 => ?_) (fun c8 => absurd c8 (by decide))
    refine x_iload hE dL_others_74 rfl ?_
    refine x_iconst (v := nI 1) hE dL_others_76 (by decide) ?_
    refine x_icmp_ne (tgt := 159) hE dL_others_77 (by decide) (fun c77 => ?_) (fun c77 => absurd c77 (by decide))
    refine x_iload hE dL_others_159 rfl ?_
    refine x_iconst (v := nI 2) hE dL_others_161 (by decide) ?_
    refine x_icmp_ne (tgt := 214) hE dL_others_162 (by decide) (fun c162 => ?_) (fun c162 => absurd c162 (by decide))
    refine x_iload hE dL_others_214 rfl ?_
    refine x_iconst (v := nI 3) hE dL_others_216 (by decide) ?_
    refine x_icmp_ne (tgt := 273) hE dL_others_217 (by decide) (fun c217 => absurd rfl c217) (fun c217 => ?_)
    obtain ⟨q, hq7, eq⟩ : ∃ q, q < 7 ∧ y / 6 % 7 = q := ⟨_, Nat.mod_lt _ (by decide), rfl⟩
    obtain ⟨c, hc6, ec⟩ : ∃ c, c < 6 ∧ y % 6 = c := ⟨_, Nat.mod_lt _ (by decide), rfl⟩
    obtain ⟨T, hT12, eT⟩ : ∃ T, (1 ≤ T ∧ T ≤ 60) ∧ 1 + y / 42 % 12 = T := ⟨_, by omega, rfl⟩
    refine x_iload_n hE dL_others_220 rfl ?_
    refine x_bipush (v := nI 6) hE dL_others_221 (by decide) ?_
    refine x_idiv hE dL_others_223 (by decide) ?_
    refine x_ieq (y := nI (y / 6)) (pk_div (by omega) (by decide) (by decide)) ?_
    refine x_bipush (v := nI 7) hE dL_others_224 (by decide) ?_
    refine x_irem hE dL_others_226 (by decide) ?_
    refine x_ieq (y := nI q) (by rw [pk_rem (by omega) (by decide) (by decide), eq]) ?_
    refine x_iconst (v := nI 1) hE dL_others_227 (by decide) ?_
    refine x_isub hE dL_others_228 ?_
    rcases (show q = 0 ∨ 1 ≤ q by omega) with hq0 | hq1
    · refine x_ieq (y := (-1 : Int32)) (by rw [hq0]; decide) ?_
      refine x_istore (L' := [some (.ref xa), some (.int (nI x)), some (.int (nI y)), some (.ref ca), some (.ref ma), some (.ref la), some (.ref pa), some (.ref ta), some (.int (nI 3)), some (.int (-1 : Int32)), none]) hE dL_others_229 (Nat.le_of_ble_eq_true rfl) rfl ?_
      refine x_aload_n hE dL_others_231 rfl rfl ?_
      refine x_iload_n hE dL_others_232 rfl ?_
      refine x_aload_n hE dL_others_233 rfl rfl ?_
      refine x_iconst (v := nI 1) hE dL_others_234 (by decide) ?_
      refine x_iald (v := nI 6) hE (hh.at hca) (vp_in_nI (by omega) (by decide)) (by rw [nI_clamp (by omega)]; exact hcc.2.1) dL_others_235 ?_
      refine x_irem hE dL_others_236 (by decide) ?_
      refine x_ieq (y := nI c) (by rw [pk_rem (by omega) (by decide) (by decide), ec]) ?_
      refine x_iload hE dL_others_237 rfl ?_
      refine x_aload_n hE dL_others_239 rfl rfl ?_
      refine x_iconst (v := nI 1) hE dL_others_240 (by decide) ?_
      refine x_iald (v := nI 6) hE (hh.at hca) (vp_in_nI (by omega) (by decide)) (by rw [nI_clamp (by omega)]; exact hcc.2.1) dL_others_241 ?_
      refine x_icmp_lt (tgt := 249) hE dL_others_242 (by decide) (fun c242 => ?_) (fun c242 => absurd (by decide) c242)
      refine x_iload hE dL_others_249 rfl ?_
      refine x_iconst (v := nI 1) hE dL_others_251 (by decide) ?_
      refine x_iload_n hE dL_others_252 rfl ?_
      refine x_bipush (v := nI 42) hE dL_others_253 (by decide) ?_
      refine x_idiv hE dL_others_255 (by decide) ?_
      refine x_ieq (y := nI (y / 42)) (pk_div (by omega) (by decide) (by decide)) ?_
      refine x_bipush (v := nI 12) hE dL_others_256 (by decide) ?_
      refine x_irem hE dL_others_258 (by decide) ?_
      refine x_ieq (y := nI (y / 42 % 12)) (pk_rem (by omega) (by decide) (by decide)) ?_
      refine x_iadd hE dL_others_259 ?_
      refine x_ieq (y := nI T) (by rw [nI_add, eT]) ?_
      refine k_call (st := []) hE hT 3 (m_follow G (c := c) (t := T) (o := (-1 : Int32)) hI.1.2.2.1 (by omega) (Or.inr rfl) hT12.1 hT12.2) hh gL_others_X7_follow rfl rfl rfl (by decide +kernel) ⟨(Nat.le_of_ble_eq_true rfl), (Nat.le_of_ble_eq_true rfl)⟩ rfl rfl dL_others_260 rfl (Nat.le_of_ble_eq_true rfl) ⟨by show 0 + (1) ≤ 1; omega, by show 0 + (6) ≤ 6; omega⟩ (fun h3 hh3 => ?_) (fun E hE9 => hE9.elim)
      refine x_iconst (v := (-1 : Int32)) hE dL_others_263 (by decide) ?_
      refine x_icmp_lt (tgt := 271) hE dL_others_264 (by decide) (fun c264 => absurd c264 (by
        rcases hI.1.2.2.1 c (by omega) with z | ⟨j, d, z1, _, _, z, _⟩
        · rw [z]; decide
        · rw [z, Int32.lt_iff_toInt_lt, nI_toInt (by omega)]
          have e0 : (-1 : Int32).toInt = -1 := by decide
          omega)) (fun c264 => ?_)
      refine x_iconst (v := nI 1) hE dL_others_267 (by decide) ?_
      refine x_goto (tgt := 272) hE dL_others_268 (by decide) ?_
      have hI2 : iI (followP c ((-1 : Int32)) (nI T) S) (kk + 1) := by
        have z := iI_follow (c := nI c) (o := (-1 : Int32)) (t := nI T) hI (by unfold fFollow; rw [if_pos ⟨isN_y (by omega) (by omega), Or.inr rfl⟩, if_pos (inI_y hT12.1 hT12.2 (by decide))])
        rw [nI_clamp (by omega)] at z
        exact z
      refine x_widen (k := 1) (n := 6) (by omega) (by omega) ?_
      exact x_zret hE (Or.inr rfl) dL_others_272 (⟨rfl, followP c ((-1 : Int32)) (nI T) S, hA, hh3, ⟨_, _, _, _, _, ⟨hca, hcc.of rfl rfl rfl⟩, ⟨hma, hmm.of (follow_no (by decide) (by decide))⟩, ⟨hla, hll.of (follow_ar (by decide) (by decide))⟩, ⟨hpa, hpp.of (follow_ar (by decide) (by decide))⟩, hta, htt.of (follow_no (by decide) (by decide))⟩, ⟨hL10, hC6, hV.of (follow_no (by decide) (by decide))⟩, hI2, rfl, rfl⟩)
    · refine x_ieq (y := nI (q - 1)) (sub1 hq1) ?_
      refine x_istore (L' := [some (.ref xa), some (.int (nI x)), some (.int (nI y)), some (.ref ca), some (.ref ma), some (.ref la), some (.ref pa), some (.ref ta), some (.int (nI 3)), some (.int (nI (q - 1))), none]) hE dL_others_229 (Nat.le_of_ble_eq_true rfl) rfl ?_
      refine x_aload_n hE dL_others_231 rfl rfl ?_
      refine x_iload_n hE dL_others_232 rfl ?_
      refine x_aload_n hE dL_others_233 rfl rfl ?_
      refine x_iconst (v := nI 1) hE dL_others_234 (by decide) ?_
      refine x_iald (v := nI 6) hE (hh.at hca) (vp_in_nI (by omega) (by decide)) (by rw [nI_clamp (by omega)]; exact hcc.2.1) dL_others_235 ?_
      refine x_irem hE dL_others_236 (by decide) ?_
      refine x_ieq (y := nI c) (by rw [pk_rem (by omega) (by decide) (by decide), ec]) ?_
      refine x_iload hE dL_others_237 rfl ?_
      refine x_aload_n hE dL_others_239 rfl rfl ?_
      refine x_iconst (v := nI 1) hE dL_others_240 (by decide) ?_
      refine x_iald (v := nI 6) hE (hh.at hca) (vp_in_nI (by omega) (by decide)) (by rw [nI_clamp (by omega)]; exact hcc.2.1) dL_others_241 ?_
      refine x_icmp_lt (tgt := 249) hE dL_others_242 (by decide) (fun c242 => ?_) (fun c242 => absurd ((nI_ltI (by omega) (by decide)).mpr (by omega)) c242)
      refine x_iload hE dL_others_249 rfl ?_
      refine x_iconst (v := nI 1) hE dL_others_251 (by decide) ?_
      refine x_iload_n hE dL_others_252 rfl ?_
      refine x_bipush (v := nI 42) hE dL_others_253 (by decide) ?_
      refine x_idiv hE dL_others_255 (by decide) ?_
      refine x_ieq (y := nI (y / 42)) (pk_div (by omega) (by decide) (by decide)) ?_
      refine x_bipush (v := nI 12) hE dL_others_256 (by decide) ?_
      refine x_irem hE dL_others_258 (by decide) ?_
      refine x_ieq (y := nI (y / 42 % 12)) (pk_rem (by omega) (by decide) (by decide)) ?_
      refine x_iadd hE dL_others_259 ?_
      refine x_ieq (y := nI T) (by rw [nI_add, eT]) ?_
      refine k_call (st := []) hE hT 3 (m_follow G (c := c) (t := T) (o := nI (q - 1)) hI.1.2.2.1 (by omega) (Or.inl (isN_y (by omega) (by omega))) hT12.1 hT12.2) hh gL_others_X7_follow rfl rfl rfl (by decide +kernel) ⟨(Nat.le_of_ble_eq_true rfl), (Nat.le_of_ble_eq_true rfl)⟩ rfl rfl dL_others_260 rfl (Nat.le_of_ble_eq_true rfl) ⟨by show 0 + (1) ≤ 1; omega, by show 0 + (6) ≤ 6; omega⟩ (fun h3 hh3 => ?_) (fun E hE9 => hE9.elim)
      refine x_iconst (v := (-1 : Int32)) hE dL_others_263 (by decide) ?_
      refine x_icmp_lt (tgt := 271) hE dL_others_264 (by decide) (fun c264 => absurd c264 (by
        rcases hI.1.2.2.1 c (by omega) with z | ⟨j, d, z1, _, _, z, _⟩
        · rw [z]; decide
        · rw [z, Int32.lt_iff_toInt_lt, nI_toInt (by omega)]
          have e0 : (-1 : Int32).toInt = -1 := by decide
          omega)) (fun c264 => ?_)
      refine x_iconst (v := nI 1) hE dL_others_267 (by decide) ?_
      refine x_goto (tgt := 272) hE dL_others_268 (by decide) ?_
      have hI2 : iI (followP c (nI (q - 1)) (nI T) S) (kk + 1) := by
        have z := iI_follow (c := nI c) (o := nI (q - 1)) (t := nI T) hI (by unfold fFollow; rw [if_pos ⟨isN_y (by omega) (by omega), Or.inl (isN_y (by omega) (by omega))⟩, if_pos (inI_y hT12.1 hT12.2 (by decide))])
        rw [nI_clamp (by omega)] at z
        exact z
      refine x_widen (k := 1) (n := 6) (by omega) (by omega) ?_
      exact x_zret hE (Or.inr rfl) dL_others_272 (⟨rfl, followP c (nI (q - 1)) (nI T) S, hA, hh3, ⟨_, _, _, _, _, ⟨hca, hcc.of rfl rfl rfl⟩, ⟨hma, hmm.of (follow_no (by decide) (by decide))⟩, ⟨hla, hll.of (follow_ar (by decide) (by decide))⟩, ⟨hpa, hpp.of (follow_ar (by decide) (by decide))⟩, hta, htt.of (follow_no (by decide) (by decide))⟩, ⟨hL10, hC6, hV.of (follow_no (by decide) (by decide))⟩, hI2, rfl, rfl⟩)
  · refine x_iload hE dL_others_6 rfl ?_
    refine x_if_ne (tgt := 74) hE dL_others_8 (by decide) (fun c8 => ?_) (fun c8 => absurd (x_nIinj (a := wt) (b := 0) c8 (by omega) (by decide)) (by omega))
    refine x_iload hE dL_others_74 rfl ?_
    refine x_iconst (v := nI 1) hE dL_others_76 (by decide) ?_
    refine x_icmp_ne (tgt := 159) hE dL_others_77 (by decide) (fun c77 => ?_) (fun c77 => absurd (x_nIinj c77 (by omega) (by decide)) (by omega))
    refine x_iload hE dL_others_159 rfl ?_
    refine x_iconst (v := nI 2) hE dL_others_161 (by decide) ?_
    refine x_icmp_ne (tgt := 214) hE dL_others_162 (by decide) (fun c162 => ?_) (fun c162 => absurd (x_nIinj c162 (by omega) (by decide)) (by omega))
    refine x_iload hE dL_others_214 rfl ?_
    refine x_iconst (v := nI 3) hE dL_others_216 (by decide) ?_
    refine x_icmp_ne (tgt := 273) hE dL_others_217 (by decide) (fun c217 => ?_) (fun c217 => absurd (x_nIinj c217 (by omega) (by decide)) (by omega))
    obtain ⟨c, hc6, ec⟩ : ∃ c, c < 6 ∧ y % 6 = c := ⟨_, Nat.mod_lt _ (by decide), rfl⟩
    obtain ⟨i, hi10, ei⟩ : ∃ i, i < 10 ∧ y / 6 % 10 = i := ⟨_, Nat.mod_lt _ (by decide), rfl⟩
    refine x_bipush (v := nI 10) hE dL_others_273 (by decide) ?_
    refine x_iload_n hE dL_others_275 rfl ?_
    refine x_aload_n hE dL_others_276 rfl rfl ?_
    refine x_iconst (v := nI 1) hE dL_others_277 (by decide) ?_
    refine x_iald (v := nI 6) hE (hh.at hca) (vp_in_nI (by omega) (by decide)) (by rw [nI_clamp (by omega)]; exact hcc0.2.1) dL_others_278 ?_
    refine x_irem hE dL_others_279 (by decide) ?_
    refine x_ieq (y := nI c) (by rw [pk_rem (by omega) (by decide) (by decide), ec]) ?_
    refine x_imul hE dL_others_280 ?_
    refine x_ieq (y := nI (10 * c)) (pk_mul _ _) ?_
    refine x_iload_n hE dL_others_281 rfl ?_
    refine x_bipush (v := nI 6) hE dL_others_282 (by decide) ?_
    refine x_idiv hE dL_others_284 (by decide) ?_
    refine x_ieq (y := nI (y / 6)) (pk_div (by omega) (by decide) (by decide)) ?_
    refine x_aload_n hE dL_others_285 rfl rfl ?_
    refine x_iconst (v := nI 0) hE dL_others_286 (by decide) ?_
    refine x_iald (v := nI 10) hE (hh.at hca) (vp_in_nI (by omega) (by decide)) (by rw [nI_clamp (by omega)]; exact hcc0.1) dL_others_287 ?_
    refine x_irem hE dL_others_288 (by decide) ?_
    refine x_ieq (y := nI i) (by rw [pk_rem (by omega) (by decide) (by decide), ei]) ?_
    refine x_iadd hE dL_others_289 ?_
    refine x_ieq (y := nI (10 * c + i)) (nI_add _ _) ?_
    refine x_istore (L' := [some (.ref xa), some (.int (nI x)), some (.int (nI y)), some (.ref ca), some (.ref ma), some (.ref la), some (.ref pa), some (.ref ta), some (.int (nI wt)), some (.int (nI (10 * c + i))), none]) hE dL_others_290 (Nat.le_of_ble_eq_true rfl) rfl ?_
    refine x_aload hE dL_others_292 rfl rfl ?_
    refine x_iload hE dL_others_294 rfl ?_
    refine x_iald (v := s_ar S 14 (16 * c + i)) hE (hh.at hla) (vp_in_nI (by omega) (by decide)) (by rw [nI_clamp (by omega)]; exact hll c i hc6 hi10) dL_others_296 ?_
    refine x_istore (L' := [some (.ref xa), some (.int (nI x)), some (.int (nI y)), some (.ref ca), some (.ref ma), some (.ref la), some (.ref pa), some (.ref ta), some (.int (nI wt)), some (.int (nI (10 * c + i))), some (.int (s_ar S 14 (16 * c + i)))]) hE dL_others_297 (Nat.le_of_ble_eq_true rfl) rfl ?_
    refine x_aload hE dL_others_299 rfl rfl ?_
    refine x_iload hE dL_others_301 rfl ?_
    refine x_iload_n hE dL_others_303 rfl ?_
    refine x_bipush (v := nI 60) hE dL_others_304 (by decide) ?_
    refine x_idiv hE dL_others_306 (by decide) ?_
    refine x_ieq (y := nI (y / 60)) (pk_div (by omega) (by decide) (by decide)) ?_
    refine x_iconst (v := nI 3) hE dL_others_307 (by decide) ?_
    refine x_irem hE dL_others_308 (by decide) ?_
    refine x_ieq (y := nI (y / 60 % 3)) (pk_rem (by omega) (by decide) (by decide)) ?_
    refine x_if_ne (tgt := 316) hE dL_others_309 (by decide) (fun c309 => ?_) (fun c309 => ?_)
    · obtain ⟨v, hv, ev⟩ : ∃ v, v ≤ 100 ∧ 1 + y / 180 % 100 = v := ⟨_, by omega, rfl⟩
      refine x_iconst (v := nI 1) hE dL_others_316 (by decide) ?_
      refine x_iload_n hE dL_others_317 rfl ?_
      refine x_sipush (v := nI 180) hE dL_others_318 (by decide) ?_
      refine x_idiv hE dL_others_321 (by decide) ?_
      refine x_ieq (y := nI (y / 180)) (pk_div (by omega) (by decide) (by decide)) ?_
      refine x_bipush (v := nI 100) hE dL_others_322 (by decide) ?_
      refine x_irem hE dL_others_324 (by decide) ?_
      refine x_ieq (y := nI (y / 180 % 100)) (pk_rem (by omega) (by decide) (by decide)) ?_
      refine x_iadd hE dL_others_325 ?_
      refine x_ieq (y := nI v) (by rw [nI_add, ev]) ?_
      refine x_iast (f' := (upd lf (10 * c + i) (nI v))) hE (hh.at hla) (vp_in_nI (by omega) (by decide)) (x_updN _ (by omega) _) dL_others_326 ?_
      have hh2 := hh.up hla (rowI G 60 (upd lf (10 * c + i) (nI v)))
      obtain ⟨hA2, ehA2⟩ : ∃ z, x_up hA la (rowI G 60 (upd lf (10 * c + i) (nI v))) = z := ⟨_, rfl⟩
      have hla2 : hA2 la = some (rowI G 60 (upd lf (10 * c + i) (nI v))) := by rw [← ehA2]; exact x_up_eq _ _ _
      have hca2 : hA2 ca = some (rowI G 5 cf) := by rw [← ehA2]; exact (x_up_ne (row_ne hca hla (by decide))).trans hca
      have hma2 : hA2 ma = some (rowI G 60 mf) := by rw [← ehA2]; exact (x_up_ne hml).trans hma
      have hpa2 : hA2 pa = some (rowI G 3 pf) := by rw [← ehA2]; exact (x_up_ne (row_ne hpa hla (by decide))).trans hpa
      have hta2 : hA2 ta = some (rowI G 18 tf) := by rw [← ehA2]; exact (x_up_ne (row_ne hta hla (by decide))).trans hta
      rw [ehA2] at hh2
      generalize x_up h la (rowI G 60 (upd lf (10 * c + i) (nI v))) = h2 at hh2 ⊢
      refine x_aload_n hE dL_others_327 rfl rfl ?_
      refine x_iload_n hE dL_others_328 rfl ?_
      refine x_aload_n hE dL_others_329 rfl rfl ?_
      refine x_iconst (v := nI 1) hE dL_others_330 (by decide) ?_
      refine x_iald (v := nI 6) hE (hh2.at hca2) (vp_in_nI (by omega) (by decide)) (by rw [nI_clamp (by omega)]; exact hcc0.2.1) dL_others_331 ?_
      refine x_irem hE dL_others_332 (by decide) ?_
      refine x_ieq (y := nI c) (by rw [pk_rem (by omega) (by decide) (by decide), ec]) ?_
      refine x_iload_n hE dL_others_333 rfl ?_
      refine x_bipush (v := nI 6) hE dL_others_334 (by decide) ?_
      refine x_idiv hE dL_others_336 (by decide) ?_
      refine x_ieq (y := nI (y / 6)) (pk_div (by omega) (by decide) (by decide)) ?_
      refine x_aload_n hE dL_others_337 rfl rfl ?_
      refine x_iconst (v := nI 0) hE dL_others_338 (by decide) ?_
      refine x_iald (v := nI 10) hE (hh2.at hca2) (vp_in_nI (by omega) (by decide)) (by rw [nI_clamp (by omega)]; exact hcc0.1) dL_others_339 ?_
      refine x_irem hE dL_others_340 (by decide) ?_
      refine x_ieq (y := nI i) (by rw [pk_rem (by omega) (by decide) (by decide), ei]) ?_
      refine x_aload hE dL_others_341 rfl rfl ?_
      refine x_iload hE dL_others_343 rfl ?_
      refine x_iald (v := nI v) hE (hh2.at hla2) (vp_in_nI (by omega) (by decide)) (by rw [nI_clamp (by omega)]; exact (upd_at _ _ _)) dL_others_345 ?_
      refine k_call (st := []) hE hT 3 (m_level G (c := c) (i := i) (x := v) (by omega) (by omega) hv) hh2 gL_others_X7_level rfl rfl rfl (by decide +kernel) ⟨(Nat.le_of_ble_eq_true rfl), (Nat.le_of_ble_eq_true rfl)⟩ rfl rfl dL_others_346 rfl (Nat.le_of_ble_eq_true rfl) ⟨by show 0 + (1) ≤ 1; omega, by show 0 + (6) ≤ 6; omega⟩ (fun h3 hh3 => ?_) (fun E hE9 => hE9.elim)
      refine x_iload hE dL_others_349 rfl ?_
      refine x_icmp_ne (tgt := 358) hE dL_others_351 (by decide) (fun c351 => absurd rfl c351) (fun c351 => ?_)
      refine x_iconst (v := nI 1) hE dL_others_354 (by decide) ?_
      refine x_goto (tgt := 359) hE dL_others_355 (by decide) ?_
      have hI2 : iI (levelP c i (nI v) S) (kk + 1) := by
        have z := iI_level (c := nI c) (i := nI i) (x := nI v) hI (by unfold fLevel; rw [if_pos ⟨isN_y (by omega) (by omega), isN_y (by omega) (by omega)⟩, if_pos (inI_y (Nat.zero_le _) hv (by decide))])
        rw [nI_clamp (by omega), nI_clamp (by omega)] at z
        exact z
      refine x_widen (k := 1) (n := 6) (by omega) (by omega) ?_
      exact x_zret hE (Or.inr rfl) dL_others_359 (⟨rfl, levelP c i (nI v) S, hA2, hh3, ⟨_, _, _, _, _, ⟨hca2, hcc.of rfl rfl rfl⟩, ⟨hma2, hmm.of (level_no (by decide))⟩, ⟨hla2, level_rows hi10 hll⟩, ⟨hpa2, hpp.of (level_ar (by decide))⟩, hta2, htt.of (level_no (by decide))⟩, ⟨hL10, hC6, hV.of (level_no (by decide))⟩, hI2, rfl, rfl⟩)
    · obtain ⟨v, hv, ev⟩ : ∃ v, v ≤ 100 ∧ 0 = v := ⟨_, by decide, rfl⟩
      refine x_iconst (v := nI 0) hE dL_others_312 (by decide) ?_
      refine x_goto (tgt := 326) hE dL_others_313 (by decide) ?_
      refine x_ieq (y := nI v) (by rw [← ev]) ?_
      refine x_iast (f' := (upd lf (10 * c + i) (nI v))) hE (hh.at hla) (vp_in_nI (by omega) (by decide)) (x_updN _ (by omega) _) dL_others_326 ?_
      have hh2 := hh.up hla (rowI G 60 (upd lf (10 * c + i) (nI v)))
      obtain ⟨hA2, ehA2⟩ : ∃ z, x_up hA la (rowI G 60 (upd lf (10 * c + i) (nI v))) = z := ⟨_, rfl⟩
      have hla2 : hA2 la = some (rowI G 60 (upd lf (10 * c + i) (nI v))) := by rw [← ehA2]; exact x_up_eq _ _ _
      have hca2 : hA2 ca = some (rowI G 5 cf) := by rw [← ehA2]; exact (x_up_ne (row_ne hca hla (by decide))).trans hca
      have hma2 : hA2 ma = some (rowI G 60 mf) := by rw [← ehA2]; exact (x_up_ne hml).trans hma
      have hpa2 : hA2 pa = some (rowI G 3 pf) := by rw [← ehA2]; exact (x_up_ne (row_ne hpa hla (by decide))).trans hpa
      have hta2 : hA2 ta = some (rowI G 18 tf) := by rw [← ehA2]; exact (x_up_ne (row_ne hta hla (by decide))).trans hta
      rw [ehA2] at hh2
      generalize x_up h la (rowI G 60 (upd lf (10 * c + i) (nI v))) = h2 at hh2 ⊢
      refine x_aload_n hE dL_others_327 rfl rfl ?_
      refine x_iload_n hE dL_others_328 rfl ?_
      refine x_aload_n hE dL_others_329 rfl rfl ?_
      refine x_iconst (v := nI 1) hE dL_others_330 (by decide) ?_
      refine x_iald (v := nI 6) hE (hh2.at hca2) (vp_in_nI (by omega) (by decide)) (by rw [nI_clamp (by omega)]; exact hcc0.2.1) dL_others_331 ?_
      refine x_irem hE dL_others_332 (by decide) ?_
      refine x_ieq (y := nI c) (by rw [pk_rem (by omega) (by decide) (by decide), ec]) ?_
      refine x_iload_n hE dL_others_333 rfl ?_
      refine x_bipush (v := nI 6) hE dL_others_334 (by decide) ?_
      refine x_idiv hE dL_others_336 (by decide) ?_
      refine x_ieq (y := nI (y / 6)) (pk_div (by omega) (by decide) (by decide)) ?_
      refine x_aload_n hE dL_others_337 rfl rfl ?_
      refine x_iconst (v := nI 0) hE dL_others_338 (by decide) ?_
      refine x_iald (v := nI 10) hE (hh2.at hca2) (vp_in_nI (by omega) (by decide)) (by rw [nI_clamp (by omega)]; exact hcc0.1) dL_others_339 ?_
      refine x_irem hE dL_others_340 (by decide) ?_
      refine x_ieq (y := nI i) (by rw [pk_rem (by omega) (by decide) (by decide), ei]) ?_
      refine x_aload hE dL_others_341 rfl rfl ?_
      refine x_iload hE dL_others_343 rfl ?_
      refine x_iald (v := nI v) hE (hh2.at hla2) (vp_in_nI (by omega) (by decide)) (by rw [nI_clamp (by omega)]; exact (upd_at _ _ _)) dL_others_345 ?_
      refine k_call (st := []) hE hT 3 (m_level G (c := c) (i := i) (x := v) (by omega) (by omega) hv) hh2 gL_others_X7_level rfl rfl rfl (by decide +kernel) ⟨(Nat.le_of_ble_eq_true rfl), (Nat.le_of_ble_eq_true rfl)⟩ rfl rfl dL_others_346 rfl (Nat.le_of_ble_eq_true rfl) ⟨by show 0 + (1) ≤ 1; omega, by show 0 + (6) ≤ 6; omega⟩ (fun h3 hh3 => ?_) (fun E hE9 => hE9.elim)
      refine x_iload hE dL_others_349 rfl ?_
      refine x_icmp_ne (tgt := 358) hE dL_others_351 (by decide) (fun c351 => absurd rfl c351) (fun c351 => ?_)
      refine x_iconst (v := nI 1) hE dL_others_354 (by decide) ?_
      refine x_goto (tgt := 359) hE dL_others_355 (by decide) ?_
      have hI2 : iI (levelP c i (nI v) S) (kk + 1) := by
        have z := iI_level (c := nI c) (i := nI i) (x := nI v) hI (by unfold fLevel; rw [if_pos ⟨isN_y (by omega) (by omega), isN_y (by omega) (by omega)⟩, if_pos (inI_y (Nat.zero_le _) hv (by decide))])
        rw [nI_clamp (by omega), nI_clamp (by omega)] at z
        exact z
      refine x_widen (k := 1) (n := 6) (by omega) (by omega) ?_
      exact x_zret hE (Or.inr rfl) dL_others_359 (⟨rfl, levelP c i (nI v) S, hA2, hh3, ⟨_, _, _, _, _, ⟨hca2, hcc.of rfl rfl rfl⟩, ⟨hma2, hmm.of (level_no (by decide))⟩, ⟨hla2, level_rows hi10 hll⟩, ⟨hpa2, hpp.of (level_ar (by decide))⟩, hta2, htt.of (level_no (by decide))⟩, ⟨hL10, hC6, hV.of (level_no (by decide))⟩, hI2, rfl, rfl⟩)
