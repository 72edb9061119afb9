set_option maxHeartbeats 4000000 in
set_option maxRecDepth 100000 in
theorem case_go (G : XG) {F : XF} {b L : Nat} {xs : Nat → Int32} (hl : lwE G F b L xs) {Q : State → Prop} {k : Nat} (hk : 6 * k + 6 ≤ L) {xa m oa : Nat} {S : PS} {h : HM} (hI0 : lI G xa m oa k S h) (kk : ∀ (S1 : PS) (h1 : HM), lI G xa m oa (k + 1) S1 h1 → x_W G F Q (CC (k + 1) S1) (SS (k + 1) S1) h1 1275 [some (.ref b), some (.ref xa), some (.ref m), some (.ref oa), some (.int (nI (6 * k))), none, none] []) : x_W G F Q (CC k S) (SS k S) h 659 [some (.ref b), some (.ref xa), some (.ref m), some (.ref oa), some (.int (nI (6 * k))), none, none] [] := by
  obtain ⟨hE, hT, hX, hbl, hbA, hL⟩ := id hl
  obtain ⟨hC, hM, u, ma, ow, sc, R, gn, rfl, dC, dM, hb, rfl, hMM, hMS, hI, hgn⟩ := hI0
  have hk9 : k ≤ 511 := by omega
  have hcap := hI.cap
  have hI9 : iI (iff0 (fGo S (xs (6 * k + 1))) (begP (xs (6 * k + 1)).toNatClampNeg S) S) (k + 1) := iI_iff hI (fun hf => iI_goS hI hk9 hf)
  have hcap9 := hI9.cap
  have hmono : s_n S ≤ s_n (iff0 (fGo S (xs (6 * k + 1))) (begP (xs (6 * k + 1)).toNatClampNeg S) S) := iff0_m hI.1.2.2.2.2.2.2.1.le
  have hfle : fGo S (xs (6 * k + 1)) ≤ 2 := fGo_le
  refine x_aload_n hE dL_law_659 rfl rfl ?_
  refine x_aload_n hE dL_law_660 rfl rfl ?_
  refine x_iload hE dL_law_661 rfl ?_
  refine x_iconst (v := nI 1) hE dL_law_663 (by decide) ?_
  refine x_iadd hE dL_law_664 ?_
  refine x_ieq (y := nI (6 * k + 1)) (nI_add _ _) ?_
  refine x_sld hE hX hbl hbA (j := (6 * k + 1)) (by omega) (by omega) dL_law_665 ?_
  refine x_aload_n hE dL_law_666 rfl rfl ?_
  have hcw : ∀ A : Nat → Prop, y_M (reG G A) yL_go wsL_go ({ frames := 7, cells := s_n (iff0 (fGo S (xs (6 * k + 1))) (begP (xs (6 * k + 1)).toNatClampNeg S) S) - s_n S + 4, slots := 3 * (s_n (iff0 (fGo S (xs (6 * k + 1))) (begP (xs (6 * k + 1)).toNatClampNeg S) S) - s_n S) + 57, locals := 135 } : Room) [.ref xa, .int (xs (6 * k + 1)), .ref oa] (jn hC (oM G oa u)) (wP G xa oa (fGo S (xs (6 * k + 1))) ((nI (s_G (begP (xs (6 * k + 1)).toNatClampNeg S)).length).toInt64) (iff0 (fGo S (xs (6 * k + 1))) (begP (xs (6 * k + 1)).toNatClampNeg S) S)) (fun _ => False) (s_n (iff0 (fGo S (xs (6 * k + 1))) (begP (xs (6 * k + 1)).toNatClampNeg S) S) - s_n S + 4) (3 * (s_n (iff0 (fGo S (xs (6 * k + 1))) (begP (xs (6 * k + 1)).toNatClampNeg S) S) - s_n S) + 57) := fun A => c_L_go (reG G A) hb dC hI hk9 (xs (6 * k + 1))
  refine z_callW (st := []) (a := CC k S) (b := SS k S) hE hT 3 hcw dM gL_law_L_go rfl rfl rfl (by decide +kernel) ⟨(Nat.le_of_ble_eq_true rfl), (Nat.le_of_ble_eq_true rfl)⟩ rfl rfl dL_law_667 rfl (Nat.le_of_ble_eq_true rfl) ⟨by show CC k S + (s_n (iff0 (fGo S (xs (6 * k + 1))) (begP (xs (6 * k + 1)).toNatClampNeg S) S) - s_n S + 4) ≤ 601024; unfold CC; omega, by show SS k S + (3 * (s_n (iff0 (fGo S (xs (6 * k + 1))) (begP (xs (6 * k + 1)).toNatClampNeg S) S) - s_n S) + 57) ≤ 7293034; unfold SS; omega⟩ (fun v h9 hp d9 => ?_)
  obtain ⟨rfl, hC9, u9, rfl, dC9, hb9, hu9⟩ := hp
  refine x_istore (L' := [some (.ref b), some (.ref xa), some (.ref (ma 30)), some (.ref oa), some (.int (nI (6 * k))), some (.int (nI (fGo S (xs (6 * k + 1))))), none]) hE dL_law_670 (Nat.le_of_ble_eq_true rfl) rfl ?_
  refine x_aload_n hE dL_law_672 rfl rfl ?_
  refine x_aload_n hE dL_law_673 rfl rfl ?_
  refine x_iload hE dL_law_674 rfl ?_
  refine x_iconst (v := nI 1) hE dL_law_676 (by decide) ?_
  refine x_iadd hE dL_law_677 ?_
  refine x_ieq (y := nI (6 * k + 1)) (nI_add _ _) ?_
  refine x_sld hE hX hbl hbA (j := (6 * k + 1)) (by omega) (by omega) dL_law_678 ?_
  refine x_heq (jn_comm d9) ?_
  have hcx : ∀ A : Nat → Prop, x_M (reG G A) yX8_go wsX8_go ({ frames := 7, cells := 0, slots := 0, locals := 159 } : Room) [.ref (ma 30), .int (xs (6 * k + 1))] hM (mP G ma ow (fGo S (xs (6 * k + 1))) (nI (s_G (begP (xs (6 * k + 1)).toNatClampNeg S)).length) (iff0 (fGo S (xs (6 * k + 1))) (begP (xs (6 * k + 1)).toNatClampNeg S) S) (gn + 1)) 0 0 := fun A => c_X8_go (reG G A) hMM hMS hI.1.mI (by have := hI.2.2.1; omega) (xs (6 * k + 1))
  refine z_callV (ci := 8) (st := []) hE 1 hcx d9.symm gL_law_X8_go rfl rfl rfl (by decide +kernel) ⟨(Nat.le_of_ble_eq_true rfl), (Nat.le_of_ble_eq_true rfl)⟩ hMM.o rfl rfl rfl dL_law_679 rfl (Nat.le_of_ble_eq_true rfl) ⟨by show CC k S + (s_n (iff0 (fGo S (xs (6 * k + 1))) (begP (xs (6 * k + 1)).toNatClampNeg S) S) - s_n S + 4) + 0 ≤ 601024; unfold CC; omega, by show SS k S + (3 * (s_n (iff0 (fGo S (xs (6 * k + 1))) (begP (xs (6 * k + 1)).toNatClampNeg S) S) - s_n S) + 57) + 0 ≤ 7293034; unfold SS; omega⟩ (fun v h10 hp d10 => ?_)
  obtain ⟨⟨y, rfl, hy⟩, R', sc', gn', hM', hS', e28, hg'⟩ := hp
  refine x_istore (L' := [some (.ref b), some (.ref xa), some (.ref (ma 30)), some (.ref oa), some (.int (nI (6 * k))), some (.int (nI (fGo S (xs (6 * k + 1))))), some (.int y)]) hE dL_law_682 (Nat.le_of_ble_eq_true rfl) rfl ?_
  refine x_aload_n hE dL_law_684 rfl rfl ?_
  have hct : ∀ A : Nat → Prop, x_M (reG G A) yX8_thrown wsX8_thrown ({ frames := 0, cells := 0, slots := 0, locals := 0 } : Room) [.ref (ma 30)] h10 (x_is (some (.int (sc' 28))) h10) 0 0 := fun A => c_X8_thrown (reG G A) hM'
  refine z_callV (ci := 8) (st := []) hE 0 hct d10 gL_law_X8_thrown rfl rfl rfl (by decide +kernel) ⟨(Nat.le_of_ble_eq_true rfl), (Nat.le_of_ble_eq_true rfl)⟩ hM'.o rfl rfl rfl dL_law_685 rfl (Nat.le_of_ble_eq_true rfl) ⟨by show CC k S + (s_n (iff0 (fGo S (xs (6 * k + 1))) (begP (xs (6 * k + 1)).toNatClampNeg S) S) - s_n S + 4) + 0 + 0 ≤ 601024; unfold CC; omega, by show SS k S + (3 * (s_n (iff0 (fGo S (xs (6 * k + 1))) (begP (xs (6 * k + 1)).toNatClampNeg S) S) - s_n S) + 57) + 0 + 0 ≤ 7293034; unfold SS; omega⟩ (fun v h11 hp d11 => ?_)
  obtain ⟨rfl, rfl⟩ := hp
  refine x_ieq (y := nI (fGo S (xs (6 * k + 1)))) (e28) ?_
  refine x_iload hE dL_law_688 rfl ?_
  refine x_icmp_eq (tgt := 695) hE dL_law_690 (by decide) (fun c690 => ?_) (fun c690 => ?_)
  · refine x_iload hE dL_law_695 rfl ?_
    refine x_if_ne (tgt := 712) hE dL_law_697 (by decide) (fun c697 => ?_) (fun c697 => ?_)
    · refine x_goto (tgt := 1275) hE dL_law_712 (by decide) ?_
      refine x_heq (jn_comm d10) ?_
      refine x_widen (k := CC (k + 1) (iff0 (fGo S (xs (6 * k + 1))) (begP (xs (6 * k + 1)).toNatClampNeg S) S)) (n := SS (k + 1) (iff0 (fGo S (xs (6 * k + 1))) (begP (xs (6 * k + 1)).toNatClampNeg S) S)) (by unfold CC; omega) (by unfold SS; omega) ?_
      refine x_forget (L' := [some (.ref b), some (.ref xa), some (.ref (ma 30)), some (.ref oa), some (.int (nI (6 * k))), none, none]) (And.intro rfl (And.intro rfl (And.intro rfl (And.intro rfl (And.intro rfl trivial))))) ?_
      exact kk (iff0 (fGo S (xs (6 * k + 1))) (begP (xs (6 * k + 1)).toNatClampNeg S) S) _ ⟨hC9, h10, u9, ma, ow, sc', R', gn', rfl, dC9, d10.symm, hb9, rfl, hM', hS', hI9, by omega⟩
    · have hf : fGo S (xs (6 * k + 1)) = 0 := nI_f0 hfle c697
      have hy1 := hy hf
      have hw1 := hu9 hf
      refine x_aload_n hE dL_law_700 rfl rfl ?_
      refine x_iconst (v := nI 0) hE dL_law_701 (by decide) ?_
      refine x_lald (v := (nI (s_G (begP (xs (6 * k + 1)).toNatClampNeg S)).length).toInt64) hE (jn_r d10 (jn_r dC9 oM_at)) zin0 (by rw [zcl0]; exact hw1) dL_law_702 ?_
      refine x_iload hE dL_law_703 rfl ?_
      refine x_i2l hE dL_law_705 ?_
      refine x_lcmp hE dL_law_706 ?_
      refine x_ieq (y := nI 0) (by rw [hy1]; exact lg_self _) ?_
      refine x_if_eq (tgt := 712) hE dL_law_707 (by decide) (fun c707 => ?_) (fun c707 => ?_)
      · refine x_goto (tgt := 1275) hE dL_law_712 (by decide) ?_
        refine x_heq (jn_comm d10) ?_
        refine x_widen (k := CC (k + 1) (iff0 (fGo S (xs (6 * k + 1))) (begP (xs (6 * k + 1)).toNatClampNeg S) S)) (n := SS (k + 1) (iff0 (fGo S (xs (6 * k + 1))) (begP (xs (6 * k + 1)).toNatClampNeg S) S)) (by unfold CC; omega) (by unfold SS; omega) ?_
        refine x_forget (L' := [some (.ref b), some (.ref xa), some (.ref (ma 30)), some (.ref oa), some (.int (nI (6 * k))), none, none]) (And.intro rfl (And.intro rfl (And.intro rfl (And.intro rfl (And.intro rfl trivial))))) ?_
        exact kk (iff0 (fGo S (xs (6 * k + 1))) (begP (xs (6 * k + 1)).toNatClampNeg S) S) _ ⟨hC9, h10, u9, ma, ow, sc', R', gn', rfl, dC9, d10.symm, hb9, rfl, hM', hS', hI9, by omega⟩
      · exact absurd rfl c707
  · exact absurd rfl c690
set_option maxHeartbeats 4000000 in
set_option maxRecDepth 100000 in
theorem case_release (G : XG) {F : XF} {b L : Nat} {xs : Nat → Int32} (hl : lwE G F b L xs) {Q : State → Prop} {k : Nat} (hk : 6 * k + 6 ≤ L) {xa m oa : Nat} {S : PS} {h : HM} (hI0 : lI G xa m oa k S h) (kk : ∀ (S1 : PS) (h1 : HM), lI G xa m oa (k + 1) S1 h1 → x_W G F Q (CC (k + 1) S1) (SS (k + 1) S1) h1 1275 [some (.ref b), some (.ref xa), some (.ref m), some (.ref oa), some (.int (nI (6 * k))), none, none] []) : x_W G F Q (CC k S) (SS k S) h 715 [some (.ref b), some (.ref xa), some (.ref m), some (.ref oa), some (.int (nI (6 * k))), none, none] [] := by
  obtain ⟨hE, hT, hX, hbl, hbA, hL⟩ := id hl
  obtain ⟨hC, hM, u, ma, ow, sc, R, gn, rfl, dC, dM, hb, rfl, hMM, hMS, hI, hgn⟩ := hI0
  have hk9 : k ≤ 511 := by omega
  have hcap := hI.cap
  have hI9 : iI (iff0 (fRel S (xs (6 * k + 1))) (relP (xs (6 * k + 1)).toNatClampNeg S) S) (k + 1) := iI_iff hI (fun hf => iI_rel hI hk9 hf)
  have hcap9 := hI9.cap
  have hmono : s_n S ≤ s_n (iff0 (fRel S (xs (6 * k + 1))) (relP (xs (6 * k + 1)).toNatClampNeg S) S) := iff0_m hI.1.2.2.2.2.2.2.1.le
  have hfle : fRel S (xs (6 * k + 1)) ≤ 2 := fRel_le
  refine x_aload_n hE dL_law_715 rfl rfl ?_
  refine x_aload_n hE dL_law_716 rfl rfl ?_
  refine x_iload hE dL_law_717 rfl ?_
  refine x_iconst (v := nI 1) hE dL_law_719 (by decide) ?_
  refine x_iadd hE dL_law_720 ?_
  refine x_ieq (y := nI (6 * k + 1)) (nI_add _ _) ?_
  refine x_sld hE hX hbl hbA (j := (6 * k + 1)) (by omega) (by omega) dL_law_721 ?_
  refine x_aload_n hE dL_law_722 rfl rfl ?_
  have hcw : ∀ A : Nat → Prop, y_M (reG G A) yL_release wsL_release ({ frames := 7, cells := s_n (iff0 (fRel S (xs (6 * k + 1))) (relP (xs (6 * k + 1)).toNatClampNeg S) S) - s_n S + 4, slots := 3 * (s_n (iff0 (fRel S (xs (6 * k + 1))) (relP (xs (6 * k + 1)).toNatClampNeg S) S) - s_n S) + 57, locals := 113 } : Room) [.ref xa, .int (xs (6 * k + 1)), .ref oa] (jn hC (oM G oa u)) (wP G xa oa (fRel S (xs (6 * k + 1))) (bL (b2i (goF (s_G (relP (xs (6 * k + 1)).toNatClampNeg S)) (xs (6 * k + 1)).toNatClampNeg).isSome)) (iff0 (fRel S (xs (6 * k + 1))) (relP (xs (6 * k + 1)).toNatClampNeg S) S)) (fun _ => False) (s_n (iff0 (fRel S (xs (6 * k + 1))) (relP (xs (6 * k + 1)).toNatClampNeg S) S) - s_n S + 4) (3 * (s_n (iff0 (fRel S (xs (6 * k + 1))) (relP (xs (6 * k + 1)).toNatClampNeg S) S) - s_n S) + 57) := fun A => c_L_release (reG G A) hb dC hI hk9 (xs (6 * k + 1))
  refine z_callW (st := []) (a := CC k S) (b := SS k S) hE hT 3 hcw dM gL_law_L_release rfl rfl rfl (by decide +kernel) ⟨(Nat.le_of_ble_eq_true rfl), (Nat.le_of_ble_eq_true rfl)⟩ rfl rfl dL_law_723 rfl (Nat.le_of_ble_eq_true rfl) ⟨by show CC k S + (s_n (iff0 (fRel S (xs (6 * k + 1))) (relP (xs (6 * k + 1)).toNatClampNeg S) S) - s_n S + 4) ≤ 601024; unfold CC; omega, by show SS k S + (3 * (s_n (iff0 (fRel S (xs (6 * k + 1))) (relP (xs (6 * k + 1)).toNatClampNeg S) S) - s_n S) + 57) ≤ 7293034; unfold SS; omega⟩ (fun v h9 hp d9 => ?_)
  obtain ⟨rfl, hC9, u9, rfl, dC9, hb9, hu9⟩ := hp
  refine x_istore (L' := [some (.ref b), some (.ref xa), some (.ref (ma 30)), some (.ref oa), some (.int (nI (6 * k))), some (.int (nI (fRel S (xs (6 * k + 1))))), none]) hE dL_law_726 (Nat.le_of_ble_eq_true rfl) rfl ?_
  refine x_aload_n hE dL_law_728 rfl rfl ?_
  refine x_aload_n hE dL_law_729 rfl rfl ?_
  refine x_iload hE dL_law_730 rfl ?_
  refine x_iconst (v := nI 1) hE dL_law_732 (by decide) ?_
  refine x_iadd hE dL_law_733 ?_
  refine x_ieq (y := nI (6 * k + 1)) (nI_add _ _) ?_
  refine x_sld hE hX hbl hbA (j := (6 * k + 1)) (by omega) (by omega) dL_law_734 ?_
  refine x_heq (jn_comm d9) ?_
  have hcx : ∀ A : Nat → Prop, x_M (reG G A) yX8_release wsX8_release ({ frames := 2, cells := 0, slots := 0, locals := 43 } : Room) [.ref (ma 30), .int (xs (6 * k + 1))] hM (mP G ma ow (fRel S (xs (6 * k + 1))) (b2i (goF (s_G (relP (xs (6 * k + 1)).toNatClampNeg S)) (xs (6 * k + 1)).toNatClampNeg).isSome) (iff0 (fRel S (xs (6 * k + 1))) (relP (xs (6 * k + 1)).toNatClampNeg S) S) (gn)) 0 0 := fun A => c_X8_release (reG G A) hMM hMS hI.1.mI (xs (6 * k + 1))
  refine z_callV (ci := 8) (st := []) hE 1 hcx d9.symm gL_law_X8_release rfl rfl rfl (by decide +kernel) ⟨(Nat.le_of_ble_eq_true rfl), (Nat.le_of_ble_eq_true rfl)⟩ hMM.o rfl rfl rfl dL_law_735 rfl (Nat.le_of_ble_eq_true rfl) ⟨by show CC k S + (s_n (iff0 (fRel S (xs (6 * k + 1))) (relP (xs (6 * k + 1)).toNatClampNeg S) S) - s_n S + 4) + 0 ≤ 601024; unfold CC; omega, by show SS k S + (3 * (s_n (iff0 (fRel S (xs (6 * k + 1))) (relP (xs (6 * k + 1)).toNatClampNeg S) S) - s_n S) + 57) + 0 ≤ 7293034; unfold SS; omega⟩ (fun v h10 hp d10 => ?_)
  obtain ⟨⟨y, rfl, hy⟩, R', sc', gn', hM', hS', e28, hg'⟩ := hp
  refine x_istore (L' := [some (.ref b), some (.ref xa), some (.ref (ma 30)), some (.ref oa), some (.int (nI (6 * k))), some (.int (nI (fRel S (xs (6 * k + 1))))), some (.int y)]) hE dL_law_738 (Nat.le_of_ble_eq_true rfl) rfl ?_
  refine x_aload_n hE dL_law_740 rfl rfl ?_
  have hct : ∀ A : Nat → Prop, x_M (reG G A) yX8_thrown wsX8_thrown ({ frames := 0, cells := 0, slots := 0, locals := 0 } : Room) [.ref (ma 30)] h10 (x_is (some (.int (sc' 28))) h10) 0 0 := fun A => c_X8_thrown (reG G A) hM'
  refine z_callV (ci := 8) (st := []) hE 0 hct d10 gL_law_X8_thrown rfl rfl rfl (by decide +kernel) ⟨(Nat.le_of_ble_eq_true rfl), (Nat.le_of_ble_eq_true rfl)⟩ hM'.o rfl rfl rfl dL_law_741 rfl (Nat.le_of_ble_eq_true rfl) ⟨by show CC k S + (s_n (iff0 (fRel S (xs (6 * k + 1))) (relP (xs (6 * k + 1)).toNatClampNeg S) S) - s_n S + 4) + 0 + 0 ≤ 601024; unfold CC; omega, by show SS k S + (3 * (s_n (iff0 (fRel S (xs (6 * k + 1))) (relP (xs (6 * k + 1)).toNatClampNeg S) S) - s_n S) + 57) + 0 + 0 ≤ 7293034; unfold SS; omega⟩ (fun v h11 hp d11 => ?_)
  obtain ⟨rfl, rfl⟩ := hp
  refine x_ieq (y := nI (fRel S (xs (6 * k + 1)))) (e28) ?_
  refine x_iload hE dL_law_744 rfl ?_
  refine x_icmp_eq (tgt := 751) hE dL_law_746 (by decide) (fun c746 => ?_) (fun c746 => ?_)
  · refine x_iload hE dL_law_751 rfl ?_
    refine x_if_ne (tgt := 775) hE dL_law_753 (by decide) (fun c753 => ?_) (fun c753 => ?_)
    · refine x_goto (tgt := 1275) hE dL_law_775 (by decide) ?_
      refine x_heq (jn_comm d10) ?_
      refine x_widen (k := CC (k + 1) (iff0 (fRel S (xs (6 * k + 1))) (relP (xs (6 * k + 1)).toNatClampNeg S) S)) (n := SS (k + 1) (iff0 (fRel S (xs (6 * k + 1))) (relP (xs (6 * k + 1)).toNatClampNeg S) S)) (by unfold CC; omega) (by unfold SS; omega) ?_
      refine x_forget (L' := [some (.ref b), some (.ref xa), some (.ref (ma 30)), some (.ref oa), some (.int (nI (6 * k))), none, none]) (And.intro rfl (And.intro rfl (And.intro rfl (And.intro rfl (And.intro rfl trivial))))) ?_
      exact kk (iff0 (fRel S (xs (6 * k + 1))) (relP (xs (6 * k + 1)).toNatClampNeg S) S) _ ⟨hC9, h10, u9, ma, ow, sc', R', gn', rfl, dC9, d10.symm, hb9, rfl, hM', hS', hI9, by omega⟩
    · have hf : fRel S (xs (6 * k + 1)) = 0 := nI_f0 hfle c753
      have hy1 := hy hf
      have hw1 := hu9 hf
      refine x_aload_n hE dL_law_756 rfl rfl ?_
      refine x_iconst (v := nI 0) hE dL_law_757 (by decide) ?_
      refine x_lald (v := bL (b2i (goF (s_G (relP (xs (6 * k + 1)).toNatClampNeg S)) (xs (6 * k + 1)).toNatClampNeg).isSome)) hE (jn_r d10 (jn_r dC9 oM_at)) zin0 (by rw [zcl0]; exact hw1) dL_law_758 ?_
      refine x_iload hE dL_law_759 rfl ?_
      refine x_if_eq (tgt := 768) hE dL_law_761 (by decide) (fun c761 => ?_) (fun c761 => ?_)
      · refine x_lconst (v := 0) hE dL_law_768 (by decide) ?_
        refine x_lcmp hE dL_law_769 ?_
        refine x_ieq (y := nI 0) (by rw [show bL (b2i (goF (s_G (relP (xs (6 * k + 1)).toNatClampNeg S)) (xs (6 * k + 1)).toNatClampNeg).isSome) = 0 by unfold bL; rw [if_pos (hy1.symm.trans c761)]]; exact lg_self 0) ?_
        refine x_if_eq (tgt := 775) hE dL_law_770 (by decide) (fun c770 => ?_) (fun c770 => ?_)
        · refine x_goto (tgt := 1275) hE dL_law_775 (by decide) ?_
          refine x_heq (jn_comm d10) ?_
          refine x_widen (k := CC (k + 1) (iff0 (fRel S (xs (6 * k + 1))) (relP (xs (6 * k + 1)).toNatClampNeg S) S)) (n := SS (k + 1) (iff0 (fRel S (xs (6 * k + 1))) (relP (xs (6 * k + 1)).toNatClampNeg S) S)) (by unfold CC; omega) (by unfold SS; omega) ?_
          refine x_forget (L' := [some (.ref b), some (.ref xa), some (.ref (ma 30)), some (.ref oa), some (.int (nI (6 * k))), none, none]) (And.intro rfl (And.intro rfl (And.intro rfl (And.intro rfl (And.intro rfl trivial))))) ?_
          exact kk (iff0 (fRel S (xs (6 * k + 1))) (relP (xs (6 * k + 1)).toNatClampNeg S) S) _ ⟨hC9, h10, u9, ma, ow, sc', R', gn', rfl, dC9, d10.symm, hb9, rfl, hM', hS', hI9, by omega⟩
        · exact absurd rfl c770
      · refine x_lconst (v := 1) hE dL_law_764 (by decide) ?_
        refine x_goto (tgt := 769) hE dL_law_765 (by decide) ?_
        refine x_lcmp hE dL_law_769 ?_
        refine x_ieq (y := nI 0) (by rw [show bL (b2i (goF (s_G (relP (xs (6 * k + 1)).toNatClampNeg S)) (xs (6 * k + 1)).toNatClampNeg).isSome) = 1 by unfold bL; rw [if_neg (fun z => c761 (hy1.trans z))]]; exact lg_self 1) ?_
        refine x_if_eq (tgt := 775) hE dL_law_770 (by decide) (fun c770 => ?_) (fun c770 => ?_)
        · refine x_goto (tgt := 1275) hE dL_law_775 (by decide) ?_
          refine x_heq (jn_comm d10) ?_
          refine x_widen (k := CC (k + 1) (iff0 (fRel S (xs (6 * k + 1))) (relP (xs (6 * k + 1)).toNatClampNeg S) S)) (n := SS (k + 1) (iff0 (fRel S (xs (6 * k + 1))) (relP (xs (6 * k + 1)).toNatClampNeg S) S)) (by unfold CC; omega) (by unfold SS; omega) ?_
          refine x_forget (L' := [some (.ref b), some (.ref xa), some (.ref (ma 30)), some (.ref oa), some (.int (nI (6 * k))), none, none]) (And.intro rfl (And.intro rfl (And.intro rfl (And.intro rfl (And.intro rfl trivial))))) ?_
          exact kk (iff0 (fRel S (xs (6 * k + 1))) (relP (xs (6 * k + 1)).toNatClampNeg S) S) _ ⟨hC9, h10, u9, ma, ow, sc', R', gn', rfl, dC9, d10.symm, hb9, rfl, hM', hS', hI9, by omega⟩
        · exact absurd rfl c770
  · exact absurd rfl c746
set_option maxHeartbeats 4000000 in
set_option maxRecDepth 100000 in
theorem case_pass (G : XG) {F : XF} {b L : Nat} {xs : Nat → Int32} (hl : lwE G F b L xs) {Q : State → Prop} {k : Nat} (hk : 6 * k + 6 ≤ L) {xa m oa : Nat} {S : PS} {h : HM} (hI0 : lI G xa m oa k S h) (kk : ∀ (S1 : PS) (h1 : HM), lI G xa m oa (k + 1) S1 h1 → x_W G F Q (CC (k + 1) S1) (SS (k + 1) S1) h1 1275 [some (.ref b), some (.ref xa), some (.ref m), some (.ref oa), some (.int (nI (6 * k))), none, none] []) : x_W G F Q (CC k S) (SS k S) h 778 [some (.ref b), some (.ref xa), some (.ref m), some (.ref oa), some (.int (nI (6 * k))), none, none] [] := by
  obtain ⟨hE, hT, hX, hbl, hbA, hL⟩ := id hl
  obtain ⟨hC, hM, u, ma, ow, sc, R, gn, rfl, dC, dM, hb, rfl, hMM, hMS, hI, hgn⟩ := hI0
  have hk9 : k ≤ 511 := by omega
  have hcap := hI.cap
  have hI9 : iI (iff0 (fPass (xs (6 * k + 1))) (passK S (xs (6 * k + 1)).toNatClampNeg) S) (k + 1) := iI_iff hI (fun hf => iI_passS hI hk9 hf)
  have hcap9 := hI9.cap
  have hmono : s_n S ≤ s_n (iff0 (fPass (xs (6 * k + 1))) (passK S (xs (6 * k + 1)).toNatClampNeg) S) := pass_mono hI hk9
  have hfle : fPass (xs (6 * k + 1)) ≤ 2 := fPass_le
  refine x_aload_n hE dL_law_778 rfl rfl ?_
  refine x_aload_n hE dL_law_779 rfl rfl ?_
  refine x_iload hE dL_law_780 rfl ?_
  refine x_iconst (v := nI 1) hE dL_law_782 (by decide) ?_
  refine x_iadd hE dL_law_783 ?_
  refine x_ieq (y := nI (6 * k + 1)) (nI_add _ _) ?_
  refine x_sld hE hX hbl hbA (j := (6 * k + 1)) (by omega) (by omega) dL_law_784 ?_
  refine x_aload_n hE dL_law_785 rfl rfl ?_
  have hcw : ∀ A : Nat → Prop, y_M (reG G A) yL_pass wsL_pass ({ frames := 7, cells := s_n (iff0 (fPass (xs (6 * k + 1))) (passK S (xs (6 * k + 1)).toNatClampNeg) S) - s_n S + 4, slots := 3 * (s_n (iff0 (fPass (xs (6 * k + 1))) (passK S (xs (6 * k + 1)).toNatClampNeg) S) - s_n S) + 57, locals := 157 } : Room) [.ref xa, .int (xs (6 * k + 1)), .ref oa] (jn hC (oM G oa u)) (wP G xa oa (fPass (xs (6 * k + 1))) ((nI (s_t (passK S (xs (6 * k + 1)).toNatClampNeg))).toInt64) (iff0 (fPass (xs (6 * k + 1))) (passK S (xs (6 * k + 1)).toNatClampNeg) S)) (fun _ => False) (s_n (iff0 (fPass (xs (6 * k + 1))) (passK S (xs (6 * k + 1)).toNatClampNeg) S) - s_n S + 4) (3 * (s_n (iff0 (fPass (xs (6 * k + 1))) (passK S (xs (6 * k + 1)).toNatClampNeg) S) - s_n S) + 57) := fun A => c_L_pass (reG G A) hb dC hI hk9 (xs (6 * k + 1))
  refine z_callW (st := []) (a := CC k S) (b := SS k S) hE hT 3 hcw dM gL_law_L_pass rfl rfl rfl (by decide +kernel) ⟨(Nat.le_of_ble_eq_true rfl), (Nat.le_of_ble_eq_true rfl)⟩ rfl rfl dL_law_786 rfl (Nat.le_of_ble_eq_true rfl) ⟨by show CC k S + (s_n (iff0 (fPass (xs (6 * k + 1))) (passK S (xs (6 * k + 1)).toNatClampNeg) S) - s_n S + 4) ≤ 601024; unfold CC; omega, by show SS k S + (3 * (s_n (iff0 (fPass (xs (6 * k + 1))) (passK S (xs (6 * k + 1)).toNatClampNeg) S) - s_n S) + 57) ≤ 7293034; unfold SS; omega⟩ (fun v h9 hp d9 => ?_)
  obtain ⟨rfl, hC9, u9, rfl, dC9, hb9, hu9⟩ := hp
  refine x_istore (L' := [some (.ref b), some (.ref xa), some (.ref (ma 30)), some (.ref oa), some (.int (nI (6 * k))), some (.int (nI (fPass (xs (6 * k + 1))))), none]) hE dL_law_789 (Nat.le_of_ble_eq_true rfl) rfl ?_
  refine x_aload_n hE dL_law_791 rfl rfl ?_
  refine x_aload_n hE dL_law_792 rfl rfl ?_
  refine x_iload hE dL_law_793 rfl ?_
  refine x_iconst (v := nI 1) hE dL_law_795 (by decide) ?_
  refine x_iadd hE dL_law_796 ?_
  refine x_ieq (y := nI (6 * k + 1)) (nI_add _ _) ?_
  refine x_sld hE hX hbl hbA (j := (6 * k + 1)) (by omega) (by omega) dL_law_797 ?_
  refine x_heq (jn_comm d9) ?_
  have hcx : ∀ A : Nat → Prop, x_M (reG G A) yX8_pass wsX8_pass ({ frames := 8, cells := 0, slots := 0, locals := 183 } : Room) [.ref (ma 30), .int (xs (6 * k + 1))] hM (mP G ma ow (fPass (xs (6 * k + 1))) (nI (s_t (passK S (xs (6 * k + 1)).toNatClampNeg))) (iff0 (fPass (xs (6 * k + 1))) (passK S (xs (6 * k + 1)).toNatClampNeg) S) (gn + 10220)) 0 0 := fun A => c_X8_pass (reG G A) hMM hMS hI.1.mI (iI_pI hI hk9) (xs (6 * k + 1))
  refine z_callV (ci := 8) (st := []) hE 1 hcx d9.symm gL_law_X8_pass rfl rfl rfl (by decide +kernel) ⟨(Nat.le_of_ble_eq_true rfl), (Nat.le_of_ble_eq_true rfl)⟩ hMM.o rfl rfl rfl dL_law_798 rfl (Nat.le_of_ble_eq_true rfl) ⟨by show CC k S + (s_n (iff0 (fPass (xs (6 * k + 1))) (passK S (xs (6 * k + 1)).toNatClampNeg) S) - s_n S + 4) + 0 ≤ 601024; unfold CC; omega, by show SS k S + (3 * (s_n (iff0 (fPass (xs (6 * k + 1))) (passK S (xs (6 * k + 1)).toNatClampNeg) S) - s_n S) + 57) + 0 ≤ 7293034; unfold SS; omega⟩ (fun v h10 hp d10 => ?_)
  obtain ⟨⟨y, rfl, hy⟩, R', sc', gn', hM', hS', e28, hg'⟩ := hp
  refine x_istore (L' := [some (.ref b), some (.ref xa), some (.ref (ma 30)), some (.ref oa), some (.int (nI (6 * k))), some (.int (nI (fPass (xs (6 * k + 1))))), some (.int y)]) hE dL_law_801 (Nat.le_of_ble_eq_true rfl) rfl ?_
  refine x_aload_n hE dL_law_803 rfl rfl ?_
  have hct : ∀ A : Nat → Prop, x_M (reG G A) yX8_thrown wsX8_thrown ({ frames := 0, cells := 0, slots := 0, locals := 0 } : Room) [.ref (ma 30)] h10 (x_is (some (.int (sc' 28))) h10) 0 0 := fun A => c_X8_thrown (reG G A) hM'
  refine z_callV (ci := 8) (st := []) hE 0 hct d10 gL_law_X8_thrown rfl rfl rfl (by decide +kernel) ⟨(Nat.le_of_ble_eq_true rfl), (Nat.le_of_ble_eq_true rfl)⟩ hM'.o rfl rfl rfl dL_law_804 rfl (Nat.le_of_ble_eq_true rfl) ⟨by show CC k S + (s_n (iff0 (fPass (xs (6 * k + 1))) (passK S (xs (6 * k + 1)).toNatClampNeg) S) - s_n S + 4) + 0 + 0 ≤ 601024; unfold CC; omega, by show SS k S + (3 * (s_n (iff0 (fPass (xs (6 * k + 1))) (passK S (xs (6 * k + 1)).toNatClampNeg) S) - s_n S) + 57) + 0 + 0 ≤ 7293034; unfold SS; omega⟩ (fun v h11 hp d11 => ?_)
  obtain ⟨rfl, rfl⟩ := hp
  refine x_ieq (y := nI (fPass (xs (6 * k + 1)))) (e28) ?_
  refine x_iload hE dL_law_807 rfl ?_
  refine x_icmp_eq (tgt := 814) hE dL_law_809 (by decide) (fun c809 => ?_) (fun c809 => ?_)
  · refine x_iload hE dL_law_814 rfl ?_
    refine x_if_ne (tgt := 831) hE dL_law_816 (by decide) (fun c816 => ?_) (fun c816 => ?_)
    · refine x_goto (tgt := 1275) hE dL_law_831 (by decide) ?_
      refine x_heq (jn_comm d10) ?_
      refine x_widen (k := CC (k + 1) (iff0 (fPass (xs (6 * k + 1))) (passK S (xs (6 * k + 1)).toNatClampNeg) S)) (n := SS (k + 1) (iff0 (fPass (xs (6 * k + 1))) (passK S (xs (6 * k + 1)).toNatClampNeg) S)) (by unfold CC; omega) (by unfold SS; omega) ?_
      refine x_forget (L' := [some (.ref b), some (.ref xa), some (.ref (ma 30)), some (.ref oa), some (.int (nI (6 * k))), none, none]) (And.intro rfl (And.intro rfl (And.intro rfl (And.intro rfl (And.intro rfl trivial))))) ?_
      exact kk (iff0 (fPass (xs (6 * k + 1))) (passK S (xs (6 * k + 1)).toNatClampNeg) S) _ ⟨hC9, h10, u9, ma, ow, sc', R', gn', rfl, dC9, d10.symm, hb9, rfl, hM', hS', hI9, by omega⟩
    · have hf : fPass (xs (6 * k + 1)) = 0 := nI_f0 hfle c816
      have hy1 := hy hf
      have hw1 := hu9 hf
      refine x_aload_n hE dL_law_819 rfl rfl ?_
      refine x_iconst (v := nI 0) hE dL_law_820 (by decide) ?_
      refine x_lald (v := (nI (s_t (passK S (xs (6 * k + 1)).toNatClampNeg))).toInt64) hE (jn_r d10 (jn_r dC9 oM_at)) zin0 (by rw [zcl0]; exact hw1) dL_law_821 ?_
      refine x_iload hE dL_law_822 rfl ?_
      refine x_i2l hE dL_law_824 ?_
      refine x_lcmp hE dL_law_825 ?_
      refine x_ieq (y := nI 0) (by rw [hy1]; exact lg_self _) ?_
      refine x_if_eq (tgt := 831) hE dL_law_826 (by decide) (fun c826 => ?_) (fun c826 => ?_)
      · refine x_goto (tgt := 1275) hE dL_law_831 (by decide) ?_
        refine x_heq (jn_comm d10) ?_
        refine x_widen (k := CC (k + 1) (iff0 (fPass (xs (6 * k + 1))) (passK S (xs (6 * k + 1)).toNatClampNeg) S)) (n := SS (k + 1) (iff0 (fPass (xs (6 * k + 1))) (passK S (xs (6 * k + 1)).toNatClampNeg) S)) (by unfold CC; omega) (by unfold SS; omega) ?_
        refine x_forget (L' := [some (.ref b), some (.ref xa), some (.ref (ma 30)), some (.ref oa), some (.int (nI (6 * k))), none, none]) (And.intro rfl (And.intro rfl (And.intro rfl (And.intro rfl (And.intro rfl trivial))))) ?_
        exact kk (iff0 (fPass (xs (6 * k + 1))) (passK S (xs (6 * k + 1)).toNatClampNeg) S) _ ⟨hC9, h10, u9, ma, ow, sc', R', gn', rfl, dC9, d10.symm, hb9, rfl, hM', hS', hI9, by omega⟩
      · exact absurd rfl c826
  · exact absurd rfl c809
set_option maxHeartbeats 4000000 in
set_option maxRecDepth 100000 in
theorem case_levelOf (G : XG) {F : XF} {b L : Nat} {xs : Nat → Int32} (hl : lwE G F b L xs) {Q : State → Prop} {k : Nat} (hk : 6 * k + 6 ≤ L) {xa m oa : Nat} {S : PS} {h : HM} (hI0 : lI G xa m oa k S h) (kk : ∀ (S1 : PS) (h1 : HM), lI G xa m oa (k + 1) S1 h1 → x_W G F Q (CC (k + 1) S1) (SS (k + 1) S1) h1 1275 [some (.ref b), some (.ref xa), some (.ref m), some (.ref oa), some (.int (nI (6 * k))), none, none] []) : x_W G F Q (CC k S) (SS k S) h 834 [some (.ref b), some (.ref xa), some (.ref m), some (.ref oa), some (.int (nI (6 * k))), none, none] [] := by
  obtain ⟨hE, hT, hX, hbl, hbA, hL⟩ := id hl
  obtain ⟨hC, hM, u, ma, ow, sc, R, gn, rfl, dC, dM, hb, rfl, hMM, hMS, hI, hgn⟩ := hI0
  have hk9 : k ≤ 511 := by omega
  have hcap := hI.cap
  have hI9 : iI (iff0 (fLamp S (xs (6 * k + 1))) (S) S) (k + 1) := iI_iff hI (fun hf => hI.up)
  have hcap9 := hI9.cap
  have hmono : s_n S ≤ s_n (iff0 (fLamp S (xs (6 * k + 1))) (S) S) := iff0_n' rfl
  have hfle : fLamp S (xs (6 * k + 1)) ≤ 2 := fLamp_le
  refine x_aload_n hE dL_law_834 rfl rfl ?_
  refine x_aload_n hE dL_law_835 rfl rfl ?_
  refine x_iload hE dL_law_836 rfl ?_
  refine x_iconst (v := nI 1) hE dL_law_838 (by decide) ?_
  refine x_iadd hE dL_law_839 ?_
  refine x_ieq (y := nI (6 * k + 1)) (nI_add _ _) ?_
  refine x_sld hE hX hbl hbA (j := (6 * k + 1)) (by omega) (by omega) dL_law_840 ?_
  refine x_aload_n hE dL_law_841 rfl rfl ?_
  have hcw : ∀ A : Nat → Prop, y_M (reG G A) yL_levelOf wsL_levelOf ({ frames := 7, cells := s_n (iff0 (fLamp S (xs (6 * k + 1))) (S) S) - s_n S + 4, slots := 3 * (s_n (iff0 (fLamp S (xs (6 * k + 1))) (S) S) - s_n S) + 57, locals := 111 } : Room) [.ref xa, .int (xs (6 * k + 1)), .ref oa] (jn hC (oM G oa u)) (wP G xa oa (fLamp S (xs (6 * k + 1))) ((nI (levS S (s_G S) (xs (6 * k + 1)).toNatClampNeg).toNat).toInt64) (iff0 (fLamp S (xs (6 * k + 1))) (S) S)) (fun _ => False) (s_n (iff0 (fLamp S (xs (6 * k + 1))) (S) S) - s_n S + 4) (3 * (s_n (iff0 (fLamp S (xs (6 * k + 1))) (S) S) - s_n S) + 57) := fun A => c_L_levelOf (reG G A) hb dC hI hk9 (xs (6 * k + 1))
  refine z_callW (st := []) (a := CC k S) (b := SS k S) hE hT 3 hcw dM gL_law_L_levelOf rfl rfl rfl (by decide +kernel) ⟨(Nat.le_of_ble_eq_true rfl), (Nat.le_of_ble_eq_true rfl)⟩ rfl rfl dL_law_842 rfl (Nat.le_of_ble_eq_true rfl) ⟨by show CC k S + (s_n (iff0 (fLamp S (xs (6 * k + 1))) (S) S) - s_n S + 4) ≤ 601024; unfold CC; omega, by show SS k S + (3 * (s_n (iff0 (fLamp S (xs (6 * k + 1))) (S) S) - s_n S) + 57) ≤ 7293034; unfold SS; omega⟩ (fun v h9 hp d9 => ?_)
  obtain ⟨rfl, hC9, u9, rfl, dC9, hb9, hu9⟩ := hp
  refine x_istore (L' := [some (.ref b), some (.ref xa), some (.ref (ma 30)), some (.ref oa), some (.int (nI (6 * k))), some (.int (nI (fLamp S (xs (6 * k + 1))))), none]) hE dL_law_845 (Nat.le_of_ble_eq_true rfl) rfl ?_
  refine x_aload_n hE dL_law_847 rfl rfl ?_
  refine x_aload_n hE dL_law_848 rfl rfl ?_
  refine x_iload hE dL_law_849 rfl ?_
  refine x_iconst (v := nI 1) hE dL_law_851 (by decide) ?_
  refine x_iadd hE dL_law_852 ?_
  refine x_ieq (y := nI (6 * k + 1)) (nI_add _ _) ?_
  refine x_sld hE hX hbl hbA (j := (6 * k + 1)) (by omega) (by omega) dL_law_853 ?_
  refine x_heq (jn_comm d9) ?_
  have hcx : ∀ A : Nat → Prop, x_M (reG G A) yX8_levelOf wsX8_levelOf ({ frames := 5, cells := 0, slots := 0, locals := 116 } : Room) [.ref (ma 30), .int (xs (6 * k + 1))] hM (mP G ma ow (fLamp S (xs (6 * k + 1))) (nI (levS S (s_G S) (xs (6 * k + 1)).toNatClampNeg).toNat) (iff0 (fLamp S (xs (6 * k + 1))) (S) S) (gn)) 0 0 := fun A => c_X8_levelOf (reG G A) hMM hMS hI.1.mI (show gn ≤ 2 ^ 30 by omega) (xs (6 * k + 1))
  refine z_callV (ci := 8) (st := []) hE 1 hcx d9.symm gL_law_X8_levelOf rfl rfl rfl (by decide +kernel) ⟨(Nat.le_of_ble_eq_true rfl), (Nat.le_of_ble_eq_true rfl)⟩ hMM.o rfl rfl rfl dL_law_854 rfl (Nat.le_of_ble_eq_true rfl) ⟨by show CC k S + (s_n (iff0 (fLamp S (xs (6 * k + 1))) (S) S) - s_n S + 4) + 0 ≤ 601024; unfold CC; omega, by show SS k S + (3 * (s_n (iff0 (fLamp S (xs (6 * k + 1))) (S) S) - s_n S) + 57) + 0 ≤ 7293034; unfold SS; omega⟩ (fun v h10 hp d10 => ?_)
  obtain ⟨⟨y, rfl, hy⟩, R', sc', gn', hM', hS', e28, hg'⟩ := hp
  refine x_istore (L' := [some (.ref b), some (.ref xa), some (.ref (ma 30)), some (.ref oa), some (.int (nI (6 * k))), some (.int (nI (fLamp S (xs (6 * k + 1))))), some (.int y)]) hE dL_law_857 (Nat.le_of_ble_eq_true rfl) rfl ?_
  refine x_aload_n hE dL_law_859 rfl rfl ?_
  have hct : ∀ A : Nat → Prop, x_M (reG G A) yX8_thrown wsX8_thrown ({ frames := 0, cells := 0, slots := 0, locals := 0 } : Room) [.ref (ma 30)] h10 (x_is (some (.int (sc' 28))) h10) 0 0 := fun A => c_X8_thrown (reG G A) hM'
  refine z_callV (ci := 8) (st := []) hE 0 hct d10 gL_law_X8_thrown rfl rfl rfl (by decide +kernel) ⟨(Nat.le_of_ble_eq_true rfl), (Nat.le_of_ble_eq_true rfl)⟩ hM'.o rfl rfl rfl dL_law_860 rfl (Nat.le_of_ble_eq_true rfl) ⟨by show CC k S + (s_n (iff0 (fLamp S (xs (6 * k + 1))) (S) S) - s_n S + 4) + 0 + 0 ≤ 601024; unfold CC; omega, by show SS k S + (3 * (s_n (iff0 (fLamp S (xs (6 * k + 1))) (S) S) - s_n S) + 57) + 0 + 0 ≤ 7293034; unfold SS; omega⟩ (fun v h11 hp d11 => ?_)
  obtain ⟨rfl, rfl⟩ := hp
  refine x_ieq (y := nI (fLamp S (xs (6 * k + 1)))) (e28) ?_
  refine x_iload hE dL_law_863 rfl ?_
  refine x_icmp_eq (tgt := 870) hE dL_law_865 (by decide) (fun c865 => ?_) (fun c865 => ?_)
  · refine x_iload hE dL_law_870 rfl ?_
    refine x_if_ne (tgt := 887) hE dL_law_872 (by decide) (fun c872 => ?_) (fun c872 => ?_)
    · refine x_goto (tgt := 1275) hE dL_law_887 (by decide) ?_
      refine x_heq (jn_comm d10) ?_
      refine x_widen (k := CC (k + 1) (iff0 (fLamp S (xs (6 * k + 1))) (S) S)) (n := SS (k + 1) (iff0 (fLamp S (xs (6 * k + 1))) (S) S)) (by unfold CC; omega) (by unfold SS; omega) ?_
      refine x_forget (L' := [some (.ref b), some (.ref xa), some (.ref (ma 30)), some (.ref oa), some (.int (nI (6 * k))), none, none]) (And.intro rfl (And.intro rfl (And.intro rfl (And.intro rfl (And.intro rfl trivial))))) ?_
      exact kk (iff0 (fLamp S (xs (6 * k + 1))) (S) S) _ ⟨hC9, h10, u9, ma, ow, sc', R', gn', rfl, dC9, d10.symm, hb9, rfl, hM', hS', hI9, by omega⟩
    · have hf : fLamp S (xs (6 * k + 1)) = 0 := nI_f0 hfle c872
      have hy1 := hy hf
      have hw1 := hu9 hf
      refine x_aload_n hE dL_law_875 rfl rfl ?_
      refine x_iconst (v := nI 0) hE dL_law_876 (by decide) ?_
      refine x_lald (v := (nI (levS S (s_G S) (xs (6 * k + 1)).toNatClampNeg).toNat).toInt64) hE (jn_r d10 (jn_r dC9 oM_at)) zin0 (by rw [zcl0]; exact hw1) dL_law_877 ?_
      refine x_iload hE dL_law_878 rfl ?_
      refine x_i2l hE dL_law_880 ?_
      refine x_lcmp hE dL_law_881 ?_
      refine x_ieq (y := nI 0) (by rw [hy1]; exact lg_self _) ?_
      refine x_if_eq (tgt := 887) hE dL_law_882 (by decide) (fun c882 => ?_) (fun c882 => ?_)
      · refine x_goto (tgt := 1275) hE dL_law_887 (by decide) ?_
        refine x_heq (jn_comm d10) ?_
        refine x_widen (k := CC (k + 1) (iff0 (fLamp S (xs (6 * k + 1))) (S) S)) (n := SS (k + 1) (iff0 (fLamp S (xs (6 * k + 1))) (S) S)) (by unfold CC; omega) (by unfold SS; omega) ?_
        refine x_forget (L' := [some (.ref b), some (.ref xa), some (.ref (ma 30)), some (.ref oa), some (.int (nI (6 * k))), none, none]) (And.intro rfl (And.intro rfl (And.intro rfl (And.intro rfl (And.intro rfl trivial))))) ?_
        exact kk (iff0 (fLamp S (xs (6 * k + 1))) (S) S) _ ⟨hC9, h10, u9, ma, ow, sc', R', gn', rfl, dC9, d10.symm, hb9, rfl, hM', hS', hI9, by omega⟩
      · exact absurd rfl c882
  · exact absurd rfl c865
set_option maxHeartbeats 4000000 in
set_option maxRecDepth 100000 in
theorem case_levelAnew (G : XG) {F : XF} {b L : Nat} {xs : Nat → Int32} (hl : lwE G F b L xs) {Q : State → Prop} {k : Nat} (hk : 6 * k + 6 ≤ L) {xa m oa : Nat} {S : PS} {h : HM} (hI0 : lI G xa m oa k S h) (kk : ∀ (S1 : PS) (h1 : HM), lI G xa m oa (k + 1) S1 h1 → x_W G F Q (CC (k + 1) S1) (SS (k + 1) S1) h1 1275 [some (.ref b), some (.ref xa), some (.ref m), some (.ref oa), some (.int (nI (6 * k))), none, none] []) : x_W G F Q (CC k S) (SS k S) h 890 [some (.ref b), some (.ref xa), some (.ref m), some (.ref oa), some (.int (nI (6 * k))), none, none] [] := by
  obtain ⟨hE, hT, hX, hbl, hbA, hL⟩ := id hl
  obtain ⟨hC, hM, u, ma, ow, sc, R, gn, rfl, dC, dM, hb, rfl, hMM, hMS, hI, hgn⟩ := hI0
  have hk9 : k ≤ 511 := by omega
  have hcap := hI.cap
  have hI9 : iI (iff0 (fLamp S (xs (6 * k + 1))) (S) S) (k + 1) := iI_iff hI (fun hf => hI.up)
  have hcap9 := hI9.cap
  have hmono : s_n S ≤ s_n (iff0 (fLamp S (xs (6 * k + 1))) (S) S) := iff0_n' rfl
  have hfle : fLamp S (xs (6 * k + 1)) ≤ 2 := fLamp_le
  refine x_aload_n hE dL_law_890 rfl rfl ?_
  refine x_aload_n hE dL_law_891 rfl rfl ?_
  refine x_iload hE dL_law_892 rfl ?_
  refine x_iconst (v := nI 1) hE dL_law_894 (by decide) ?_
  refine x_iadd hE dL_law_895 ?_
  refine x_ieq (y := nI (6 * k + 1)) (nI_add _ _) ?_
  refine x_sld hE hX hbl hbA (j := (6 * k + 1)) (by omega) (by omega) dL_law_896 ?_
  refine x_aload_n hE dL_law_897 rfl rfl ?_
  have hcw : ∀ A : Nat → Prop, y_M (reG G A) yL_levelAnew wsL_levelAnew ({ frames := 7, cells := s_n (iff0 (fLamp S (xs (6 * k + 1))) (S) S) - s_n S + 4, slots := 3 * (s_n (iff0 (fLamp S (xs (6 * k + 1))) (S) S) - s_n S) + 57, locals := 132 } : Room) [.ref xa, .int (xs (6 * k + 1)), .ref oa] (jn hC (oM G oa u)) (wP G xa oa (fLamp S (xs (6 * k + 1))) ((nI (levS S (s_G S) (xs (6 * k + 1)).toNatClampNeg).toNat).toInt64) (iff0 (fLamp S (xs (6 * k + 1))) (S) S)) (fun _ => False) (s_n (iff0 (fLamp S (xs (6 * k + 1))) (S) S) - s_n S + 4) (3 * (s_n (iff0 (fLamp S (xs (6 * k + 1))) (S) S) - s_n S) + 57) := fun A => c_L_levelAnew (reG G A) hb dC hI hk9 (xs (6 * k + 1))
  refine z_callW (st := []) (a := CC k S) (b := SS k S) hE hT 3 hcw dM gL_law_L_levelAnew rfl rfl rfl (by decide +kernel) ⟨(Nat.le_of_ble_eq_true rfl), (Nat.le_of_ble_eq_true rfl)⟩ rfl rfl dL_law_898 rfl (Nat.le_of_ble_eq_true rfl) ⟨by show CC k S + (s_n (iff0 (fLamp S (xs (6 * k + 1))) (S) S) - s_n S + 4) ≤ 601024; unfold CC; omega, by show SS k S + (3 * (s_n (iff0 (fLamp S (xs (6 * k + 1))) (S) S) - s_n S) + 57) ≤ 7293034; unfold SS; omega⟩ (fun v h9 hp d9 => ?_)
  obtain ⟨rfl, hC9, u9, rfl, dC9, hb9, hu9⟩ := hp
  refine x_istore (L' := [some (.ref b), some (.ref xa), some (.ref (ma 30)), some (.ref oa), some (.int (nI (6 * k))), some (.int (nI (fLamp S (xs (6 * k + 1))))), none]) hE dL_law_901 (Nat.le_of_ble_eq_true rfl) rfl ?_
  refine x_aload_n hE dL_law_903 rfl rfl ?_
  refine x_aload_n hE dL_law_904 rfl rfl ?_
  refine x_iload hE dL_law_905 rfl ?_
  refine x_iconst (v := nI 1) hE dL_law_907 (by decide) ?_
  refine x_iadd hE dL_law_908 ?_
  refine x_ieq (y := nI (6 * k + 1)) (nI_add _ _) ?_
  refine x_sld hE hX hbl hbA (j := (6 * k + 1)) (by omega) (by omega) dL_law_909 ?_
  refine x_heq (jn_comm d9) ?_
  have hcx : ∀ A : Nat → Prop, x_M (reG G A) yX8_levelAnew wsX8_levelAnew ({ frames := 5, cells := 0, slots := 0, locals := 116 } : Room) [.ref (ma 30), .int (xs (6 * k + 1))] hM (mP G ma ow (fLamp S (xs (6 * k + 1))) (nI (levS S (s_G S) (xs (6 * k + 1)).toNatClampNeg).toNat) (iff0 (fLamp S (xs (6 * k + 1))) (S) S) (gn)) 0 0 := fun A => c_X8_levelAnew (reG G A) hMM hMS hI.1.mI (show gn ≤ 2 ^ 30 by omega) (xs (6 * k + 1))
  refine z_callV (ci := 8) (st := []) hE 1 hcx d9.symm gL_law_X8_levelAnew rfl rfl rfl (by decide +kernel) ⟨(Nat.le_of_ble_eq_true rfl), (Nat.le_of_ble_eq_true rfl)⟩ hMM.o rfl rfl rfl dL_law_910 rfl (Nat.le_of_ble_eq_true rfl) ⟨by show CC k S + (s_n (iff0 (fLamp S (xs (6 * k + 1))) (S) S) - s_n S + 4) + 0 ≤ 601024; unfold CC; omega, by show SS k S + (3 * (s_n (iff0 (fLamp S (xs (6 * k + 1))) (S) S) - s_n S) + 57) + 0 ≤ 7293034; unfold SS; omega⟩ (fun v h10 hp d10 => ?_)
  obtain ⟨⟨y, rfl, hy⟩, R', sc', gn', hM', hS', e28, hg'⟩ := hp
  refine x_istore (L' := [some (.ref b), some (.ref xa), some (.ref (ma 30)), some (.ref oa), some (.int (nI (6 * k))), some (.int (nI (fLamp S (xs (6 * k + 1))))), some (.int y)]) hE dL_law_913 (Nat.le_of_ble_eq_true rfl) rfl ?_
  refine x_aload_n hE dL_law_915 rfl rfl ?_
  have hct : ∀ A : Nat → Prop, x_M (reG G A) yX8_thrown wsX8_thrown ({ frames := 0, cells := 0, slots := 0, locals := 0 } : Room) [.ref (ma 30)] h10 (x_is (some (.int (sc' 28))) h10) 0 0 := fun A => c_X8_thrown (reG G A) hM'
  refine z_callV (ci := 8) (st := []) hE 0 hct d10 gL_law_X8_thrown rfl rfl rfl (by decide +kernel) ⟨(Nat.le_of_ble_eq_true rfl), (Nat.le_of_ble_eq_true rfl)⟩ hM'.o rfl rfl rfl dL_law_916 rfl (Nat.le_of_ble_eq_true rfl) ⟨by show CC k S + (s_n (iff0 (fLamp S (xs (6 * k + 1))) (S) S) - s_n S + 4) + 0 + 0 ≤ 601024; unfold CC; omega, by show SS k S + (3 * (s_n (iff0 (fLamp S (xs (6 * k + 1))) (S) S) - s_n S) + 57) + 0 + 0 ≤ 7293034; unfold SS; omega⟩ (fun v h11 hp d11 => ?_)
  obtain ⟨rfl, rfl⟩ := hp
  refine x_ieq (y := nI (fLamp S (xs (6 * k + 1)))) (e28) ?_
  refine x_iload hE dL_law_919 rfl ?_
  refine x_icmp_eq (tgt := 926) hE dL_law_921 (by decide) (fun c921 => ?_) (fun c921 => ?_)
  · refine x_iload hE dL_law_926 rfl ?_
    refine x_if_ne (tgt := 943) hE dL_law_928 (by decide) (fun c928 => ?_) (fun c928 => ?_)
    · refine x_goto (tgt := 1275) hE dL_law_943 (by decide) ?_
      refine x_heq (jn_comm d10) ?_
      refine x_widen (k := CC (k + 1) (iff0 (fLamp S (xs (6 * k + 1))) (S) S)) (n := SS (k + 1) (iff0 (fLamp S (xs (6 * k + 1))) (S) S)) (by unfold CC; omega) (by unfold SS; omega) ?_
      refine x_forget (L' := [some (.ref b), some (.ref xa), some (.ref (ma 30)), some (.ref oa), some (.int (nI (6 * k))), none, none]) (And.intro rfl (And.intro rfl (And.intro rfl (And.intro rfl (And.intro rfl trivial))))) ?_
      exact kk (iff0 (fLamp S (xs (6 * k + 1))) (S) S) _ ⟨hC9, h10, u9, ma, ow, sc', R', gn', rfl, dC9, d10.symm, hb9, rfl, hM', hS', hI9, by omega⟩
    · have hf : fLamp S (xs (6 * k + 1)) = 0 := nI_f0 hfle c928
      have hy1 := hy hf
      have hw1 := hu9 hf
      refine x_aload_n hE dL_law_931 rfl rfl ?_
      refine x_iconst (v := nI 0) hE dL_law_932 (by decide) ?_
      refine x_lald (v := (nI (levS S (s_G S) (xs (6 * k + 1)).toNatClampNeg).toNat).toInt64) hE (jn_r d10 (jn_r dC9 oM_at)) zin0 (by rw [zcl0]; exact hw1) dL_law_933 ?_
      refine x_iload hE dL_law_934 rfl ?_
      refine x_i2l hE dL_law_936 ?_
      refine x_lcmp hE dL_law_937 ?_
      refine x_ieq (y := nI 0) (by rw [hy1]; exact lg_self _) ?_
      refine x_if_eq (tgt := 943) hE dL_law_938 (by decide) (fun c938 => ?_) (fun c938 => ?_)
      · refine x_goto (tgt := 1275) hE dL_law_943 (by decide) ?_
        refine x_heq (jn_comm d10) ?_
        refine x_widen (k := CC (k + 1) (iff0 (fLamp S (xs (6 * k + 1))) (S) S)) (n := SS (k + 1) (iff0 (fLamp S (xs (6 * k + 1))) (S) S)) (by unfold CC; omega) (by unfold SS; omega) ?_
        refine x_forget (L' := [some (.ref b), some (.ref xa), some (.ref (ma 30)), some (.ref oa), some (.int (nI (6 * k))), none, none]) (And.intro rfl (And.intro rfl (And.intro rfl (And.intro rfl (And.intro rfl trivial))))) ?_
        exact kk (iff0 (fLamp S (xs (6 * k + 1))) (S) S) _ ⟨hC9, h10, u9, ma, ow, sc', R', gn', rfl, dC9, d10.symm, hb9, rfl, hM', hS', hI9, by omega⟩
      · exact absurd rfl c938
  · exact absurd rfl c921
set_option maxHeartbeats 4000000 in
set_option maxRecDepth 100000 in
theorem case_loadOf (G : XG) {F : XF} {b L : Nat} {xs : Nat → Int32} (hl : lwE G F b L xs) {Q : State → Prop} {k : Nat} (hk : 6 * k + 6 ≤ L) {xa m oa : Nat} {S : PS} {h : HM} (hI0 : lI G xa m oa k S h) (kk : ∀ (S1 : PS) (h1 : HM), lI G xa m oa (k + 1) S1 h1 → x_W G F Q (CC (k + 1) S1) (SS (k + 1) S1) h1 1275 [some (.ref b), some (.ref xa), some (.ref m), some (.ref oa), some (.int (nI (6 * k))), none, none] []) : x_W G F Q (CC k S) (SS k S) h 946 [some (.ref b), some (.ref xa), some (.ref m), some (.ref oa), some (.int (nI (6 * k))), none, none] [] := by
  obtain ⟨hE, hT, hX, hbl, hbA, hL⟩ := id hl
  obtain ⟨hC, hM, u, ma, ow, sc, R, gn, rfl, dC, dM, hb, rfl, hMM, hMS, hI, hgn⟩ := hI0
  have hk9 : k ≤ 511 := by omega
  have hcap := hI.cap
  have hI9 : iI (iff0 (fPhase (xs (6 * k + 1))) (S) S) (k + 1) := iI_iff hI (fun hf => hI.up)
  have hcap9 := hI9.cap
  have hmono : s_n S ≤ s_n (iff0 (fPhase (xs (6 * k + 1))) (S) S) := iff0_n' rfl
  have hfle : fPhase (xs (6 * k + 1)) ≤ 2 := fPhase_le
  refine x_aload_n hE dL_law_946 rfl rfl ?_
  refine x_aload_n hE dL_law_947 rfl rfl ?_
  refine x_iload hE dL_law_948 rfl ?_
  refine x_iconst (v := nI 1) hE dL_law_950 (by decide) ?_
  refine x_iadd hE dL_law_951 ?_
  refine x_ieq (y := nI (6 * k + 1)) (nI_add _ _) ?_
  refine x_sld hE hX hbl hbA (j := (6 * k + 1)) (by omega) (by omega) dL_law_952 ?_
  refine x_aload_n hE dL_law_953 rfl rfl ?_
  have hcw : ∀ A : Nat → Prop, y_M (reG G A) yL_loadOf wsL_loadOf ({ frames := 7, cells := s_n (iff0 (fPhase (xs (6 * k + 1))) (S) S) - s_n S + 4, slots := 3 * (s_n (iff0 (fPhase (xs (6 * k + 1))) (S) S) - s_n S) + 57, locals := 114 } : Room) [.ref xa, .int (xs (6 * k + 1)), .ref oa] (jn hC (oM G oa u)) (wP G xa oa (fPhase (xs (6 * k + 1))) ((nI (ldN (s_ar S) (s_L S) (s_B S) (s_t S) (s_G S) (xs (6 * k + 1)) 16).toNat).toInt64) (iff0 (fPhase (xs (6 * k + 1))) (S) S)) (fun _ => False) (s_n (iff0 (fPhase (xs (6 * k + 1))) (S) S) - s_n S + 4) (3 * (s_n (iff0 (fPhase (xs (6 * k + 1))) (S) S) - s_n S) + 57) := fun A => c_L_loadOf (reG G A) hb dC hI hk9 (xs (6 * k + 1))
  refine z_callW (st := []) (a := CC k S) (b := SS k S) hE hT 3 hcw dM gL_law_L_loadOf rfl rfl rfl (by decide +kernel) ⟨(Nat.le_of_ble_eq_true rfl), (Nat.le_of_ble_eq_true rfl)⟩ rfl rfl dL_law_954 rfl (Nat.le_of_ble_eq_true rfl) ⟨by show CC k S + (s_n (iff0 (fPhase (xs (6 * k + 1))) (S) S) - s_n S + 4) ≤ 601024; unfold CC; omega, by show SS k S + (3 * (s_n (iff0 (fPhase (xs (6 * k + 1))) (S) S) - s_n S) + 57) ≤ 7293034; unfold SS; omega⟩ (fun v h9 hp d9 => ?_)
  obtain ⟨rfl, hC9, u9, rfl, dC9, hb9, hu9⟩ := hp
  refine x_istore (L' := [some (.ref b), some (.ref xa), some (.ref (ma 30)), some (.ref oa), some (.int (nI (6 * k))), some (.int (nI (fPhase (xs (6 * k + 1))))), none]) hE dL_law_957 (Nat.le_of_ble_eq_true rfl) rfl ?_
  refine x_aload_n hE dL_law_959 rfl rfl ?_
  refine x_aload_n hE dL_law_960 rfl rfl ?_
  refine x_iload hE dL_law_961 rfl ?_
  refine x_iconst (v := nI 1) hE dL_law_963 (by decide) ?_
  refine x_iadd hE dL_law_964 ?_
  refine x_ieq (y := nI (6 * k + 1)) (nI_add _ _) ?_
  refine x_sld hE hX hbl hbA (j := (6 * k + 1)) (by omega) (by omega) dL_law_965 ?_
  refine x_heq (jn_comm d9) ?_
  have hcx : ∀ A : Nat → Prop, x_M (reG G A) yX8_loadOf wsX8_loadOf ({ frames := 6, cells := 0, slots := 0, locals := 139 } : Room) [.ref (ma 30), .int (xs (6 * k + 1))] hM (mP G ma ow (fPhase (xs (6 * k + 1))) (nI (ldN (s_ar S) (s_L S) (s_B S) (s_t S) (s_G S) (xs (6 * k + 1)) 16).toNat) (iff0 (fPhase (xs (6 * k + 1))) (S) S) (gn)) 0 0 := fun A => c_X8_loadOf (reG G A) hMM hMS hI.1.mI (show gn ≤ 2 ^ 30 by omega) (xs (6 * k + 1))
  refine z_callV (ci := 8) (st := []) hE 1 hcx d9.symm gL_law_X8_loadOf rfl rfl rfl (by decide +kernel) ⟨(Nat.le_of_ble_eq_true rfl), (Nat.le_of_ble_eq_true rfl)⟩ hMM.o rfl rfl rfl dL_law_966 rfl (Nat.le_of_ble_eq_true rfl) ⟨by show CC k S + (s_n (iff0 (fPhase (xs (6 * k + 1))) (S) S) - s_n S + 4) + 0 ≤ 601024; unfold CC; omega, by show SS k S + (3 * (s_n (iff0 (fPhase (xs (6 * k + 1))) (S) S) - s_n S) + 57) + 0 ≤ 7293034; unfold SS; omega⟩ (fun v h10 hp d10 => ?_)
  obtain ⟨⟨y, rfl, hy⟩, R', sc', gn', hM', hS', e28, hg'⟩ := hp
  refine x_istore (L' := [some (.ref b), some (.ref xa), some (.ref (ma 30)), some (.ref oa), some (.int (nI (6 * k))), some (.int (nI (fPhase (xs (6 * k + 1))))), some (.int y)]) hE dL_law_969 (Nat.le_of_ble_eq_true rfl) rfl ?_
  refine x_aload_n hE dL_law_971 rfl rfl ?_
  have hct : ∀ A : Nat → Prop, x_M (reG G A) yX8_thrown wsX8_thrown ({ frames := 0, cells := 0, slots := 0, locals := 0 } : Room) [.ref (ma 30)] h10 (x_is (some (.int (sc' 28))) h10) 0 0 := fun A => c_X8_thrown (reG G A) hM'
  refine z_callV (ci := 8) (st := []) hE 0 hct d10 gL_law_X8_thrown rfl rfl rfl (by decide +kernel) ⟨(Nat.le_of_ble_eq_true rfl), (Nat.le_of_ble_eq_true rfl)⟩ hM'.o rfl rfl rfl dL_law_972 rfl (Nat.le_of_ble_eq_true rfl) ⟨by show CC k S + (s_n (iff0 (fPhase (xs (6 * k + 1))) (S) S) - s_n S + 4) + 0 + 0 ≤ 601024; unfold CC; omega, by show SS k S + (3 * (s_n (iff0 (fPhase (xs (6 * k + 1))) (S) S) - s_n S) + 57) + 0 + 0 ≤ 7293034; unfold SS; omega⟩ (fun v h11 hp d11 => ?_)
  obtain ⟨rfl, rfl⟩ := hp
  refine x_ieq (y := nI (fPhase (xs (6 * k + 1)))) (e28) ?_
  refine x_iload hE dL_law_975 rfl ?_
  refine x_icmp_eq (tgt := 982) hE dL_law_977 (by decide) (fun c977 => ?_) (fun c977 => ?_)
  · refine x_iload hE dL_law_982 rfl ?_
    refine x_if_ne (tgt := 999) hE dL_law_984 (by decide) (fun c984 => ?_) (fun c984 => ?_)
    · refine x_goto (tgt := 1275) hE dL_law_999 (by decide) ?_
      refine x_heq (jn_comm d10) ?_
      refine x_widen (k := CC (k + 1) (iff0 (fPhase (xs (6 * k + 1))) (S) S)) (n := SS (k + 1) (iff0 (fPhase (xs (6 * k + 1))) (S) S)) (by unfold CC; omega) (by unfold SS; omega) ?_
      refine x_forget (L' := [some (.ref b), some (.ref xa), some (.ref (ma 30)), some (.ref oa), some (.int (nI (6 * k))), none, none]) (And.intro rfl (And.intro rfl (And.intro rfl (And.intro rfl (And.intro rfl trivial))))) ?_
      exact kk (iff0 (fPhase (xs (6 * k + 1))) (S) S) _ ⟨hC9, h10, u9, ma, ow, sc', R', gn', rfl, dC9, d10.symm, hb9, rfl, hM', hS', hI9, by omega⟩
    · have hf : fPhase (xs (6 * k + 1)) = 0 := nI_f0 hfle c984
      have hy1 := hy hf
      have hw1 := hu9 hf
      refine x_aload_n hE dL_law_987 rfl rfl ?_
      refine x_iconst (v := nI 0) hE dL_law_988 (by decide) ?_
      refine x_lald (v := (nI (ldN (s_ar S) (s_L S) (s_B S) (s_t S) (s_G S) (xs (6 * k + 1)) 16).toNat).toInt64) hE (jn_r d10 (jn_r dC9 oM_at)) zin0 (by rw [zcl0]; exact hw1) dL_law_989 ?_
      refine x_iload hE dL_law_990 rfl ?_
      refine x_i2l hE dL_law_992 ?_
      refine x_lcmp hE dL_law_993 ?_
      refine x_ieq (y := nI 0) (by rw [hy1]; exact lg_self _) ?_
      refine x_if_eq (tgt := 999) hE dL_law_994 (by decide) (fun c994 => ?_) (fun c994 => ?_)
      · refine x_goto (tgt := 1275) hE dL_law_999 (by decide) ?_
        refine x_heq (jn_comm d10) ?_
        refine x_widen (k := CC (k + 1) (iff0 (fPhase (xs (6 * k + 1))) (S) S)) (n := SS (k + 1) (iff0 (fPhase (xs (6 * k + 1))) (S) S)) (by unfold CC; omega) (by unfold SS; omega) ?_
        refine x_forget (L' := [some (.ref b), some (.ref xa), some (.ref (ma 30)), some (.ref oa), some (.int (nI (6 * k))), none, none]) (And.intro rfl (And.intro rfl (And.intro rfl (And.intro rfl (And.intro rfl trivial))))) ?_
        exact kk (iff0 (fPhase (xs (6 * k + 1))) (S) S) _ ⟨hC9, h10, u9, ma, ow, sc', R', gn', rfl, dC9, d10.symm, hb9, rfl, hM', hS', hI9, by omega⟩
      · exact absurd rfl c994
  · exact absurd rfl c977
set_option maxHeartbeats 4000000 in
set_option maxRecDepth 100000 in
theorem case_watts (G : XG) {F : XF} {b L : Nat} {xs : Nat → Int32} (hl : lwE G F b L xs) {Q : State → Prop} {k : Nat} (hk : 6 * k + 6 ≤ L) {xa m oa : Nat} {S : PS} {h : HM} (hI0 : lI G xa m oa k S h) (kk : ∀ (S1 : PS) (h1 : HM), lI G xa m oa (k + 1) S1 h1 → x_W G F Q (CC (k + 1) S1) (SS (k + 1) S1) h1 1275 [some (.ref b), some (.ref xa), some (.ref m), some (.ref oa), some (.int (nI (6 * k))), none, none] []) : x_W G F Q (CC k S) (SS k S) h 1002 [some (.ref b), some (.ref xa), some (.ref m), some (.ref oa), some (.int (nI (6 * k))), none, none] [] := by
  obtain ⟨hE, hT, hX, hbl, hbA, hL⟩ := id hl
  obtain ⟨hC, hM, u, ma, ow, sc, R, gn, rfl, dC, dM, hb, rfl, hMM, hMS, hI, hgn⟩ := hI0
  have hk9 : k ≤ 511 := by omega
  have hcap := hI.cap
  have hI9 : iI (iff0 (fPhase (xs (6 * k + 1))) (S) S) (k + 1) := iI_iff hI (fun hf => hI.up)
  have hcap9 := hI9.cap
  have hmono : s_n S ≤ s_n (iff0 (fPhase (xs (6 * k + 1))) (S) S) := iff0_n' rfl
  have hfle : fPhase (xs (6 * k + 1)) ≤ 2 := fPhase_le
  refine x_aload_n hE dL_law_1002 rfl rfl ?_
  refine x_aload_n hE dL_law_1003 rfl rfl ?_
  refine x_iload hE dL_law_1004 rfl ?_
  refine x_iconst (v := nI 1) hE dL_law_1006 (by decide) ?_
  refine x_iadd hE dL_law_1007 ?_
  refine x_ieq (y := nI (6 * k + 1)) (nI_add _ _) ?_
  refine x_sld hE hX hbl hbA (j := (6 * k + 1)) (by omega) (by omega) dL_law_1008 ?_
  refine x_aload_n hE dL_law_1009 rfl rfl ?_
  have hcw : ∀ A : Nat → Prop, y_M (reG G A) yL_watts wsL_watts ({ frames := 7, cells := s_n (iff0 (fPhase (xs (6 * k + 1))) (S) S) - s_n S + 4, slots := 3 * (s_n (iff0 (fPhase (xs (6 * k + 1))) (S) S) - s_n S) + 57, locals := 114 } : Room) [.ref xa, .int (xs (6 * k + 1)), .ref oa] (jn hC (oM G oa u)) (wP G xa oa (fPhase (xs (6 * k + 1))) ((FP.f2i (ldN (s_ar S) (s_L S) (s_B S) (s_t S) (s_G S) (xs (6 * k + 1)) 16)).toInt64) (iff0 (fPhase (xs (6 * k + 1))) (S) S)) (fun _ => False) (s_n (iff0 (fPhase (xs (6 * k + 1))) (S) S) - s_n S + 4) (3 * (s_n (iff0 (fPhase (xs (6 * k + 1))) (S) S) - s_n S) + 57) := fun A => c_L_watts (reG G A) hb dC hI hk9 (xs (6 * k + 1))
  refine z_callW (st := []) (a := CC k S) (b := SS k S) hE hT 3 hcw dM gL_law_L_watts rfl rfl rfl (by decide +kernel) ⟨(Nat.le_of_ble_eq_true rfl), (Nat.le_of_ble_eq_true rfl)⟩ rfl rfl dL_law_1010 rfl (Nat.le_of_ble_eq_true rfl) ⟨by show CC k S + (s_n (iff0 (fPhase (xs (6 * k + 1))) (S) S) - s_n S + 4) ≤ 601024; unfold CC; omega, by show SS k S + (3 * (s_n (iff0 (fPhase (xs (6 * k + 1))) (S) S) - s_n S) + 57) ≤ 7293034; unfold SS; omega⟩ (fun v h9 hp d9 => ?_)
  obtain ⟨rfl, hC9, u9, rfl, dC9, hb9, hu9⟩ := hp
  refine x_istore (L' := [some (.ref b), some (.ref xa), some (.ref (ma 30)), some (.ref oa), some (.int (nI (6 * k))), some (.int (nI (fPhase (xs (6 * k + 1))))), none]) hE dL_law_1013 (Nat.le_of_ble_eq_true rfl) rfl ?_
  refine x_aload_n hE dL_law_1015 rfl rfl ?_
  refine x_aload_n hE dL_law_1016 rfl rfl ?_
  refine x_iload hE dL_law_1017 rfl ?_
  refine x_iconst (v := nI 1) hE dL_law_1019 (by decide) ?_
  refine x_iadd hE dL_law_1020 ?_
  refine x_ieq (y := nI (6 * k + 1)) (nI_add _ _) ?_
  refine x_sld hE hX hbl hbA (j := (6 * k + 1)) (by omega) (by omega) dL_law_1021 ?_
  refine x_heq (jn_comm d9) ?_
  have hcx : ∀ A : Nat → Prop, x_M (reG G A) yX8_watts wsX8_watts ({ frames := 6, cells := 0, slots := 0, locals := 139 } : Room) [.ref (ma 30), .int (xs (6 * k + 1))] hM (mP G ma ow (fPhase (xs (6 * k + 1))) (FP.f2i (ldN (s_ar S) (s_L S) (s_B S) (s_t S) (s_G S) (xs (6 * k + 1)) 16)) (iff0 (fPhase (xs (6 * k + 1))) (S) S) (gn)) 0 0 := fun A => c_X8_watts (reG G A) hMM hMS hI.1.mI (show gn ≤ 2 ^ 30 by omega) (xs (6 * k + 1))
  refine z_callV (ci := 8) (st := []) hE 1 hcx d9.symm gL_law_X8_watts rfl rfl rfl (by decide +kernel) ⟨(Nat.le_of_ble_eq_true rfl), (Nat.le_of_ble_eq_true rfl)⟩ hMM.o rfl rfl rfl dL_law_1022 rfl (Nat.le_of_ble_eq_true rfl) ⟨by show CC k S + (s_n (iff0 (fPhase (xs (6 * k + 1))) (S) S) - s_n S + 4) + 0 ≤ 601024; unfold CC; omega, by show SS k S + (3 * (s_n (iff0 (fPhase (xs (6 * k + 1))) (S) S) - s_n S) + 57) + 0 ≤ 7293034; unfold SS; omega⟩ (fun v h10 hp d10 => ?_)
  obtain ⟨⟨y, rfl, hy⟩, R', sc', gn', hM', hS', e28, hg'⟩ := hp
  refine x_istore (L' := [some (.ref b), some (.ref xa), some (.ref (ma 30)), some (.ref oa), some (.int (nI (6 * k))), some (.int (nI (fPhase (xs (6 * k + 1))))), some (.int y)]) hE dL_law_1025 (Nat.le_of_ble_eq_true rfl) rfl ?_
  refine x_aload_n hE dL_law_1027 rfl rfl ?_
  have hct : ∀ A : Nat → Prop, x_M (reG G A) yX8_thrown wsX8_thrown ({ frames := 0, cells := 0, slots := 0, locals := 0 } : Room) [.ref (ma 30)] h10 (x_is (some (.int (sc' 28))) h10) 0 0 := fun A => c_X8_thrown (reG G A) hM'
  refine z_callV (ci := 8) (st := []) hE 0 hct d10 gL_law_X8_thrown rfl rfl rfl (by decide +kernel) ⟨(Nat.le_of_ble_eq_true rfl), (Nat.le_of_ble_eq_true rfl)⟩ hM'.o rfl rfl rfl dL_law_1028 rfl (Nat.le_of_ble_eq_true rfl) ⟨by show CC k S + (s_n (iff0 (fPhase (xs (6 * k + 1))) (S) S) - s_n S + 4) + 0 + 0 ≤ 601024; unfold CC; omega, by show SS k S + (3 * (s_n (iff0 (fPhase (xs (6 * k + 1))) (S) S) - s_n S) + 57) + 0 + 0 ≤ 7293034; unfold SS; omega⟩ (fun v h11 hp d11 => ?_)
  obtain ⟨rfl, rfl⟩ := hp
  refine x_ieq (y := nI (fPhase (xs (6 * k + 1)))) (e28) ?_
  refine x_iload hE dL_law_1031 rfl ?_
  refine x_icmp_eq (tgt := 1038) hE dL_law_1033 (by decide) (fun c1033 => ?_) (fun c1033 => ?_)
  · refine x_iload hE dL_law_1038 rfl ?_
    refine x_if_ne (tgt := 1055) hE dL_law_1040 (by decide) (fun c1040 => ?_) (fun c1040 => ?_)
    · refine x_goto (tgt := 1275) hE dL_law_1055 (by decide) ?_
      refine x_heq (jn_comm d10) ?_
      refine x_widen (k := CC (k + 1) (iff0 (fPhase (xs (6 * k + 1))) (S) S)) (n := SS (k + 1) (iff0 (fPhase (xs (6 * k + 1))) (S) S)) (by unfold CC; omega) (by unfold SS; omega) ?_
      refine x_forget (L' := [some (.ref b), some (.ref xa), some (.ref (ma 30)), some (.ref oa), some (.int (nI (6 * k))), none, none]) (And.intro rfl (And.intro rfl (And.intro rfl (And.intro rfl (And.intro rfl trivial))))) ?_
      exact kk (iff0 (fPhase (xs (6 * k + 1))) (S) S) _ ⟨hC9, h10, u9, ma, ow, sc', R', gn', rfl, dC9, d10.symm, hb9, rfl, hM', hS', hI9, by omega⟩
    · have hf : fPhase (xs (6 * k + 1)) = 0 := nI_f0 hfle c1040
      have hy1 := hy hf
      have hw1 := hu9 hf
      refine x_aload_n hE dL_law_1043 rfl rfl ?_
      refine x_iconst (v := nI 0) hE dL_law_1044 (by decide) ?_
      refine x_lald (v := (FP.f2i (ldN (s_ar S) (s_L S) (s_B S) (s_t S) (s_G S) (xs (6 * k + 1)) 16)).toInt64) hE (jn_r d10 (jn_r dC9 oM_at)) zin0 (by rw [zcl0]; exact hw1) dL_law_1045 ?_
      refine x_iload hE dL_law_1046 rfl ?_
      refine x_i2l hE dL_law_1048 ?_
      refine x_lcmp hE dL_law_1049 ?_
      refine x_ieq (y := nI 0) (by rw [hy1]; exact lg_self _) ?_
      refine x_if_eq (tgt := 1055) hE dL_law_1050 (by decide) (fun c1050 => ?_) (fun c1050 => ?_)
      · refine x_goto (tgt := 1275) hE dL_law_1055 (by decide) ?_
        refine x_heq (jn_comm d10) ?_
        refine x_widen (k := CC (k + 1) (iff0 (fPhase (xs (6 * k + 1))) (S) S)) (n := SS (k + 1) (iff0 (fPhase (xs (6 * k + 1))) (S) S)) (by unfold CC; omega) (by unfold SS; omega) ?_
        refine x_forget (L' := [some (.ref b), some (.ref xa), some (.ref (ma 30)), some (.ref oa), some (.int (nI (6 * k))), none, none]) (And.intro rfl (And.intro rfl (And.intro rfl (And.intro rfl (And.intro rfl trivial))))) ?_
        exact kk (iff0 (fPhase (xs (6 * k + 1))) (S) S) _ ⟨hC9, h10, u9, ma, ow, sc', R', gn', rfl, dC9, d10.symm, hb9, rfl, hM', hS', hI9, by omega⟩
      · exact absurd rfl c1050
  · exact absurd rfl c1033
set_option maxHeartbeats 4000000 in
set_option maxRecDepth 100000 in
theorem case_asks (G : XG) {F : XF} {b L : Nat} {xs : Nat → Int32} (hl : lwE G F b L xs) {Q : State → Prop} {k : Nat} (hk : 6 * k + 6 ≤ L) {xa m oa : Nat} {S : PS} {h : HM} (hI0 : lI G xa m oa k S h) (kk : ∀ (S1 : PS) (h1 : HM), lI G xa m oa (k + 1) S1 h1 → x_W G F Q (CC (k + 1) S1) (SS (k + 1) S1) h1 1275 [some (.ref b), some (.ref xa), some (.ref m), some (.ref oa), some (.int (nI (6 * k))), none, none] []) : x_W G F Q (CC k S) (SS k S) h 1058 [some (.ref b), some (.ref xa), some (.ref m), some (.ref oa), some (.int (nI (6 * k))), none, none] [] := by
  obtain ⟨hE, hT, hX, hbl, hbA, hL⟩ := id hl
  obtain ⟨hC, hM, u, ma, ow, sc, R, gn, rfl, dC, dM, hb, rfl, hMM, hMS, hI, hgn⟩ := hI0
  have hk9 : k ≤ 511 := by omega
  have hcap := hI.cap
  have hI9 : iI (iff0 (fAsks S (xs (6 * k + 1)) (xs (6 * k + 2))) (S) S) (k + 1) := iI_iff hI (fun hf => hI.up)
  have hcap9 := hI9.cap
  have hmono : s_n S ≤ s_n (iff0 (fAsks S (xs (6 * k + 1)) (xs (6 * k + 2))) (S) S) := iff0_n' rfl
  have hfle : fAsks S (xs (6 * k + 1)) (xs (6 * k + 2)) ≤ 2 := fAsks_le
  refine x_aload_n hE dL_law_1058 rfl rfl ?_
  refine x_aload_n hE dL_law_1059 rfl rfl ?_
  refine x_iload hE dL_law_1060 rfl ?_
  refine x_iconst (v := nI 1) hE dL_law_1062 (by decide) ?_
  refine x_iadd hE dL_law_1063 ?_
  refine x_ieq (y := nI (6 * k + 1)) (nI_add _ _) ?_
  refine x_sld hE hX hbl hbA (j := (6 * k + 1)) (by omega) (by omega) dL_law_1064 ?_
  refine x_aload_n hE dL_law_1065 rfl rfl ?_
  refine x_iload hE dL_law_1066 rfl ?_
  refine x_iconst (v := nI 2) hE dL_law_1068 (by decide) ?_
  refine x_iadd hE dL_law_1069 ?_
  refine x_ieq (y := nI (6 * k + 2)) (nI_add _ _) ?_
  refine x_sld hE hX hbl hbA (j := (6 * k + 2)) (by omega) (by omega) dL_law_1070 ?_
  refine x_aload_n hE dL_law_1071 rfl rfl ?_
  have hcw : ∀ A : Nat → Prop, y_M (reG G A) yL_asks wsL_asks ({ frames := 7, cells := s_n (iff0 (fAsks S (xs (6 * k + 1)) (xs (6 * k + 2))) (S) S) - s_n S + 4, slots := 3 * (s_n (iff0 (fAsks S (xs (6 * k + 1)) (xs (6 * k + 2))) (S) S) - s_n S) + 57, locals := 114 } : Room) [.ref xa, .int (xs (6 * k + 1)), .int (xs (6 * k + 2)), .ref oa] (jn hC (oM G oa u)) (wP G xa oa (fAsks S (xs (6 * k + 1)) (xs (6 * k + 2))) ((askP (s_ar S) (s_L S) (s_B S) (s_G S) (xs (6 * k + 1)).toNatClampNeg (xs (6 * k + 2))).toInt64) (iff0 (fAsks S (xs (6 * k + 1)) (xs (6 * k + 2))) (S) S)) (fun _ => False) (s_n (iff0 (fAsks S (xs (6 * k + 1)) (xs (6 * k + 2))) (S) S) - s_n S + 4) (3 * (s_n (iff0 (fAsks S (xs (6 * k + 1)) (xs (6 * k + 2))) (S) S) - s_n S) + 57) := fun A => c_L_asks (reG G A) hb dC hI hk9 (xs (6 * k + 1)) (xs (6 * k + 2))
  refine z_callW (st := []) (a := CC k S) (b := SS k S) hE hT 4 hcw dM gL_law_L_asks rfl rfl rfl (by decide +kernel) ⟨(Nat.le_of_ble_eq_true rfl), (Nat.le_of_ble_eq_true rfl)⟩ rfl rfl dL_law_1072 rfl (Nat.le_of_ble_eq_true rfl) ⟨by show CC k S + (s_n (iff0 (fAsks S (xs (6 * k + 1)) (xs (6 * k + 2))) (S) S) - s_n S + 4) ≤ 601024; unfold CC; omega, by show SS k S + (3 * (s_n (iff0 (fAsks S (xs (6 * k + 1)) (xs (6 * k + 2))) (S) S) - s_n S) + 57) ≤ 7293034; unfold SS; omega⟩ (fun v h9 hp d9 => ?_)
  obtain ⟨rfl, hC9, u9, rfl, dC9, hb9, hu9⟩ := hp
  refine x_istore (L' := [some (.ref b), some (.ref xa), some (.ref (ma 30)), some (.ref oa), some (.int (nI (6 * k))), some (.int (nI (fAsks S (xs (6 * k + 1)) (xs (6 * k + 2))))), none]) hE dL_law_1075 (Nat.le_of_ble_eq_true rfl) rfl ?_
  refine x_aload_n hE dL_law_1077 rfl rfl ?_
  refine x_aload_n hE dL_law_1078 rfl rfl ?_
  refine x_iload hE dL_law_1079 rfl ?_
  refine x_iconst (v := nI 1) hE dL_law_1081 (by decide) ?_
  refine x_iadd hE dL_law_1082 ?_
  refine x_ieq (y := nI (6 * k + 1)) (nI_add _ _) ?_
  refine x_sld hE hX hbl hbA (j := (6 * k + 1)) (by omega) (by omega) dL_law_1083 ?_
  refine x_aload_n hE dL_law_1084 rfl rfl ?_
  refine x_iload hE dL_law_1085 rfl ?_
  refine x_iconst (v := nI 2) hE dL_law_1087 (by decide) ?_
  refine x_iadd hE dL_law_1088 ?_
  refine x_ieq (y := nI (6 * k + 2)) (nI_add _ _) ?_
  refine x_sld hE hX hbl hbA (j := (6 * k + 2)) (by omega) (by omega) dL_law_1089 ?_
  refine x_heq (jn_comm d9) ?_
  have hcx : ∀ A : Nat → Prop, x_M (reG G A) yX8_asks wsX8_asks ({ frames := 6, cells := 0, slots := 0, locals := 136 } : Room) [.ref (ma 30), .int (xs (6 * k + 1)), .int (xs (6 * k + 2))] hM (mP G ma ow (fAsks S (xs (6 * k + 1)) (xs (6 * k + 2))) (askP (s_ar S) (s_L S) (s_B S) (s_G S) (xs (6 * k + 1)).toNatClampNeg (xs (6 * k + 2))) (iff0 (fAsks S (xs (6 * k + 1)) (xs (6 * k + 2))) (S) S) (gn)) 0 0 := fun A => c_X8_asks (reG G A) hMM hMS hI.1.mI (xs (6 * k + 1)) (xs (6 * k + 2))
  refine z_callV (ci := 8) (st := []) hE 2 hcx d9.symm gL_law_X8_asks rfl rfl rfl (by decide +kernel) ⟨(Nat.le_of_ble_eq_true rfl), (Nat.le_of_ble_eq_true rfl)⟩ hMM.o rfl rfl rfl dL_law_1090 rfl (Nat.le_of_ble_eq_true rfl) ⟨by show CC k S + (s_n (iff0 (fAsks S (xs (6 * k + 1)) (xs (6 * k + 2))) (S) S) - s_n S + 4) + 0 ≤ 601024; unfold CC; omega, by show SS k S + (3 * (s_n (iff0 (fAsks S (xs (6 * k + 1)) (xs (6 * k + 2))) (S) S) - s_n S) + 57) + 0 ≤ 7293034; unfold SS; omega⟩ (fun v h10 hp d10 => ?_)
  obtain ⟨⟨y, rfl, hy⟩, R', sc', gn', hM', hS', e28, hg'⟩ := hp
  refine x_istore (L' := [some (.ref b), some (.ref xa), some (.ref (ma 30)), some (.ref oa), some (.int (nI (6 * k))), some (.int (nI (fAsks S (xs (6 * k + 1)) (xs (6 * k + 2))))), some (.int y)]) hE dL_law_1093 (Nat.le_of_ble_eq_true rfl) rfl ?_
  refine x_aload_n hE dL_law_1095 rfl rfl ?_
  have hct : ∀ A : Nat → Prop, x_M (reG G A) yX8_thrown wsX8_thrown ({ frames := 0, cells := 0, slots := 0, locals := 0 } : Room) [.ref (ma 30)] h10 (x_is (some (.int (sc' 28))) h10) 0 0 := fun A => c_X8_thrown (reG G A) hM'
  refine z_callV (ci := 8) (st := []) hE 0 hct d10 gL_law_X8_thrown rfl rfl rfl (by decide +kernel) ⟨(Nat.le_of_ble_eq_true rfl), (Nat.le_of_ble_eq_true rfl)⟩ hM'.o rfl rfl rfl dL_law_1096 rfl (Nat.le_of_ble_eq_true rfl) ⟨by show CC k S + (s_n (iff0 (fAsks S (xs (6 * k + 1)) (xs (6 * k + 2))) (S) S) - s_n S + 4) + 0 + 0 ≤ 601024; unfold CC; omega, by show SS k S + (3 * (s_n (iff0 (fAsks S (xs (6 * k + 1)) (xs (6 * k + 2))) (S) S) - s_n S) + 57) + 0 + 0 ≤ 7293034; unfold SS; omega⟩ (fun v h11 hp d11 => ?_)
  obtain ⟨rfl, rfl⟩ := hp
  refine x_ieq (y := nI (fAsks S (xs (6 * k + 1)) (xs (6 * k + 2)))) (e28) ?_
  refine x_iload hE dL_law_1099 rfl ?_
  refine x_icmp_eq (tgt := 1106) hE dL_law_1101 (by decide) (fun c1101 => ?_) (fun c1101 => ?_)
  · refine x_iload hE dL_law_1106 rfl ?_
    refine x_if_ne (tgt := 1123) hE dL_law_1108 (by decide) (fun c1108 => ?_) (fun c1108 => ?_)
    · refine x_goto (tgt := 1275) hE dL_law_1123 (by decide) ?_
      refine x_heq (jn_comm d10) ?_
      refine x_widen (k := CC (k + 1) (iff0 (fAsks S (xs (6 * k + 1)) (xs (6 * k + 2))) (S) S)) (n := SS (k + 1) (iff0 (fAsks S (xs (6 * k + 1)) (xs (6 * k + 2))) (S) S)) (by unfold CC; omega) (by unfold SS; omega) ?_
      refine x_forget (L' := [some (.ref b), some (.ref xa), some (.ref (ma 30)), some (.ref oa), some (.int (nI (6 * k))), none, none]) (And.intro rfl (And.intro rfl (And.intro rfl (And.intro rfl (And.intro rfl trivial))))) ?_
      exact kk (iff0 (fAsks S (xs (6 * k + 1)) (xs (6 * k + 2))) (S) S) _ ⟨hC9, h10, u9, ma, ow, sc', R', gn', rfl, dC9, d10.symm, hb9, rfl, hM', hS', hI9, by omega⟩
    · have hf : fAsks S (xs (6 * k + 1)) (xs (6 * k + 2)) = 0 := nI_f0 hfle c1108
      have hy1 := hy hf
      have hw1 := hu9 hf
      refine x_aload_n hE dL_law_1111 rfl rfl ?_
      refine x_iconst (v := nI 0) hE dL_law_1112 (by decide) ?_
      refine x_lald (v := (askP (s_ar S) (s_L S) (s_B S) (s_G S) (xs (6 * k + 1)).toNatClampNeg (xs (6 * k + 2))).toInt64) hE (jn_r d10 (jn_r dC9 oM_at)) zin0 (by rw [zcl0]; exact hw1) dL_law_1113 ?_
      refine x_iload hE dL_law_1114 rfl ?_
      refine x_i2l hE dL_law_1116 ?_
      refine x_lcmp hE dL_law_1117 ?_
      refine x_ieq (y := nI 0) (by rw [hy1]; exact lg_self _) ?_
      refine x_if_eq (tgt := 1123) hE dL_law_1118 (by decide) (fun c1118 => ?_) (fun c1118 => ?_)
      · refine x_goto (tgt := 1275) hE dL_law_1123 (by decide) ?_
        refine x_heq (jn_comm d10) ?_
        refine x_widen (k := CC (k + 1) (iff0 (fAsks S (xs (6 * k + 1)) (xs (6 * k + 2))) (S) S)) (n := SS (k + 1) (iff0 (fAsks S (xs (6 * k + 1)) (xs (6 * k + 2))) (S) S)) (by unfold CC; omega) (by unfold SS; omega) ?_
        refine x_forget (L' := [some (.ref b), some (.ref xa), some (.ref (ma 30)), some (.ref oa), some (.int (nI (6 * k))), none, none]) (And.intro rfl (And.intro rfl (And.intro rfl (And.intro rfl (And.intro rfl trivial))))) ?_
        exact kk (iff0 (fAsks S (xs (6 * k + 1)) (xs (6 * k + 2))) (S) S) _ ⟨hC9, h10, u9, ma, ow, sc', R', gn', rfl, dC9, d10.symm, hb9, rfl, hM', hS', hI9, by omega⟩
      · exact absurd rfl c1118
  · exact absurd rfl c1101
set_option maxHeartbeats 4000000 in
set_option maxRecDepth 100000 in
theorem case_shines (G : XG) {F : XF} {b L : Nat} {xs : Nat → Int32} (hl : lwE G F b L xs) {Q : State → Prop} {k : Nat} (hk : 6 * k + 6 ≤ L) {xa m oa : Nat} {S : PS} {h : HM} (hI0 : lI G xa m oa k S h) (kk : ∀ (S1 : PS) (h1 : HM), lI G xa m oa (k + 1) S1 h1 → x_W G F Q (CC (k + 1) S1) (SS (k + 1) S1) h1 1275 [some (.ref b), some (.ref xa), some (.ref m), some (.ref oa), some (.int (nI (6 * k))), none, none] []) : x_W G F Q (CC k S) (SS k S) h 1126 [some (.ref b), some (.ref xa), some (.ref m), some (.ref oa), some (.int (nI (6 * k))), none, none] [] := by
  obtain ⟨hE, hT, hX, hbl, hbA, hL⟩ := id hl
  obtain ⟨hC, hM, u, ma, ow, sc, R, gn, rfl, dC, dM, hb, rfl, hMM, hMS, hI, hgn⟩ := hI0
  have hk9 : k ≤ 511 := by omega
  have hcap := hI.cap
  have hI9 : iI (iff0 (fShines S (xs (6 * k + 1)) (xs (6 * k + 2))) (S) S) (k + 1) := iI_iff hI (fun hf => hI.up)
  have hcap9 := hI9.cap
  have hmono : s_n S ≤ s_n (iff0 (fShines S (xs (6 * k + 1)) (xs (6 * k + 2))) (S) S) := iff0_n' rfl
  have hfle : fShines S (xs (6 * k + 1)) (xs (6 * k + 2)) ≤ 2 := fShines_le
  refine x_aload_n hE dL_law_1126 rfl rfl ?_
  refine x_aload_n hE dL_law_1127 rfl rfl ?_
  refine x_iload hE dL_law_1128 rfl ?_
  refine x_iconst (v := nI 1) hE dL_law_1130 (by decide) ?_
  refine x_iadd hE dL_law_1131 ?_
  refine x_ieq (y := nI (6 * k + 1)) (nI_add _ _) ?_
  refine x_sld hE hX hbl hbA (j := (6 * k + 1)) (by omega) (by omega) dL_law_1132 ?_
  refine x_aload_n hE dL_law_1133 rfl rfl ?_
  refine x_iload hE dL_law_1134 rfl ?_
  refine x_iconst (v := nI 2) hE dL_law_1136 (by decide) ?_
  refine x_iadd hE dL_law_1137 ?_
  refine x_ieq (y := nI (6 * k + 2)) (nI_add _ _) ?_
  refine x_sld hE hX hbl hbA (j := (6 * k + 2)) (by omega) (by omega) dL_law_1138 ?_
  refine x_aload_n hE dL_law_1139 rfl rfl ?_
  have hcw : ∀ A : Nat → Prop, y_M (reG G A) yL_shines wsL_shines ({ frames := 7, cells := s_n (iff0 (fShines S (xs (6 * k + 1)) (xs (6 * k + 2))) (S) S) - s_n S + 4, slots := 3 * (s_n (iff0 (fShines S (xs (6 * k + 1)) (xs (6 * k + 2))) (S) S) - s_n S) + 57, locals := 113 } : Room) [.ref xa, .int (xs (6 * k + 1)), .int (xs (6 * k + 2)), .ref oa] (jn hC (oM G oa u)) (wP G xa oa (fShines S (xs (6 * k + 1)) (xs (6 * k + 2))) ((shiP S (xs (6 * k + 1)).toNatClampNeg (xs (6 * k + 2)).toNatClampNeg).toInt64) (iff0 (fShines S (xs (6 * k + 1)) (xs (6 * k + 2))) (S) S)) (fun _ => False) (s_n (iff0 (fShines S (xs (6 * k + 1)) (xs (6 * k + 2))) (S) S) - s_n S + 4) (3 * (s_n (iff0 (fShines S (xs (6 * k + 1)) (xs (6 * k + 2))) (S) S) - s_n S) + 57) := fun A => c_L_shines (reG G A) hb dC hI hk9 (xs (6 * k + 1)) (xs (6 * k + 2))
  refine z_callW (st := []) (a := CC k S) (b := SS k S) hE hT 4 hcw dM gL_law_L_shines rfl rfl rfl (by decide +kernel) ⟨(Nat.le_of_ble_eq_true rfl), (Nat.le_of_ble_eq_true rfl)⟩ rfl rfl dL_law_1140 rfl (Nat.le_of_ble_eq_true rfl) ⟨by show CC k S + (s_n (iff0 (fShines S (xs (6 * k + 1)) (xs (6 * k + 2))) (S) S) - s_n S + 4) ≤ 601024; unfold CC; omega, by show SS k S + (3 * (s_n (iff0 (fShines S (xs (6 * k + 1)) (xs (6 * k + 2))) (S) S) - s_n S) + 57) ≤ 7293034; unfold SS; omega⟩ (fun v h9 hp d9 => ?_)
  obtain ⟨rfl, hC9, u9, rfl, dC9, hb9, hu9⟩ := hp
  refine x_istore (L' := [some (.ref b), some (.ref xa), some (.ref (ma 30)), some (.ref oa), some (.int (nI (6 * k))), some (.int (nI (fShines S (xs (6 * k + 1)) (xs (6 * k + 2))))), none]) hE dL_law_1143 (Nat.le_of_ble_eq_true rfl) rfl ?_
  refine x_aload_n hE dL_law_1145 rfl rfl ?_
  refine x_aload_n hE dL_law_1146 rfl rfl ?_
  refine x_iload hE dL_law_1147 rfl ?_
  refine x_iconst (v := nI 1) hE dL_law_1149 (by decide) ?_
  refine x_iadd hE dL_law_1150 ?_
  refine x_ieq (y := nI (6 * k + 1)) (nI_add _ _) ?_
  refine x_sld hE hX hbl hbA (j := (6 * k + 1)) (by omega) (by omega) dL_law_1151 ?_
  refine x_aload_n hE dL_law_1152 rfl rfl ?_
  refine x_iload hE dL_law_1153 rfl ?_
  refine x_iconst (v := nI 2) hE dL_law_1155 (by decide) ?_
  refine x_iadd hE dL_law_1156 ?_
  refine x_ieq (y := nI (6 * k + 2)) (nI_add _ _) ?_
  refine x_sld hE hX hbl hbA (j := (6 * k + 2)) (by omega) (by omega) dL_law_1157 ?_
  refine x_heq (jn_comm d9) ?_
  have hcx : ∀ A : Nat → Prop, x_M (reG G A) yX8_shines wsX8_shines ({ frames := 4, cells := 0, slots := 0, locals := 90 } : Room) [.ref (ma 30), .int (xs (6 * k + 1)), .int (xs (6 * k + 2))] hM (mP G ma ow (fShines S (xs (6 * k + 1)) (xs (6 * k + 2))) (shiP S (xs (6 * k + 1)).toNatClampNeg (xs (6 * k + 2)).toNatClampNeg) (iff0 (fShines S (xs (6 * k + 1)) (xs (6 * k + 2))) (S) S) (gn)) 0 0 := fun A => c_X8_shines (reG G A) hMM hMS hI.1.mI (xs (6 * k + 1)) (xs (6 * k + 2))
  refine z_callV (ci := 8) (st := []) hE 2 hcx d9.symm gL_law_X8_shines rfl rfl rfl (by decide +kernel) ⟨(Nat.le_of_ble_eq_true rfl), (Nat.le_of_ble_eq_true rfl)⟩ hMM.o rfl rfl rfl dL_law_1158 rfl (Nat.le_of_ble_eq_true rfl) ⟨by show CC k S + (s_n (iff0 (fShines S (xs (6 * k + 1)) (xs (6 * k + 2))) (S) S) - s_n S + 4) + 0 ≤ 601024; unfold CC; omega, by show SS k S + (3 * (s_n (iff0 (fShines S (xs (6 * k + 1)) (xs (6 * k + 2))) (S) S) - s_n S) + 57) + 0 ≤ 7293034; unfold SS; omega⟩ (fun v h10 hp d10 => ?_)
  obtain ⟨⟨y, rfl, hy⟩, R', sc', gn', hM', hS', e28, hg'⟩ := hp
  refine x_istore (L' := [some (.ref b), some (.ref xa), some (.ref (ma 30)), some (.ref oa), some (.int (nI (6 * k))), some (.int (nI (fShines S (xs (6 * k + 1)) (xs (6 * k + 2))))), some (.int y)]) hE dL_law_1161 (Nat.le_of_ble_eq_true rfl) rfl ?_
  refine x_aload_n hE dL_law_1163 rfl rfl ?_
  have hct : ∀ A : Nat → Prop, x_M (reG G A) yX8_thrown wsX8_thrown ({ frames := 0, cells := 0, slots := 0, locals := 0 } : Room) [.ref (ma 30)] h10 (x_is (some (.int (sc' 28))) h10) 0 0 := fun A => c_X8_thrown (reG G A) hM'
  refine z_callV (ci := 8) (st := []) hE 0 hct d10 gL_law_X8_thrown rfl rfl rfl (by decide +kernel) ⟨(Nat.le_of_ble_eq_true rfl), (Nat.le_of_ble_eq_true rfl)⟩ hM'.o rfl rfl rfl dL_law_1164 rfl (Nat.le_of_ble_eq_true rfl) ⟨by show CC k S + (s_n (iff0 (fShines S (xs (6 * k + 1)) (xs (6 * k + 2))) (S) S) - s_n S + 4) + 0 + 0 ≤ 601024; unfold CC; omega, by show SS k S + (3 * (s_n (iff0 (fShines S (xs (6 * k + 1)) (xs (6 * k + 2))) (S) S) - s_n S) + 57) + 0 + 0 ≤ 7293034; unfold SS; omega⟩ (fun v h11 hp d11 => ?_)
  obtain ⟨rfl, rfl⟩ := hp
  refine x_ieq (y := nI (fShines S (xs (6 * k + 1)) (xs (6 * k + 2)))) (e28) ?_
  refine x_iload hE dL_law_1167 rfl ?_
  refine x_icmp_eq (tgt := 1174) hE dL_law_1169 (by decide) (fun c1169 => ?_) (fun c1169 => ?_)
  · refine x_iload hE dL_law_1174 rfl ?_
    refine x_if_ne (tgt := 1191) hE dL_law_1176 (by decide) (fun c1176 => ?_) (fun c1176 => ?_)
    · refine x_goto (tgt := 1275) hE dL_law_1191 (by decide) ?_
      refine x_heq (jn_comm d10) ?_
      refine x_widen (k := CC (k + 1) (iff0 (fShines S (xs (6 * k + 1)) (xs (6 * k + 2))) (S) S)) (n := SS (k + 1) (iff0 (fShines S (xs (6 * k + 1)) (xs (6 * k + 2))) (S) S)) (by unfold CC; omega) (by unfold SS; omega) ?_
      refine x_forget (L' := [some (.ref b), some (.ref xa), some (.ref (ma 30)), some (.ref oa), some (.int (nI (6 * k))), none, none]) (And.intro rfl (And.intro rfl (And.intro rfl (And.intro rfl (And.intro rfl trivial))))) ?_
      exact kk (iff0 (fShines S (xs (6 * k + 1)) (xs (6 * k + 2))) (S) S) _ ⟨hC9, h10, u9, ma, ow, sc', R', gn', rfl, dC9, d10.symm, hb9, rfl, hM', hS', hI9, by omega⟩
    · have hf : fShines S (xs (6 * k + 1)) (xs (6 * k + 2)) = 0 := nI_f0 hfle c1176
      have hy1 := hy hf
      have hw1 := hu9 hf
      refine x_aload_n hE dL_law_1179 rfl rfl ?_
      refine x_iconst (v := nI 0) hE dL_law_1180 (by decide) ?_
      refine x_lald (v := (shiP S (xs (6 * k + 1)).toNatClampNeg (xs (6 * k + 2)).toNatClampNeg).toInt64) hE (jn_r d10 (jn_r dC9 oM_at)) zin0 (by rw [zcl0]; exact hw1) dL_law_1181 ?_
      refine x_iload hE dL_law_1182 rfl ?_
      refine x_i2l hE dL_law_1184 ?_
      refine x_lcmp hE dL_law_1185 ?_
      refine x_ieq (y := nI 0) (by rw [hy1]; exact lg_self _) ?_
      refine x_if_eq (tgt := 1191) hE dL_law_1186 (by decide) (fun c1186 => ?_) (fun c1186 => ?_)
      · refine x_goto (tgt := 1275) hE dL_law_1191 (by decide) ?_
        refine x_heq (jn_comm d10) ?_
        refine x_widen (k := CC (k + 1) (iff0 (fShines S (xs (6 * k + 1)) (xs (6 * k + 2))) (S) S)) (n := SS (k + 1) (iff0 (fShines S (xs (6 * k + 1)) (xs (6 * k + 2))) (S) S)) (by unfold CC; omega) (by unfold SS; omega) ?_
        refine x_forget (L' := [some (.ref b), some (.ref xa), some (.ref (ma 30)), some (.ref oa), some (.int (nI (6 * k))), none, none]) (And.intro rfl (And.intro rfl (And.intro rfl (And.intro rfl (And.intro rfl trivial))))) ?_
        exact kk (iff0 (fShines S (xs (6 * k + 1)) (xs (6 * k + 2))) (S) S) _ ⟨hC9, h10, u9, ma, ow, sc', R', gn', rfl, dC9, d10.symm, hb9, rfl, hM', hS', hI9, by omega⟩
      · exact absurd rfl c1186
  · exact absurd rfl c1169
set_option maxHeartbeats 4000000 in
set_option maxRecDepth 100000 in
theorem case_playing (G : XG) {F : XF} {b L : Nat} {xs : Nat → Int32} (hl : lwE G F b L xs) {Q : State → Prop} {k : Nat} (hk : 6 * k + 6 ≤ L) {xa m oa : Nat} {S : PS} {h : HM} (hI0 : lI G xa m oa k S h) (kk : ∀ (S1 : PS) (h1 : HM), lI G xa m oa (k + 1) S1 h1 → x_W G F Q (CC (k + 1) S1) (SS (k + 1) S1) h1 1275 [some (.ref b), some (.ref xa), some (.ref m), some (.ref oa), some (.int (nI (6 * k))), none, none] []) : x_W G F Q (CC k S) (SS k S) h 1194 [some (.ref b), some (.ref xa), some (.ref m), some (.ref oa), some (.int (nI (6 * k))), none, none] [] := by
  obtain ⟨hE, hT, hX, hbl, hbA, hL⟩ := id hl
  obtain ⟨hC, hM, u, ma, ow, sc, R, gn, rfl, dC, dM, hb, rfl, hMM, hMS, hI, hgn⟩ := hI0
  have hk9 : k ≤ 511 := by omega
  have hcap := hI.cap
  have hI9 : iI (iff0 (fPlay S (xs (6 * k + 1)) (xs (6 * k + 2))) (S) S) (k + 1) := iI_iff hI (fun hf => hI.up)
  have hcap9 := hI9.cap
  have hmono : s_n S ≤ s_n (iff0 (fPlay S (xs (6 * k + 1)) (xs (6 * k + 2))) (S) S) := iff0_n' rfl
  have hfle : fPlay S (xs (6 * k + 1)) (xs (6 * k + 2)) ≤ 2 := fPlay_le
  refine x_aload_n hE dL_law_1194 rfl rfl ?_
  refine x_aload_n hE dL_law_1195 rfl rfl ?_
  refine x_iload hE dL_law_1196 rfl ?_
  refine x_iconst (v := nI 1) hE dL_law_1198 (by decide) ?_
  refine x_iadd hE dL_law_1199 ?_
  refine x_ieq (y := nI (6 * k + 1)) (nI_add _ _) ?_
  refine x_sld hE hX hbl hbA (j := (6 * k + 1)) (by omega) (by omega) dL_law_1200 ?_
  refine x_aload_n hE dL_law_1201 rfl rfl ?_
  refine x_iload hE dL_law_1202 rfl ?_
  refine x_iconst (v := nI 2) hE dL_law_1204 (by decide) ?_
  refine x_iadd hE dL_law_1205 ?_
  refine x_ieq (y := nI (6 * k + 2)) (nI_add _ _) ?_
  refine x_sld hE hX hbl hbA (j := (6 * k + 2)) (by omega) (by omega) dL_law_1206 ?_
  refine x_aload_n hE dL_law_1207 rfl rfl ?_
  have hcw : ∀ A : Nat → Prop, y_M (reG G A) yL_playing wsL_playing ({ frames := 7, cells := s_n (iff0 (fPlay S (xs (6 * k + 1)) (xs (6 * k + 2))) (S) S) - s_n S + 4, slots := 3 * (s_n (iff0 (fPlay S (xs (6 * k + 1)) (xs (6 * k + 2))) (S) S) - s_n S) + 57, locals := 114 } : Room) [.ref xa, .int (xs (6 * k + 1)), .int (xs (6 * k + 2)), .ref oa] (jn hC (oM G oa u)) (wP G xa oa (fPlay S (xs (6 * k + 1)) (xs (6 * k + 2))) ((playP S (xs (6 * k + 1)).toNatClampNeg (xs (6 * k + 2)).toNatClampNeg).toInt64) (iff0 (fPlay S (xs (6 * k + 1)) (xs (6 * k + 2))) (S) S)) (fun _ => False) (s_n (iff0 (fPlay S (xs (6 * k + 1)) (xs (6 * k + 2))) (S) S) - s_n S + 4) (3 * (s_n (iff0 (fPlay S (xs (6 * k + 1)) (xs (6 * k + 2))) (S) S) - s_n S) + 57) := fun A => c_L_playing (reG G A) hb dC hI hk9 (xs (6 * k + 1)) (xs (6 * k + 2))
  refine z_callW (st := []) (a := CC k S) (b := SS k S) hE hT 4 hcw dM gL_law_L_playing rfl rfl rfl (by decide +kernel) ⟨(Nat.le_of_ble_eq_true rfl), (Nat.le_of_ble_eq_true rfl)⟩ rfl rfl dL_law_1208 rfl (Nat.le_of_ble_eq_true rfl) ⟨by show CC k S + (s_n (iff0 (fPlay S (xs (6 * k + 1)) (xs (6 * k + 2))) (S) S) - s_n S + 4) ≤ 601024; unfold CC; omega, by show SS k S + (3 * (s_n (iff0 (fPlay S (xs (6 * k + 1)) (xs (6 * k + 2))) (S) S) - s_n S) + 57) ≤ 7293034; unfold SS; omega⟩ (fun v h9 hp d9 => ?_)
  obtain ⟨rfl, hC9, u9, rfl, dC9, hb9, hu9⟩ := hp
  refine x_istore (L' := [some (.ref b), some (.ref xa), some (.ref (ma 30)), some (.ref oa), some (.int (nI (6 * k))), some (.int (nI (fPlay S (xs (6 * k + 1)) (xs (6 * k + 2))))), none]) hE dL_law_1211 (Nat.le_of_ble_eq_true rfl) rfl ?_
  refine x_aload_n hE dL_law_1213 rfl rfl ?_
  refine x_aload_n hE dL_law_1214 rfl rfl ?_
  refine x_iload hE dL_law_1215 rfl ?_
  refine x_iconst (v := nI 1) hE dL_law_1217 (by decide) ?_
  refine x_iadd hE dL_law_1218 ?_
  refine x_ieq (y := nI (6 * k + 1)) (nI_add _ _) ?_
  refine x_sld hE hX hbl hbA (j := (6 * k + 1)) (by omega) (by omega) dL_law_1219 ?_
  refine x_aload_n hE dL_law_1220 rfl rfl ?_
  refine x_iload hE dL_law_1221 rfl ?_
  refine x_iconst (v := nI 2) hE dL_law_1223 (by decide) ?_
  refine x_iadd hE dL_law_1224 ?_
  refine x_ieq (y := nI (6 * k + 2)) (nI_add _ _) ?_
  refine x_sld hE hX hbl hbA (j := (6 * k + 2)) (by omega) (by omega) dL_law_1225 ?_
  refine x_heq (jn_comm d9) ?_
  have hcx : ∀ A : Nat → Prop, x_M (reG G A) yX8_playing wsX8_playing ({ frames := 2, cells := 0, slots := 0, locals := 44 } : Room) [.ref (ma 30), .int (xs (6 * k + 1)), .int (xs (6 * k + 2))] hM (mP G ma ow (fPlay S (xs (6 * k + 1)) (xs (6 * k + 2))) (playP S (xs (6 * k + 1)).toNatClampNeg (xs (6 * k + 2)).toNatClampNeg) (iff0 (fPlay S (xs (6 * k + 1)) (xs (6 * k + 2))) (S) S) (gn)) 0 0 := fun A => c_X8_playing (reG G A) hMM hMS hI.1.mI (xs (6 * k + 1)) (xs (6 * k + 2))
  refine z_callV (ci := 8) (st := []) hE 2 hcx d9.symm gL_law_X8_playing rfl rfl rfl (by decide +kernel) ⟨(Nat.le_of_ble_eq_true rfl), (Nat.le_of_ble_eq_true rfl)⟩ hMM.o rfl rfl rfl dL_law_1226 rfl (Nat.le_of_ble_eq_true rfl) ⟨by show CC k S + (s_n (iff0 (fPlay S (xs (6 * k + 1)) (xs (6 * k + 2))) (S) S) - s_n S + 4) + 0 ≤ 601024; unfold CC; omega, by show SS k S + (3 * (s_n (iff0 (fPlay S (xs (6 * k + 1)) (xs (6 * k + 2))) (S) S) - s_n S) + 57) + 0 ≤ 7293034; unfold SS; omega⟩ (fun v h10 hp d10 => ?_)
  obtain ⟨⟨y, rfl, hy⟩, R', sc', gn', hM', hS', e28, hg'⟩ := hp
  refine x_istore (L' := [some (.ref b), some (.ref xa), some (.ref (ma 30)), some (.ref oa), some (.int (nI (6 * k))), some (.int (nI (fPlay S (xs (6 * k + 1)) (xs (6 * k + 2))))), some (.int y)]) hE dL_law_1229 (Nat.le_of_ble_eq_true rfl) rfl ?_
  refine x_aload_n hE dL_law_1231 rfl rfl ?_
  have hct : ∀ A : Nat → Prop, x_M (reG G A) yX8_thrown wsX8_thrown ({ frames := 0, cells := 0, slots := 0, locals := 0 } : Room) [.ref (ma 30)] h10 (x_is (some (.int (sc' 28))) h10) 0 0 := fun A => c_X8_thrown (reG G A) hM'
  refine z_callV (ci := 8) (st := []) hE 0 hct d10 gL_law_X8_thrown rfl rfl rfl (by decide +kernel) ⟨(Nat.le_of_ble_eq_true rfl), (Nat.le_of_ble_eq_true rfl)⟩ hM'.o rfl rfl rfl dL_law_1232 rfl (Nat.le_of_ble_eq_true rfl) ⟨by show CC k S + (s_n (iff0 (fPlay S (xs (6 * k + 1)) (xs (6 * k + 2))) (S) S) - s_n S + 4) + 0 + 0 ≤ 601024; unfold CC; omega, by show SS k S + (3 * (s_n (iff0 (fPlay S (xs (6 * k + 1)) (xs (6 * k + 2))) (S) S) - s_n S) + 57) + 0 + 0 ≤ 7293034; unfold SS; omega⟩ (fun v h11 hp d11 => ?_)
  obtain ⟨rfl, rfl⟩ := hp
  refine x_ieq (y := nI (fPlay S (xs (6 * k + 1)) (xs (6 * k + 2)))) (e28) ?_
  refine x_iload hE dL_law_1235 rfl ?_
  refine x_icmp_eq (tgt := 1242) hE dL_law_1237 (by decide) (fun c1237 => ?_) (fun c1237 => ?_)
  · refine x_iload hE dL_law_1242 rfl ?_
    refine x_if_ne (tgt := 1259) hE dL_law_1244 (by decide) (fun c1244 => ?_) (fun c1244 => ?_)
    · refine x_goto (tgt := 1275) hE dL_law_1259 (by decide) ?_
      refine x_heq (jn_comm d10) ?_
      refine x_widen (k := CC (k + 1) (iff0 (fPlay S (xs (6 * k + 1)) (xs (6 * k + 2))) (S) S)) (n := SS (k + 1) (iff0 (fPlay S (xs (6 * k + 1)) (xs (6 * k + 2))) (S) S)) (by unfold CC; omega) (by unfold SS; omega) ?_
      refine x_forget (L' := [some (.ref b), some (.ref xa), some (.ref (ma 30)), some (.ref oa), some (.int (nI (6 * k))), none, none]) (And.intro rfl (And.intro rfl (And.intro rfl (And.intro rfl (And.intro rfl trivial))))) ?_
      exact kk (iff0 (fPlay S (xs (6 * k + 1)) (xs (6 * k + 2))) (S) S) _ ⟨hC9, h10, u9, ma, ow, sc', R', gn', rfl, dC9, d10.symm, hb9, rfl, hM', hS', hI9, by omega⟩
    · have hf : fPlay S (xs (6 * k + 1)) (xs (6 * k + 2)) = 0 := nI_f0 hfle c1244
      have hy1 := hy hf
      have hw1 := hu9 hf
      refine x_aload_n hE dL_law_1247 rfl rfl ?_
      refine x_iconst (v := nI 0) hE dL_law_1248 (by decide) ?_
      refine x_lald (v := (playP S (xs (6 * k + 1)).toNatClampNeg (xs (6 * k + 2)).toNatClampNeg).toInt64) hE (jn_r d10 (jn_r dC9 oM_at)) zin0 (by rw [zcl0]; exact hw1) dL_law_1249 ?_
      refine x_iload hE dL_law_1250 rfl ?_
      refine x_i2l hE dL_law_1252 ?_
      refine x_lcmp hE dL_law_1253 ?_
      refine x_ieq (y := nI 0) (by rw [hy1]; exact lg_self _) ?_
      refine x_if_eq (tgt := 1259) hE dL_law_1254 (by decide) (fun c1254 => ?_) (fun c1254 => ?_)
      · refine x_goto (tgt := 1275) hE dL_law_1259 (by decide) ?_
        refine x_heq (jn_comm d10) ?_
        refine x_widen (k := CC (k + 1) (iff0 (fPlay S (xs (6 * k + 1)) (xs (6 * k + 2))) (S) S)) (n := SS (k + 1) (iff0 (fPlay S (xs (6 * k + 1)) (xs (6 * k + 2))) (S) S)) (by unfold CC; omega) (by unfold SS; omega) ?_
        refine x_forget (L' := [some (.ref b), some (.ref xa), some (.ref (ma 30)), some (.ref oa), some (.int (nI (6 * k))), none, none]) (And.intro rfl (And.intro rfl (And.intro rfl (And.intro rfl (And.intro rfl trivial))))) ?_
        exact kk (iff0 (fPlay S (xs (6 * k + 1)) (xs (6 * k + 2))) (S) S) _ ⟨hC9, h10, u9, ma, ow, sc', R', gn', rfl, dC9, d10.symm, hb9, rfl, hM', hS', hI9, by omega⟩
      · exact absurd rfl c1254
  · exact absurd rfl c1237
set_option maxHeartbeats 4000000 in
set_option maxRecDepth 100000 in
theorem case_barred (G : XG) {F : XF} {b L : Nat} {xs : Nat → Int32} (hl : lwE G F b L xs) {Q : State → Prop} {k : Nat} (hk : 6 * k + 6 ≤ L) {xa m oa : Nat} {S : PS} {h : HM} (hI0 : lI G xa m oa k S h) (kk : ∀ (S1 : PS) (h1 : HM), lI G xa m oa (k + 1) S1 h1 → x_W G F Q (CC (k + 1) S1) (SS (k + 1) S1) h1 1275 [some (.ref b), some (.ref xa), some (.ref m), some (.ref oa), some (.int (nI (6 * k))), none, none] []) : x_W G F Q (CC k S) (SS k S) h 1262 [some (.ref b), some (.ref xa), some (.ref m), some (.ref oa), some (.int (nI (6 * k))), none, none] [] := by
  obtain ⟨hE, hT, hX, hbl, hbA, hL⟩ := id hl
  obtain ⟨hC, hM, u, ma, ow, sc, R, gn, rfl, dC, dM, hb, rfl, hMM, hMS, hI, hgn⟩ := hI0
  obtain ⟨ad, ow9, eA, A1, P1, c1, A2, P2, c2, RY, rfl, hW⟩ := id hb
  have hcap := hI.cap
  refine x_aload_n hE dL_law_1262 rfl rfl ?_
  refine x_heq (jn_assoc hC (oM G oa u) hM) ?_
  have dO := dj_r dC dM
  have dH : dj hC (jn (oM G oa u) hM) := (dj_j dC.symm (dj_l dM).symm).symm
  have hcb : ∀ A : Nat → Prop, x_M (reG G A) yX7_barred wsX7_barred ({ frames := 0, cells := 0, slots := 0, locals := 0 } : Room) [.ref (ad 0)] hC (x_is (some (.int (nI (s_b S)))) hC) 0 0 := fun A => c_X7_barred (reG G A) hW.1
  refine z_callV (ci := 7) (st := []) (a := CC k S) (b := SS k S) hE 0 hcb dH gL_law_X7_barred rfl rfl rfl (by decide +kernel) ⟨(Nat.le_of_ble_eq_true rfl), (Nat.le_of_ble_eq_true rfl)⟩ hW.1 rfl rfl rfl dL_law_1263 rfl (Nat.le_of_ble_eq_true rfl) ⟨by show CC k S + 0 ≤ 601024; unfold CC; omega, by show SS k S + 0 ≤ 7293034; unfold SS; omega⟩ (fun v h9 hp d9 => ?_)
  obtain ⟨rfl, rfl⟩ := hp
  refine x_aload_n hE dL_law_1266 rfl rfl ?_
  refine x_heq (jn_assoc hC (oM G oa u) hM).symm ?_
  refine x_heq (jn_comm dM) ?_
  have hcx : ∀ A : Nat → Prop, x_M (reG G A) yX8_barred wsX8_barred ({ frames := 0, cells := 0, slots := 0, locals := 0 } : Room) [.ref (ma 30)] hM (mP G ma ow 0 (nI (s_b S)) (iff0 0 S S) gn) 0 0 := fun A => c_X8_barred (reG G A) hMM hMS hI.1.mI
  refine z_callV (ci := 8) (st := [.int (nI (s_b S))]) hE 0 hcx dM.symm gL_law_X8_barred rfl rfl rfl (by decide +kernel) ⟨(Nat.le_of_ble_eq_true rfl), (Nat.le_of_ble_eq_true rfl)⟩ hMM.o rfl rfl rfl dL_law_1267 rfl (Nat.le_of_ble_eq_true rfl) ⟨by show CC k S + 0 + 0 ≤ 601024; unfold CC; omega, by show SS k S + 0 + 0 ≤ 7293034; unfold SS; omega⟩ (fun v h10 hp d10 => ?_)
  obtain ⟨⟨y, rfl, hy⟩, R', sc', gn', hM', hS', e28, hg'⟩ := hp
  refine x_ieq (y := nI (s_b S)) (hy rfl) ?_
  rw [iff0_s] at hS'
  refine x_icmp_eq (tgt := 1275) hE dL_law_1270 (by decide) (fun c1270 => ?_) (fun c1270 => ?_)
  · refine x_heq (jn_comm d10) ?_
    refine x_widen (k := CC (k + 1) S) (n := SS (k + 1) S) (by unfold CC; omega) (by unfold SS; omega) ?_
    exact kk S _ ⟨hC, h10, u, ma, ow, sc', R', gn', rfl, dC, d10.symm, hb, rfl, hM', hS', hI.up, by omega⟩
  · exact absurd rfl c1270