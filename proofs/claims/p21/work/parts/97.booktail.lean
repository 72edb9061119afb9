set_option maxHeartbeats 4000000 in
set_option maxRecDepth 100000 in
theorem bk_tail (G : XG) {F : XF} {b L : Nat} {xs : Nat → Int32} (hl : bkE G F b L xs) {Q : State → Prop} {xa ca ma la pa ta at_ j : Nat} (hj : j < 50) {S : PS} {hA h : HM} (hh : lH G xa S hA h) (hR : lwA G ca ma la pa ta S hA) (hS : lS S) (hI : iI S (34 + (j + 1))) (hsb : s_b S ≤ 10220 * (j + 1)) (kk : ∀ (S1 : PS) (h1 : HM), bkI G xa ca ma la pa ta (j + 1) S1 h1 → x_W G F Q (200 + 15 * (j + 1) + (s_n S1 - 64)) (5000 + 87 * (j + 1) + 3 * (s_n S1 - 64)) h1 518 [some (.ref b), some (.int (nI at_)), some (.ref xa), some (.ref ca), some (.ref ma), some (.ref la), some (.ref pa), some (.ref ta), some (.int (nI 1)), some (.int (nI (j + 1))), none, none, none] []) : x_W G F Q (202 + 15 * j + (s_n S - 64)) (5012 + 87 * j + 3 * (s_n S - 64)) h 660 [some (.ref b), some (.int (nI at_)), some (.ref xa), some (.ref ca), some (.ref ma), some (.ref la), some (.ref pa), some (.ref ta), some (.int (nI 1)), some (.int (nI j)), none, none, none] [.int (nI 1)] := by
  obtain ⟨hE, hZ, hLb⟩ := hl
  have hT := hZ.1
  obtain ⟨cf, mf, lf, pf, tf, ⟨hca, hcc⟩, ⟨hma, hmm⟩, ⟨hla, hll⟩, ⟨hpa, hpp⟩, hta, htt⟩ := hR
  have hcap := hI.cap
  have ht20 := hI.2.1
  refine x_istore (L' := [some (.ref b), some (.int (nI at_)), some (.ref xa), some (.ref ca), some (.ref ma), some (.ref la), some (.ref pa), some (.ref ta), some (.int (nI 1)), some (.int (nI j)), none, none, none]) hE dL_book_660 (Nat.le_of_ble_eq_true rfl) rfl ?_
  refine x_iload hE dL_book_662 rfl ?_
  refine x_if_eq (tgt := 693) hE dL_book_664 (by decide) (fun c664 => absurd c664 (by decide)) (fun c664 => ?_)
  refine x_iload hE dL_book_667 rfl ?_
  refine x_iconst (v := nI 5) hE dL_book_669 (by decide) ?_
  refine x_irem hE dL_book_670 (by decide) ?_
  refine x_ieq (y := nI (j % 5)) (pk_rem (by omega) (by decide) (by decide)) ?_
  refine x_iconst (v := nI 4) hE dL_book_671 (by decide) ?_
  refine x_icmp_lt (tgt := 689) hE dL_book_672 (by decide) (fun c672 => ?_) (fun c672 => ?_)
  · refine x_iconst (v := nI 1) hE dL_book_689 (by decide) ?_
    refine x_goto (tgt := 694) hE dL_book_690 (by decide) ?_
    refine x_istore (L' := [some (.ref b), some (.int (nI at_)), some (.ref xa), some (.ref ca), some (.ref ma), some (.ref la), some (.ref pa), some (.ref ta), some (.int (nI 1)), some (.int (nI j)), none, none, none]) hE dL_book_694 (Nat.le_of_ble_eq_true rfl) rfl ?_
    refine x_iinc (v := nI (j + 1)) (L' := [some (.ref b), some (.int (nI at_)), some (.ref xa), some (.ref ca), some (.ref ma), some (.ref la), some (.ref pa), some (.ref ta), some (.int (nI 1)), some (.int (nI (j + 1))), none, none, none]) hE dL_book_696 rfl (nI_1 _) rfl ?_
    refine x_goto (tgt := 518) hE dL_book_699 (by decide) ?_
    refine x_widen (k := 200 + 15 * (j + 1) + (s_n S - 64)) (n := 5000 + 87 * (j + 1) + 3 * (s_n S - 64)) (by omega) (by omega) ?_
    exact kk S h ⟨hA, hh, ⟨cf, mf, lf, pf, tf, ⟨hca, hcc⟩, ⟨hma, hmm⟩, ⟨hla, hll⟩, ⟨hpa, hpp⟩, hta, htt⟩, hS, hI, hsb⟩
  · refine x_aload_n hE dL_book_675 rfl rfl ?_
    refine x_aload_n hE dL_book_676 rfl rfl ?_
    refine x_aload hE dL_book_677 rfl rfl ?_
    refine x_aload hE dL_book_679 rfl rfl ?_
    refine x_aload hE dL_book_681 rfl rfl ?_
    refine w_callS (st := []) hE (zS_T G) hT 5 (c_L_isSound G hh hS hI.1 (by omega) (by omega) hca hcc hma hmm hla hll hta htt) gL_book_L_isSound rfl rfl rfl (by decide +kernel) ⟨(Nat.le_of_ble_eq_true rfl), (Nat.le_of_ble_eq_true rfl)⟩ rfl rfl dL_book_683 rfl (Nat.le_of_ble_eq_true rfl) ⟨by show 202 + 15 * j + (s_n S - 64) + (13) ≤ 124500; omega, by show 5012 + 87 * j + 3 * (s_n S - 64) + (75) ≤ 380000; omega⟩ (fun v h2 hp => ?_)
    obtain ⟨rfl, hh2⟩ := hp
    refine x_if_eq (tgt := 693) hE dL_book_686 (by decide) (fun c686 => absurd c686 (by decide)) (fun c686 => ?_)
    refine x_iconst (v := nI 1) hE dL_book_689 (by decide) ?_
    refine x_goto (tgt := 694) hE dL_book_690 (by decide) ?_
    refine x_istore (L' := [some (.ref b), some (.int (nI at_)), some (.ref xa), some (.ref ca), some (.ref ma), some (.ref la), some (.ref pa), some (.ref ta), some (.int (nI 1)), some (.int (nI j)), none, none, none]) hE dL_book_694 (Nat.le_of_ble_eq_true rfl) rfl ?_
    refine x_iinc (v := nI (j + 1)) (L' := [some (.ref b), some (.int (nI at_)), some (.ref xa), some (.ref ca), some (.ref ma), some (.ref la), some (.ref pa), some (.ref ta), some (.int (nI 1)), some (.int (nI (j + 1))), none, none, none]) hE dL_book_696 rfl (nI_1 _) rfl ?_
    refine x_goto (tgt := 518) hE dL_book_699 (by decide) ?_
    refine x_widen (k := 200 + 15 * (j + 1) + (s_n S - 64)) (n := 5000 + 87 * (j + 1) + 3 * (s_n S - 64)) (by omega) (by omega) ?_
    exact kk S h2 ⟨_, hh2, lw_c hca hma hmm hla hll hpa hpp hta htt ⟨by rw [upd_ne (by decide)]; exact hcc.1, by rw [upd_ne (by decide)]; exact hcc.2.1, by rw [upd_ne (by decide)]; exact hcc.2.2.1, by rw [upd_ne (by decide)]; exact hcc.2.2.2.1, s_b S, Nat.le_refl _, upd_at _ _ _⟩, hS, hI, hsb⟩
