set_option maxHeartbeats 4000000 in
set_option maxRecDepth 100000 in
theorem bk_step (G : XG) {F : XF} {b L : Nat} {xs : Nat → Int32} (hl : bkE G F b L xs) {Q : State → Prop} {xa ca ma la pa ta at_ j : Nat} (hat : at_ ≤ 1000) (hj : j < 50) (hml : ma ≠ la) {S : PS} {h : HM} (hB : bkI G xa ca ma la pa ta j S h) (kk : ∀ (S1 : PS) (h1 : HM), bkI G xa ca ma la pa ta (j + 1) S1 h1 → x_W G F Q (200 + 15 * (j + 1) + (s_n S1 - 64)) (5000 + 87 * (j + 1) + 3 * (s_n S1 - 64)) h1 518 [some (.ref b), some (.int (nI at_)), some (.ref xa), some (.ref ca), some (.ref ma), some (.ref la), some (.ref pa), some (.ref ta), some (.int (nI 1)), some (.int (nI (j + 1))), none, none, none] []) : x_W G F Q (200 + 15 * j + (s_n S - 64)) (5000 + 87 * j + 3 * (s_n S - 64)) h 518 [some (.ref b), some (.int (nI at_)), some (.ref xa), some (.ref ca), some (.ref ma), some (.ref la), some (.ref pa), some (.ref ta), some (.int (nI 1)), some (.int (nI j)), none, none, none] [] := by
  obtain ⟨hE, hZ, hLb⟩ := hl
  have hT := hZ.1
  obtain ⟨hA, hh, hR, hS, hI, hsb⟩ := hB
  have hR0 := hR
  obtain ⟨cf, mf, lf, pf, tf, ⟨hca, hcc⟩, ⟨hma, hmm⟩, ⟨hla, hll⟩, ⟨hpa, hpp⟩, hta, htt⟩ := hR
  have hcap := hI.cap
  have hk5 : 34 + j ≤ 511 := by omega
  refine x_iload hE dL_book_518 rfl ?_
  refine x_bipush (v := nI 50) hE dL_book_520 (by decide) ?_
  refine x_icmp_ge (tgt := 702) hE dL_book_522 (by decide) (fun c => absurd (x_nIle c (by omega) (by omega)) (by omega)) (fun c522 => ?_)
  refine x_iload hE dL_book_525 rfl ?_
  refine x_if_eq (tgt := 702) hE dL_book_527 (by decide) (fun c527 => absurd c527 (by decide)) (fun c527 => ?_)
  refine x_aload_n hE dL_book_530 rfl rfl ?_
  refine x_iload_n hE dL_book_531 rfl ?_
  refine x_bipush (v := nI 16) hE dL_book_532 (by decide) ?_
  refine x_iadd hE dL_book_534 ?_
  refine x_ieq (y := nI (at_ + 16)) (nI_add _ _) ?_
  refine x_iconst (v := nI 2) hE dL_book_535 (by decide) ?_
  refine x_iload hE dL_book_536 rfl ?_
  refine x_imul hE dL_book_538 ?_
  refine x_ieq (y := nI (2 * j)) (pk_mul _ _) ?_
  refine x_iadd hE dL_book_539 ?_
  refine x_ieq (y := nI (at_ + 16 + 2 * j)) (nI_add _ _) ?_
  refine x_ldc (v := (1073741824)) hE (List.mem_of_getElem? (i := 5) rfl) dL_book_540 ?_
  refine x_ieq (y := nI 1073741824) (rfl) ?_
  refine w_callS (st := []) hE (zS_S G b L xs) hZ 3 (c_L_draw G hLb (k := at_ + 16 + 2 * j) (by omega)) gL_book_L_draw rfl rfl rfl (by decide +kernel) ⟨(Nat.le_of_ble_eq_true rfl), (Nat.le_of_ble_eq_true rfl)⟩ rfl rfl dL_book_542 rfl (Nat.le_of_ble_eq_true rfl) ⟨by show 200 + 15 * j + (s_n S - 64) + (0) ≤ 124500; omega, by show 5000 + 87 * j + 3 * (s_n S - 64) + (0) ≤ 380000; omega⟩ (fun v hx hp => ?_)
  obtain ⟨⟨x, hx, rfl⟩, ex⟩ := hp
  refine x_heq ex ?_
  refine x_istore (L' := [some (.ref b), some (.int (nI at_)), some (.ref xa), some (.ref ca), some (.ref ma), some (.ref la), some (.ref pa), some (.ref ta), some (.int (nI 1)), some (.int (nI j)), some (.int (nI x)), none, none]) hE dL_book_545 (Nat.le_of_ble_eq_true rfl) rfl ?_
  refine x_aload_n hE dL_book_547 rfl rfl ?_
  refine x_iload_n hE dL_book_548 rfl ?_
  refine x_bipush (v := nI 17) hE dL_book_549 (by decide) ?_
  refine x_iadd hE dL_book_551 ?_
  refine x_ieq (y := nI (at_ + 17)) (nI_add _ _) ?_
  refine x_iconst (v := nI 2) hE dL_book_552 (by decide) ?_
  refine x_iload hE dL_book_553 rfl ?_
  refine x_imul hE dL_book_555 ?_
  refine x_ieq (y := nI (2 * j)) (pk_mul _ _) ?_
  refine x_iadd hE dL_book_556 ?_
  refine x_ieq (y := nI (at_ + 17 + 2 * j)) (nI_add _ _) ?_
  refine x_ldc (v := (1073741824)) hE (List.mem_of_getElem? (i := 5) rfl) dL_book_557 ?_
  refine x_ieq (y := nI 1073741824) (rfl) ?_
  refine w_callS (st := []) hE (zS_S G b L xs) hZ 3 (c_L_draw G hLb (k := at_ + 17 + 2 * j) (by omega)) gL_book_L_draw rfl rfl rfl (by decide +kernel) ⟨(Nat.le_of_ble_eq_true rfl), (Nat.le_of_ble_eq_true rfl)⟩ rfl rfl dL_book_559 rfl (Nat.le_of_ble_eq_true rfl) ⟨by show 200 + 15 * j + (s_n S - 64) + (0) + (0) ≤ 124500; omega, by show 5000 + 87 * j + 3 * (s_n S - 64) + (0) + (0) ≤ 380000; omega⟩ (fun v hy hp => ?_)
  obtain ⟨⟨y, hy, rfl⟩, ey⟩ := hp
  refine x_heq ey ?_
  refine x_istore (L' := [some (.ref b), some (.int (nI at_)), some (.ref xa), some (.ref ca), some (.ref ma), some (.ref la), some (.ref pa), some (.ref ta), some (.int (nI 1)), some (.int (nI j)), some (.int (nI x)), some (.int (nI y)), none]) hE dL_book_562 (Nat.le_of_ble_eq_true rfl) rfl ?_
  refine x_iload hE dL_book_564 rfl ?_
  refine x_bipush (v := nI 8) hE dL_book_566 (by decide) ?_
  refine x_irem hE dL_book_568 (by decide) ?_
  obtain ⟨wt, hw8, ewt⟩ : ∃ wt, wt < 8 ∧ x % 8 = wt := ⟨_, Nat.mod_lt _ (by decide), rfl⟩
  refine x_ieq (y := nI wt) (by rw [pk_rem (by omega) (by decide) (by decide), ewt]) ?_
  refine x_istore (L' := [some (.ref b), some (.int (nI at_)), some (.ref xa), some (.ref ca), some (.ref ma), some (.ref la), some (.ref pa), some (.ref ta), some (.int (nI 1)), some (.int (nI j)), some (.int (nI x)), some (.int (nI y)), some (.int (nI wt))]) hE dL_book_569 (Nat.le_of_ble_eq_true rfl) rfl ?_
  refine x_iload hE dL_book_571 rfl ?_
  refine x_iconst (v := nI 3) hE dL_book_573 (by decide) ?_
  refine x_icmp_ge (tgt := 600) hE dL_book_574 (by decide) (fun c574 => ?_) (fun c574 => ?_)
  · replace c574 := x_nIle c574 (by omega) (by omega)
    refine x_iload hE dL_book_600 rfl ?_
    refine x_iconst (v := nI 3) hE dL_book_602 (by decide) ?_
    refine x_icmp_ne (tgt := 621) hE dL_book_603 (by decide) (fun c603 => ?_) (fun c603 => ?_)
    · refine x_iload hE dL_book_621 rfl ?_
      refine x_bipush (v := nI 6) hE dL_book_623 (by decide) ?_
      refine x_icmp_ge (tgt := 640) hE dL_book_625 (by decide) (fun c625 => ?_) (fun c625 => ?_)
      · refine x_aload_n hE dL_book_640 rfl rfl ?_
        refine x_iload hE dL_book_641 rfl ?_
        refine x_bipush (v := nI 8) hE dL_book_643 (by decide) ?_
        refine x_idiv hE dL_book_645 (by decide) ?_
        refine x_ieq (y := nI (x / 8)) (pk_div (by omega) (by decide) (by decide)) ?_
        refine x_iload hE dL_book_646 rfl ?_
        refine x_aload_n hE dL_book_648 rfl rfl ?_
        refine x_aload hE dL_book_649 rfl rfl ?_
        refine x_aload hE dL_book_651 rfl rfl ?_
        refine x_aload hE dL_book_653 rfl rfl ?_
        refine x_aload hE dL_book_655 rfl rfl ?_
        refine w_callS (st := []) hE (zS_T G) hT 8 (c_L_others G hh hS hI hk5 hca hcc hma hmm hla hll hpa hpp hta htt hml (x := x / 8) (y := y) (by omega) (by omega)) gL_book_L_others rfl rfl rfl (by decide +kernel) ⟨(Nat.le_of_ble_eq_true rfl), (Nat.le_of_ble_eq_true rfl)⟩ rfl rfl dL_book_657 rfl (Nat.le_of_ble_eq_true rfl) ⟨by show 200 + 15 * j + (s_n S - 64) + (0) + (0) + (1) ≤ 124500; omega, by show 5000 + 87 * j + 3 * (s_n S - 64) + (0) + (0) + (6) ≤ 380000; omega⟩ (fun v h2 hp => ?_)
        obtain ⟨rfl, S2, hA2, hh2, hR2, hS2, hI2, k6, k7⟩ := hp
        refine x_widen (k := 202 + 15 * j + (s_n (S2) - 64)) (n := 5012 + 87 * j + 3 * (s_n (S2) - 64)) (by omega) (by omega) ?_
        refine x_forget (L' := [some (.ref b), some (.int (nI at_)), some (.ref xa), some (.ref ca), some (.ref ma), some (.ref la), some (.ref pa), some (.ref ta), some (.int (nI 1)), some (.int (nI j)), none, none, none]) (And.intro rfl (And.intro rfl (And.intro rfl (And.intro rfl (And.intro rfl (And.intro rfl (And.intro rfl (And.intro rfl (And.intro rfl (And.intro rfl trivial)))))))))) ?_
        exact bk_tail G ⟨hE, hZ, hLb⟩ hj hh2 (hR2) (hS2) (hI2) (by omega) kk
      · refine x_aload_n hE dL_book_628 rfl rfl ?_
        refine x_iload hE dL_book_629 rfl ?_
        refine x_aload_n hE dL_book_631 rfl rfl ?_
        refine x_aload hE dL_book_632 rfl rfl ?_
        obtain ⟨n, hn, en⟩ : ∃ n, n ≤ 20 ∧ 1 + y % 20 = n := ⟨_, by omega, rfl⟩
        have hI2 := iI_pass (X := n) hI hk5 hn
        have hcap2 := hI2.cap
        have k7 := pW_n hI hk5 hn
        have kb := passK_b hI hk5 n hn
        obtain ⟨k1, k2, k3, k4, k5⟩ := passK_keep S n
        refine w_callS (st := []) hE (zS_T G) hT 4 (c_L_passes G hh hS hI hk5 hca hcc hta htt (x := y) (by omega) en) gL_book_L_passes rfl rfl rfl (by decide +kernel) ⟨(Nat.le_of_ble_eq_true rfl), (Nat.le_of_ble_eq_true rfl)⟩ rfl rfl dL_book_634 rfl (Nat.le_of_ble_eq_true rfl) ⟨by show 200 + 15 * j + (s_n S - 64) + (0) + (0) + (s_n (passK S n) - s_n S + 2) ≤ 124500; omega, by show 5000 + 87 * j + 3 * (s_n S - 64) + (0) + (0) + (3 * (s_n (passK S n) - s_n S) + 12) ≤ 380000; omega⟩ (fun v h2 hp => ?_)
        obtain ⟨rfl, hh2⟩ := hp
        refine x_goto (tgt := 660) hE dL_book_637 (by decide) ?_
        refine x_widen (k := 202 + 15 * j + (s_n (passK S n) - 64)) (n := 5012 + 87 * j + 3 * (s_n (passK S n) - 64)) (by omega) (by omega) ?_
        refine x_forget (L' := [some (.ref b), some (.int (nI at_)), some (.ref xa), some (.ref ca), some (.ref ma), some (.ref la), some (.ref pa), some (.ref ta), some (.int (nI 1)), some (.int (nI j)), none, none, none]) (And.intro rfl (And.intro rfl (And.intro rfl (And.intro rfl (And.intro rfl (And.intro rfl (And.intro rfl (And.intro rfl (And.intro rfl (And.intro rfl trivial)))))))))) ?_
        exact bk_tail G ⟨hE, hZ, hLb⟩ hj hh2 (lw_c hca hma (hmm.of (fun k _ => by rw [k1])) hla (hll.of (by rw [k1])) hpa (hpp.of (by rw [k1])) hta (htt.of (fun k _ => by rw [k1])) (by
            obtain ⟨b1, b2, b3, b4, b, b5, b6⟩ := hcc
            refine ⟨by rw [upd_ne (by decide)]; exact b1, by rw [upd_ne (by decide)]; exact b2, by rw [upd_ne (by decide), k3]; exact b3, by rw [upd_at, k5], b, Nat.le_trans b5 kb.1, by rw [upd_ne (by decide)]; exact b6⟩)) (hS.of k1 k2 k4) (hI2) (by omega) kk
    · refine x_aload_n hE dL_book_606 rfl rfl ?_
      refine x_iload hE dL_book_607 rfl ?_
      refine x_bipush (v := nI 8) hE dL_book_609 (by decide) ?_
      refine x_idiv hE dL_book_611 (by decide) ?_
      refine x_ieq (y := nI (x / 8)) (pk_div (by omega) (by decide) (by decide)) ?_
      refine x_aload_n hE dL_book_612 rfl rfl ?_
      refine x_aload hE dL_book_613 rfl rfl ?_
      obtain ⟨cu, hcu, ecu⟩ : ∃ cu, cu < 6 ∧ x / 8 % 6 = cu := ⟨_, Nat.mod_lt _ (by decide), rfl⟩
      have hI2 := rW_iI (c := cu) hI hk5 (by rw [hS.2.1]; exact hcu)
      have hcap2 := hI2.cap
      obtain ⟨k1, k2, k3, k4, k5, k6, k7⟩ := rW_keep S cu hcap.2
      refine w_callS (st := []) hE (zS_T G) hT 4 (c_L_releases G hh hS hI hk5 hca hcc hta htt (x := x / 8) (by omega) ecu) gL_book_L_releases rfl rfl rfl (by decide +kernel) ⟨(Nat.le_of_ble_eq_true rfl), (Nat.le_of_ble_eq_true rfl)⟩ rfl rfl dL_book_615 rfl (Nat.le_of_ble_eq_true rfl) ⟨by show 200 + 15 * j + (s_n S - 64) + (0) + (0) + (s_n (rW S cu) - s_n S + 1) ≤ 124500; omega, by show 5000 + 87 * j + 3 * (s_n S - 64) + (0) + (0) + (3 * (s_n (rW S cu) - s_n S) + 6) ≤ 380000; omega⟩ (fun v h2 hp => ?_)
      obtain ⟨rfl, hh2⟩ := hp
      refine x_goto (tgt := 660) hE dL_book_618 (by decide) ?_
      refine x_widen (k := 202 + 15 * j + (s_n (rW S cu) - 64)) (n := 5012 + 87 * j + 3 * (s_n (rW S cu) - 64)) (by omega) (by omega) ?_
      refine x_forget (L' := [some (.ref b), some (.int (nI at_)), some (.ref xa), some (.ref ca), some (.ref ma), some (.ref la), some (.ref pa), some (.ref ta), some (.int (nI 1)), some (.int (nI j)), none, none, none]) (And.intro rfl (And.intro rfl (And.intro rfl (And.intro rfl (And.intro rfl (And.intro rfl (And.intro rfl (And.intro rfl (And.intro rfl (And.intro rfl trivial)))))))))) ?_
      exact bk_tail G ⟨hE, hZ, hLb⟩ hj hh2 (hR0.same k1 k3 k5 k6) (hS.of k1 k2 k4) (hI2) (by omega) kk
  · refine x_aload_n hE dL_book_577 rfl rfl ?_
    refine x_iload hE dL_book_578 rfl ?_
    refine x_bipush (v := nI 8) hE dL_book_580 (by decide) ?_
    refine x_idiv hE dL_book_582 (by decide) ?_
    refine x_ieq (y := nI (x / 8)) (pk_div (by omega) (by decide) (by decide)) ?_
    refine x_iload hE dL_book_583 rfl ?_
    refine x_aload_n hE dL_book_585 rfl rfl ?_
    refine x_aload hE dL_book_586 rfl rfl ?_
    refine x_aload hE dL_book_588 rfl rfl ?_
    refine x_aload hE dL_book_590 rfl rfl ?_
    refine x_aload hE dL_book_592 rfl rfl ?_
    obtain ⟨cu, hcu, ecu⟩ : ∃ cu, cu < 6 ∧ x / 8 % 6 = cu := ⟨_, Nat.mod_lt _ (by decide), rfl⟩
    have hI2 := gW_iI (c := cu) hI hk5 (by rw [hS.2.1]; exact hcu)
    have hcap2 := hI2.cap
    obtain ⟨k1, k2, k3, k4, k5, k6, k7⟩ := gW_keep S cu hcap.2
    refine w_callS (st := []) hE (zS_T G) hT 8 (c_L_goes G hh hS hI hk5 hca hcc hma hmm hla hll hpa hpp hta htt (x := x / 8) (y := y) (by omega) (by omega) ecu) gL_book_L_goes rfl rfl rfl (by decide +kernel) ⟨(Nat.le_of_ble_eq_true rfl), (Nat.le_of_ble_eq_true rfl)⟩ rfl rfl dL_book_594 rfl (Nat.le_of_ble_eq_true rfl) ⟨by show 200 + 15 * j + (s_n S - 64) + (0) + (0) + (s_n (gW S cu) - s_n S + 1) ≤ 124500; omega, by show 5000 + 87 * j + 3 * (s_n S - 64) + (0) + (0) + (3 * (s_n (gW S cu) - s_n S) + 6) ≤ 380000; omega⟩ (fun v h2 hp => ?_)
    obtain ⟨rfl, hh2⟩ := hp
    refine x_goto (tgt := 660) hE dL_book_597 (by decide) ?_
    refine x_widen (k := 202 + 15 * j + (s_n (gW S cu) - 64)) (n := 5012 + 87 * j + 3 * (s_n (gW S cu) - 64)) (by omega) (by omega) ?_
    refine x_forget (L' := [some (.ref b), some (.int (nI at_)), some (.ref xa), some (.ref ca), some (.ref ma), some (.ref la), some (.ref pa), some (.ref ta), some (.int (nI 1)), some (.int (nI j)), none, none, none]) (And.intro rfl (And.intro rfl (And.intro rfl (And.intro rfl (And.intro rfl (And.intro rfl (And.intro rfl (And.intro rfl (And.intro rfl (And.intro rfl trivial)))))))))) ?_
    exact bk_tail G ⟨hE, hZ, hLb⟩ hj hh2 (hR0.same k1 k3 k5 k6) (hS.of k1 k2 k4) (hI2) (by omega) kk
