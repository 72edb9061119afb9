set_option maxHeartbeats 4000000 in
set_option maxRecDepth 100000 in
theorem bk_cue2 (G : XG) {F : XF} {b L : Nat} {xs : Nat → Int32} (hl : bkE G F b L xs) {Q : State → Prop} {xa ca ma la pa ta at_ k x so up dn : Nat} (hk : k < 6) (hx : x < 2 ^ 30) (hml : ma ≠ la) (hso : so ≤ 1) (hup : up ≤ 60) (hdn : dn ≤ 60) {S : PS} {h hA : HM} {cf mf lf pf tf : Nat → Int32} (hh : lH G xa S hA h) (hca : hA ca = some (rowI G 5 cf)) (b1 : cf 0 = nI (s_L S)) (b2 : cf 1 = nI (s_C S)) (b3 : cf 2 = s_B S) (b4 : cf 3 = nI (s_t S)) (b5 : cf 4 = nI 0) (hma : hA ma = some (rowI G 60 mf)) (c1 : ∀ k, k < s_L S → mf (6 * k) = s_ar S 2 k ∧ mf (6 * k + 1) = s_ar S 3 k ∧ mf (6 * k + 2) = s_ar S 4 k ∧ mf (6 * k + 3) = s_ar S 5 k ∧ mf (6 * k + 4) = s_ar S 6 k ∧ mf (6 * k + 5) = s_ar S 7 k) (c2 : ∀ k, s_L S ≤ k → mf (6 * k + 5) = 0) (hla : hA la = some (rowI G 60 lf)) (hll : lRl S lf) (hpa : hA pa = some (rowI G 3 pf)) (hta : hA ta = some (rowI G 18 (upd (upd (upd tf (3 * k) (nI so)) (3 * k + 1) (nI up)) (3 * k + 2) (nI dn)))) (htt : ∀ c, c < s_C S → tf (3 * c) = s_ar S 11 c ∧ tf (3 * c + 1) = s_ar S 12 c ∧ tf (3 * c + 2) = s_ar S 13 c) (hS : lgS S) (hL : s_L S = 10) (hC : s_C S = k) (hI : iI S (10 + 4 * k)) (kk : ∀ (S1 : PS) (h1 : HM), bkC G xa ca ma la pa ta (k + 1) (10 + 4 * (k + 1)) S1 h1 → x_W G F Q (70 + 7 * (k + 1)) (2060 + 75 * (k + 1)) h1 247 [some (.ref b), some (.int (nI at_)), some (.ref xa), some (.ref ca), some (.ref ma), some (.ref la), some (.ref pa), some (.ref ta), some (.int (nI 1)), some (.int (nI (k + 1))), none, none, none] []) : x_W G F Q (70 + 7 * k) (2060 + 75 * k) h 348 [some (.ref b), some (.int (nI at_)), some (.ref xa), some (.ref ca), some (.ref ma), some (.ref la), some (.ref pa), some (.ref ta), some (.int (nI 1)), some (.int (nI k)), some (.int (nI x)), none, none] [] := by
  obtain ⟨hE, hZ, hLb⟩ := hl
  have hT := hZ.1
  refine x_aload_n hE dL_book_348 rfl rfl ?_
  refine x_aload hE dL_book_349 rfl rfl ?_
  refine x_iconst (v := nI 3) hE dL_book_351 (by decide) ?_
  refine x_iload hE dL_book_352 rfl ?_
  refine x_imul hE dL_book_354 ?_
  refine x_ieq (y := nI (3 * k)) (pk_mul _ _) ?_
  refine x_iald (v := nI so) hE (hh.at hta) (vp_in_nI (by omega) (by decide)) (by rw [nI_clamp (by omega)]; exact (by rw [upd_ne (by omega), upd_ne (by omega), upd_at])) dL_book_355 ?_
  refine x_aload hE dL_book_356 rfl rfl ?_
  refine x_iconst (v := nI 3) hE dL_book_358 (by decide) ?_
  refine x_iload hE dL_book_359 rfl ?_
  refine x_imul hE dL_book_361 ?_
  refine x_ieq (y := nI (3 * k)) (pk_mul _ _) ?_
  refine x_iconst (v := nI 1) hE dL_book_362 (by decide) ?_
  refine x_iadd hE dL_book_363 ?_
  refine x_ieq (y := nI ((3 * k) + 1)) (nI_add _ _) ?_
  refine x_iald (v := nI up) hE (hh.at hta) (vp_in_nI (by omega) (by decide)) (by rw [nI_clamp (by omega)]; exact (by rw [upd_ne (by omega), upd_at])) dL_book_364 ?_
  refine x_aload hE dL_book_365 rfl rfl ?_
  refine x_iconst (v := nI 3) hE dL_book_367 (by decide) ?_
  refine x_iload hE dL_book_368 rfl ?_
  refine x_imul hE dL_book_370 ?_
  refine x_ieq (y := nI (3 * k)) (pk_mul _ _) ?_
  refine x_iconst (v := nI 2) hE dL_book_371 (by decide) ?_
  refine x_iadd hE dL_book_372 ?_
  refine x_ieq (y := nI ((3 * k) + 2)) (nI_add _ _) ?_
  refine x_iald (v := nI dn) hE (hh.at hta) (vp_in_nI (by omega) (by decide)) (by rw [nI_clamp (by omega)]; exact (by rw [upd_at])) dL_book_373 ?_
  refine k_call (st := []) hE hT 3 (m_cue G (so := so) (up := up) (dn := dn) hI.1.1.2.2.2.1 hI.1.2.2.1 (fun x hx => (hI.1.2.2.2.2.2.1 x hx).1) hI.1.2.2.2.1 (by omega) hso hup hdn) hh gL_book_X7_cue rfl rfl rfl (by decide +kernel) ⟨(Nat.le_of_ble_eq_true rfl), (Nat.le_of_ble_eq_true rfl)⟩ rfl rfl dL_book_374 rfl (Nat.le_of_ble_eq_true rfl) ⟨by show 70 + 7 * k + (4) ≤ 124500; omega, by show 2060 + 75 * k + (57) ≤ 380000; omega⟩ (fun h3 hh3 => ?_) (fun E hE9 => hE9.elim)
  refine x_ieq (y := nI k) (by rw [hC]) ?_
  refine x_iload hE dL_book_377 rfl ?_
  refine x_icmp_ne (tgt := 386) hE dL_book_379 (by decide) (fun c379 => absurd rfl c379) (fun c379 => ?_)
  refine x_iconst (v := nI 1) hE dL_book_382 (by decide) ?_
  refine x_goto (tgt := 387) hE dL_book_383 (by decide) ?_
  refine x_istore (L' := [some (.ref b), some (.int (nI at_)), some (.ref xa), some (.ref ca), some (.ref ma), some (.ref la), some (.ref pa), some (.ref ta), some (.int (nI 1)), some (.int (nI k)), some (.int (nI x)), none, none]) hE dL_book_387 (Nat.le_of_ble_eq_true rfl) rfl ?_
  refine x_aload_n hE dL_book_389 rfl rfl ?_
  refine x_iconst (v := nI 1) hE dL_book_390 (by decide) ?_
  refine x_dup2 hE dL_book_391 rfl rfl ?_
  refine x_iald (v := nI k) hE (hh3.at hca) (vp_in_nI (by omega) (by decide)) (by rw [nI_clamp (by omega)]; exact (by rw [b2, hC])) dL_book_392 ?_
  refine x_iconst (v := nI 1) hE dL_book_393 (by decide) ?_
  refine x_iadd hE dL_book_394 ?_
  refine x_ieq (y := nI (k + 1)) (nI_add _ _) ?_
  refine x_iast (f' := (upd cf 1 (nI (k + 1)))) hE (hh3.at hca) (vp_in_nI (by omega) (by decide)) (x_updN _ (by omega) _) dL_book_395 ?_
  have hhw1 := hh3.up hca (rowI G 5 (upd cf 1 (nI (k + 1))))
  obtain ⟨hAw1, eAw1⟩ : ∃ z, x_up hA ca (rowI G 5 (upd cf 1 (nI (k + 1)))) = z := ⟨_, rfl⟩
  have gcaw1 : hAw1 ca = some (rowI G 5 (upd cf 1 (nI (k + 1)))) := by rw [← eAw1]; exact x_up_eq _ _ _
  have gmaw1 : hAw1 ma = some (rowI G 60 mf) := by rw [← eAw1]; exact (x_up_ne (row_ne hma hca (by decide))).trans hma
  have glaw1 : hAw1 la = some (rowI G 60 lf) := by rw [← eAw1]; exact (x_up_ne (row_ne hla hca (by decide))).trans hla
  have gpaw1 : hAw1 pa = some (rowI G 3 pf) := by rw [← eAw1]; exact (x_up_ne (row_ne hpa hca (by decide))).trans hpa
  have gtaw1 : hAw1 ta = some (rowI G 18 (upd (upd (upd tf (3 * k) (nI so)) (3 * k + 1) (nI up)) (3 * k + 2) (nI dn))) := by rw [← eAw1]; exact (x_up_ne (row_ne hta hca (by decide))).trans hta
  rw [eAw1] at hhw1
  generalize x_up h3 ca (rowI G 5 (upd cf 1 (nI (k + 1)))) = hw1 at hhw1 ⊢
  refine x_iconst (v := nI 0) hE dL_book_396 (by decide) ?_
  refine x_istore (L' := [some (.ref b), some (.int (nI at_)), some (.ref xa), some (.ref ca), some (.ref ma), some (.ref la), some (.ref pa), some (.ref ta), some (.int (nI 1)), some (.int (nI k)), some (.int (nI x)), some (.int (nI 0)), none]) hE dL_book_397 (Nat.le_of_ble_eq_true rfl) rfl ?_
  have hI2 : iI (cueP (nI so) (nI up) (nI dn) S) (10 + 4 * k + 1) := iI_cue hI (by unfold fCue; rw [if_pos ⟨inI_y (Nat.zero_le _) hso (by decide), inI_y (Nat.zero_le _) hup (by decide), inI_y (Nat.zero_le _) hdn (by decide)⟩, if_neg (by omega)])
  have hC2 : s_C (cueP (nI so) (nI up) (nI dn) S) = k + 1 := by show s_C S + 1 = _; rw [hC]
  obtain ⟨k1, k2, k3, k4⟩ := cue_ar (S := S) (so := nI so) (up := nI up) (dn := nI dn)
  have hB2 : bkC G xa ca ma la pa ta (k + 1) (10 + 4 * k + 1 + 0) (cueP (nI so) (nI up) (nI dn) S) hw1 := ⟨_, hhw1, ⟨_, mf, lf, pf, _, ⟨gcaw1, by rw [upd_ne (by decide)]; exact b1, by rw [upd_at, hC2], by rw [upd_ne (by decide)]; exact b3, by rw [upd_ne (by decide)]; exact b4, by rw [upd_ne (by decide)]; exact b5⟩, ⟨gmaw1, fun q hq => by rw [k4 2 (by decide), k4 3 (by decide), k4 4 (by decide), k4 5 (by decide), k4 6 (by decide), k4 7 (by decide)]; exact c1 q hq, c2⟩, ⟨glaw1, hll.of (k4 14 (by decide))⟩, gpaw1, gtaw1, cue_t hC htt rfl⟩, hS.of (fun q hq => k4 q (by revert q; decide)) rfl rfl rfl rfl, hL, hC2, hI2⟩
  refine x_widen (k := 74 + 7 * k + 0) (n := 2117 + 75 * k + 6 * 0) (by omega) (by omega) ?_
  refine x_down (N := 3) (P := fun j => ∀ (S1 : PS) (h1 : HM), bkC G xa ca ma la pa ta (k + 1) (10 + 4 * k + 1 + j) S1 h1 → x_W G F Q (74 + 7 * k + j) (2117 + 75 * k + 6 * j) h1 399 [some (.ref b), some (.int (nI at_)), some (.ref xa), some (.ref ca), some (.ref ma), some (.ref la), some (.ref pa), some (.ref ta), some (.int (nI 1)), some (.int (nI k)), some (.int (nI x)), some (.int (nI j)), none] []) (fun j hj3 ih => ?_) 0 (by omega) _ _ hB2
  intro S1 h1 hB1
  by_cases hj : j < 3
  · exact bk_level G (at_ := at_) ⟨hE, hZ, hLb⟩ hk hj hx hml hB1 (fun S2 h2 hB2 => ih (j + 1) (by omega) (by omega) S2 h2 hB2)
  · obtain rfl : j = 3 := by omega
    refine x_iload hE dL_book_399 rfl ?_
    refine x_iconst (v := nI 3) hE dL_book_401 (by decide) ?_
    refine x_icmp_ge (tgt := 486) hE dL_book_402 (by decide) (fun c402 => ?_) (fun c402 => absurd (Int32.le_refl _) c402)
    refine x_iinc (v := nI (k + 1)) (L' := [some (.ref b), some (.int (nI at_)), some (.ref xa), some (.ref ca), some (.ref ma), some (.ref la), some (.ref pa), some (.ref ta), some (.int (nI 1)), some (.int (nI (k + 1))), some (.int (nI x)), some (.int (nI 3)), none]) hE dL_book_486 rfl (nI_1 _) rfl ?_
    refine x_goto (tgt := 247) hE dL_book_489 (by decide) ?_
    refine x_widen (k := 70 + 7 * (k + 1)) (n := 2060 + 75 * (k + 1)) (by omega) (by omega) ?_
    refine x_forget (L' := [some (.ref b), some (.int (nI at_)), some (.ref xa), some (.ref ca), some (.ref ma), some (.ref la), some (.ref pa), some (.ref ta), some (.int (nI 1)), some (.int (nI (k + 1))), none, none, none]) (And.intro rfl (And.intro rfl (And.intro rfl (And.intro rfl (And.intro rfl (And.intro rfl (And.intro rfl (And.intro rfl (And.intro rfl (And.intro rfl trivial)))))))))) ?_
    exact kk _ _ hB1
