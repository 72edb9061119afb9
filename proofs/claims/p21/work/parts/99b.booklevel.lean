set_option maxHeartbeats 4000000 in
set_option maxRecDepth 100000 in
theorem bk_level (G : XG) {F : XF} {b L : Nat} {xs : Nat → Int32} (hl : bkE G F b L xs) {Q : State → Prop} {xa ca ma la pa ta at_ k x j : Nat} (hk : k < 6) (hj : j < 3) (hx : x < 2 ^ 30) (hml : ma ≠ la) {S : PS} {h : HM} (hB : bkC G xa ca ma la pa ta (k + 1) (10 + 4 * k + 1 + j) S h) (kk : ∀ (S1 : PS) (h1 : HM), bkC G xa ca ma la pa ta (k + 1) (10 + 4 * k + 1 + j + 1) S1 h1 → x_W G F Q (74 + 7 * k + (j + 1)) (2117 + 75 * k + 6 * (j + 1)) h1 399 [some (.ref b), some (.int (nI at_)), some (.ref xa), some (.ref ca), some (.ref ma), some (.ref la), some (.ref pa), some (.ref ta), some (.int (nI 1)), some (.int (nI k)), some (.int (nI x)), some (.int (nI (j + 1))), none] []) : x_W G F Q (74 + 7 * k + j) (2117 + 75 * k + 6 * j) h 399 [some (.ref b), some (.int (nI at_)), some (.ref xa), some (.ref ca), some (.ref ma), some (.ref la), some (.ref pa), some (.ref ta), some (.int (nI 1)), some (.int (nI k)), some (.int (nI x)), some (.int (nI j)), none] [] := by
  obtain ⟨hE, hZ, hLb⟩ := hl
  have hT := hZ.1
  obtain ⟨hA, hh, ⟨cf, mf, lf, pf, tf, ⟨hca, b1, b2, b3, b4, b5⟩, ⟨hma, c1, c2⟩, ⟨hla, hll⟩, hpa, hta, htt⟩, hS, hL, hC, hI⟩ := hB
  refine x_iload hE dL_book_399 rfl ?_
  refine x_iconst (v := nI 3) hE dL_book_401 (by decide) ?_
  refine x_icmp_ge (tgt := 486) hE dL_book_402 (by decide) (fun c => absurd (x_nIle c (by omega) (by omega)) (by omega)) (fun c402 => ?_)
  refine x_iload hE dL_book_405 rfl ?_
  refine x_if_eq (tgt := 486) hE dL_book_407 (by decide) (fun c407 => absurd c407 (by decide)) (fun c407 => ?_)
  refine x_iload hE dL_book_410 rfl ?_
  refine x_iconst (v := nI 5) hE dL_book_412 (by decide) ?_
  refine x_iconst (v := nI 4) hE dL_book_413 (by decide) ?_
  refine x_iload hE dL_book_414 rfl ?_
  refine x_imul hE dL_book_416 ?_
  refine x_ieq (y := nI (4 * j)) (pk_mul _ _) ?_
  refine x_iadd hE dL_book_417 ?_
  refine x_ieq (y := nI (5 + (4 * j))) (nI_add _ _) ?_
  obtain ⟨v, hv, ev⟩ := shr_any (x := x) (j := j) (by omega) hj
  refine x_ishr hE dL_book_418 ?_
  refine x_ieq (y := nI v) (ev) ?_
  refine x_bipush (v := nI 10) hE dL_book_419 (by decide) ?_
  refine x_irem hE dL_book_421 (by decide) ?_
  refine x_ieq (y := nI (v % 10)) (pk_rem (by omega) (by decide) (by decide)) ?_
  obtain ⟨i, hi, ei⟩ : ∃ z, z < 10 ∧ v % 10 = z := ⟨_, Nat.mod_lt _ (by decide), rfl⟩
  refine x_ieq (y := nI i) (by rw [ei]) ?_
  refine x_istore (L' := [some (.ref b), some (.int (nI at_)), some (.ref xa), some (.ref ca), some (.ref ma), some (.ref la), some (.ref pa), some (.ref ta), some (.int (nI 1)), some (.int (nI k)), some (.int (nI x)), some (.int (nI j)), some (.int (nI i))]) hE dL_book_422 (Nat.le_of_ble_eq_true rfl) rfl ?_
  refine x_aload_n hE dL_book_424 rfl rfl ?_
  refine x_iload hE dL_book_425 rfl ?_
  refine x_iload hE dL_book_427 rfl ?_
  refine x_bipush (v := nI 20) hE dL_book_429 (by decide) ?_
  refine x_bipush (v := nI 25) hE dL_book_431 (by decide) ?_
  refine x_iload hE dL_book_433 rfl ?_
  refine x_imul hE dL_book_435 ?_
  refine x_ieq (y := nI (25 * j)) (pk_mul _ _) ?_
  refine x_iadd hE dL_book_436 ?_
  refine x_ieq (y := nI (20 + (25 * j))) (nI_add _ _) ?_
  have hv100 : 20 + 25 * j ≤ 100 := by omega
  obtain ⟨vv, evv⟩ : ∃ z, 20 + 25 * j = z := ⟨_, rfl⟩
  rw [evv] at hv100
  refine x_ieq (y := nI vv) (by rw [evv]) ?_
  refine k_call (st := []) hE hT 3 (m_level G (c := k) (i := i) (x := vv) (by omega) (by omega) hv100) hh gL_book_X7_level rfl rfl rfl (by decide +kernel) ⟨(Nat.le_of_ble_eq_true rfl), (Nat.le_of_ble_eq_true rfl)⟩ rfl rfl dL_book_437 rfl (Nat.le_of_ble_eq_true rfl) ⟨by show 74 + 7 * k + j + (1) ≤ 124500; omega, by show 2117 + 75 * k + 6 * j + (6) ≤ 380000; omega⟩ (fun h3 hh3 => ?_) (fun E hE9 => hE9.elim)
  refine x_aload hE dL_book_440 rfl rfl ?_
  refine x_bipush (v := nI 10) hE dL_book_442 (by decide) ?_
  refine x_iload hE dL_book_444 rfl ?_
  refine x_imul hE dL_book_446 ?_
  refine x_ieq (y := nI (10 * k)) (pk_mul _ _) ?_
  refine x_iload hE dL_book_447 rfl ?_
  refine x_iadd hE dL_book_449 ?_
  refine x_ieq (y := nI ((10 * k) + i)) (nI_add _ _) ?_
  refine x_iald (v := s_ar S 14 (16 * k + i)) hE (hh3.at hla) (vp_in_nI (by omega) (by decide)) (by rw [nI_clamp (by omega)]; exact hll k i hk hi) dL_book_450 ?_
  refine x_icmp_ne (tgt := 458) hE dL_book_451 (by decide) (fun c451 => absurd rfl c451) (fun c451 => ?_)
  refine x_iconst (v := nI 1) hE dL_book_454 (by decide) ?_
  refine x_goto (tgt := 459) hE dL_book_455 (by decide) ?_
  refine x_istore (L' := [some (.ref b), some (.int (nI at_)), some (.ref xa), some (.ref ca), some (.ref ma), some (.ref la), some (.ref pa), some (.ref ta), some (.int (nI 1)), some (.int (nI k)), some (.int (nI x)), some (.int (nI j)), some (.int (nI i))]) hE dL_book_459 (Nat.le_of_ble_eq_true rfl) rfl ?_
  refine x_aload hE dL_book_461 rfl rfl ?_
  refine x_bipush (v := nI 10) hE dL_book_463 (by decide) ?_
  refine x_iload hE dL_book_465 rfl ?_
  refine x_imul hE dL_book_467 ?_
  refine x_ieq (y := nI (10 * k)) (pk_mul _ _) ?_
  refine x_iload hE dL_book_468 rfl ?_
  refine x_iadd hE dL_book_470 ?_
  refine x_ieq (y := nI ((10 * k) + i)) (nI_add _ _) ?_
  refine x_bipush (v := nI 20) hE dL_book_471 (by decide) ?_
  refine x_bipush (v := nI 25) hE dL_book_473 (by decide) ?_
  refine x_iload hE dL_book_475 rfl ?_
  refine x_imul hE dL_book_477 ?_
  refine x_ieq (y := nI (25 * j)) (pk_mul _ _) ?_
  refine x_iadd hE dL_book_478 ?_
  refine x_ieq (y := nI (20 + (25 * j))) (nI_add _ _) ?_
  refine x_ieq (y := nI vv) (by rw [evv]) ?_
  refine x_iast (f' := (upd lf (10 * k + i) (nI vv))) hE (hh3.at hla) (vp_in_nI (by omega) (by decide)) (x_updN _ (by omega) _) dL_book_479 ?_
  have hhw1 := hh3.up hla (rowI G 60 (upd lf (10 * k + i) (nI vv)))
  obtain ⟨hAw1, eAw1⟩ : ∃ z, x_up hA la (rowI G 60 (upd lf (10 * k + i) (nI vv))) = z := ⟨_, rfl⟩
  have gcaw1 : hAw1 ca = some (rowI G 5 cf) := by rw [← eAw1]; exact (x_up_ne (row_ne hca hla (by decide))).trans hca
  have gmaw1 : hAw1 ma = some (rowI G 60 mf) := by rw [← eAw1]; exact (x_up_ne hml).trans hma
  have glaw1 : hAw1 la = some (rowI G 60 (upd lf (10 * k + i) (nI vv))) := by rw [← eAw1]; exact x_up_eq _ _ _
  have gpaw1 : hAw1 pa = some (rowI G 3 pf) := by rw [← eAw1]; exact (x_up_ne (row_ne hpa hla (by decide))).trans hpa
  have gtaw1 : hAw1 ta = some (rowI G 18 tf) := by rw [← eAw1]; exact (x_up_ne (row_ne hta hla (by decide))).trans hta
  rw [eAw1] at hhw1
  generalize x_up h3 la (rowI G 60 (upd lf (10 * k + i) (nI vv))) = hw1 at hhw1 ⊢
  refine x_iinc (v := nI (j + 1)) (L' := [some (.ref b), some (.int (nI at_)), some (.ref xa), some (.ref ca), some (.ref ma), some (.ref la), some (.ref pa), some (.ref ta), some (.int (nI 1)), some (.int (nI k)), some (.int (nI x)), some (.int (nI (j + 1))), some (.int (nI i))]) hE dL_book_480 rfl (nI_1 _) rfl ?_
  refine x_goto (tgt := 399) hE dL_book_483 (by decide) ?_
  have hI2 : iI (levelP k i (nI vv) S) (10 + 4 * k + 1 + j + 1) := by
    have z := iI_level (c := nI k) (i := nI i) (x := nI vv) hI (by unfold fLevel; rw [if_pos ⟨isN_y (by omega) (by omega), isN_y (by omega) (by omega)⟩, if_pos (inI_y (Nat.zero_le _) hv100 (by decide))])
    rw [nI_clamp (by omega), nI_clamp (by omega)] at z
    exact z
  refine x_widen (k := 74 + 7 * k + (j + 1)) (n := 2117 + 75 * k + 6 * (j + 1)) (by omega) (by omega) ?_
  refine x_forget (L' := [some (.ref b), some (.int (nI at_)), some (.ref xa), some (.ref ca), some (.ref ma), some (.ref la), some (.ref pa), some (.ref ta), some (.int (nI 1)), some (.int (nI k)), some (.int (nI x)), some (.int (nI (j + 1))), none]) (And.intro rfl (And.intro rfl (And.intro rfl (And.intro rfl (And.intro rfl (And.intro rfl (And.intro rfl (And.intro rfl (And.intro rfl (And.intro rfl (And.intro rfl (And.intro rfl trivial)))))))))))) ?_
  exact kk (levelP k i (nI vv) S) _ ⟨_, hhw1, ⟨cf, mf, _, pf, tf, ⟨gcaw1, b1, b2, b3, b4, b5⟩, ⟨gmaw1, fun q hq => by rw [level_ar (k := 2) (by decide), level_ar (k := 3) (by decide), level_ar (k := 4) (by decide), level_ar (k := 5) (by decide), level_ar (k := 6) (by decide), level_ar (k := 7) (by decide)]; exact c1 q hq, c2⟩, ⟨glaw1, level_rows hi hll⟩, gpaw1, gtaw1, fun q hq => by rw [level_ar (k := 11) (by decide), level_ar (k := 12) (by decide), level_ar (k := 13) (by decide)]; exact htt q hq⟩, hS.of (level_no (by decide)) rfl rfl rfl rfl, hL, hC, hI2⟩
