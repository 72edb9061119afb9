set_option maxHeartbeats 4000000 in
set_option maxRecDepth 100000 in
theorem bk_cue (G : XG) {F : XF} {b L : Nat} {xs : Nat → Int32} (hl : bkE G F b L xs) {Q : State → Prop} {xa ca ma la pa ta at_ k : Nat} (hat : at_ ≤ 1000) (hk : k < 6) (hml : ma ≠ la) {S : PS} {h : HM} (hB : bkC G xa ca ma la pa ta k (10 + 4 * k) S h) (kk : ∀ (S1 : PS) (h1 : HM), bkC G xa ca ma la pa ta (k + 1) (10 + 4 * (k + 1)) S1 h1 → x_W G F Q (70 + 7 * (k + 1)) (2060 + 75 * (k + 1)) h1 247 [some (.ref b), some (.int (nI at_)), some (.ref xa), some (.ref ca), some (.ref ma), some (.ref la), some (.ref pa), some (.ref ta), some (.int (nI 1)), some (.int (nI (k + 1))), none, none, none] []) : x_W G F Q (70 + 7 * k) (2060 + 75 * k) h 247 [some (.ref b), some (.int (nI at_)), some (.ref xa), some (.ref ca), some (.ref ma), some (.ref la), some (.ref pa), some (.ref ta), some (.int (nI 1)), some (.int (nI k)), none, none, none] [] := by
  obtain ⟨hE, hZ, hLb⟩ := hl
  have hT := hZ.1
  obtain ⟨hA, hh, ⟨cf, mf, lf, pf, tf, ⟨hca, b1, b2, b3, b4, b5⟩, ⟨hma, c1, c2⟩, ⟨hla, hll⟩, hpa, hta, htt⟩, hS, hL, hC, hI⟩ := hB
  refine x_iload hE dL_book_247 rfl ?_
  refine x_bipush (v := nI 6) hE dL_book_249 (by decide) ?_
  refine x_icmp_ge (tgt := 492) hE dL_book_251 (by decide) (fun c => absurd (x_nIle c (by omega) (by omega)) (by omega)) (fun c251 => ?_)
  refine x_iload hE dL_book_254 rfl ?_
  refine x_if_eq (tgt := 492) hE dL_book_256 (by decide) (fun c256 => absurd c256 (by decide)) (fun c256 => ?_)
  refine x_aload_n hE dL_book_259 rfl rfl ?_
  refine x_iload_n hE dL_book_260 rfl ?_
  refine x_bipush (v := nI 10) hE dL_book_261 (by decide) ?_
  refine x_iadd hE dL_book_263 ?_
  refine x_ieq (y := nI (at_ + 10)) (nI_add _ _) ?_
  refine x_iload hE dL_book_264 rfl ?_
  refine x_iadd hE dL_book_266 ?_
  refine x_ieq (y := nI ((at_ + 10) + k)) (nI_add _ _) ?_
  refine x_ldc (v := (1073741824)) hE (List.mem_of_getElem? (i := 5) rfl) dL_book_267 ?_
  refine x_ieq (y := nI 1073741824) (rfl) ?_
  refine w_callS (st := []) hE (zS_S G b L xs) hZ 3 (c_L_draw G hLb (k := (at_ + 10) + k) (by omega)) gL_book_L_draw rfl rfl rfl (by decide +kernel) ⟨(Nat.le_of_ble_eq_true rfl), (Nat.le_of_ble_eq_true rfl)⟩ rfl rfl dL_book_269 rfl (Nat.le_of_ble_eq_true rfl) ⟨by show 70 + 7 * k + (0) ≤ 124500; omega, by show 2060 + 75 * k + (0) ≤ 380000; omega⟩ (fun v hx hp => ?_)
  obtain ⟨⟨x, hx, rfl⟩, ex⟩ := hp
  refine x_heq ex ?_
  refine x_istore (L' := [some (.ref b), some (.int (nI at_)), some (.ref xa), some (.ref ca), some (.ref ma), some (.ref la), some (.ref pa), some (.ref ta), some (.int (nI 1)), some (.int (nI k)), some (.int (nI x)), none, none]) hE dL_book_272 (Nat.le_of_ble_eq_true rfl) rfl ?_
  refine x_aload hE dL_book_274 rfl rfl ?_
  refine x_iconst (v := nI 3) hE dL_book_276 (by decide) ?_
  refine x_iload hE dL_book_277 rfl ?_
  refine x_imul hE dL_book_279 ?_
  refine x_ieq (y := nI (3 * k)) (pk_mul _ _) ?_
  refine x_iload hE dL_book_280 rfl ?_
  refine x_iconst (v := nI 2) hE dL_book_282 (by decide) ?_
  refine x_irem hE dL_book_283 (by decide) ?_
  refine x_ieq (y := nI (x % 2)) (pk_rem (by omega) (by decide) (by decide)) ?_
  obtain ⟨so, hso, eso⟩ : ∃ z, z ≤ 1 ∧ x % 2 = z := ⟨_, by omega, rfl⟩
  refine x_ieq (y := nI so) (by rw [eso]) ?_
  refine x_iast (f' := (upd tf (3 * k) (nI so))) hE (hh.at hta) (vp_in_nI (by omega) (by decide)) (x_updN _ (by omega) _) dL_book_284 ?_
  have hhw1 := hh.up hta (rowI G 18 (upd tf (3 * k) (nI so)))
  obtain ⟨hAw1, eAw1⟩ : ∃ z, x_up hA ta (rowI G 18 (upd tf (3 * k) (nI so))) = z := ⟨_, rfl⟩
  have gcaw1 : hAw1 ca = some (rowI G 5 cf) := by rw [← eAw1]; exact (x_up_ne (row_ne hca hta (by decide))).trans hca
  have gmaw1 : hAw1 ma = some (rowI G 60 mf) := by rw [← eAw1]; exact (x_up_ne (row_ne hma hta (by decide))).trans hma
  have glaw1 : hAw1 la = some (rowI G 60 lf) := by rw [← eAw1]; exact (x_up_ne (row_ne hla hta (by decide))).trans hla
  have gpaw1 : hAw1 pa = some (rowI G 3 pf) := by rw [← eAw1]; exact (x_up_ne (row_ne hpa hta (by decide))).trans hpa
  have gtaw1 : hAw1 ta = some (rowI G 18 (upd tf (3 * k) (nI so))) := by rw [← eAw1]; exact x_up_eq _ _ _
  rw [eAw1] at hhw1
  generalize x_up h ta (rowI G 18 (upd tf (3 * k) (nI so))) = hw1 at hhw1 ⊢
  refine x_aload hE dL_book_285 rfl rfl ?_
  refine x_iconst (v := nI 3) hE dL_book_287 (by decide) ?_
  refine x_iload hE dL_book_288 rfl ?_
  refine x_imul hE dL_book_290 ?_
  refine x_ieq (y := nI (3 * k)) (pk_mul _ _) ?_
  refine x_iconst (v := nI 1) hE dL_book_291 (by decide) ?_
  refine x_iadd hE dL_book_292 ?_
  refine x_ieq (y := nI ((3 * k) + 1)) (nI_add _ _) ?_
  refine x_iload hE dL_book_293 rfl ?_
  refine x_iconst (v := nI 2) hE dL_book_295 (by decide) ?_
  refine x_idiv hE dL_book_296 (by decide) ?_
  refine x_ieq (y := nI (x / 2)) (pk_div (by omega) (by decide) (by decide)) ?_
  refine x_iconst (v := nI 3) hE dL_book_297 (by decide) ?_
  refine x_irem hE dL_book_298 (by decide) ?_
  refine x_ieq (y := nI ((x / 2) % 3)) (pk_rem (by omega) (by decide) (by decide)) ?_
  refine x_if_ne (tgt := 306) hE dL_book_299 (by decide) (fun c299 => ?_) (fun c299 => ?_)
  · refine x_iload hE dL_book_306 rfl ?_
    refine x_bipush (v := nI 6) hE dL_book_308 (by decide) ?_
    refine x_idiv hE dL_book_310 (by decide) ?_
    refine x_ieq (y := nI (x / 6)) (pk_div (by omega) (by decide) (by decide)) ?_
    refine x_bipush (v := nI 30) hE dL_book_311 (by decide) ?_
    refine x_irem hE dL_book_313 (by decide) ?_
    refine x_ieq (y := nI ((x / 6) % 30)) (pk_rem (by omega) (by decide) (by decide)) ?_
    obtain ⟨up, hup, eup⟩ : ∃ z, z ≤ 60 ∧ x / 6 % 30 = z := ⟨_, by omega, rfl⟩
    refine x_ieq (y := nI up) (by rw [eup]) ?_
    refine x_iast (f' := (upd (upd tf (3 * k) (nI so)) (3 * k + 1) (nI up))) hE (hhw1.at gtaw1) (vp_in_nI (by omega) (by decide)) (x_updN _ (by omega) _) dL_book_314 ?_
    have hhw2 := hhw1.up gtaw1 (rowI G 18 (upd (upd tf (3 * k) (nI so)) (3 * k + 1) (nI up)))
    obtain ⟨hAw2, eAw2⟩ : ∃ z, x_up hAw1 ta (rowI G 18 (upd (upd tf (3 * k) (nI so)) (3 * k + 1) (nI up))) = z := ⟨_, rfl⟩
    have gcaw2 : hAw2 ca = some (rowI G 5 cf) := by rw [← eAw2]; exact (x_up_ne (row_ne gcaw1 gtaw1 (by decide))).trans gcaw1
    have gmaw2 : hAw2 ma = some (rowI G 60 mf) := by rw [← eAw2]; exact (x_up_ne (row_ne gmaw1 gtaw1 (by decide))).trans gmaw1
    have glaw2 : hAw2 la = some (rowI G 60 lf) := by rw [← eAw2]; exact (x_up_ne (row_ne glaw1 gtaw1 (by decide))).trans glaw1
    have gpaw2 : hAw2 pa = some (rowI G 3 pf) := by rw [← eAw2]; exact (x_up_ne (row_ne gpaw1 gtaw1 (by decide))).trans gpaw1
    have gtaw2 : hAw2 ta = some (rowI G 18 (upd (upd tf (3 * k) (nI so)) (3 * k + 1) (nI up))) := by rw [← eAw2]; exact x_up_eq _ _ _
    rw [eAw2] at hhw2
    generalize x_up hw1 ta (rowI G 18 (upd (upd tf (3 * k) (nI so)) (3 * k + 1) (nI up))) = hw2 at hhw2 ⊢
    refine x_aload hE dL_book_315 rfl rfl ?_
    refine x_iconst (v := nI 3) hE dL_book_317 (by decide) ?_
    refine x_iload hE dL_book_318 rfl ?_
    refine x_imul hE dL_book_320 ?_
    refine x_ieq (y := nI (3 * k)) (pk_mul _ _) ?_
    refine x_iconst (v := nI 2) hE dL_book_321 (by decide) ?_
    refine x_iadd hE dL_book_322 ?_
    refine x_ieq (y := nI ((3 * k) + 2)) (nI_add _ _) ?_
    refine x_iload hE dL_book_323 rfl ?_
    refine x_sipush (v := nI 180) hE dL_book_325 (by decide) ?_
    refine x_idiv hE dL_book_328 (by decide) ?_
    refine x_ieq (y := nI (x / 180)) (pk_div (by omega) (by decide) (by decide)) ?_
    refine x_iconst (v := nI 3) hE dL_book_329 (by decide) ?_
    refine x_irem hE dL_book_330 (by decide) ?_
    refine x_ieq (y := nI ((x / 180) % 3)) (pk_rem (by omega) (by decide) (by decide)) ?_
    refine x_if_ne (tgt := 338) hE dL_book_331 (by decide) (fun c331 => ?_) (fun c331 => ?_)
    · refine x_iload hE dL_book_338 rfl ?_
      refine x_sipush (v := nI 540) hE dL_book_340 (by decide) ?_
      refine x_idiv hE dL_book_343 (by decide) ?_
      refine x_ieq (y := nI (x / 540)) (pk_div (by omega) (by decide) (by decide)) ?_
      refine x_bipush (v := nI 30) hE dL_book_344 (by decide) ?_
      refine x_irem hE dL_book_346 (by decide) ?_
      refine x_ieq (y := nI ((x / 540) % 30)) (pk_rem (by omega) (by decide) (by decide)) ?_
      obtain ⟨dn, hdn, edn⟩ : ∃ z, z ≤ 60 ∧ x / 540 % 30 = z := ⟨_, by omega, rfl⟩
      refine x_ieq (y := nI dn) (by rw [edn]) ?_
      refine x_iast (f' := (upd (upd (upd tf (3 * k) (nI so)) (3 * k + 1) (nI up)) (3 * k + 2) (nI dn))) hE (hhw2.at gtaw2) (vp_in_nI (by omega) (by decide)) (x_updN _ (by omega) _) dL_book_347 ?_
      have hhw3 := hhw2.up gtaw2 (rowI G 18 (upd (upd (upd tf (3 * k) (nI so)) (3 * k + 1) (nI up)) (3 * k + 2) (nI dn)))
      obtain ⟨hAw3, eAw3⟩ : ∃ z, x_up hAw2 ta (rowI G 18 (upd (upd (upd tf (3 * k) (nI so)) (3 * k + 1) (nI up)) (3 * k + 2) (nI dn))) = z := ⟨_, rfl⟩
      have gcaw3 : hAw3 ca = some (rowI G 5 cf) := by rw [← eAw3]; exact (x_up_ne (row_ne gcaw2 gtaw2 (by decide))).trans gcaw2
      have gmaw3 : hAw3 ma = some (rowI G 60 mf) := by rw [← eAw3]; exact (x_up_ne (row_ne gmaw2 gtaw2 (by decide))).trans gmaw2
      have glaw3 : hAw3 la = some (rowI G 60 lf) := by rw [← eAw3]; exact (x_up_ne (row_ne glaw2 gtaw2 (by decide))).trans glaw2
      have gpaw3 : hAw3 pa = some (rowI G 3 pf) := by rw [← eAw3]; exact (x_up_ne (row_ne gpaw2 gtaw2 (by decide))).trans gpaw2
      have gtaw3 : hAw3 ta = some (rowI G 18 (upd (upd (upd tf (3 * k) (nI so)) (3 * k + 1) (nI up)) (3 * k + 2) (nI dn))) := by rw [← eAw3]; exact x_up_eq _ _ _
      rw [eAw3] at hhw3
      generalize x_up hw2 ta (rowI G 18 (upd (upd (upd tf (3 * k) (nI so)) (3 * k + 1) (nI up)) (3 * k + 2) (nI dn))) = hw3 at hhw3 ⊢
      refine x_widen (k := 70 + 7 * k) (n := 2060 + 75 * k) (by omega) (by omega) ?_
      exact bk_cue2 G (at_ := at_) ⟨hE, hZ, hLb⟩ hk hx hml hso hup hdn hhw3 gcaw3 b1 b2 b3 b4 b5 gmaw3 c1 c2 glaw3 hll gpaw3 gtaw3 htt hS hL hC hI kk
    · refine x_iconst (v := nI 0) hE dL_book_334 (by decide) ?_
      refine x_goto (tgt := 347) hE dL_book_335 (by decide) ?_
      obtain ⟨dn, hdn, edn⟩ : ∃ z, z ≤ 60 ∧ 0 = z := ⟨_, by decide, rfl⟩
      refine x_ieq (y := nI dn) (by rw [← edn]) ?_
      refine x_iast (f' := (upd (upd (upd tf (3 * k) (nI so)) (3 * k + 1) (nI up)) (3 * k + 2) (nI dn))) hE (hhw2.at gtaw2) (vp_in_nI (by omega) (by decide)) (x_updN _ (by omega) _) dL_book_347 ?_
      have hhw4 := hhw2.up gtaw2 (rowI G 18 (upd (upd (upd tf (3 * k) (nI so)) (3 * k + 1) (nI up)) (3 * k + 2) (nI dn)))
      obtain ⟨hAw4, eAw4⟩ : ∃ z, x_up hAw2 ta (rowI G 18 (upd (upd (upd tf (3 * k) (nI so)) (3 * k + 1) (nI up)) (3 * k + 2) (nI dn))) = z := ⟨_, rfl⟩
      have gcaw4 : hAw4 ca = some (rowI G 5 cf) := by rw [← eAw4]; exact (x_up_ne (row_ne gcaw2 gtaw2 (by decide))).trans gcaw2
      have gmaw4 : hAw4 ma = some (rowI G 60 mf) := by rw [← eAw4]; exact (x_up_ne (row_ne gmaw2 gtaw2 (by decide))).trans gmaw2
      have glaw4 : hAw4 la = some (rowI G 60 lf) := by rw [← eAw4]; exact (x_up_ne (row_ne glaw2 gtaw2 (by decide))).trans glaw2
      have gpaw4 : hAw4 pa = some (rowI G 3 pf) := by rw [← eAw4]; exact (x_up_ne (row_ne gpaw2 gtaw2 (by decide))).trans gpaw2
      have gtaw4 : hAw4 ta = some (rowI G 18 (upd (upd (upd tf (3 * k) (nI so)) (3 * k + 1) (nI up)) (3 * k + 2) (nI dn))) := by rw [← eAw4]; exact x_up_eq _ _ _
      rw [eAw4] at hhw4
      generalize x_up hw2 ta (rowI G 18 (upd (upd (upd tf (3 * k) (nI so)) (3 * k + 1) (nI up)) (3 * k + 2) (nI dn))) = hw4 at hhw4 ⊢
      refine x_widen (k := 70 + 7 * k) (n := 2060 + 75 * k) (by omega) (by omega) ?_
      exact bk_cue2 G (at_ := at_) ⟨hE, hZ, hLb⟩ hk hx hml hso hup hdn hhw4 gcaw4 b1 b2 b3 b4 b5 gmaw4 c1 c2 glaw4 hll gpaw4 gtaw4 htt hS hL hC hI kk
  · refine x_iconst (v := nI 0) hE dL_book_302 (by decide) ?_
    refine x_goto (tgt := 314) hE dL_book_303 (by decide) ?_
    obtain ⟨up, hup, eup⟩ : ∃ z, z ≤ 60 ∧ 0 = z := ⟨_, by decide, rfl⟩
    refine x_ieq (y := nI up) (by rw [← eup]) ?_
    refine x_iast (f' := (upd (upd tf (3 * k) (nI so)) (3 * k + 1) (nI up))) hE (hhw1.at gtaw1) (vp_in_nI (by omega) (by decide)) (x_updN _ (by omega) _) dL_book_314 ?_
    have hhw5 := hhw1.up gtaw1 (rowI G 18 (upd (upd tf (3 * k) (nI so)) (3 * k + 1) (nI up)))
    obtain ⟨hAw5, eAw5⟩ : ∃ z, x_up hAw1 ta (rowI G 18 (upd (upd tf (3 * k) (nI so)) (3 * k + 1) (nI up))) = z := ⟨_, rfl⟩
    have gcaw5 : hAw5 ca = some (rowI G 5 cf) := by rw [← eAw5]; exact (x_up_ne (row_ne gcaw1 gtaw1 (by decide))).trans gcaw1
    have gmaw5 : hAw5 ma = some (rowI G 60 mf) := by rw [← eAw5]; exact (x_up_ne (row_ne gmaw1 gtaw1 (by decide))).trans gmaw1
    have glaw5 : hAw5 la = some (rowI G 60 lf) := by rw [← eAw5]; exact (x_up_ne (row_ne glaw1 gtaw1 (by decide))).trans glaw1
    have gpaw5 : hAw5 pa = some (rowI G 3 pf) := by rw [← eAw5]; exact (x_up_ne (row_ne gpaw1 gtaw1 (by decide))).trans gpaw1
    have gtaw5 : hAw5 ta = some (rowI G 18 (upd (upd tf (3 * k) (nI so)) (3 * k + 1) (nI up))) := by rw [← eAw5]; exact x_up_eq _ _ _
    rw [eAw5] at hhw5
    generalize x_up hw1 ta (rowI G 18 (upd (upd tf (3 * k) (nI so)) (3 * k + 1) (nI up))) = hw5 at hhw5 ⊢
    refine x_aload hE dL_book_315 rfl rfl ?_
    refine x_iconst (v := nI 3) hE dL_book_317 (by decide) ?_
    refine x_iload hE dL_book_318 rfl ?_
    refine x_imul hE dL_book_320 ?_
    refine x_ieq (y := nI (3 * k)) (pk_mul _ _) ?_
    refine x_iconst (v := nI 2) hE dL_book_321 (by decide) ?_
    refine x_iadd hE dL_book_322 ?_
    refine x_ieq (y := nI ((3 * k) + 2)) (nI_add _ _) ?_
    refine x_iload hE dL_book_323 rfl ?_
    refine x_sipush (v := nI 180) hE dL_book_325 (by decide) ?_
    refine x_idiv hE dL_book_328 (by decide) ?_
    refine x_ieq (y := nI (x / 180)) (pk_div (by omega) (by decide) (by decide)) ?_
    refine x_iconst (v := nI 3) hE dL_book_329 (by decide) ?_
    refine x_irem hE dL_book_330 (by decide) ?_
    refine x_ieq (y := nI ((x / 180) % 3)) (pk_rem (by omega) (by decide) (by decide)) ?_
    refine x_if_ne (tgt := 338) hE dL_book_331 (by decide) (fun c331 => ?_) (fun c331 => ?_)
    · refine x_iload hE dL_book_338 rfl ?_
      refine x_sipush (v := nI 540) hE dL_book_340 (by decide) ?_
      refine x_idiv hE dL_book_343 (by decide) ?_
      refine x_ieq (y := nI (x / 540)) (pk_div (by omega) (by decide) (by decide)) ?_
      refine x_bipush (v := nI 30) hE dL_book_344 (by decide) ?_
      refine x_irem hE dL_book_346 (by decide) ?_
      refine x_ieq (y := nI ((x / 540) % 30)) (pk_rem (by omega) (by decide) (by decide)) ?_
      obtain ⟨dn, hdn, edn⟩ : ∃ z, z ≤ 60 ∧ x / 540 % 30 = z := ⟨_, by omega, rfl⟩
      refine x_ieq (y := nI dn) (by rw [edn]) ?_
      refine x_iast (f' := (upd (upd (upd tf (3 * k) (nI so)) (3 * k + 1) (nI up)) (3 * k + 2) (nI dn))) hE (hhw5.at gtaw5) (vp_in_nI (by omega) (by decide)) (x_updN _ (by omega) _) dL_book_347 ?_
      have hhw6 := hhw5.up gtaw5 (rowI G 18 (upd (upd (upd tf (3 * k) (nI so)) (3 * k + 1) (nI up)) (3 * k + 2) (nI dn)))
      obtain ⟨hAw6, eAw6⟩ : ∃ z, x_up hAw5 ta (rowI G 18 (upd (upd (upd tf (3 * k) (nI so)) (3 * k + 1) (nI up)) (3 * k + 2) (nI dn))) = z := ⟨_, rfl⟩
      have gcaw6 : hAw6 ca = some (rowI G 5 cf) := by rw [← eAw6]; exact (x_up_ne (row_ne gcaw5 gtaw5 (by decide))).trans gcaw5
      have gmaw6 : hAw6 ma = some (rowI G 60 mf) := by rw [← eAw6]; exact (x_up_ne (row_ne gmaw5 gtaw5 (by decide))).trans gmaw5
      have glaw6 : hAw6 la = some (rowI G 60 lf) := by rw [← eAw6]; exact (x_up_ne (row_ne glaw5 gtaw5 (by decide))).trans glaw5
      have gpaw6 : hAw6 pa = some (rowI G 3 pf) := by rw [← eAw6]; exact (x_up_ne (row_ne gpaw5 gtaw5 (by decide))).trans gpaw5
      have gtaw6 : hAw6 ta = some (rowI G 18 (upd (upd (upd tf (3 * k) (nI so)) (3 * k + 1) (nI up)) (3 * k + 2) (nI dn))) := by rw [← eAw6]; exact x_up_eq _ _ _
      rw [eAw6] at hhw6
      generalize x_up hw5 ta (rowI G 18 (upd (upd (upd tf (3 * k) (nI so)) (3 * k + 1) (nI up)) (3 * k + 2) (nI dn))) = hw6 at hhw6 ⊢
      refine x_widen (k := 70 + 7 * k) (n := 2060 + 75 * k) (by omega) (by omega) ?_
      exact bk_cue2 G (at_ := at_) ⟨hE, hZ, hLb⟩ hk hx hml hso hup hdn hhw6 gcaw6 b1 b2 b3 b4 b5 gmaw6 c1 c2 glaw6 hll gpaw6 gtaw6 htt hS hL hC hI kk
    · refine x_iconst (v := nI 0) hE dL_book_334 (by decide) ?_
      refine x_goto (tgt := 347) hE dL_book_335 (by decide) ?_
      obtain ⟨dn, hdn, edn⟩ : ∃ z, z ≤ 60 ∧ 0 = z := ⟨_, by decide, rfl⟩
      refine x_ieq (y := nI dn) (by rw [← edn]) ?_
      refine x_iast (f' := (upd (upd (upd tf (3 * k) (nI so)) (3 * k + 1) (nI up)) (3 * k + 2) (nI dn))) hE (hhw5.at gtaw5) (vp_in_nI (by omega) (by decide)) (x_updN _ (by omega) _) dL_book_347 ?_
      have hhw7 := hhw5.up gtaw5 (rowI G 18 (upd (upd (upd tf (3 * k) (nI so)) (3 * k + 1) (nI up)) (3 * k + 2) (nI dn)))
      obtain ⟨hAw7, eAw7⟩ : ∃ z, x_up hAw5 ta (rowI G 18 (upd (upd (upd tf (3 * k) (nI so)) (3 * k + 1) (nI up)) (3 * k + 2) (nI dn))) = z := ⟨_, rfl⟩
      have gcaw7 : hAw7 ca = some (rowI G 5 cf) := by rw [← eAw7]; exact (x_up_ne (row_ne gcaw5 gtaw5 (by decide))).trans gcaw5
      have gmaw7 : hAw7 ma = some (rowI G 60 mf) := by rw [← eAw7]; exact (x_up_ne (row_ne gmaw5 gtaw5 (by decide))).trans gmaw5
      have glaw7 : hAw7 la = some (rowI G 60 lf) := by rw [← eAw7]; exact (x_up_ne (row_ne glaw5 gtaw5 (by decide))).trans glaw5
      have gpaw7 : hAw7 pa = some (rowI G 3 pf) := by rw [← eAw7]; exact (x_up_ne (row_ne gpaw5 gtaw5 (by decide))).trans gpaw5
      have gtaw7 : hAw7 ta = some (rowI G 18 (upd (upd (upd tf (3 * k) (nI so)) (3 * k + 1) (nI up)) (3 * k + 2) (nI dn))) := by rw [← eAw7]; exact x_up_eq _ _ _
      rw [eAw7] at hhw7
      generalize x_up hw5 ta (rowI G 18 (upd (upd (upd tf (3 * k) (nI so)) (3 * k + 1) (nI up)) (3 * k + 2) (nI dn))) = hw7 at hhw7 ⊢
      refine x_widen (k := 70 + 7 * k) (n := 2060 + 75 * k) (by omega) (by omega) ?_
      exact bk_cue2 G (at_ := at_) ⟨hE, hZ, hLb⟩ hk hx hml hso hup hdn hhw7 gcaw7 b1 b2 b3 b4 b5 gmaw7 c1 c2 glaw7 hll gpaw7 gtaw7 htt hS hL hC hI kk
