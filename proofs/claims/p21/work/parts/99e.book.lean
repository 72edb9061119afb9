theorem lgA.setp {G : XG} {ca ma la pa ta : Nat} {S : PS} {hA : HM} {pf pf' : Nat → Int32} (hp : hA pa = some (rowI G 3 pf)) (h : lgA G ca ma la pa ta S hA) : lgA G ca ma la pa ta S (x_up hA pa (rowI G 3 pf')) := by
  obtain ⟨cf, mf, lf, pf0, tf, ⟨hca, b1⟩, ⟨hma, c1⟩, ⟨hla, hll⟩, hpa, hta, htt⟩ := h
  exact ⟨cf, mf, lf, pf', tf, ⟨(x_up_ne (row_ne hca hp (by decide))).trans hca, b1⟩, ⟨(x_up_ne (row_ne hma hp (by decide))).trans hma, c1⟩, ⟨(x_up_ne (row_ne hla hp (by decide))).trans hla, hll⟩, x_up_eq _ _ _, (x_up_ne (row_ne hta hp (by decide))).trans hta, htt⟩
theorem lgS_0 : lgS PS0 := ⟨fun k hk => absurd hk (Nat.not_lt_zero k), rfl, rfl, rfl, fun j hj => by rcases (show j = 0 ∨ j = 1 ∨ j = 2 by omega) with rfl | rfl | rfl <;> rfl⟩
def bkP (G : XG) (xa ca ma la pa ta k : Nat) (S : PS) (h : HM) : Prop := ∃ (hA : HM) (pf : Nat → Int32), lH G xa S hA h ∧ lgA G ca ma la pa ta S hA ∧ hA pa = some (rowI G 3 pf) ∧ ∀ j, j < k → pf j = nI 5000
theorem lgA.p {G : XG} {ca ma la pa ta : Nat} {S : PS} {hA : HM} (h : lgA G ca ma la pa ta S hA) : ∃ pf, hA pa = some (rowI G 3 pf) := by
  obtain ⟨cf, mf, lf, pf0, tf, ⟨hca, b1⟩, ⟨hma, c1⟩, ⟨hla, hll⟩, hpa, hta, htt⟩ := h
  exact ⟨pf0, hpa⟩

set_option maxHeartbeats 4000000 in
set_option maxRecDepth 100000 in
theorem c_L_book (G : XG) {b L : Nat} {xs : Nat → Int32} (hLb : L < 2 ^ 31) {at_ : Nat} (hat : at_ ≤ 1000) : w_M G (scr G b L xs) yL_book wsL_book ({ frames := 10, cells := 124500, slots := 380000, locals := 220 } : Room) [.ref b, .int (nI at_)] emp (fun v h' => v = some (.int (nI 1))) 124500 380000 := by
  refine w_M.of (cc := cL_book) (maxL := 13) (ret := (some .boolean)) (ent := [some (.ref b), some (.int (nI at_)), none, none, none, none, none, none, none, none, none, none, none]) (by decide +kernel) rfl (Nat.le_of_ble_eq_true rfl) rfl rfl ?_
  intro F hE hname hT
  have hl : bkE G F b L xs := ⟨hE, hT, hLb⟩
  have hZ := hT
  replace hT := hT.1
  have hinX7 : ∀ w ∈ wsX70, w ∈ wsL_book := by decide +kernel
  refine x_new (ci := 7) (fs := [.null, .null, .null, .null, .null, .null, .null, .int 0, .int 0, .int 0]) hE hinX7 tyX7 tyX7_ok (List.mem_of_getElem? (i := 1) rfl) (List.mem_of_getElem? (i := 2) rfl) (List.mem_of_getElem? (i := 3) rfl) rfl (fun j hj => by rcases (show j = 0 ∨ j = 1 ∨ j = 2 ∨ j = 3 ∨ j = 4 ∨ j = 5 ∨ j = 6 ∨ j = 7 ∨ j = 8 ∨ j = 9 by omega) with rfl | rfl | rfl | rfl | rfl | rfl | rfl | rfl | rfl | rfl <;> rfl) (Nat.le_of_ble_eq_true rfl) (Nat.le_of_ble_eq_true rfl) dL_book_0 (fun xa hxa => ?_)
  refine x_dup hE dL_book_3 rfl ?_
  have hci : ∀ A : Nat → Prop, x_M (reG G A) yX7_init wsX7_init ({ frames := 3, cells := 38, slots := 1741, locals := 61 } : Room) [.ref xa] (x_up emp xa (.inr (7, [.null, .null, .null, .null, .null, .null, .null, .int 0, .int 0, .int 0]))) (fun v h' => v = none ∧ ∃ (ad ow : Nat → Nat) (eA : Nat) (P1 P2 : List Nat), ad 0 = xa ∧ cW G ad ow eA [] P1 (fun _ => (none, 0, -1)) [] P2 (fun _ => (none, 0, -1)) [] PS0 h') 38 1741 := fun A => c_X7_init (reG G A) (x_up_eq _ _ _)
  refine x_heq (jn_e _).symm ?_
  refine z_callI (st := [.ref xa]) hE 0 hci (dj_e _) gL_book_X7_init rfl rfl rfl (List.mem_of_getElem? (i := 3) rfl) (List.mem_of_getElem? (i := 7) rfl) (List.mem_of_getElem? (i := 8) rfl) rfl (by decide +kernel) ⟨(Nat.le_of_ble_eq_true rfl), (Nat.le_of_ble_eq_true rfl)⟩ rfl rfl dL_book_4 rfl (Nat.le_of_ble_eq_true rfl) ⟨(Nat.le_of_ble_eq_true rfl), (Nat.le_of_ble_eq_true rfl)⟩ (fun v hC hp dC0 => ?_)
  obtain ⟨rfl, ad, ow, eA, P1, P2, had, hW⟩ := hp
  have hb0 : bW G xa PS0 hC := ⟨ad, ow, eA, [], P1, _, [], P2, _, [], had, hW⟩
  refine x_heq (jn_e hC) ?_
  have hh : lH G xa PS0 emp hC := ⟨hC, (jn_e hC).symm, dj_e hC, hb0⟩
  refine x_astore_n (L' := [some (.ref b), some (.int (nI at_)), some (.ref xa), none, none, none, none, none, none, none, none, none, none]) hE dL_book_7 rfl (Nat.le_of_ble_eq_true rfl) rfl rfl ?_
  refine x_iconst (v := nI 5) hE dL_book_8 (by decide) ?_
  refine x_newa (t0 := 0) (cA := g_c G 0) (a0 := (5, .inl (fun _ => 0))) hE (List.mem_of_getElem? (i := 4) rfl) rfl rfl (fun C e => by cases e) (fun cA => rfl) (nI_pos (by decide)) (nI_clamp (by decide)) (by decide) (by show 0 + 1 + 38 + 1 ≤ 124500; omega) (by show 0 + 10 + 1741 + 5 ≤ 380000; omega) dL_book_9 (fun ca hca0 => ?_)
  have hnon1 := hh.no hca0
  have hhn1 := hh.new hca0 (rowI G 5 (fun _ => 0))
  obtain ⟨hAn1, eAn1⟩ : ∃ z, x_up emp ca (rowI G 5 (fun _ => 0)) = z := ⟨_, rfl⟩
  have gcan1 : hAn1 ca = some (rowI G 5 (fun _ => 0)) := by rw [← eAn1]; exact x_up_eq _ _ _
  rw [eAn1] at hhn1
  generalize x_up hC ca (rowI G 5 (fun _ => 0)) = hn1 at hhn1 ⊢
  refine x_astore_n (L' := [some (.ref b), some (.int (nI at_)), some (.ref xa), some (.ref ca), none, none, none, none, none, none, none, none, none]) hE dL_book_11 rfl (Nat.le_of_ble_eq_true rfl) rfl rfl ?_
  refine x_bipush (v := nI 60) hE dL_book_12 (by decide) ?_
  refine x_newa (t0 := 0) (cA := g_c G 0) (a0 := (60, .inl (fun _ => 0))) hE (List.mem_of_getElem? (i := 4) rfl) rfl rfl (fun C e => by cases e) (fun cA => rfl) (nI_pos (by decide)) (nI_clamp (by decide)) (by decide) (by show 0 + 1 + 38 + 1 + 1 ≤ 124500; omega) (by show 0 + 10 + 1741 + 5 + 60 ≤ 380000; omega) dL_book_14 (fun ma hma0 => ?_)
  have hnon2 := hhn1.no hma0
  have hhn2 := hhn1.new hma0 (rowI G 60 (fun _ => 0))
  obtain ⟨hAn2, eAn2⟩ : ∃ z, x_up hAn1 ma (rowI G 60 (fun _ => 0)) = z := ⟨_, rfl⟩
  have gcan2 : hAn2 ca = some (rowI G 5 (fun _ => 0)) := by rw [← eAn2]; exact (x_up_ne (x_none_ne hnon2 gcan1)).trans gcan1
  have gman2 : hAn2 ma = some (rowI G 60 (fun _ => 0)) := by rw [← eAn2]; exact x_up_eq _ _ _
  rw [eAn2] at hhn2
  generalize x_up hn1 ma (rowI G 60 (fun _ => 0)) = hn2 at hhn2 ⊢
  refine x_astore (L' := [some (.ref b), some (.int (nI at_)), some (.ref xa), some (.ref ca), some (.ref ma), none, none, none, none, none, none, none, none]) hE dL_book_16 (Nat.le_of_ble_eq_true rfl) rfl rfl ?_
  refine x_bipush (v := nI 60) hE dL_book_18 (by decide) ?_
  refine x_newa (t0 := 0) (cA := g_c G 0) (a0 := (60, .inl (fun _ => 0))) hE (List.mem_of_getElem? (i := 4) rfl) rfl rfl (fun C e => by cases e) (fun cA => rfl) (nI_pos (by decide)) (nI_clamp (by decide)) (by decide) (by show 0 + 1 + 38 + 1 + 1 + 1 ≤ 124500; omega) (by show 0 + 10 + 1741 + 5 + 60 + 60 ≤ 380000; omega) dL_book_20 (fun la hla0 => ?_)
  have hnon3 := hhn2.no hla0
  have hhn3 := hhn2.new hla0 (rowI G 60 (fun _ => 0))
  obtain ⟨hAn3, eAn3⟩ : ∃ z, x_up hAn2 la (rowI G 60 (fun _ => 0)) = z := ⟨_, rfl⟩
  have gcan3 : hAn3 ca = some (rowI G 5 (fun _ => 0)) := by rw [← eAn3]; exact (x_up_ne (x_none_ne hnon3 gcan2)).trans gcan2
  have hml : ma ≠ la := x_none_ne hnon3 gman2
  have gman3 : hAn3 ma = some (rowI G 60 (fun _ => 0)) := by rw [← eAn3]; exact (x_up_ne (x_none_ne hnon3 gman2)).trans gman2
  have glan3 : hAn3 la = some (rowI G 60 (fun _ => 0)) := by rw [← eAn3]; exact x_up_eq _ _ _
  rw [eAn3] at hhn3
  generalize x_up hn2 la (rowI G 60 (fun _ => 0)) = hn3 at hhn3 ⊢
  refine x_astore (L' := [some (.ref b), some (.int (nI at_)), some (.ref xa), some (.ref ca), some (.ref ma), some (.ref la), none, none, none, none, none, none, none]) hE dL_book_22 (Nat.le_of_ble_eq_true rfl) rfl rfl ?_
  refine x_iconst (v := nI 3) hE dL_book_24 (by decide) ?_
  refine x_newa (t0 := 0) (cA := g_c G 0) (a0 := (3, .inl (fun _ => 0))) hE (List.mem_of_getElem? (i := 4) rfl) rfl rfl (fun C e => by cases e) (fun cA => rfl) (nI_pos (by decide)) (nI_clamp (by decide)) (by decide) (by show 0 + 1 + 38 + 1 + 1 + 1 + 1 ≤ 124500; omega) (by show 0 + 10 + 1741 + 5 + 60 + 60 + 3 ≤ 380000; omega) dL_book_25 (fun pa hpa0 => ?_)
  have hnon4 := hhn3.no hpa0
  have hhn4 := hhn3.new hpa0 (rowI G 3 (fun _ => 0))
  obtain ⟨hAn4, eAn4⟩ : ∃ z, x_up hAn3 pa (rowI G 3 (fun _ => 0)) = z := ⟨_, rfl⟩
  have gcan4 : hAn4 ca = some (rowI G 5 (fun _ => 0)) := by rw [← eAn4]; exact (x_up_ne (x_none_ne hnon4 gcan3)).trans gcan3
  have gman4 : hAn4 ma = some (rowI G 60 (fun _ => 0)) := by rw [← eAn4]; exact (x_up_ne (x_none_ne hnon4 gman3)).trans gman3
  have glan4 : hAn4 la = some (rowI G 60 (fun _ => 0)) := by rw [← eAn4]; exact (x_up_ne (x_none_ne hnon4 glan3)).trans glan3
  have gpan4 : hAn4 pa = some (rowI G 3 (fun _ => 0)) := by rw [← eAn4]; exact x_up_eq _ _ _
  rw [eAn4] at hhn4
  generalize x_up hn3 pa (rowI G 3 (fun _ => 0)) = hn4 at hhn4 ⊢
  refine x_astore (L' := [some (.ref b), some (.int (nI at_)), some (.ref xa), some (.ref ca), some (.ref ma), some (.ref la), some (.ref pa), none, none, none, none, none, none]) hE dL_book_27 (Nat.le_of_ble_eq_true rfl) rfl rfl ?_
  refine x_bipush (v := nI 18) hE dL_book_29 (by decide) ?_
  refine x_newa (t0 := 0) (cA := g_c G 0) (a0 := (18, .inl (fun _ => 0))) hE (List.mem_of_getElem? (i := 4) rfl) rfl rfl (fun C e => by cases e) (fun cA => rfl) (nI_pos (by decide)) (nI_clamp (by decide)) (by decide) (by show 0 + 1 + 38 + 1 + 1 + 1 + 1 + 1 ≤ 124500; omega) (by show 0 + 10 + 1741 + 5 + 60 + 60 + 3 + 18 ≤ 380000; omega) dL_book_31 (fun ta hta0 => ?_)
  have hnon5 := hhn4.no hta0
  have hhn5 := hhn4.new hta0 (rowI G 18 (fun _ => 0))
  obtain ⟨hAn5, eAn5⟩ : ∃ z, x_up hAn4 ta (rowI G 18 (fun _ => 0)) = z := ⟨_, rfl⟩
  have gcan5 : hAn5 ca = some (rowI G 5 (fun _ => 0)) := by rw [← eAn5]; exact (x_up_ne (x_none_ne hnon5 gcan4)).trans gcan4
  have gman5 : hAn5 ma = some (rowI G 60 (fun _ => 0)) := by rw [← eAn5]; exact (x_up_ne (x_none_ne hnon5 gman4)).trans gman4
  have glan5 : hAn5 la = some (rowI G 60 (fun _ => 0)) := by rw [← eAn5]; exact (x_up_ne (x_none_ne hnon5 glan4)).trans glan4
  have gpan5 : hAn5 pa = some (rowI G 3 (fun _ => 0)) := by rw [← eAn5]; exact (x_up_ne (x_none_ne hnon5 gpan4)).trans gpan4
  have gtan5 : hAn5 ta = some (rowI G 18 (fun _ => 0)) := by rw [← eAn5]; exact x_up_eq _ _ _
  rw [eAn5] at hhn5
  generalize x_up hn4 ta (rowI G 18 (fun _ => 0)) = hn5 at hhn5 ⊢
  refine x_astore (L' := [some (.ref b), some (.int (nI at_)), some (.ref xa), some (.ref ca), some (.ref ma), some (.ref la), some (.ref pa), some (.ref ta), none, none, none, none, none]) hE dL_book_33 (Nat.le_of_ble_eq_true rfl) rfl rfl ?_
  refine x_iconst (v := nI 1) hE dL_book_35 (by decide) ?_
  refine x_istore (L' := [some (.ref b), some (.int (nI at_)), some (.ref xa), some (.ref ca), some (.ref ma), some (.ref la), some (.ref pa), some (.ref ta), some (.int (nI 1)), none, none, none, none]) hE dL_book_36 (Nat.le_of_ble_eq_true rfl) rfl ?_
  refine x_aload_n hE dL_book_38 rfl rfl ?_
  refine x_iconst (v := nI 2) hE dL_book_39 (by decide) ?_
  refine x_bipush (v := nI 15) hE dL_book_40 (by decide) ?_
  refine x_iast (f' := (upd (fun _ => 0) 2 (nI 15))) hE (hhn5.at gcan5) (vp_in_nI (by omega) (by decide)) (x_updN _ (by omega) _) dL_book_42 ?_
  have hhw6 := hhn5.up gcan5 (rowI G 5 (upd (fun _ => 0) 2 (nI 15)))
  obtain ⟨hAw6, eAw6⟩ : ∃ z, x_up hAn5 ca (rowI G 5 (upd (fun _ => 0) 2 (nI 15))) = z := ⟨_, rfl⟩
  have gcaw6 : hAw6 ca = some (rowI G 5 (upd (fun _ => 0) 2 (nI 15))) := by rw [← eAw6]; exact x_up_eq _ _ _
  have gmaw6 : hAw6 ma = some (rowI G 60 (fun _ => 0)) := by rw [← eAw6]; exact (x_up_ne (row_ne gman5 gcan5 (by decide))).trans gman5
  have glaw6 : hAw6 la = some (rowI G 60 (fun _ => 0)) := by rw [← eAw6]; exact (x_up_ne (row_ne glan5 gcan5 (by decide))).trans glan5
  have gpaw6 : hAw6 pa = some (rowI G 3 (fun _ => 0)) := by rw [← eAw6]; exact (x_up_ne (row_ne gpan5 gcan5 (by decide))).trans gpan5
  have gtaw6 : hAw6 ta = some (rowI G 18 (fun _ => 0)) := by rw [← eAw6]; exact (x_up_ne (row_ne gtan5 gcan5 (by decide))).trans gtan5
  rw [eAw6] at hhw6
  generalize x_up hn5 ca (rowI G 5 (upd (fun _ => 0) 2 (nI 15))) = hw6 at hhw6 ⊢
  refine x_iconst (v := nI 0) hE dL_book_43 (by decide) ?_
  refine x_istore (L' := [some (.ref b), some (.int (nI at_)), some (.ref xa), some (.ref ca), some (.ref ma), some (.ref la), some (.ref pa), some (.ref ta), some (.int (nI 1)), some (.int (nI 0)), none, none, none]) hE dL_book_44 (Nat.le_of_ble_eq_true rfl) rfl ?_
  have hB0 : bkL G xa ca ma la pa ta 0 PS0 hw6 := ⟨_, hhw6, ⟨_, _, _, _, _, ⟨gcaw6, rfl, rfl, rfl, rfl, rfl⟩, ⟨gmaw6, fun k hk => absurd hk (Nat.not_lt_zero k), fun k _ => rfl⟩, ⟨glaw6, fun c k _ _ => rfl⟩, gpaw6, gtaw6, fun c hc => absurd hc (Nat.not_lt_zero c)⟩, lgS_0, rfl, rfl, iI_0⟩
  refine x_widen (k := 60 + 0) (n := 2000 + 6 * 0) (by omega) (by omega) ?_
  refine x_down (N := 10) (P := fun k => ∀ (S : PS) (h : HM), bkL G xa ca ma la pa ta k S h → x_W G F (x_Q G F (fun v h' => v = some (.int (nI 1))) 124500 380000) (60 + k) (2000 + 6 * k) h 46 [some (.ref b), some (.int (nI at_)), some (.ref xa), some (.ref ca), some (.ref ma), some (.ref la), some (.ref pa), some (.ref ta), some (.int (nI 1)), some (.int (nI k)), none, none, none] []) (fun k hkN ih => ?_) 0 (by omega) _ _ hB0
  intro S h hB
  by_cases hk : k < 10
  · exact bk_lamp G hl hat hk hml hB (fun S1 h1 hB1 => ih (k + 1) (by omega) (by omega) S1 h1 hB1)
  obtain rfl : k = 10 := by omega
  clear ih hB0
  refine x_iload hE dL_book_46 rfl ?_
  refine x_bipush (v := nI 10) hE dL_book_48 (by decide) ?_
  refine x_icmp_ge (tgt := 244) hE dL_book_50 (by decide) (fun c50 => ?_) (fun c50 => absurd (Int32.le_refl _) c50)
  refine x_iconst (v := nI 0) hE dL_book_244 (by decide) ?_
  refine x_istore (L' := [some (.ref b), some (.int (nI at_)), some (.ref xa), some (.ref ca), some (.ref ma), some (.ref la), some (.ref pa), some (.ref ta), some (.int (nI 1)), some (.int (nI 0)), none, none, none]) hE dL_book_245 (Nat.le_of_ble_eq_true rfl) rfl ?_
  have hC0 : bkC G xa ca ma la pa ta 0 (10 + 4 * 0) S h := hB
  refine x_widen (k := 70 + 7 * 0) (n := 2060 + 75 * 0) (by omega) (by omega) ?_
  refine x_down (N := 6) (P := fun k => ∀ (S : PS) (h : HM), bkC G xa ca ma la pa ta k (10 + 4 * k) S h → x_W G F (x_Q G F (fun v h' => v = some (.int (nI 1))) 124500 380000) (70 + 7 * k) (2060 + 75 * k) h 247 [some (.ref b), some (.int (nI at_)), some (.ref xa), some (.ref ca), some (.ref ma), some (.ref la), some (.ref pa), some (.ref ta), some (.int (nI 1)), some (.int (nI k)), none, none, none] []) (fun k hkN ih => ?_) 0 (by omega) _ _ hC0
  clear hC0 hB hk
  intro S h hB
  by_cases hk : k < 6
  · exact bk_cue G hl hat hk hml hB (fun S1 h1 hB1 => ih (k + 1) (by omega) (by omega) S1 h1 hB1)
  obtain rfl : k = 6 := by omega
  clear ih
  refine x_iload hE dL_book_247 rfl ?_
  refine x_bipush (v := nI 6) hE dL_book_249 (by decide) ?_
  refine x_icmp_ge (tgt := 492) hE dL_book_251 (by decide) (fun c251 => ?_) (fun c251 => absurd (Int32.le_refl _) c251)
  refine x_iconst (v := nI 0) hE dL_book_492 (by decide) ?_
  refine x_istore (L' := [some (.ref b), some (.int (nI at_)), some (.ref xa), some (.ref ca), some (.ref ma), some (.ref la), some (.ref pa), some (.ref ta), some (.int (nI 1)), some (.int (nI 0)), none, none, none]) hE dL_book_493 (Nat.le_of_ble_eq_true rfl) rfl ?_
  obtain ⟨hA, hh, hR, hS, hL, hC6, hI⟩ := hB
  obtain ⟨pf0, hp0⟩ := hR.p
  have hP0 : bkP G xa ca ma la pa ta 0 S h := ⟨hA, pf0, hh, hR, hp0, fun j hj => absurd hj (Nat.not_lt_zero j)⟩
  refine x_down (N := 3) (P := fun k => ∀ (h : HM), bkP G xa ca ma la pa ta k S h → x_W G F (x_Q G F (fun v h' => v = some (.int (nI 1))) 124500 380000) (70 + 7 * 6) (2060 + 75 * 6) h 495 [some (.ref b), some (.int (nI at_)), some (.ref xa), some (.ref ca), some (.ref ma), some (.ref la), some (.ref pa), some (.ref ta), some (.int (nI 1)), some (.int (nI k)), none, none, none] []) (fun k hkN ih => ?_) 0 (by omega) _ hP0
  clear hP0 hp0 hR hh
  intro h hP
  obtain ⟨hA, pf, hh, hR, hp, hpf⟩ := hP
  refine x_iload hE dL_book_495 rfl ?_
  refine x_iconst (v := nI 3) hE dL_book_497 (by decide) ?_
  refine x_icmp_ge (tgt := 515) hE dL_book_498 (by decide) (fun c498 => ?_) (fun c498 => ?_)
  · replace c498 := x_nIle c498 (by omega) (by omega)
    obtain rfl : k = 3 := by omega
    clear ih
    refine x_iconst (v := nI 0) hE dL_book_515 (by decide) ?_
    refine x_istore (L' := [some (.ref b), some (.int (nI at_)), some (.ref xa), some (.ref ca), some (.ref ma), some (.ref la), some (.ref pa), some (.ref ta), some (.int (nI 1)), some (.int (nI 0)), none, none, none]) hE dL_book_516 (Nat.le_of_ble_eq_true rfl) rfl ?_
    have hn64 : s_n S = 64 := hS.2.2.1
    obtain ⟨hR2, hS2⟩ := lg_all hL hC6 hp hpf hS hR
    have hB0 : bkI G xa ca ma la pa ta 0 S h := ⟨hA, hh, hR2, hS2, hI, by rw [hS.2.1]; exact Nat.zero_le _⟩
    refine x_widen (k := 200 + 15 * 0 + (s_n S - 64)) (n := 5000 + 87 * 0 + 3 * (s_n S - 64)) (by omega) (by omega) ?_
    refine x_down (N := 50) (P := fun j => ∀ (S : PS) (h : HM), bkI G xa ca ma la pa ta j S h → x_W G F (x_Q G F (fun v h' => v = some (.int (nI 1))) 124500 380000) (200 + 15 * j + (s_n S - 64)) (5000 + 87 * j + 3 * (s_n S - 64)) h 518 [some (.ref b), some (.int (nI at_)), some (.ref xa), some (.ref ca), some (.ref ma), some (.ref la), some (.ref pa), some (.ref ta), some (.int (nI 1)), some (.int (nI j)), none, none, none] []) (fun j hjN ih => ?_) 0 (by omega) _ _ hB0
    clear hB0 hS2 hR2 hn64 hI hC6 hL hS hpf hp hR hh
    intro S h hB
    by_cases hj : j < 50
    · exact bk_step G hl hat hj hml hB (fun S1 h1 hB1 => ih (j + 1) (by omega) (by omega) S1 h1 hB1)
    obtain rfl : j = 50 := by omega
    clear ih
    obtain ⟨hA, hh, hR, hS, hI, hsb⟩ := hB
    obtain ⟨cf, mf, lf, pf, tf, ⟨hca, hcc⟩, ⟨hma, hmm⟩, ⟨hla, hll⟩, ⟨hpa, hpp⟩, hta, htt⟩ := hR
    have hcap := hI.cap
    have ht20 := hI.2.1
    refine x_iload hE dL_book_518 rfl ?_
    refine x_bipush (v := nI 50) hE dL_book_520 (by decide) ?_
    refine x_icmp_ge (tgt := 702) hE dL_book_522 (by decide) (fun c522 => ?_) (fun c522 => absurd (Int32.le_refl _) c522)
    refine x_iload hE dL_book_702 rfl ?_
    refine x_if_eq (tgt := 725) hE dL_book_704 (by decide) (fun c704 => absurd c704 (by decide)) (fun c704 => ?_)
    refine x_aload_n hE dL_book_707 rfl rfl ?_
    refine x_aload_n hE dL_book_708 rfl rfl ?_
    refine x_aload hE dL_book_709 rfl rfl ?_
    refine x_aload hE dL_book_711 rfl rfl ?_
    refine x_aload hE dL_book_713 rfl rfl ?_
    refine w_callS (st := []) hE (zS_T G) hT 5 (c_L_isSound G hh hS hI.1 (by omega) (by omega) hca hcc hma hmm hla hll hta htt) gL_book_L_isSound rfl rfl rfl (by decide +kernel) ⟨(Nat.le_of_ble_eq_true rfl), (Nat.le_of_ble_eq_true rfl)⟩ rfl rfl dL_book_715 rfl (Nat.le_of_ble_eq_true rfl) ⟨by show 200 + 15 * 50 + (s_n S - 64) + (13) ≤ 124500; omega, by show 5000 + 87 * 50 + 3 * (s_n S - 64) + (75) ≤ 380000; omega⟩ (fun v h2 hp => ?_)
    obtain ⟨rfl, hh2⟩ := hp
    refine x_if_eq (tgt := 725) hE dL_book_718 (by decide) (fun c718 => absurd c718 (by decide)) (fun c718 => ?_)
    refine x_iconst (v := nI 1) hE dL_book_721 (by decide) ?_
    refine x_goto (tgt := 726) hE dL_book_722 (by decide) ?_
    refine x_widen (k := 124500) (n := 380000) (by omega) (by omega) ?_
    exact x_zret hE (Or.inr rfl) dL_book_726 (rfl)
  · replace c498 := x_nInle c498 (by omega) (by omega)
    refine x_aload hE dL_book_501 rfl rfl ?_
    refine x_iload hE dL_book_503 rfl ?_
    refine x_sipush (v := nI 5000) hE dL_book_505 (by decide) ?_
    refine x_iast (f' := upd pf k (nI 5000)) hE (hh.at hp) (vp_in_nI (by omega) (by decide)) (x_updN _ (by omega) _) dL_book_508 ?_
    refine x_iinc (v := nI (k + 1)) (L' := [some (.ref b), some (.int (nI at_)), some (.ref xa), some (.ref ca), some (.ref ma), some (.ref la), some (.ref pa), some (.ref ta), some (.int (nI 1)), some (.int (nI (k + 1))), none, none, none]) hE dL_book_509 rfl (nI_1 _) rfl ?_
    refine x_goto (tgt := 495) hE dL_book_512 (by decide) ?_
    exact ih (k + 1) (by omega) (by omega) _ ⟨_, _, hh.up hp (rowI G 3 (upd pf k (nI 5000))), hR.setp hp, x_up_eq _ _ _, fun j hj => by
      by_cases z : j = k
      · rw [z, upd_at]
      · rw [upd_ne z]; exact hpf j (by omega)⟩
