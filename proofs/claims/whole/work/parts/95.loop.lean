/-! the law's loop -/
theorem lI_up {G : XG} {xa m oa k : Nat} {S : PS} {h : HM} (hI : lI G xa m oa k S h) : lI G xa m oa (k + 1) S h := by
  obtain ⟨hC, hM, u, ma, ow, sc, R, gn, h1, h2, h3, h4, h5, h6, h7, h8, h9⟩ := hI
  exact ⟨hC, hM, u, ma, ow, sc, R, gn, h1, h2, h3, h4, h5, h6, h7, h8.up, by omega⟩
theorem lI_k {G : XG} {xa m oa k : Nat} {S : PS} {h : HM} (hI : lI G xa m oa k S h) : iI S k := by
  obtain ⟨hC, hM, u, ma, ow, sc, R, gn, h1, h2, h3, h4, h5, h6, h7, h8, h9⟩ := hI
  exact h8
theorem law_gt {i L : Nat} (hi : i < 2 ^ 30) (hL : L < 2 ^ 30) : nI L - nI 6 < nI i ↔ L < i + 6 := by
  rw [Int32.lt_iff_toInt_lt, pk_sub_toInt hL (by decide), nI_toInt (by omega)]
  omega
set_option maxHeartbeats 4000000 in
set_option maxRecDepth 100000 in
theorem law_loop (G : XG) {F : XF} {b L : Nat} {xs : Nat → Int32} (hl : lwE G F b L xs) {Q : State → Prop} {xa m oa : Nat} (hend : ∀ (k : Nat) (S : PS) (h : HM), k ≤ 512 → lI G xa m oa k S h → x_W G F Q (CC k S) (SS k S) h 1281 [some (.ref b), some (.ref xa), some (.ref m), some (.ref oa), some (.int (nI (6 * k))), none, none] []) : ∀ k, k ≤ 512 → ∀ (S : PS) (h : HM), lI G xa m oa k S h → x_W G F Q (CC k S) (SS k S) h 23 [some (.ref b), some (.ref xa), some (.ref m), some (.ref oa), some (.int (nI (6 * k))), none, none] [] := by
  obtain ⟨hE, hT, hX, hbl, hbA, hL⟩ := id hl
  refine x_down (N := 512) (P := fun k => ∀ (S : PS) (h : HM), lI G xa m oa k S h → x_W G F Q (CC k S) (SS k S) h 23 [some (.ref b), some (.ref xa), some (.ref m), some (.ref oa), some (.int (nI (6 * k))), none, none] []) (fun k hk9 ih => ?_)
  intro S h hI
  refine x_iload hE dL_law_23 rfl ?_
  refine x_aload_n hE dL_law_25 rfl rfl ?_
  refine x_slen hE hX hbl hbA dL_law_26 ?_
  refine x_bipush (v := nI 6) hE dL_law_27 (by decide) ?_
  refine x_isub hE dL_law_29 ?_
  refine x_icmp_gt (tgt := 1281) hE dL_law_30 (by decide) (fun c30 => ?_) (fun c30 => ?_)
  · exact hend k S h hk9 hI
  · have hk : 6 * k + 6 ≤ L := Nat.le_of_not_lt (fun z => c30 ((law_gt (by omega) (by omega)).mpr z))
    have kk : ∀ (S1 : PS) (h1 : HM), lI G xa m oa (k + 1) S1 h1 → x_W G F Q (CC (k + 1) S1) (SS (k + 1) S1) h1 1275 [some (.ref b), some (.ref xa), some (.ref m), some (.ref oa), some (.int (nI (6 * k))), none, none] [] := by
      intro S1 h1 hI1
      refine x_iinc (v := nI (6 * (k + 1))) (L' := [some (.ref b), some (.ref xa), some (.ref m), some (.ref oa), some (.int (nI (6 * (k + 1)))), none, none]) hE dL_law_1275 rfl (nI_add _ _) rfl ?_
      refine x_goto (tgt := 23) hE dL_law_1278 (by decide) ?_
      exact ih (k + 1) (by omega) (by omega) S1 h1 hI1
    refine x_aload_n hE dL_law_33 rfl rfl ?_
    refine x_iload hE dL_law_34 rfl ?_
    refine x_sld hE hX hbl hbA (j := 6 * k) (by omega) (by omega) dL_law_36 ?_
    refine x_bipush (v := nI 31) hE dL_law_37 (by decide) ?_
    refine x_iand hE dL_law_39 ?_
    obtain ⟨j, hj, ej⟩ := pk_andE (xs (6 * k)) (m := nI 31) 5 (by decide)
    refine x_ieq (y := nI j) (ej) ?_
    rcases (show j = 0 ∨ j = 1 ∨ j = 2 ∨ j = 3 ∨ j = 4 ∨ j = 5 ∨ j = 6 ∨ j = 7 ∨ j = 8 ∨ j = 9 ∨ j = 10 ∨ j = 11 ∨ j = 12 ∨ j = 13 ∨ j = 14 ∨ j = 15 ∨ j = 16 ∨ j = 17 ∨ 18 ≤ j by omega) with rfl | rfl | rfl | rfl | rfl | rfl | rfl | rfl | rfl | rfl | rfl | rfl | rfl | rfl | rfl | rfl | rfl | rfl | hj18
    · exact x_tableIn (tgt := 128) hE dL_law_40 (by decide) (by decide) rfl (by decide) (case_lamp G hl hk hI kk)
    · exact x_tableIn (tgt := 232) hE dL_law_40 (by decide) (by decide) rfl (by decide) (case_die G hl hk hI kk)
    · exact x_tableIn (tgt := 295) hE dL_law_40 (by decide) (by decide) rfl (by decide) (case_house G hl hk hI kk)
    · exact x_tableIn (tgt := 351) hE dL_law_40 (by decide) (by decide) rfl (by decide) (case_power G hl hk hI kk)
    · exact x_tableIn (tgt := 419) hE dL_law_40 (by decide) (by decide) rfl (by decide) (case_cue G hl hk hI kk)
    · exact x_tableIn (tgt := 499) hE dL_law_40 (by decide) (by decide) rfl (by decide) (case_level G hl hk hI kk)
    · exact x_tableIn (tgt := 579) hE dL_law_40 (by decide) (by decide) rfl (by decide) (case_follow G hl hk hI kk)
    · exact x_tableIn (tgt := 659) hE dL_law_40 (by decide) (by decide) rfl (by decide) (case_go G hl hk hI kk)
    · exact x_tableIn (tgt := 715) hE dL_law_40 (by decide) (by decide) rfl (by decide) (case_release G hl hk hI kk)
    · exact x_tableIn (tgt := 778) hE dL_law_40 (by decide) (by decide) rfl (by decide) (case_pass G hl hk hI kk)
    · exact x_tableIn (tgt := 834) hE dL_law_40 (by decide) (by decide) rfl (by decide) (case_levelOf G hl hk hI kk)
    · exact x_tableIn (tgt := 890) hE dL_law_40 (by decide) (by decide) rfl (by decide) (case_levelAnew G hl hk hI kk)
    · exact x_tableIn (tgt := 946) hE dL_law_40 (by decide) (by decide) rfl (by decide) (case_loadOf G hl hk hI kk)
    · exact x_tableIn (tgt := 1002) hE dL_law_40 (by decide) (by decide) rfl (by decide) (case_watts G hl hk hI kk)
    · exact x_tableIn (tgt := 1058) hE dL_law_40 (by decide) (by decide) rfl (by decide) (case_asks G hl hk hI kk)
    · exact x_tableIn (tgt := 1126) hE dL_law_40 (by decide) (by decide) rfl (by decide) (case_shines G hl hk hI kk)
    · exact x_tableIn (tgt := 1194) hE dL_law_40 (by decide) (by decide) rfl (by decide) (case_playing G hl hk hI kk)
    · exact x_tableIn (tgt := 1262) hE dL_law_40 (by decide) (by decide) rfl (by decide) (case_barred G hl hk hI kk)
    · refine x_tableOut (tgt := 1275) hE dL_law_40 (Or.inr (by rw [nI_toInt (by omega)]; omega)) (by decide) ?_
      have hcap := (lI_k hI).cap
      exact x_widen (k := CC (k + 1) S) (n := SS (k + 1) S) (by unfold CC; omega) (by unfold SS; omega) (kk S h (lI_up hI))