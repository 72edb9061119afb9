/-- k lamps hang -/
def bkL (G : XG) (xa ca ma la pa ta k : Nat) (S : PS) (h : HM) : Prop := ∃ hA : HM, lH G xa S hA h ∧ lgA G ca ma la pa ta S hA ∧ lgS S ∧ s_L S = k ∧ s_C S = 0 ∧ iI S k
/-- ten lamps, k cues, n calls -/
def bkC (G : XG) (xa ca ma la pa ta k n : Nat) (S : PS) (h : HM) : Prop := ∃ hA : HM, lH G xa S hA h ∧ lgA G ca ma la pa ta S hA ∧ lgS S ∧ s_L S = 10 ∧ s_C S = k ∧ iI S n
set_option maxHeartbeats 4000000 in
set_option maxRecDepth 100000 in
theorem bk_lamp (G : XG) {F : XF} {b L : Nat} {xs : Nat → Int32} (hl : bkE G F b L xs) {Q : State → Prop} {xa ca ma la pa ta at_ k : Nat} (hat : at_ ≤ 1000) (hk : k < 10) (hml : ma ≠ la) {S : PS} {h : HM} (hB : bkL G xa ca ma la pa ta k S h) (kk : ∀ (S1 : PS) (h1 : HM), bkL G xa ca ma la pa ta (k + 1) S1 h1 → x_W G F Q (60 + (k + 1)) (2000 + 6 * (k + 1)) h1 46 [some (.ref b), some (.int (nI at_)), some (.ref xa), some (.ref ca), some (.ref ma), some (.ref la), some (.ref pa), some (.ref ta), some (.int (nI 1)), some (.int (nI (k + 1))), none, none, none] []) : x_W G F Q (60 + k) (2000 + 6 * k) h 46 [some (.ref b), some (.int (nI at_)), some (.ref xa), some (.ref ca), some (.ref ma), some (.ref la), some (.ref pa), some (.ref ta), some (.int (nI 1)), some (.int (nI k)), none, none, none] [] := by
  obtain ⟨hE, hZ, hLb⟩ := hl
  have hT := hZ.1
  obtain ⟨hA, hh, ⟨cf, mf, lf, pf, tf, ⟨hca, b1, b2, b3, b4, b5⟩, ⟨hma, c1, c2⟩, ⟨hla, hll⟩, hpa, hta, htt⟩, hS, hL, hC, hI⟩ := hB
  have hz := hI.1.2.2.2.1
  have h7 : s_ar S 7 k = 0 := hz.2.2 k (by omega)
  refine x_iload hE dL_book_46 rfl ?_
  refine x_bipush (v := nI 10) hE dL_book_48 (by decide) ?_
  refine x_icmp_ge (tgt := 244) hE dL_book_50 (by decide) (fun c => absurd (x_nIle c (by omega) (by omega)) (by omega)) (fun c50 => ?_)
  refine x_iload hE dL_book_53 rfl ?_
  refine x_if_eq (tgt := 244) hE dL_book_55 (by decide) (fun c55 => absurd c55 (by decide)) (fun c55 => ?_)
  refine x_aload_n hE dL_book_58 rfl rfl ?_
  refine x_iload_n hE dL_book_59 rfl ?_
  refine x_iload hE dL_book_60 rfl ?_
  refine x_iadd hE dL_book_62 ?_
  refine x_ieq (y := nI (at_ + k)) (nI_add _ _) ?_
  refine x_ldc (v := (1073741824)) hE (List.mem_of_getElem? (i := 5) rfl) dL_book_63 ?_
  refine x_ieq (y := nI 1073741824) (rfl) ?_
  refine w_callS (st := []) hE (zS_S G b L xs) hZ 3 (c_L_draw G hLb (k := at_ + k) (by omega)) gL_book_L_draw rfl rfl rfl (by decide +kernel) ⟨(Nat.le_of_ble_eq_true rfl), (Nat.le_of_ble_eq_true rfl)⟩ rfl rfl dL_book_65 rfl (Nat.le_of_ble_eq_true rfl) ⟨by show 60 + k + (0) ≤ 124500; omega, by show 2000 + 6 * k + (0) ≤ 380000; omega⟩ (fun v hx hp => ?_)
  obtain ⟨⟨x, hx, rfl⟩, ex⟩ := hp
  refine x_heq ex ?_
  refine x_istore (L' := [some (.ref b), some (.int (nI at_)), some (.ref xa), some (.ref ca), some (.ref ma), some (.ref la), some (.ref pa), some (.ref ta), some (.int (nI 1)), some (.int (nI k)), some (.int (nI x)), none, none]) hE dL_book_68 (Nat.le_of_ble_eq_true rfl) rfl ?_
  refine x_aload hE dL_book_70 rfl rfl ?_
  refine x_bipush (v := nI 6) hE dL_book_72 (by decide) ?_
  refine x_iload hE dL_book_74 rfl ?_
  refine x_imul hE dL_book_76 ?_
  refine x_ieq (y := nI (6 * k)) (pk_mul _ _) ?_
  refine x_iload hE dL_book_77 rfl ?_
  refine x_iconst (v := nI 4) hE dL_book_79 (by decide) ?_
  refine x_irem hE dL_book_80 (by decide) ?_
  refine x_ieq (y := nI (x % 4)) (pk_rem (by omega) (by decide) (by decide)) ?_
  obtain ⟨vb, hvb, evb⟩ : ∃ z, z ≤ 3 ∧ x % 4 = z := ⟨_, by omega, rfl⟩
  refine x_ieq (y := nI vb) (by rw [evb]) ?_
  refine x_iast (f' := (upd mf (6 * k) (nI vb))) hE (hh.at hma) (vp_in_nI (by omega) (by decide)) (x_updN _ (by omega) _) dL_book_81 ?_
  have hhw1 := hh.up hma (rowI G 60 (upd mf (6 * k) (nI vb)))
  obtain ⟨hAw1, eAw1⟩ : ∃ z, x_up hA ma (rowI G 60 (upd mf (6 * k) (nI vb))) = z := ⟨_, rfl⟩
  have gcaw1 : hAw1 ca = some (rowI G 5 cf) := by rw [← eAw1]; exact (x_up_ne (row_ne hca hma (by decide))).trans hca
  have gmaw1 : hAw1 ma = some (rowI G 60 (upd mf (6 * k) (nI vb))) := by rw [← eAw1]; exact x_up_eq _ _ _
  have glaw1 : hAw1 la = some (rowI G 60 lf) := by rw [← eAw1]; exact (x_up_ne (Ne.symm hml)).trans hla
  have gpaw1 : hAw1 pa = some (rowI G 3 pf) := by rw [← eAw1]; exact (x_up_ne (row_ne hpa hma (by decide))).trans hpa
  have gtaw1 : hAw1 ta = some (rowI G 18 tf) := by rw [← eAw1]; exact (x_up_ne (row_ne hta hma (by decide))).trans hta
  rw [eAw1] at hhw1
  generalize x_up h ma (rowI G 60 (upd mf (6 * k) (nI vb))) = hw1 at hhw1 ⊢
  refine x_aload hE dL_book_82 rfl rfl ?_
  refine x_bipush (v := nI 6) hE dL_book_84 (by decide) ?_
  refine x_iload hE dL_book_86 rfl ?_
  refine x_imul hE dL_book_88 ?_
  refine x_ieq (y := nI (6 * k)) (pk_mul _ _) ?_
  refine x_iconst (v := nI 1) hE dL_book_89 (by decide) ?_
  refine x_iadd hE dL_book_90 ?_
  refine x_ieq (y := nI ((6 * k) + 1)) (nI_add _ _) ?_
  refine x_iload hE dL_book_91 rfl ?_
  refine x_iconst (v := nI 4) hE dL_book_93 (by decide) ?_
  refine x_idiv hE dL_book_94 (by decide) ?_
  refine x_ieq (y := nI (x / 4)) (pk_div (by omega) (by decide) (by decide)) ?_
  refine x_bipush (v := nI 10) hE dL_book_95 (by decide) ?_
  refine x_irem hE dL_book_97 (by decide) ?_
  refine x_ieq (y := nI ((x / 4) % 10)) (pk_rem (by omega) (by decide) (by decide)) ?_
  obtain ⟨vp, hvp, evp⟩ : ∃ z, z ≤ 9 ∧ x / 4 % 10 = z := ⟨_, by omega, rfl⟩
  refine x_ieq (y := nI vp) (by rw [evp]) ?_
  refine x_iast (f' := (upd (upd mf (6 * k) (nI vb)) (6 * k + 1) (nI vp))) hE (hhw1.at gmaw1) (vp_in_nI (by omega) (by decide)) (x_updN _ (by omega) _) dL_book_98 ?_
  have hhw2 := hhw1.up gmaw1 (rowI G 60 (upd (upd mf (6 * k) (nI vb)) (6 * k + 1) (nI vp)))
  obtain ⟨hAw2, eAw2⟩ : ∃ z, x_up hAw1 ma (rowI G 60 (upd (upd mf (6 * k) (nI vb)) (6 * k + 1) (nI vp))) = z := ⟨_, rfl⟩
  have gcaw2 : hAw2 ca = some (rowI G 5 cf) := by rw [← eAw2]; exact (x_up_ne (row_ne gcaw1 gmaw1 (by decide))).trans gcaw1
  have gmaw2 : hAw2 ma = some (rowI G 60 (upd (upd mf (6 * k) (nI vb)) (6 * k + 1) (nI vp))) := by rw [← eAw2]; exact x_up_eq _ _ _
  have glaw2 : hAw2 la = some (rowI G 60 lf) := by rw [← eAw2]; exact (x_up_ne (Ne.symm hml)).trans glaw1
  have gpaw2 : hAw2 pa = some (rowI G 3 pf) := by rw [← eAw2]; exact (x_up_ne (row_ne gpaw1 gmaw1 (by decide))).trans gpaw1
  have gtaw2 : hAw2 ta = some (rowI G 18 tf) := by rw [← eAw2]; exact (x_up_ne (row_ne gtaw1 gmaw1 (by decide))).trans gtaw1
  rw [eAw2] at hhw2
  generalize x_up hw1 ma (rowI G 60 (upd (upd mf (6 * k) (nI vb)) (6 * k + 1) (nI vp))) = hw2 at hhw2 ⊢
  refine x_aload hE dL_book_99 rfl rfl ?_
  refine x_bipush (v := nI 6) hE dL_book_101 (by decide) ?_
  refine x_iload hE dL_book_103 rfl ?_
  refine x_imul hE dL_book_105 ?_
  refine x_ieq (y := nI (6 * k)) (pk_mul _ _) ?_
  refine x_iconst (v := nI 2) hE dL_book_106 (by decide) ?_
  refine x_iadd hE dL_book_107 ?_
  refine x_ieq (y := nI ((6 * k) + 2)) (nI_add _ _) ?_
  refine x_iload hE dL_book_108 rfl ?_
  refine x_bipush (v := nI 40) hE dL_book_110 (by decide) ?_
  refine x_idiv hE dL_book_112 (by decide) ?_
  refine x_ieq (y := nI (x / 40)) (pk_div (by omega) (by decide) (by decide)) ?_
  refine x_iconst (v := nI 2) hE dL_book_113 (by decide) ?_
  refine x_irem hE dL_book_114 (by decide) ?_
  refine x_ieq (y := nI ((x / 40) % 2)) (pk_rem (by omega) (by decide) (by decide)) ?_
  refine x_bipush (v := nI 10) hE dL_book_115 (by decide) ?_
  refine x_imul hE dL_book_117 ?_
  refine x_ieq (y := nI (((x / 40) % 2) * 10)) (pk_mul _ _) ?_
  refine x_iload hE dL_book_118 rfl ?_
  refine x_bipush (v := nI 80) hE dL_book_120 (by decide) ?_
  refine x_idiv hE dL_book_122 (by decide) ?_
  refine x_ieq (y := nI (x / 80)) (pk_div (by omega) (by decide) (by decide)) ?_
  refine x_iconst (v := nI 2) hE dL_book_123 (by decide) ?_
  refine x_irem hE dL_book_124 (by decide) ?_
  refine x_ieq (y := nI ((x / 80) % 2)) (pk_rem (by omega) (by decide) (by decide)) ?_
  refine x_iadd hE dL_book_125 ?_
  refine x_ieq (y := nI ((((x / 40) % 2) * 10) + ((x / 80) % 2))) (nI_add _ _) ?_
  obtain ⟨vg, evg⟩ : ∃ z, x / 40 % 2 * 10 + x / 80 % 2 = z := ⟨_, rfl⟩
  have hvg : glI (nI vg) = true := by rw [← evg]; exact gl_is (Nat.mod_lt _ (by decide)) (Nat.mod_lt _ (by decide))
  refine x_ieq (y := nI vg) (by rw [evg]) ?_
  refine x_iast (f' := (upd (upd (upd mf (6 * k) (nI vb)) (6 * k + 1) (nI vp)) (6 * k + 2) (nI vg))) hE (hhw2.at gmaw2) (vp_in_nI (by omega) (by decide)) (x_updN _ (by omega) _) dL_book_126 ?_
  have hhw3 := hhw2.up gmaw2 (rowI G 60 (upd (upd (upd mf (6 * k) (nI vb)) (6 * k + 1) (nI vp)) (6 * k + 2) (nI vg)))
  obtain ⟨hAw3, eAw3⟩ : ∃ z, x_up hAw2 ma (rowI G 60 (upd (upd (upd mf (6 * k) (nI vb)) (6 * k + 1) (nI vp)) (6 * k + 2) (nI vg))) = z := ⟨_, rfl⟩
  have gcaw3 : hAw3 ca = some (rowI G 5 cf) := by rw [← eAw3]; exact (x_up_ne (row_ne gcaw2 gmaw2 (by decide))).trans gcaw2
  have gmaw3 : hAw3 ma = some (rowI G 60 (upd (upd (upd mf (6 * k) (nI vb)) (6 * k + 1) (nI vp)) (6 * k + 2) (nI vg))) := by rw [← eAw3]; exact x_up_eq _ _ _
  have glaw3 : hAw3 la = some (rowI G 60 lf) := by rw [← eAw3]; exact (x_up_ne (Ne.symm hml)).trans glaw2
  have gpaw3 : hAw3 pa = some (rowI G 3 pf) := by rw [← eAw3]; exact (x_up_ne (row_ne gpaw2 gmaw2 (by decide))).trans gpaw2
  have gtaw3 : hAw3 ta = some (rowI G 18 tf) := by rw [← eAw3]; exact (x_up_ne (row_ne gtaw2 gmaw2 (by decide))).trans gtaw2
  rw [eAw3] at hhw3
  generalize x_up hw2 ma (rowI G 60 (upd (upd (upd mf (6 * k) (nI vb)) (6 * k + 1) (nI vp)) (6 * k + 2) (nI vg))) = hw3 at hhw3 ⊢
  refine x_aload hE dL_book_127 rfl rfl ?_
  refine x_bipush (v := nI 6) hE dL_book_129 (by decide) ?_
  refine x_iload hE dL_book_131 rfl ?_
  refine x_imul hE dL_book_133 ?_
  refine x_ieq (y := nI (6 * k)) (pk_mul _ _) ?_
  refine x_iconst (v := nI 3) hE dL_book_134 (by decide) ?_
  refine x_iadd hE dL_book_135 ?_
  refine x_ieq (y := nI ((6 * k) + 3)) (nI_add _ _) ?_
  refine x_bipush (v := nI 100) hE dL_book_136 (by decide) ?_
  refine x_iload hE dL_book_138 rfl ?_
  refine x_sipush (v := nI 160) hE dL_book_140 (by decide) ?_
  refine x_idiv hE dL_book_143 (by decide) ?_
  refine x_ieq (y := nI (x / 160)) (pk_div (by omega) (by decide) (by decide)) ?_
  refine x_sipush (v := nI 1901) hE dL_book_144 (by decide) ?_
  refine x_irem hE dL_book_147 (by decide) ?_
  refine x_ieq (y := nI ((x / 160) % 1901)) (pk_rem (by omega) (by decide) (by decide)) ?_
  refine x_iadd hE dL_book_148 ?_
  refine x_ieq (y := nI (100 + ((x / 160) % 1901))) (nI_add _ _) ?_
  obtain ⟨vw, hvw, evw⟩ : ∃ z, (100 ≤ z ∧ z ≤ 2000) ∧ 100 + x / 160 % 1901 = z := ⟨_, by omega, rfl⟩
  refine x_ieq (y := nI vw) (by rw [evw]) ?_
  refine x_iast (f' := (upd (upd (upd (upd mf (6 * k) (nI vb)) (6 * k + 1) (nI vp)) (6 * k + 2) (nI vg)) (6 * k + 3) (nI vw))) hE (hhw3.at gmaw3) (vp_in_nI (by omega) (by decide)) (x_updN _ (by omega) _) dL_book_149 ?_
  have hhw4 := hhw3.up gmaw3 (rowI G 60 (upd (upd (upd (upd mf (6 * k) (nI vb)) (6 * k + 1) (nI vp)) (6 * k + 2) (nI vg)) (6 * k + 3) (nI vw)))
  obtain ⟨hAw4, eAw4⟩ : ∃ z, x_up hAw3 ma (rowI G 60 (upd (upd (upd (upd mf (6 * k) (nI vb)) (6 * k + 1) (nI vp)) (6 * k + 2) (nI vg)) (6 * k + 3) (nI vw))) = z := ⟨_, rfl⟩
  have gcaw4 : hAw4 ca = some (rowI G 5 cf) := by rw [← eAw4]; exact (x_up_ne (row_ne gcaw3 gmaw3 (by decide))).trans gcaw3
  have gmaw4 : hAw4 ma = some (rowI G 60 (upd (upd (upd (upd mf (6 * k) (nI vb)) (6 * k + 1) (nI vp)) (6 * k + 2) (nI vg)) (6 * k + 3) (nI vw))) := by rw [← eAw4]; exact x_up_eq _ _ _
  have glaw4 : hAw4 la = some (rowI G 60 lf) := by rw [← eAw4]; exact (x_up_ne (Ne.symm hml)).trans glaw3
  have gpaw4 : hAw4 pa = some (rowI G 3 pf) := by rw [← eAw4]; exact (x_up_ne (row_ne gpaw3 gmaw3 (by decide))).trans gpaw3
  have gtaw4 : hAw4 ta = some (rowI G 18 tf) := by rw [← eAw4]; exact (x_up_ne (row_ne gtaw3 gmaw3 (by decide))).trans gtaw3
  rw [eAw4] at hhw4
  generalize x_up hw3 ma (rowI G 60 (upd (upd (upd (upd mf (6 * k) (nI vb)) (6 * k + 1) (nI vp)) (6 * k + 2) (nI vg)) (6 * k + 3) (nI vw))) = hw4 at hhw4 ⊢
  refine x_aload hE dL_book_150 rfl rfl ?_
  refine x_bipush (v := nI 6) hE dL_book_152 (by decide) ?_
  refine x_iload hE dL_book_154 rfl ?_
  refine x_imul hE dL_book_156 ?_
  refine x_ieq (y := nI (6 * k)) (pk_mul _ _) ?_
  refine x_iconst (v := nI 4) hE dL_book_157 (by decide) ?_
  refine x_iadd hE dL_book_158 ?_
  refine x_ieq (y := nI ((6 * k) + 4)) (nI_add _ _) ?_
  refine x_iload hE dL_book_159 rfl ?_
  refine x_ldc (v := (304160)) hE (List.mem_of_getElem? (i := 6) rfl) dL_book_161 ?_
  refine x_ieq (y := nI 304160) (rfl) ?_
  refine x_idiv hE dL_book_163 (by decide) ?_
  refine x_ieq (y := nI (x / 304160)) (pk_div (by omega) (by decide) (by decide)) ?_
  refine x_iconst (v := nI 3) hE dL_book_164 (by decide) ?_
  refine x_irem hE dL_book_165 (by decide) ?_
  refine x_ieq (y := nI ((x / 304160) % 3)) (pk_rem (by omega) (by decide) (by decide)) ?_
  obtain ⟨vh, hvh, evh⟩ : ∃ z, z ≤ 2 ∧ x / 304160 % 3 = z := ⟨_, by omega, rfl⟩
  refine x_ieq (y := nI vh) (by rw [evh]) ?_
  refine x_iast (f' := (upd (upd (upd (upd (upd mf (6 * k) (nI vb)) (6 * k + 1) (nI vp)) (6 * k + 2) (nI vg)) (6 * k + 3) (nI vw)) (6 * k + 4) (nI vh))) hE (hhw4.at gmaw4) (vp_in_nI (by omega) (by decide)) (x_updN _ (by omega) _) dL_book_166 ?_
  have hhw5 := hhw4.up gmaw4 (rowI G 60 (upd (upd (upd (upd (upd mf (6 * k) (nI vb)) (6 * k + 1) (nI vp)) (6 * k + 2) (nI vg)) (6 * k + 3) (nI vw)) (6 * k + 4) (nI vh)))
  obtain ⟨hAw5, eAw5⟩ : ∃ z, x_up hAw4 ma (rowI G 60 (upd (upd (upd (upd (upd mf (6 * k) (nI vb)) (6 * k + 1) (nI vp)) (6 * k + 2) (nI vg)) (6 * k + 3) (nI vw)) (6 * k + 4) (nI vh))) = z := ⟨_, rfl⟩
  have gcaw5 : hAw5 ca = some (rowI G 5 cf) := by rw [← eAw5]; exact (x_up_ne (row_ne gcaw4 gmaw4 (by decide))).trans gcaw4
  have gmaw5 : hAw5 ma = some (rowI G 60 (upd (upd (upd (upd (upd mf (6 * k) (nI vb)) (6 * k + 1) (nI vp)) (6 * k + 2) (nI vg)) (6 * k + 3) (nI vw)) (6 * k + 4) (nI vh))) := by rw [← eAw5]; exact x_up_eq _ _ _
  have glaw5 : hAw5 la = some (rowI G 60 lf) := by rw [← eAw5]; exact (x_up_ne (Ne.symm hml)).trans glaw4
  have gpaw5 : hAw5 pa = some (rowI G 3 pf) := by rw [← eAw5]; exact (x_up_ne (row_ne gpaw4 gmaw4 (by decide))).trans gpaw4
  have gtaw5 : hAw5 ta = some (rowI G 18 tf) := by rw [← eAw5]; exact (x_up_ne (row_ne gtaw4 gmaw4 (by decide))).trans gtaw4
  rw [eAw5] at hhw5
  generalize x_up hw4 ma (rowI G 60 (upd (upd (upd (upd (upd mf (6 * k) (nI vb)) (6 * k + 1) (nI vp)) (6 * k + 2) (nI vg)) (6 * k + 3) (nI vw)) (6 * k + 4) (nI vh))) = hw5 at hhw5 ⊢
  refine x_aload_n hE dL_book_167 rfl rfl ?_
  refine x_aload hE dL_book_168 rfl rfl ?_
  refine x_bipush (v := nI 6) hE dL_book_170 (by decide) ?_
  refine x_iload hE dL_book_172 rfl ?_
  refine x_imul hE dL_book_174 ?_
  refine x_ieq (y := nI (6 * k)) (pk_mul _ _) ?_
  refine x_iald (v := nI vb) hE (hhw5.at gmaw5) (vp_in_nI (by omega) (by decide)) (by rw [nI_clamp (by omega)]; exact (by rw [upd_ne (by omega), upd_ne (by omega), upd_ne (by omega), upd_ne (by omega), upd_at])) dL_book_175 ?_
  refine x_aload hE dL_book_176 rfl rfl ?_
  refine x_bipush (v := nI 6) hE dL_book_178 (by decide) ?_
  refine x_iload hE dL_book_180 rfl ?_
  refine x_imul hE dL_book_182 ?_
  refine x_ieq (y := nI (6 * k)) (pk_mul _ _) ?_
  refine x_iconst (v := nI 1) hE dL_book_183 (by decide) ?_
  refine x_iadd hE dL_book_184 ?_
  refine x_ieq (y := nI ((6 * k) + 1)) (nI_add _ _) ?_
  refine x_iald (v := nI vp) hE (hhw5.at gmaw5) (vp_in_nI (by omega) (by decide)) (by rw [nI_clamp (by omega)]; exact (by rw [upd_ne (by omega), upd_ne (by omega), upd_ne (by omega), upd_at])) dL_book_185 ?_
  refine x_aload hE dL_book_186 rfl rfl ?_
  refine x_bipush (v := nI 6) hE dL_book_188 (by decide) ?_
  refine x_iload hE dL_book_190 rfl ?_
  refine x_imul hE dL_book_192 ?_
  refine x_ieq (y := nI (6 * k)) (pk_mul _ _) ?_
  refine x_iconst (v := nI 2) hE dL_book_193 (by decide) ?_
  refine x_iadd hE dL_book_194 ?_
  refine x_ieq (y := nI ((6 * k) + 2)) (nI_add _ _) ?_
  refine x_iald (v := nI vg) hE (hhw5.at gmaw5) (vp_in_nI (by omega) (by decide)) (by rw [nI_clamp (by omega)]; exact (by rw [upd_ne (by omega), upd_ne (by omega), upd_at])) dL_book_195 ?_
  refine x_aload hE dL_book_196 rfl rfl ?_
  refine x_bipush (v := nI 6) hE dL_book_198 (by decide) ?_
  refine x_iload hE dL_book_200 rfl ?_
  refine x_imul hE dL_book_202 ?_
  refine x_ieq (y := nI (6 * k)) (pk_mul _ _) ?_
  refine x_iconst (v := nI 3) hE dL_book_203 (by decide) ?_
  refine x_iadd hE dL_book_204 ?_
  refine x_ieq (y := nI ((6 * k) + 3)) (nI_add _ _) ?_
  refine x_iald (v := nI vw) hE (hhw5.at gmaw5) (vp_in_nI (by omega) (by decide)) (by rw [nI_clamp (by omega)]; exact (by rw [upd_ne (by omega), upd_at])) dL_book_205 ?_
  refine x_aload hE dL_book_206 rfl rfl ?_
  refine x_bipush (v := nI 6) hE dL_book_208 (by decide) ?_
  refine x_iload hE dL_book_210 rfl ?_
  refine x_imul hE dL_book_212 ?_
  refine x_ieq (y := nI (6 * k)) (pk_mul _ _) ?_
  refine x_iconst (v := nI 4) hE dL_book_213 (by decide) ?_
  refine x_iadd hE dL_book_214 ?_
  refine x_ieq (y := nI ((6 * k) + 4)) (nI_add _ _) ?_
  refine x_iald (v := nI vh) hE (hhw5.at gmaw5) (vp_in_nI (by omega) (by decide)) (by rw [nI_clamp (by omega)]; exact (by rw [upd_at])) dL_book_215 ?_
  refine k_call (st := []) hE hT 5 (m_lamp G (b := vb) (p := vp) (g := vg) (wa := vw) (ph := vh) hI.1.1.2.2.2.1 hI.1.2.2.1 (fun x hx => (hI.1.2.2.2.2.2.1 x hx).1) hI.1.2.2.2.1 (by omega) hvb hvp hvg hvw.1 hvw.2 hvh) hhw5 gL_book_X7_lamp rfl rfl rfl (by decide +kernel) ⟨(Nat.le_of_ble_eq_true rfl), (Nat.le_of_ble_eq_true rfl)⟩ rfl rfl dL_book_216 rfl (Nat.le_of_ble_eq_true rfl) ⟨by show 60 + k + (0) + (1) ≤ 124500; omega, by show 2000 + 6 * k + (0) + (6) ≤ 380000; omega⟩ (fun h3 hh3 => ?_) (fun E hE9 => hE9.elim)
  refine x_ieq (y := nI k) (by rw [hL]) ?_
  refine x_iload hE dL_book_219 rfl ?_
  refine x_icmp_ne (tgt := 228) hE dL_book_221 (by decide) (fun c221 => absurd rfl c221) (fun c221 => ?_)
  refine x_iconst (v := nI 1) hE dL_book_224 (by decide) ?_
  refine x_goto (tgt := 229) hE dL_book_225 (by decide) ?_
  refine x_istore (L' := [some (.ref b), some (.int (nI at_)), some (.ref xa), some (.ref ca), some (.ref ma), some (.ref la), some (.ref pa), some (.ref ta), some (.int (nI 1)), some (.int (nI k)), some (.int (nI x)), none, none]) hE dL_book_229 (Nat.le_of_ble_eq_true rfl) rfl ?_
  refine x_aload_n hE dL_book_231 rfl rfl ?_
  refine x_iconst (v := nI 0) hE dL_book_232 (by decide) ?_
  refine x_dup2 hE dL_book_233 rfl rfl ?_
  refine x_iald (v := nI k) hE (hh3.at gcaw5) (vp_in_nI (by omega) (by decide)) (by rw [nI_clamp (by omega)]; exact (by rw [b1, hL])) dL_book_234 ?_
  refine x_iconst (v := nI 1) hE dL_book_235 (by decide) ?_
  refine x_iadd hE dL_book_236 ?_
  refine x_ieq (y := nI (k + 1)) (nI_add _ _) ?_
  refine x_iast (f' := (upd cf 0 (nI (k + 1)))) hE (hh3.at gcaw5) (vp_in_nI (by omega) (by decide)) (x_updN _ (by omega) _) dL_book_237 ?_
  have hhw6 := hh3.up gcaw5 (rowI G 5 (upd cf 0 (nI (k + 1))))
  obtain ⟨hAw6, eAw6⟩ : ∃ z, x_up hAw5 ca (rowI G 5 (upd cf 0 (nI (k + 1)))) = z := ⟨_, rfl⟩
  have gcaw6 : hAw6 ca = some (rowI G 5 (upd cf 0 (nI (k + 1)))) := by rw [← eAw6]; exact x_up_eq _ _ _
  have gmaw6 : hAw6 ma = some (rowI G 60 (upd (upd (upd (upd (upd mf (6 * k) (nI vb)) (6 * k + 1) (nI vp)) (6 * k + 2) (nI vg)) (6 * k + 3) (nI vw)) (6 * k + 4) (nI vh))) := by rw [← eAw6]; exact (x_up_ne (row_ne gmaw5 gcaw5 (by decide))).trans gmaw5
  have glaw6 : hAw6 la = some (rowI G 60 lf) := by rw [← eAw6]; exact (x_up_ne (row_ne glaw5 gcaw5 (by decide))).trans glaw5
  have gpaw6 : hAw6 pa = some (rowI G 3 pf) := by rw [← eAw6]; exact (x_up_ne (row_ne gpaw5 gcaw5 (by decide))).trans gpaw5
  have gtaw6 : hAw6 ta = some (rowI G 18 tf) := by rw [← eAw6]; exact (x_up_ne (row_ne gtaw5 gcaw5 (by decide))).trans gtaw5
  rw [eAw6] at hhw6
  generalize x_up h3 ca (rowI G 5 (upd cf 0 (nI (k + 1)))) = hw6 at hhw6 ⊢
  refine x_iinc (v := nI (k + 1)) (L' := [some (.ref b), some (.int (nI at_)), some (.ref xa), some (.ref ca), some (.ref ma), some (.ref la), some (.ref pa), some (.ref ta), some (.int (nI 1)), some (.int (nI (k + 1))), some (.int (nI x)), none, none]) hE dL_book_238 rfl (nI_1 _) rfl ?_
  refine x_goto (tgt := 46) hE dL_book_241 (by decide) ?_
  have hI2 : iI (hangP (nI vb) (nI vp) (nI vg) (nI vw) (nI vh) S) (k + 1) := iI_hang hI (by unfold fHang; rw [if_pos ⟨inI_y (Nat.zero_le _) hvb (by decide), inI_y (Nat.zero_le _) hvp (by decide), hvg, inI_y hvw.1 hvw.2 (by decide), inI_y (Nat.zero_le _) hvh (by decide)⟩, if_neg (by omega)])
  have hL2 : s_L (hangP (nI vb) (nI vp) (nI vg) (nI vw) (nI vh) S) = k + 1 := by show s_L S + 1 = _; rw [hL]
  obtain ⟨m1, m2⟩ := hang_m (b := nI vb) (p := nI vp) (g := nI vg) (w := nI vw) (ph := nI vh) (k := k) hL c1 c2 h7 rfl
  refine x_widen (k := 60 + (k + 1)) (n := 2000 + 6 * (k + 1)) (by omega) (by omega) ?_
  refine x_forget (L' := [some (.ref b), some (.int (nI at_)), some (.ref xa), some (.ref ca), some (.ref ma), some (.ref la), some (.ref pa), some (.ref ta), some (.int (nI 1)), some (.int (nI (k + 1))), none, none, none]) (And.intro rfl (And.intro rfl (And.intro rfl (And.intro rfl (And.intro rfl (And.intro rfl (And.intro rfl (And.intro rfl (And.intro rfl (And.intro rfl trivial)))))))))) ?_
  exact kk _ _ ⟨_, hhw6, ⟨_, _, lf, pf, tf, ⟨gcaw6, by rw [upd_at, hL2], by rw [upd_ne (by decide)]; exact b2, by rw [upd_ne (by decide)]; exact b3, by rw [upd_ne (by decide)]; exact b4, by rw [upd_ne (by decide)]; exact b5⟩, ⟨gmaw6, m1, m2⟩, ⟨glaw6, hang_l hll⟩, gpaw6, gtaw6, fun c hc => absurd (show c < s_C S from hc) (by omega)⟩, hang_S hvb hvp hvh (by rw [hL]; exact h7) hS, hL2, hC, hI2⟩
