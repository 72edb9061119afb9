set_option maxHeartbeats 4000000 in
set_option maxRecDepth 100000 in
theorem case_lamp (G : XG) {F : XF} {b L : Nat} {xs : Nat → Int32} (hl : lwE G F b L xs) {Q : State → Prop} {k : Nat} (hk : 6 * k + 6 ≤ L) {xa m oa : Nat} {S : PS} {h : HM} (hI0 : lI G xa m oa k S h) (kk : ∀ (S1 : PS) (h1 : HM), lI G xa m oa (k + 1) S1 h1 → x_W G F Q (CC (k + 1) S1) (SS (k + 1) S1) h1 1275 [some (.ref b), some (.ref xa), some (.ref m), some (.ref oa), some (.int (nI (6 * k))), none, none] []) : x_W G F Q (CC k S) (SS k S) h 128 [some (.ref b), some (.ref xa), some (.ref m), some (.ref oa), some (.int (nI (6 * k))), none, none] [] := by
  obtain ⟨hE, hT, hX, hbl, hbA, hL⟩ := id hl
  obtain ⟨hC, hM, u, ma, ow, sc, R, gn, rfl, dC, dM, hb, rfl, hMM, hMS, hI, hgn⟩ := hI0
  have hk9 : k ≤ 511 := by omega
  have hcap := hI.cap
  have hI9 : iI (iff0 (fHang S (xs (6 * k + 1)) (xs (6 * k + 2)) (xs (6 * k + 3)) (xs (6 * k + 4)) (xs (6 * k + 5))) (hangP (xs (6 * k + 1)) (xs (6 * k + 2)) (xs (6 * k + 3)) (xs (6 * k + 4)) (xs (6 * k + 5)) S) S) (k + 1) := iI_iff hI (fun hf => iI_hang hI hf)
  have hcap9 := hI9.cap
  have hmono : s_n S ≤ s_n (iff0 (fHang S (xs (6 * k + 1)) (xs (6 * k + 2)) (xs (6 * k + 3)) (xs (6 * k + 4)) (xs (6 * k + 5))) (hangP (xs (6 * k + 1)) (xs (6 * k + 2)) (xs (6 * k + 3)) (xs (6 * k + 4)) (xs (6 * k + 5)) S) S) := iff0_n' rfl
  have hfle : fHang S (xs (6 * k + 1)) (xs (6 * k + 2)) (xs (6 * k + 3)) (xs (6 * k + 4)) (xs (6 * k + 5)) ≤ 2 := fHang_le
  refine x_aload_n hE dL_law_128 rfl rfl ?_
  refine x_aload_n hE dL_law_129 rfl rfl ?_
  refine x_iload hE dL_law_130 rfl ?_
  refine x_iconst (v := nI 1) hE dL_law_132 (by decide) ?_
  refine x_iadd hE dL_law_133 ?_
  refine x_ieq (y := nI (6 * k + 1)) (nI_add _ _) ?_
  refine x_sld hE hX hbl hbA (j := (6 * k + 1)) (by omega) (by omega) dL_law_134 ?_
  refine x_aload_n hE dL_law_135 rfl rfl ?_
  refine x_iload hE dL_law_136 rfl ?_
  refine x_iconst (v := nI 2) hE dL_law_138 (by decide) ?_
  refine x_iadd hE dL_law_139 ?_
  refine x_ieq (y := nI (6 * k + 2)) (nI_add _ _) ?_
  refine x_sld hE hX hbl hbA (j := (6 * k + 2)) (by omega) (by omega) dL_law_140 ?_
  refine x_aload_n hE dL_law_141 rfl rfl ?_
  refine x_iload hE dL_law_142 rfl ?_
  refine x_iconst (v := nI 3) hE dL_law_144 (by decide) ?_
  refine x_iadd hE dL_law_145 ?_
  refine x_ieq (y := nI (6 * k + 3)) (nI_add _ _) ?_
  refine x_sld hE hX hbl hbA (j := (6 * k + 3)) (by omega) (by omega) dL_law_146 ?_
  refine x_aload_n hE dL_law_147 rfl rfl ?_
  refine x_iload hE dL_law_148 rfl ?_
  refine x_iconst (v := nI 4) hE dL_law_150 (by decide) ?_
  refine x_iadd hE dL_law_151 ?_
  refine x_ieq (y := nI (6 * k + 4)) (nI_add _ _) ?_
  refine x_sld hE hX hbl hbA (j := (6 * k + 4)) (by omega) (by omega) dL_law_152 ?_
  refine x_aload_n hE dL_law_153 rfl rfl ?_
  refine x_iload hE dL_law_154 rfl ?_
  refine x_iconst (v := nI 5) hE dL_law_156 (by decide) ?_
  refine x_iadd hE dL_law_157 ?_
  refine x_ieq (y := nI (6 * k + 5)) (nI_add _ _) ?_
  refine x_sld hE hX hbl hbA (j := (6 * k + 5)) (by omega) (by omega) dL_law_158 ?_
  refine x_aload_n hE dL_law_159 rfl rfl ?_
  have hcw : ∀ A : Nat → Prop, y_M (reG G A) yL_lamp wsL_lamp ({ frames := 7, cells := s_n (iff0 (fHang S (xs (6 * k + 1)) (xs (6 * k + 2)) (xs (6 * k + 3)) (xs (6 * k + 4)) (xs (6 * k + 5))) (hangP (xs (6 * k + 1)) (xs (6 * k + 2)) (xs (6 * k + 3)) (xs (6 * k + 4)) (xs (6 * k + 5)) S) S) - s_n S + 4, slots := 3 * (s_n (iff0 (fHang S (xs (6 * k + 1)) (xs (6 * k + 2)) (xs (6 * k + 3)) (xs (6 * k + 4)) (xs (6 * k + 5))) (hangP (xs (6 * k + 1)) (xs (6 * k + 2)) (xs (6 * k + 3)) (xs (6 * k + 4)) (xs (6 * k + 5)) S) S) - s_n S) + 57, locals := 141 } : Room) [.ref xa, .int (xs (6 * k + 1)), .int (xs (6 * k + 2)), .int (xs (6 * k + 3)), .int (xs (6 * k + 4)), .int (xs (6 * k + 5)), .ref oa] (jn hC (oM G oa u)) (wP G xa oa (fHang S (xs (6 * k + 1)) (xs (6 * k + 2)) (xs (6 * k + 3)) (xs (6 * k + 4)) (xs (6 * k + 5))) ((nI (s_L S)).toInt64) (iff0 (fHang S (xs (6 * k + 1)) (xs (6 * k + 2)) (xs (6 * k + 3)) (xs (6 * k + 4)) (xs (6 * k + 5))) (hangP (xs (6 * k + 1)) (xs (6 * k + 2)) (xs (6 * k + 3)) (xs (6 * k + 4)) (xs (6 * k + 5)) S) S)) (fun _ => False) (s_n (iff0 (fHang S (xs (6 * k + 1)) (xs (6 * k + 2)) (xs (6 * k + 3)) (xs (6 * k + 4)) (xs (6 * k + 5))) (hangP (xs (6 * k + 1)) (xs (6 * k + 2)) (xs (6 * k + 3)) (xs (6 * k + 4)) (xs (6 * k + 5)) S) S) - s_n S + 4) (3 * (s_n (iff0 (fHang S (xs (6 * k + 1)) (xs (6 * k + 2)) (xs (6 * k + 3)) (xs (6 * k + 4)) (xs (6 * k + 5))) (hangP (xs (6 * k + 1)) (xs (6 * k + 2)) (xs (6 * k + 3)) (xs (6 * k + 4)) (xs (6 * k + 5)) S) S) - s_n S) + 57) := fun A => c_L_lamp (reG G A) hb dC hI hk9 (xs (6 * k + 1)) (xs (6 * k + 2)) (xs (6 * k + 3)) (xs (6 * k + 4)) (xs (6 * k + 5))
  refine z_callW (st := []) (a := CC k S) (b := SS k S) hE hT 7 hcw dM gL_law_L_lamp rfl rfl rfl (by decide +kernel) ⟨(Nat.le_of_ble_eq_true rfl), (Nat.le_of_ble_eq_true rfl)⟩ rfl rfl dL_law_160 rfl (Nat.le_of_ble_eq_true rfl) ⟨by show CC k S + (s_n (iff0 (fHang S (xs (6 * k + 1)) (xs (6 * k + 2)) (xs (6 * k + 3)) (xs (6 * k + 4)) (xs (6 * k + 5))) (hangP (xs (6 * k + 1)) (xs (6 * k + 2)) (xs (6 * k + 3)) (xs (6 * k + 4)) (xs (6 * k + 5)) S) S) - s_n S + 4) ≤ 601024; unfold CC; omega, by show SS k S + (3 * (s_n (iff0 (fHang S (xs (6 * k + 1)) (xs (6 * k + 2)) (xs (6 * k + 3)) (xs (6 * k + 4)) (xs (6 * k + 5))) (hangP (xs (6 * k + 1)) (xs (6 * k + 2)) (xs (6 * k + 3)) (xs (6 * k + 4)) (xs (6 * k + 5)) S) S) - s_n S) + 57) ≤ 7293034; unfold SS; omega⟩ (fun v h9 hp d9 => ?_)
  obtain ⟨rfl, hC9, u9, rfl, dC9, hb9, hu9⟩ := hp
  refine x_istore (L' := [some (.ref b), some (.ref xa), some (.ref (ma 30)), some (.ref oa), some (.int (nI (6 * k))), some (.int (nI (fHang S (xs (6 * k + 1)) (xs (6 * k + 2)) (xs (6 * k + 3)) (xs (6 * k + 4)) (xs (6 * k + 5))))), none]) hE dL_law_163 (Nat.le_of_ble_eq_true rfl) rfl ?_
  refine x_aload_n hE dL_law_165 rfl rfl ?_
  refine x_aload_n hE dL_law_166 rfl rfl ?_
  refine x_iload hE dL_law_167 rfl ?_
  refine x_iconst (v := nI 1) hE dL_law_169 (by decide) ?_
  refine x_iadd hE dL_law_170 ?_
  refine x_ieq (y := nI (6 * k + 1)) (nI_add _ _) ?_
  refine x_sld hE hX hbl hbA (j := (6 * k + 1)) (by omega) (by omega) dL_law_171 ?_
  refine x_aload_n hE dL_law_172 rfl rfl ?_
  refine x_iload hE dL_law_173 rfl ?_
  refine x_iconst (v := nI 2) hE dL_law_175 (by decide) ?_
  refine x_iadd hE dL_law_176 ?_
  refine x_ieq (y := nI (6 * k + 2)) (nI_add _ _) ?_
  refine x_sld hE hX hbl hbA (j := (6 * k + 2)) (by omega) (by omega) dL_law_177 ?_
  refine x_aload_n hE dL_law_178 rfl rfl ?_
  refine x_iload hE dL_law_179 rfl ?_
  refine x_iconst (v := nI 3) hE dL_law_181 (by decide) ?_
  refine x_iadd hE dL_law_182 ?_
  refine x_ieq (y := nI (6 * k + 3)) (nI_add _ _) ?_
  refine x_sld hE hX hbl hbA (j := (6 * k + 3)) (by omega) (by omega) dL_law_183 ?_
  refine x_aload_n hE dL_law_184 rfl rfl ?_
  refine x_iload hE dL_law_185 rfl ?_
  refine x_iconst (v := nI 4) hE dL_law_187 (by decide) ?_
  refine x_iadd hE dL_law_188 ?_
  refine x_ieq (y := nI (6 * k + 4)) (nI_add _ _) ?_
  refine x_sld hE hX hbl hbA (j := (6 * k + 4)) (by omega) (by omega) dL_law_189 ?_
  refine x_aload_n hE dL_law_190 rfl rfl ?_
  refine x_iload hE dL_law_191 rfl ?_
  refine x_iconst (v := nI 5) hE dL_law_193 (by decide) ?_
  refine x_iadd hE dL_law_194 ?_
  refine x_ieq (y := nI (6 * k + 5)) (nI_add _ _) ?_
  refine x_sld hE hX hbl hbA (j := (6 * k + 5)) (by omega) (by omega) dL_law_195 ?_
  refine x_heq (jn_comm d9) ?_
  have hcx : ∀ A : Nat → Prop, x_M (reG G A) yX8_lamp wsX8_lamp ({ frames := 2, cells := 0, slots := 0, locals := 42 } : Room) [.ref (ma 30), .int (xs (6 * k + 1)), .int (xs (6 * k + 2)), .int (xs (6 * k + 3)), .int (xs (6 * k + 4)), .int (xs (6 * k + 5))] hM (mP G ma ow (fHang S (xs (6 * k + 1)) (xs (6 * k + 2)) (xs (6 * k + 3)) (xs (6 * k + 4)) (xs (6 * k + 5))) (nI (s_L S)) (iff0 (fHang S (xs (6 * k + 1)) (xs (6 * k + 2)) (xs (6 * k + 3)) (xs (6 * k + 4)) (xs (6 * k + 5))) (hangP (xs (6 * k + 1)) (xs (6 * k + 2)) (xs (6 * k + 3)) (xs (6 * k + 4)) (xs (6 * k + 5)) S) S) (gn)) 0 0 := fun A => c_X8_lamp (reG G A) hMM hMS hI.1.mI (xs (6 * k + 1)) (xs (6 * k + 2)) (xs (6 * k + 3)) (xs (6 * k + 4)) (xs (6 * k + 5))
  refine z_callV (ci := 8) (st := []) hE 5 hcx d9.symm gL_law_X8_lamp rfl rfl rfl (by decide +kernel) ⟨(Nat.le_of_ble_eq_true rfl), (Nat.le_of_ble_eq_true rfl)⟩ hMM.o rfl rfl rfl dL_law_196 rfl (Nat.le_of_ble_eq_true rfl) ⟨by show CC k S + (s_n (iff0 (fHang S (xs (6 * k + 1)) (xs (6 * k + 2)) (xs (6 * k + 3)) (xs (6 * k + 4)) (xs (6 * k + 5))) (hangP (xs (6 * k + 1)) (xs (6 * k + 2)) (xs (6 * k + 3)) (xs (6 * k + 4)) (xs (6 * k + 5)) S) S) - s_n S + 4) + 0 ≤ 601024; unfold CC; omega, by show SS k S + (3 * (s_n (iff0 (fHang S (xs (6 * k + 1)) (xs (6 * k + 2)) (xs (6 * k + 3)) (xs (6 * k + 4)) (xs (6 * k + 5))) (hangP (xs (6 * k + 1)) (xs (6 * k + 2)) (xs (6 * k + 3)) (xs (6 * k + 4)) (xs (6 * k + 5)) S) S) - s_n S) + 57) + 0 ≤ 7293034; unfold SS; omega⟩ (fun v h10 hp d10 => ?_)
  obtain ⟨⟨y, rfl, hy⟩, R', sc', gn', hM', hS', e28, hg'⟩ := hp
  refine x_istore (L' := [some (.ref b), some (.ref xa), some (.ref (ma 30)), some (.ref oa), some (.int (nI (6 * k))), some (.int (nI (fHang S (xs (6 * k + 1)) (xs (6 * k + 2)) (xs (6 * k + 3)) (xs (6 * k + 4)) (xs (6 * k + 5))))), some (.int y)]) hE dL_law_199 (Nat.le_of_ble_eq_true rfl) rfl ?_
  refine x_aload_n hE dL_law_201 rfl rfl ?_
  have hct : ∀ A : Nat → Prop, x_M (reG G A) yX8_thrown wsX8_thrown ({ frames := 0, cells := 0, slots := 0, locals := 0 } : Room) [.ref (ma 30)] h10 (x_is (some (.int (sc' 28))) h10) 0 0 := fun A => c_X8_thrown (reG G A) hM'
  refine z_callV (ci := 8) (st := []) hE 0 hct d10 gL_law_X8_thrown rfl rfl rfl (by decide +kernel) ⟨(Nat.le_of_ble_eq_true rfl), (Nat.le_of_ble_eq_true rfl)⟩ hM'.o rfl rfl rfl dL_law_202 rfl (Nat.le_of_ble_eq_true rfl) ⟨by show CC k S + (s_n (iff0 (fHang S (xs (6 * k + 1)) (xs (6 * k + 2)) (xs (6 * k + 3)) (xs (6 * k + 4)) (xs (6 * k + 5))) (hangP (xs (6 * k + 1)) (xs (6 * k + 2)) (xs (6 * k + 3)) (xs (6 * k + 4)) (xs (6 * k + 5)) S) S) - s_n S + 4) + 0 + 0 ≤ 601024; unfold CC; omega, by show SS k S + (3 * (s_n (iff0 (fHang S (xs (6 * k + 1)) (xs (6 * k + 2)) (xs (6 * k + 3)) (xs (6 * k + 4)) (xs (6 * k + 5))) (hangP (xs (6 * k + 1)) (xs (6 * k + 2)) (xs (6 * k + 3)) (xs (6 * k + 4)) (xs (6 * k + 5)) S) S) - s_n S) + 57) + 0 + 0 ≤ 7293034; unfold SS; omega⟩ (fun v h11 hp d11 => ?_)
  obtain ⟨rfl, rfl⟩ := hp
  refine x_ieq (y := nI (fHang S (xs (6 * k + 1)) (xs (6 * k + 2)) (xs (6 * k + 3)) (xs (6 * k + 4)) (xs (6 * k + 5)))) (e28) ?_
  refine x_iload hE dL_law_205 rfl ?_
  refine x_icmp_eq (tgt := 212) hE dL_law_207 (by decide) (fun c207 => ?_) (fun c207 => ?_)
  · refine x_iload hE dL_law_212 rfl ?_
    refine x_if_ne (tgt := 229) hE dL_law_214 (by decide) (fun c214 => ?_) (fun c214 => ?_)
    · refine x_goto (tgt := 1275) hE dL_law_229 (by decide) ?_
      refine x_heq (jn_comm d10) ?_
      refine x_widen (k := CC (k + 1) (iff0 (fHang S (xs (6 * k + 1)) (xs (6 * k + 2)) (xs (6 * k + 3)) (xs (6 * k + 4)) (xs (6 * k + 5))) (hangP (xs (6 * k + 1)) (xs (6 * k + 2)) (xs (6 * k + 3)) (xs (6 * k + 4)) (xs (6 * k + 5)) S) S)) (n := SS (k + 1) (iff0 (fHang S (xs (6 * k + 1)) (xs (6 * k + 2)) (xs (6 * k + 3)) (xs (6 * k + 4)) (xs (6 * k + 5))) (hangP (xs (6 * k + 1)) (xs (6 * k + 2)) (xs (6 * k + 3)) (xs (6 * k + 4)) (xs (6 * k + 5)) S) S)) (by unfold CC; omega) (by unfold SS; omega) ?_
      refine x_forget (L' := [some (.ref b), some (.ref xa), some (.ref (ma 30)), some (.ref oa), some (.int (nI (6 * k))), none, none]) (And.intro rfl (And.intro rfl (And.intro rfl (And.intro rfl (And.intro rfl trivial))))) ?_
      exact kk (iff0 (fHang S (xs (6 * k + 1)) (xs (6 * k + 2)) (xs (6 * k + 3)) (xs (6 * k + 4)) (xs (6 * k + 5))) (hangP (xs (6 * k + 1)) (xs (6 * k + 2)) (xs (6 * k + 3)) (xs (6 * k + 4)) (xs (6 * k + 5)) S) S) _ ⟨hC9, h10, u9, ma, ow, sc', R', gn', rfl, dC9, d10.symm, hb9, rfl, hM', hS', hI9, by omega⟩
    · have hf : fHang S (xs (6 * k + 1)) (xs (6 * k + 2)) (xs (6 * k + 3)) (xs (6 * k + 4)) (xs (6 * k + 5)) = 0 := nI_f0 hfle c214
      have hy1 := hy hf
      have hw1 := hu9 hf
      refine x_aload_n hE dL_law_217 rfl rfl ?_
      refine x_iconst (v := nI 0) hE dL_law_218 (by decide) ?_
      refine x_lald (v := (nI (s_L S)).toInt64) hE (jn_r d10 (jn_r dC9 oM_at)) zin0 (by rw [zcl0]; exact hw1) dL_law_219 ?_
      refine x_iload hE dL_law_220 rfl ?_
      refine x_i2l hE dL_law_222 ?_
      refine x_lcmp hE dL_law_223 ?_
      refine x_ieq (y := nI 0) (by rw [hy1]; exact lg_self _) ?_
      refine x_if_eq (tgt := 229) hE dL_law_224 (by decide) (fun c224 => ?_) (fun c224 => ?_)
      · refine x_goto (tgt := 1275) hE dL_law_229 (by decide) ?_
        refine x_heq (jn_comm d10) ?_
        refine x_widen (k := CC (k + 1) (iff0 (fHang S (xs (6 * k + 1)) (xs (6 * k + 2)) (xs (6 * k + 3)) (xs (6 * k + 4)) (xs (6 * k + 5))) (hangP (xs (6 * k + 1)) (xs (6 * k + 2)) (xs (6 * k + 3)) (xs (6 * k + 4)) (xs (6 * k + 5)) S) S)) (n := SS (k + 1) (iff0 (fHang S (xs (6 * k + 1)) (xs (6 * k + 2)) (xs (6 * k + 3)) (xs (6 * k + 4)) (xs (6 * k + 5))) (hangP (xs (6 * k + 1)) (xs (6 * k + 2)) (xs (6 * k + 3)) (xs (6 * k + 4)) (xs (6 * k + 5)) S) S)) (by unfold CC; omega) (by unfold SS; omega) ?_
        refine x_forget (L' := [some (.ref b), some (.ref xa), some (.ref (ma 30)), some (.ref oa), some (.int (nI (6 * k))), none, none]) (And.intro rfl (And.intro rfl (And.intro rfl (And.intro rfl (And.intro rfl trivial))))) ?_
        exact kk (iff0 (fHang S (xs (6 * k + 1)) (xs (6 * k + 2)) (xs (6 * k + 3)) (xs (6 * k + 4)) (xs (6 * k + 5))) (hangP (xs (6 * k + 1)) (xs (6 * k + 2)) (xs (6 * k + 3)) (xs (6 * k + 4)) (xs (6 * k + 5)) S) S) _ ⟨hC9, h10, u9, ma, ow, sc', R', gn', rfl, dC9, d10.symm, hb9, rfl, hM', hS', hI9, by omega⟩
      · exact absurd rfl c224
  · exact absurd rfl c207
set_option maxHeartbeats 4000000 in
set_option maxRecDepth 100000 in
theorem case_die (G : XG) {F : XF} {b L : Nat} {xs : Nat → Int32} (hl : lwE G F b L xs) {Q : State → Prop} {k : Nat} (hk : 6 * k + 6 ≤ L) {xa m oa : Nat} {S : PS} {h : HM} (hI0 : lI G xa m oa k S h) (kk : ∀ (S1 : PS) (h1 : HM), lI G xa m oa (k + 1) S1 h1 → x_W G F Q (CC (k + 1) S1) (SS (k + 1) S1) h1 1275 [some (.ref b), some (.ref xa), some (.ref m), some (.ref oa), some (.int (nI (6 * k))), none, none] []) : x_W G F Q (CC k S) (SS k S) h 232 [some (.ref b), some (.ref xa), some (.ref m), some (.ref oa), some (.int (nI (6 * k))), none, none] [] := by
  obtain ⟨hE, hT, hX, hbl, hbA, hL⟩ := id hl
  obtain ⟨hC, hM, u, ma, ow, sc, R, gn, rfl, dC, dM, hb, rfl, hMM, hMS, hI, hgn⟩ := hI0
  have hk9 : k ≤ 511 := by omega
  have hcap := hI.cap
  have hI9 : iI (iff0 (fLamp S (xs (6 * k + 1))) (dieP (xs (6 * k + 1)).toNatClampNeg S) S) (k + 1) := iI_iff hI (fun hf => iI_die hI hf)
  have hcap9 := hI9.cap
  have hmono : s_n S ≤ s_n (iff0 (fLamp S (xs (6 * k + 1))) (dieP (xs (6 * k + 1)).toNatClampNeg S) S) := iff0_n' rfl
  have hfle : fLamp S (xs (6 * k + 1)) ≤ 2 := fLamp_le
  refine x_aload_n hE dL_law_232 rfl rfl ?_
  refine x_aload_n hE dL_law_233 rfl rfl ?_
  refine x_iload hE dL_law_234 rfl ?_
  refine x_iconst (v := nI 1) hE dL_law_236 (by decide) ?_
  refine x_iadd hE dL_law_237 ?_
  refine x_ieq (y := nI (6 * k + 1)) (nI_add _ _) ?_
  refine x_sld hE hX hbl hbA (j := (6 * k + 1)) (by omega) (by omega) dL_law_238 ?_
  refine x_aload_n hE dL_law_239 rfl rfl ?_
  have hcw : ∀ A : Nat → Prop, y_M (reG G A) yL_die wsL_die ({ frames := 7, cells := s_n (iff0 (fLamp S (xs (6 * k + 1))) (dieP (xs (6 * k + 1)).toNatClampNeg S) S) - s_n S + 4, slots := 3 * (s_n (iff0 (fLamp S (xs (6 * k + 1))) (dieP (xs (6 * k + 1)).toNatClampNeg S) S) - s_n S) + 57, locals := 137 } : Room) [.ref xa, .int (xs (6 * k + 1)), .ref oa] (jn hC (oM G oa u)) (wP G xa oa (fLamp S (xs (6 * k + 1))) (bL (s_ar (dieP (xs (6 * k + 1)).toNatClampNeg S) 7 (xs (6 * k + 1)).toNatClampNeg)) (iff0 (fLamp S (xs (6 * k + 1))) (dieP (xs (6 * k + 1)).toNatClampNeg S) S)) (fun _ => False) (s_n (iff0 (fLamp S (xs (6 * k + 1))) (dieP (xs (6 * k + 1)).toNatClampNeg S) S) - s_n S + 4) (3 * (s_n (iff0 (fLamp S (xs (6 * k + 1))) (dieP (xs (6 * k + 1)).toNatClampNeg S) S) - s_n S) + 57) := fun A => c_L_die (reG G A) hb dC hI hk9 (xs (6 * k + 1))
  refine z_callW (st := []) (a := CC k S) (b := SS k S) hE hT 3 hcw dM gL_law_L_die rfl rfl rfl (by decide +kernel) ⟨(Nat.le_of_ble_eq_true rfl), (Nat.le_of_ble_eq_true rfl)⟩ rfl rfl dL_law_240 rfl (Nat.le_of_ble_eq_true rfl) ⟨by show CC k S + (s_n (iff0 (fLamp S (xs (6 * k + 1))) (dieP (xs (6 * k + 1)).toNatClampNeg S) S) - s_n S + 4) ≤ 601024; unfold CC; omega, by show SS k S + (3 * (s_n (iff0 (fLamp S (xs (6 * k + 1))) (dieP (xs (6 * k + 1)).toNatClampNeg S) S) - s_n S) + 57) ≤ 7293034; unfold SS; omega⟩ (fun v h9 hp d9 => ?_)
  obtain ⟨rfl, hC9, u9, rfl, dC9, hb9, hu9⟩ := hp
  refine x_istore (L' := [some (.ref b), some (.ref xa), some (.ref (ma 30)), some (.ref oa), some (.int (nI (6 * k))), some (.int (nI (fLamp S (xs (6 * k + 1))))), none]) hE dL_law_243 (Nat.le_of_ble_eq_true rfl) rfl ?_
  refine x_aload_n hE dL_law_245 rfl rfl ?_
  refine x_aload_n hE dL_law_246 rfl rfl ?_
  refine x_iload hE dL_law_247 rfl ?_
  refine x_iconst (v := nI 1) hE dL_law_249 (by decide) ?_
  refine x_iadd hE dL_law_250 ?_
  refine x_ieq (y := nI (6 * k + 1)) (nI_add _ _) ?_
  refine x_sld hE hX hbl hbA (j := (6 * k + 1)) (by omega) (by omega) dL_law_251 ?_
  refine x_heq (jn_comm d9) ?_
  have hcx : ∀ A : Nat → Prop, x_M (reG G A) yX8_die wsX8_die ({ frames := 2, cells := 0, slots := 0, locals := 43 } : Room) [.ref (ma 30), .int (xs (6 * k + 1))] hM (mP G ma ow (fLamp S (xs (6 * k + 1))) (s_ar (dieP (xs (6 * k + 1)).toNatClampNeg S) 7 (xs (6 * k + 1)).toNatClampNeg) (iff0 (fLamp S (xs (6 * k + 1))) (dieP (xs (6 * k + 1)).toNatClampNeg S) S) (gn)) 0 0 := fun A => c_X8_die (reG G A) hMM hMS hI.1.mI (xs (6 * k + 1))
  refine z_callV (ci := 8) (st := []) hE 1 hcx d9.symm gL_law_X8_die rfl rfl rfl (by decide +kernel) ⟨(Nat.le_of_ble_eq_true rfl), (Nat.le_of_ble_eq_true rfl)⟩ hMM.o rfl rfl rfl dL_law_252 rfl (Nat.le_of_ble_eq_true rfl) ⟨by show CC k S + (s_n (iff0 (fLamp S (xs (6 * k + 1))) (dieP (xs (6 * k + 1)).toNatClampNeg S) S) - s_n S + 4) + 0 ≤ 601024; unfold CC; omega, by show SS k S + (3 * (s_n (iff0 (fLamp S (xs (6 * k + 1))) (dieP (xs (6 * k + 1)).toNatClampNeg S) S) - s_n S) + 57) + 0 ≤ 7293034; unfold SS; omega⟩ (fun v h10 hp d10 => ?_)
  obtain ⟨⟨y, rfl, hy⟩, R', sc', gn', hM', hS', e28, hg'⟩ := hp
  refine x_istore (L' := [some (.ref b), some (.ref xa), some (.ref (ma 30)), some (.ref oa), some (.int (nI (6 * k))), some (.int (nI (fLamp S (xs (6 * k + 1))))), some (.int y)]) hE dL_law_255 (Nat.le_of_ble_eq_true rfl) rfl ?_
  refine x_aload_n hE dL_law_257 rfl rfl ?_
  have hct : ∀ A : Nat → Prop, x_M (reG G A) yX8_thrown wsX8_thrown ({ frames := 0, cells := 0, slots := 0, locals := 0 } : Room) [.ref (ma 30)] h10 (x_is (some (.int (sc' 28))) h10) 0 0 := fun A => c_X8_thrown (reG G A) hM'
  refine z_callV (ci := 8) (st := []) hE 0 hct d10 gL_law_X8_thrown rfl rfl rfl (by decide +kernel) ⟨(Nat.le_of_ble_eq_true rfl), (Nat.le_of_ble_eq_true rfl)⟩ hM'.o rfl rfl rfl dL_law_258 rfl (Nat.le_of_ble_eq_true rfl) ⟨by show CC k S + (s_n (iff0 (fLamp S (xs (6 * k + 1))) (dieP (xs (6 * k + 1)).toNatClampNeg S) S) - s_n S + 4) + 0 + 0 ≤ 601024; unfold CC; omega, by show SS k S + (3 * (s_n (iff0 (fLamp S (xs (6 * k + 1))) (dieP (xs (6 * k + 1)).toNatClampNeg S) S) - s_n S) + 57) + 0 + 0 ≤ 7293034; unfold SS; omega⟩ (fun v h11 hp d11 => ?_)
  obtain ⟨rfl, rfl⟩ := hp
  refine x_ieq (y := nI (fLamp S (xs (6 * k + 1)))) (e28) ?_
  refine x_iload hE dL_law_261 rfl ?_
  refine x_icmp_eq (tgt := 268) hE dL_law_263 (by decide) (fun c263 => ?_) (fun c263 => ?_)
  · refine x_iload hE dL_law_268 rfl ?_
    refine x_if_ne (tgt := 292) hE dL_law_270 (by decide) (fun c270 => ?_) (fun c270 => ?_)
    · refine x_goto (tgt := 1275) hE dL_law_292 (by decide) ?_
      refine x_heq (jn_comm d10) ?_
      refine x_widen (k := CC (k + 1) (iff0 (fLamp S (xs (6 * k + 1))) (dieP (xs (6 * k + 1)).toNatClampNeg S) S)) (n := SS (k + 1) (iff0 (fLamp S (xs (6 * k + 1))) (dieP (xs (6 * k + 1)).toNatClampNeg S) S)) (by unfold CC; omega) (by unfold SS; omega) ?_
      refine x_forget (L' := [some (.ref b), some (.ref xa), some (.ref (ma 30)), some (.ref oa), some (.int (nI (6 * k))), none, none]) (And.intro rfl (And.intro rfl (And.intro rfl (And.intro rfl (And.intro rfl trivial))))) ?_
      exact kk (iff0 (fLamp S (xs (6 * k + 1))) (dieP (xs (6 * k + 1)).toNatClampNeg S) S) _ ⟨hC9, h10, u9, ma, ow, sc', R', gn', rfl, dC9, d10.symm, hb9, rfl, hM', hS', hI9, by omega⟩
    · have hf : fLamp S (xs (6 * k + 1)) = 0 := nI_f0 hfle c270
      have hy1 := hy hf
      have hw1 := hu9 hf
      refine x_aload_n hE dL_law_273 rfl rfl ?_
      refine x_iconst (v := nI 0) hE dL_law_274 (by decide) ?_
      refine x_lald (v := bL (s_ar (dieP (xs (6 * k + 1)).toNatClampNeg S) 7 (xs (6 * k + 1)).toNatClampNeg)) hE (jn_r d10 (jn_r dC9 oM_at)) zin0 (by rw [zcl0]; exact hw1) dL_law_275 ?_
      refine x_iload hE dL_law_276 rfl ?_
      refine x_if_eq (tgt := 285) hE dL_law_278 (by decide) (fun c278 => ?_) (fun c278 => ?_)
      · refine x_lconst (v := 0) hE dL_law_285 (by decide) ?_
        refine x_lcmp hE dL_law_286 ?_
        refine x_ieq (y := nI 0) (by rw [show bL (s_ar (dieP (xs (6 * k + 1)).toNatClampNeg S) 7 (xs (6 * k + 1)).toNatClampNeg) = 0 by unfold bL; rw [if_pos (hy1.symm.trans c278)]]; exact lg_self 0) ?_
        refine x_if_eq (tgt := 292) hE dL_law_287 (by decide) (fun c287 => ?_) (fun c287 => ?_)
        · refine x_goto (tgt := 1275) hE dL_law_292 (by decide) ?_
          refine x_heq (jn_comm d10) ?_
          refine x_widen (k := CC (k + 1) (iff0 (fLamp S (xs (6 * k + 1))) (dieP (xs (6 * k + 1)).toNatClampNeg S) S)) (n := SS (k + 1) (iff0 (fLamp S (xs (6 * k + 1))) (dieP (xs (6 * k + 1)).toNatClampNeg S) S)) (by unfold CC; omega) (by unfold SS; omega) ?_
          refine x_forget (L' := [some (.ref b), some (.ref xa), some (.ref (ma 30)), some (.ref oa), some (.int (nI (6 * k))), none, none]) (And.intro rfl (And.intro rfl (And.intro rfl (And.intro rfl (And.intro rfl trivial))))) ?_
          exact kk (iff0 (fLamp S (xs (6 * k + 1))) (dieP (xs (6 * k + 1)).toNatClampNeg S) S) _ ⟨hC9, h10, u9, ma, ow, sc', R', gn', rfl, dC9, d10.symm, hb9, rfl, hM', hS', hI9, by omega⟩
        · exact absurd rfl c287
      · refine x_lconst (v := 1) hE dL_law_281 (by decide) ?_
        refine x_goto (tgt := 286) hE dL_law_282 (by decide) ?_
        refine x_lcmp hE dL_law_286 ?_
        refine x_ieq (y := nI 0) (by rw [show bL (s_ar (dieP (xs (6 * k + 1)).toNatClampNeg S) 7 (xs (6 * k + 1)).toNatClampNeg) = 1 by unfold bL; rw [if_neg (fun z => c278 (hy1.trans z))]]; exact lg_self 1) ?_
        refine x_if_eq (tgt := 292) hE dL_law_287 (by decide) (fun c287 => ?_) (fun c287 => ?_)
        · refine x_goto (tgt := 1275) hE dL_law_292 (by decide) ?_
          refine x_heq (jn_comm d10) ?_
          refine x_widen (k := CC (k + 1) (iff0 (fLamp S (xs (6 * k + 1))) (dieP (xs (6 * k + 1)).toNatClampNeg S) S)) (n := SS (k + 1) (iff0 (fLamp S (xs (6 * k + 1))) (dieP (xs (6 * k + 1)).toNatClampNeg S) S)) (by unfold CC; omega) (by unfold SS; omega) ?_
          refine x_forget (L' := [some (.ref b), some (.ref xa), some (.ref (ma 30)), some (.ref oa), some (.int (nI (6 * k))), none, none]) (And.intro rfl (And.intro rfl (And.intro rfl (And.intro rfl (And.intro rfl trivial))))) ?_
          exact kk (iff0 (fLamp S (xs (6 * k + 1))) (dieP (xs (6 * k + 1)).toNatClampNeg S) S) _ ⟨hC9, h10, u9, ma, ow, sc', R', gn', rfl, dC9, d10.symm, hb9, rfl, hM', hS', hI9, by omega⟩
        · exact absurd rfl c287
  · exact absurd rfl c263
set_option maxHeartbeats 4000000 in
set_option maxRecDepth 100000 in
theorem case_house (G : XG) {F : XF} {b L : Nat} {xs : Nat → Int32} (hl : lwE G F b L xs) {Q : State → Prop} {k : Nat} (hk : 6 * k + 6 ≤ L) {xa m oa : Nat} {S : PS} {h : HM} (hI0 : lI G xa m oa k S h) (kk : ∀ (S1 : PS) (h1 : HM), lI G xa m oa (k + 1) S1 h1 → x_W G F Q (CC (k + 1) S1) (SS (k + 1) S1) h1 1275 [some (.ref b), some (.ref xa), some (.ref m), some (.ref oa), some (.int (nI (6 * k))), none, none] []) : x_W G F Q (CC k S) (SS k S) h 295 [some (.ref b), some (.ref xa), some (.ref m), some (.ref oa), some (.int (nI (6 * k))), none, none] [] := by
  obtain ⟨hE, hT, hX, hbl, hbA, hL⟩ := id hl
  obtain ⟨hC, hM, u, ma, ow, sc, R, gn, rfl, dC, dM, hb, rfl, hMM, hMS, hI, hgn⟩ := hI0
  have hk9 : k ≤ 511 := by omega
  have hcap := hI.cap
  have hI9 : iI (iff0 (fHouse (xs (6 * k + 1))) (houseP (xs (6 * k + 1)) S) S) (k + 1) := iI_iff hI (fun hf => iI_house hI)
  have hcap9 := hI9.cap
  have hmono : s_n S ≤ s_n (iff0 (fHouse (xs (6 * k + 1))) (houseP (xs (6 * k + 1)) S) S) := iff0_n' rfl
  have hfle : fHouse (xs (6 * k + 1)) ≤ 2 := fHouse_le
  refine x_aload_n hE dL_law_295 rfl rfl ?_
  refine x_aload_n hE dL_law_296 rfl rfl ?_
  refine x_iload hE dL_law_297 rfl ?_
  refine x_iconst (v := nI 1) hE dL_law_299 (by decide) ?_
  refine x_iadd hE dL_law_300 ?_
  refine x_ieq (y := nI (6 * k + 1)) (nI_add _ _) ?_
  refine x_sld hE hX hbl hbA (j := (6 * k + 1)) (by omega) (by omega) dL_law_301 ?_
  refine x_aload_n hE dL_law_302 rfl rfl ?_
  have hcw : ∀ A : Nat → Prop, y_M (reG G A) yL_house wsL_house ({ frames := 7, cells := s_n (iff0 (fHouse (xs (6 * k + 1))) (houseP (xs (6 * k + 1)) S) S) - s_n S + 4, slots := 3 * (s_n (iff0 (fHouse (xs (6 * k + 1))) (houseP (xs (6 * k + 1)) S) S) - s_n S) + 57, locals := 136 } : Room) [.ref xa, .int (xs (6 * k + 1)), .ref oa] (jn hC (oM G oa u)) (wP G xa oa (fHouse (xs (6 * k + 1))) ((nI (cnt_ (usL (s_L S) (s_ar S) (xs (6 * k + 1))) 16)).toInt64) (iff0 (fHouse (xs (6 * k + 1))) (houseP (xs (6 * k + 1)) S) S)) (fun _ => False) (s_n (iff0 (fHouse (xs (6 * k + 1))) (houseP (xs (6 * k + 1)) S) S) - s_n S + 4) (3 * (s_n (iff0 (fHouse (xs (6 * k + 1))) (houseP (xs (6 * k + 1)) S) S) - s_n S) + 57) := fun A => c_L_house (reG G A) hb dC hI hk9 (xs (6 * k + 1))
  refine z_callW (st := []) (a := CC k S) (b := SS k S) hE hT 3 hcw dM gL_law_L_house rfl rfl rfl (by decide +kernel) ⟨(Nat.le_of_ble_eq_true rfl), (Nat.le_of_ble_eq_true rfl)⟩ rfl rfl dL_law_303 rfl (Nat.le_of_ble_eq_true rfl) ⟨by show CC k S + (s_n (iff0 (fHouse (xs (6 * k + 1))) (houseP (xs (6 * k + 1)) S) S) - s_n S + 4) ≤ 601024; unfold CC; omega, by show SS k S + (3 * (s_n (iff0 (fHouse (xs (6 * k + 1))) (houseP (xs (6 * k + 1)) S) S) - s_n S) + 57) ≤ 7293034; unfold SS; omega⟩ (fun v h9 hp d9 => ?_)
  obtain ⟨rfl, hC9, u9, rfl, dC9, hb9, hu9⟩ := hp
  refine x_istore (L' := [some (.ref b), some (.ref xa), some (.ref (ma 30)), some (.ref oa), some (.int (nI (6 * k))), some (.int (nI (fHouse (xs (6 * k + 1))))), none]) hE dL_law_306 (Nat.le_of_ble_eq_true rfl) rfl ?_
  refine x_aload_n hE dL_law_308 rfl rfl ?_
  refine x_aload_n hE dL_law_309 rfl rfl ?_
  refine x_iload hE dL_law_310 rfl ?_
  refine x_iconst (v := nI 1) hE dL_law_312 (by decide) ?_
  refine x_iadd hE dL_law_313 ?_
  refine x_ieq (y := nI (6 * k + 1)) (nI_add _ _) ?_
  refine x_sld hE hX hbl hbA (j := (6 * k + 1)) (by omega) (by omega) dL_law_314 ?_
  refine x_heq (jn_comm d9) ?_
  have hcx : ∀ A : Nat → Prop, x_M (reG G A) yX8_house wsX8_house ({ frames := 1, cells := 0, slots := 0, locals := 22 } : Room) [.ref (ma 30), .int (xs (6 * k + 1))] hM (mP G ma ow (fHouse (xs (6 * k + 1))) (nI (cnt_ (usL (s_L S) (s_ar S) (xs (6 * k + 1))) 16)) (iff0 (fHouse (xs (6 * k + 1))) (houseP (xs (6 * k + 1)) S) S) (gn)) 0 0 := fun A => c_X8_house (reG G A) hMM hMS hI.1.mI (xs (6 * k + 1))
  refine z_callV (ci := 8) (st := []) hE 1 hcx d9.symm gL_law_X8_house rfl rfl rfl (by decide +kernel) ⟨(Nat.le_of_ble_eq_true rfl), (Nat.le_of_ble_eq_true rfl)⟩ hMM.o rfl rfl rfl dL_law_315 rfl (Nat.le_of_ble_eq_true rfl) ⟨by show CC k S + (s_n (iff0 (fHouse (xs (6 * k + 1))) (houseP (xs (6 * k + 1)) S) S) - s_n S + 4) + 0 ≤ 601024; unfold CC; omega, by show SS k S + (3 * (s_n (iff0 (fHouse (xs (6 * k + 1))) (houseP (xs (6 * k + 1)) S) S) - s_n S) + 57) + 0 ≤ 7293034; unfold SS; omega⟩ (fun v h10 hp d10 => ?_)
  obtain ⟨⟨y, rfl, hy⟩, R', sc', gn', hM', hS', e28, hg'⟩ := hp
  refine x_istore (L' := [some (.ref b), some (.ref xa), some (.ref (ma 30)), some (.ref oa), some (.int (nI (6 * k))), some (.int (nI (fHouse (xs (6 * k + 1))))), some (.int y)]) hE dL_law_318 (Nat.le_of_ble_eq_true rfl) rfl ?_
  refine x_aload_n hE dL_law_320 rfl rfl ?_
  have hct : ∀ A : Nat → Prop, x_M (reG G A) yX8_thrown wsX8_thrown ({ frames := 0, cells := 0, slots := 0, locals := 0 } : Room) [.ref (ma 30)] h10 (x_is (some (.int (sc' 28))) h10) 0 0 := fun A => c_X8_thrown (reG G A) hM'
  refine z_callV (ci := 8) (st := []) hE 0 hct d10 gL_law_X8_thrown rfl rfl rfl (by decide +kernel) ⟨(Nat.le_of_ble_eq_true rfl), (Nat.le_of_ble_eq_true rfl)⟩ hM'.o rfl rfl rfl dL_law_321 rfl (Nat.le_of_ble_eq_true rfl) ⟨by show CC k S + (s_n (iff0 (fHouse (xs (6 * k + 1))) (houseP (xs (6 * k + 1)) S) S) - s_n S + 4) + 0 + 0 ≤ 601024; unfold CC; omega, by show SS k S + (3 * (s_n (iff0 (fHouse (xs (6 * k + 1))) (houseP (xs (6 * k + 1)) S) S) - s_n S) + 57) + 0 + 0 ≤ 7293034; unfold SS; omega⟩ (fun v h11 hp d11 => ?_)
  obtain ⟨rfl, rfl⟩ := hp
  refine x_ieq (y := nI (fHouse (xs (6 * k + 1)))) (e28) ?_
  refine x_iload hE dL_law_324 rfl ?_
  refine x_icmp_eq (tgt := 331) hE dL_law_326 (by decide) (fun c326 => ?_) (fun c326 => ?_)
  · refine x_iload hE dL_law_331 rfl ?_
    refine x_if_ne (tgt := 348) hE dL_law_333 (by decide) (fun c333 => ?_) (fun c333 => ?_)
    · refine x_goto (tgt := 1275) hE dL_law_348 (by decide) ?_
      refine x_heq (jn_comm d10) ?_
      refine x_widen (k := CC (k + 1) (iff0 (fHouse (xs (6 * k + 1))) (houseP (xs (6 * k + 1)) S) S)) (n := SS (k + 1) (iff0 (fHouse (xs (6 * k + 1))) (houseP (xs (6 * k + 1)) S) S)) (by unfold CC; omega) (by unfold SS; omega) ?_
      refine x_forget (L' := [some (.ref b), some (.ref xa), some (.ref (ma 30)), some (.ref oa), some (.int (nI (6 * k))), none, none]) (And.intro rfl (And.intro rfl (And.intro rfl (And.intro rfl (And.intro rfl trivial))))) ?_
      exact kk (iff0 (fHouse (xs (6 * k + 1))) (houseP (xs (6 * k + 1)) S) S) _ ⟨hC9, h10, u9, ma, ow, sc', R', gn', rfl, dC9, d10.symm, hb9, rfl, hM', hS', hI9, by omega⟩
    · have hf : fHouse (xs (6 * k + 1)) = 0 := nI_f0 hfle c333
      have hy1 := hy hf
      have hw1 := hu9 hf
      refine x_aload_n hE dL_law_336 rfl rfl ?_
      refine x_iconst (v := nI 0) hE dL_law_337 (by decide) ?_
      refine x_lald (v := (nI (cnt_ (usL (s_L S) (s_ar S) (xs (6 * k + 1))) 16)).toInt64) hE (jn_r d10 (jn_r dC9 oM_at)) zin0 (by rw [zcl0]; exact hw1) dL_law_338 ?_
      refine x_iload hE dL_law_339 rfl ?_
      refine x_i2l hE dL_law_341 ?_
      refine x_lcmp hE dL_law_342 ?_
      refine x_ieq (y := nI 0) (by rw [hy1]; exact lg_self _) ?_
      refine x_if_eq (tgt := 348) hE dL_law_343 (by decide) (fun c343 => ?_) (fun c343 => ?_)
      · refine x_goto (tgt := 1275) hE dL_law_348 (by decide) ?_
        refine x_heq (jn_comm d10) ?_
        refine x_widen (k := CC (k + 1) (iff0 (fHouse (xs (6 * k + 1))) (houseP (xs (6 * k + 1)) S) S)) (n := SS (k + 1) (iff0 (fHouse (xs (6 * k + 1))) (houseP (xs (6 * k + 1)) S) S)) (by unfold CC; omega) (by unfold SS; omega) ?_
        refine x_forget (L' := [some (.ref b), some (.ref xa), some (.ref (ma 30)), some (.ref oa), some (.int (nI (6 * k))), none, none]) (And.intro rfl (And.intro rfl (And.intro rfl (And.intro rfl (And.intro rfl trivial))))) ?_
        exact kk (iff0 (fHouse (xs (6 * k + 1))) (houseP (xs (6 * k + 1)) S) S) _ ⟨hC9, h10, u9, ma, ow, sc', R', gn', rfl, dC9, d10.symm, hb9, rfl, hM', hS', hI9, by omega⟩
      · exact absurd rfl c343
  · exact absurd rfl c326
set_option maxHeartbeats 4000000 in
set_option maxRecDepth 100000 in
theorem case_power (G : XG) {F : XF} {b L : Nat} {xs : Nat → Int32} (hl : lwE G F b L xs) {Q : State → Prop} {k : Nat} (hk : 6 * k + 6 ≤ L) {xa m oa : Nat} {S : PS} {h : HM} (hI0 : lI G xa m oa k S h) (kk : ∀ (S1 : PS) (h1 : HM), lI G xa m oa (k + 1) S1 h1 → x_W G F Q (CC (k + 1) S1) (SS (k + 1) S1) h1 1275 [some (.ref b), some (.ref xa), some (.ref m), some (.ref oa), some (.int (nI (6 * k))), none, none] []) : x_W G F Q (CC k S) (SS k S) h 351 [some (.ref b), some (.ref xa), some (.ref m), some (.ref oa), some (.int (nI (6 * k))), none, none] [] := by
  obtain ⟨hE, hT, hX, hbl, hbA, hL⟩ := id hl
  obtain ⟨hC, hM, u, ma, ow, sc, R, gn, rfl, dC, dM, hb, rfl, hMM, hMS, hI, hgn⟩ := hI0
  have hk9 : k ≤ 511 := by omega
  have hcap := hI.cap
  have hI9 : iI (iff0 (fPower (xs (6 * k + 1)) (xs (6 * k + 2))) (powerP (xs (6 * k + 1)) (xs (6 * k + 2)) S) S) (k + 1) := iI_iff hI (fun hf => iI_power hI)
  have hcap9 := hI9.cap
  have hmono : s_n S ≤ s_n (iff0 (fPower (xs (6 * k + 1)) (xs (6 * k + 2))) (powerP (xs (6 * k + 1)) (xs (6 * k + 2)) S) S) := iff0_n' rfl
  have hfle : fPower (xs (6 * k + 1)) (xs (6 * k + 2)) ≤ 2 := fPower_le
  refine x_aload_n hE dL_law_351 rfl rfl ?_
  refine x_aload_n hE dL_law_352 rfl rfl ?_
  refine x_iload hE dL_law_353 rfl ?_
  refine x_iconst (v := nI 1) hE dL_law_355 (by decide) ?_
  refine x_iadd hE dL_law_356 ?_
  refine x_ieq (y := nI (6 * k + 1)) (nI_add _ _) ?_
  refine x_sld hE hX hbl hbA (j := (6 * k + 1)) (by omega) (by omega) dL_law_357 ?_
  refine x_aload_n hE dL_law_358 rfl rfl ?_
  refine x_iload hE dL_law_359 rfl ?_
  refine x_iconst (v := nI 2) hE dL_law_361 (by decide) ?_
  refine x_iadd hE dL_law_362 ?_
  refine x_ieq (y := nI (6 * k + 2)) (nI_add _ _) ?_
  refine x_sld hE hX hbl hbA (j := (6 * k + 2)) (by omega) (by omega) dL_law_363 ?_
  refine x_aload_n hE dL_law_364 rfl rfl ?_
  have hcw : ∀ A : Nat → Prop, y_M (reG G A) yL_power wsL_power ({ frames := 7, cells := s_n (iff0 (fPower (xs (6 * k + 1)) (xs (6 * k + 2))) (powerP (xs (6 * k + 1)) (xs (6 * k + 2)) S) S) - s_n S + 4, slots := 3 * (s_n (iff0 (fPower (xs (6 * k + 1)) (xs (6 * k + 2))) (powerP (xs (6 * k + 1)) (xs (6 * k + 2)) S) S) - s_n S) + 57, locals := 113 } : Room) [.ref xa, .int (xs (6 * k + 1)), .int (xs (6 * k + 2)), .ref oa] (jn hC (oM G oa u)) (wP G xa oa (fPower (xs (6 * k + 1)) (xs (6 * k + 2))) ((s_ar S 9 (xs (6 * k + 1)).toNatClampNeg).toInt64) (iff0 (fPower (xs (6 * k + 1)) (xs (6 * k + 2))) (powerP (xs (6 * k + 1)) (xs (6 * k + 2)) S) S)) (fun _ => False) (s_n (iff0 (fPower (xs (6 * k + 1)) (xs (6 * k + 2))) (powerP (xs (6 * k + 1)) (xs (6 * k + 2)) S) S) - s_n S + 4) (3 * (s_n (iff0 (fPower (xs (6 * k + 1)) (xs (6 * k + 2))) (powerP (xs (6 * k + 1)) (xs (6 * k + 2)) S) S) - s_n S) + 57) := fun A => c_L_power (reG G A) hb dC hI hk9 (xs (6 * k + 1)) (xs (6 * k + 2))
  refine z_callW (st := []) (a := CC k S) (b := SS k S) hE hT 4 hcw dM gL_law_L_power rfl rfl rfl (by decide +kernel) ⟨(Nat.le_of_ble_eq_true rfl), (Nat.le_of_ble_eq_true rfl)⟩ rfl rfl dL_law_365 rfl (Nat.le_of_ble_eq_true rfl) ⟨by show CC k S + (s_n (iff0 (fPower (xs (6 * k + 1)) (xs (6 * k + 2))) (powerP (xs (6 * k + 1)) (xs (6 * k + 2)) S) S) - s_n S + 4) ≤ 601024; unfold CC; omega, by show SS k S + (3 * (s_n (iff0 (fPower (xs (6 * k + 1)) (xs (6 * k + 2))) (powerP (xs (6 * k + 1)) (xs (6 * k + 2)) S) S) - s_n S) + 57) ≤ 7293034; unfold SS; omega⟩ (fun v h9 hp d9 => ?_)
  obtain ⟨rfl, hC9, u9, rfl, dC9, hb9, hu9⟩ := hp
  refine x_istore (L' := [some (.ref b), some (.ref xa), some (.ref (ma 30)), some (.ref oa), some (.int (nI (6 * k))), some (.int (nI (fPower (xs (6 * k + 1)) (xs (6 * k + 2))))), none]) hE dL_law_368 (Nat.le_of_ble_eq_true rfl) rfl ?_
  refine x_aload_n hE dL_law_370 rfl rfl ?_
  refine x_aload_n hE dL_law_371 rfl rfl ?_
  refine x_iload hE dL_law_372 rfl ?_
  refine x_iconst (v := nI 1) hE dL_law_374 (by decide) ?_
  refine x_iadd hE dL_law_375 ?_
  refine x_ieq (y := nI (6 * k + 1)) (nI_add _ _) ?_
  refine x_sld hE hX hbl hbA (j := (6 * k + 1)) (by omega) (by omega) dL_law_376 ?_
  refine x_aload_n hE dL_law_377 rfl rfl ?_
  refine x_iload hE dL_law_378 rfl ?_
  refine x_iconst (v := nI 2) hE dL_law_380 (by decide) ?_
  refine x_iadd hE dL_law_381 ?_
  refine x_ieq (y := nI (6 * k + 2)) (nI_add _ _) ?_
  refine x_sld hE hX hbl hbA (j := (6 * k + 2)) (by omega) (by omega) dL_law_382 ?_
  refine x_heq (jn_comm d9) ?_
  have hcx : ∀ A : Nat → Prop, x_M (reG G A) yX8_power wsX8_power ({ frames := 2, cells := 0, slots := 0, locals := 42 } : Room) [.ref (ma 30), .int (xs (6 * k + 1)), .int (xs (6 * k + 2))] hM (mP G ma ow (fPower (xs (6 * k + 1)) (xs (6 * k + 2))) (s_ar S 9 (xs (6 * k + 1)).toNatClampNeg) (iff0 (fPower (xs (6 * k + 1)) (xs (6 * k + 2))) (powerP (xs (6 * k + 1)) (xs (6 * k + 2)) S) S) (gn)) 0 0 := fun A => c_X8_power (reG G A) hMM hMS hI.1.mI (xs (6 * k + 1)) (xs (6 * k + 2))
  refine z_callV (ci := 8) (st := []) hE 2 hcx d9.symm gL_law_X8_power rfl rfl rfl (by decide +kernel) ⟨(Nat.le_of_ble_eq_true rfl), (Nat.le_of_ble_eq_true rfl)⟩ hMM.o rfl rfl rfl dL_law_383 rfl (Nat.le_of_ble_eq_true rfl) ⟨by show CC k S + (s_n (iff0 (fPower (xs (6 * k + 1)) (xs (6 * k + 2))) (powerP (xs (6 * k + 1)) (xs (6 * k + 2)) S) S) - s_n S + 4) + 0 ≤ 601024; unfold CC; omega, by show SS k S + (3 * (s_n (iff0 (fPower (xs (6 * k + 1)) (xs (6 * k + 2))) (powerP (xs (6 * k + 1)) (xs (6 * k + 2)) S) S) - s_n S) + 57) + 0 ≤ 7293034; unfold SS; omega⟩ (fun v h10 hp d10 => ?_)
  obtain ⟨⟨y, rfl, hy⟩, R', sc', gn', hM', hS', e28, hg'⟩ := hp
  refine x_istore (L' := [some (.ref b), some (.ref xa), some (.ref (ma 30)), some (.ref oa), some (.int (nI (6 * k))), some (.int (nI (fPower (xs (6 * k + 1)) (xs (6 * k + 2))))), some (.int y)]) hE dL_law_386 (Nat.le_of_ble_eq_true rfl) rfl ?_
  refine x_aload_n hE dL_law_388 rfl rfl ?_
  have hct : ∀ A : Nat → Prop, x_M (reG G A) yX8_thrown wsX8_thrown ({ frames := 0, cells := 0, slots := 0, locals := 0 } : Room) [.ref (ma 30)] h10 (x_is (some (.int (sc' 28))) h10) 0 0 := fun A => c_X8_thrown (reG G A) hM'
  refine z_callV (ci := 8) (st := []) hE 0 hct d10 gL_law_X8_thrown rfl rfl rfl (by decide +kernel) ⟨(Nat.le_of_ble_eq_true rfl), (Nat.le_of_ble_eq_true rfl)⟩ hM'.o rfl rfl rfl dL_law_389 rfl (Nat.le_of_ble_eq_true rfl) ⟨by show CC k S + (s_n (iff0 (fPower (xs (6 * k + 1)) (xs (6 * k + 2))) (powerP (xs (6 * k + 1)) (xs (6 * k + 2)) S) S) - s_n S + 4) + 0 + 0 ≤ 601024; unfold CC; omega, by show SS k S + (3 * (s_n (iff0 (fPower (xs (6 * k + 1)) (xs (6 * k + 2))) (powerP (xs (6 * k + 1)) (xs (6 * k + 2)) S) S) - s_n S) + 57) + 0 + 0 ≤ 7293034; unfold SS; omega⟩ (fun v h11 hp d11 => ?_)
  obtain ⟨rfl, rfl⟩ := hp
  refine x_ieq (y := nI (fPower (xs (6 * k + 1)) (xs (6 * k + 2)))) (e28) ?_
  refine x_iload hE dL_law_392 rfl ?_
  refine x_icmp_eq (tgt := 399) hE dL_law_394 (by decide) (fun c394 => ?_) (fun c394 => ?_)
  · refine x_iload hE dL_law_399 rfl ?_
    refine x_if_ne (tgt := 416) hE dL_law_401 (by decide) (fun c401 => ?_) (fun c401 => ?_)
    · refine x_goto (tgt := 1275) hE dL_law_416 (by decide) ?_
      refine x_heq (jn_comm d10) ?_
      refine x_widen (k := CC (k + 1) (iff0 (fPower (xs (6 * k + 1)) (xs (6 * k + 2))) (powerP (xs (6 * k + 1)) (xs (6 * k + 2)) S) S)) (n := SS (k + 1) (iff0 (fPower (xs (6 * k + 1)) (xs (6 * k + 2))) (powerP (xs (6 * k + 1)) (xs (6 * k + 2)) S) S)) (by unfold CC; omega) (by unfold SS; omega) ?_
      refine x_forget (L' := [some (.ref b), some (.ref xa), some (.ref (ma 30)), some (.ref oa), some (.int (nI (6 * k))), none, none]) (And.intro rfl (And.intro rfl (And.intro rfl (And.intro rfl (And.intro rfl trivial))))) ?_
      exact kk (iff0 (fPower (xs (6 * k + 1)) (xs (6 * k + 2))) (powerP (xs (6 * k + 1)) (xs (6 * k + 2)) S) S) _ ⟨hC9, h10, u9, ma, ow, sc', R', gn', rfl, dC9, d10.symm, hb9, rfl, hM', hS', hI9, by omega⟩
    · have hf : fPower (xs (6 * k + 1)) (xs (6 * k + 2)) = 0 := nI_f0 hfle c401
      have hy1 := hy hf
      have hw1 := hu9 hf
      refine x_aload_n hE dL_law_404 rfl rfl ?_
      refine x_iconst (v := nI 0) hE dL_law_405 (by decide) ?_
      refine x_lald (v := (s_ar S 9 (xs (6 * k + 1)).toNatClampNeg).toInt64) hE (jn_r d10 (jn_r dC9 oM_at)) zin0 (by rw [zcl0]; exact hw1) dL_law_406 ?_
      refine x_iload hE dL_law_407 rfl ?_
      refine x_i2l hE dL_law_409 ?_
      refine x_lcmp hE dL_law_410 ?_
      refine x_ieq (y := nI 0) (by rw [hy1]; exact lg_self _) ?_
      refine x_if_eq (tgt := 416) hE dL_law_411 (by decide) (fun c411 => ?_) (fun c411 => ?_)
      · refine x_goto (tgt := 1275) hE dL_law_416 (by decide) ?_
        refine x_heq (jn_comm d10) ?_
        refine x_widen (k := CC (k + 1) (iff0 (fPower (xs (6 * k + 1)) (xs (6 * k + 2))) (powerP (xs (6 * k + 1)) (xs (6 * k + 2)) S) S)) (n := SS (k + 1) (iff0 (fPower (xs (6 * k + 1)) (xs (6 * k + 2))) (powerP (xs (6 * k + 1)) (xs (6 * k + 2)) S) S)) (by unfold CC; omega) (by unfold SS; omega) ?_
        refine x_forget (L' := [some (.ref b), some (.ref xa), some (.ref (ma 30)), some (.ref oa), some (.int (nI (6 * k))), none, none]) (And.intro rfl (And.intro rfl (And.intro rfl (And.intro rfl (And.intro rfl trivial))))) ?_
        exact kk (iff0 (fPower (xs (6 * k + 1)) (xs (6 * k + 2))) (powerP (xs (6 * k + 1)) (xs (6 * k + 2)) S) S) _ ⟨hC9, h10, u9, ma, ow, sc', R', gn', rfl, dC9, d10.symm, hb9, rfl, hM', hS', hI9, by omega⟩
      · exact absurd rfl c411
  · exact absurd rfl c394
set_option maxHeartbeats 4000000 in
set_option maxRecDepth 100000 in
theorem case_cue (G : XG) {F : XF} {b L : Nat} {xs : Nat → Int32} (hl : lwE G F b L xs) {Q : State → Prop} {k : Nat} (hk : 6 * k + 6 ≤ L) {xa m oa : Nat} {S : PS} {h : HM} (hI0 : lI G xa m oa k S h) (kk : ∀ (S1 : PS) (h1 : HM), lI G xa m oa (k + 1) S1 h1 → x_W G F Q (CC (k + 1) S1) (SS (k + 1) S1) h1 1275 [some (.ref b), some (.ref xa), some (.ref m), some (.ref oa), some (.int (nI (6 * k))), none, none] []) : x_W G F Q (CC k S) (SS k S) h 419 [some (.ref b), some (.ref xa), some (.ref m), some (.ref oa), some (.int (nI (6 * k))), none, none] [] := by
  obtain ⟨hE, hT, hX, hbl, hbA, hL⟩ := id hl
  obtain ⟨hC, hM, u, ma, ow, sc, R, gn, rfl, dC, dM, hb, rfl, hMM, hMS, hI, hgn⟩ := hI0
  have hk9 : k ≤ 511 := by omega
  have hcap := hI.cap
  have hI9 : iI (iff0 (fCue S (xs (6 * k + 1)) (xs (6 * k + 2)) (xs (6 * k + 3))) (cueP (xs (6 * k + 1)) (xs (6 * k + 2)) (xs (6 * k + 3)) S) S) (k + 1) := iI_iff hI (fun hf => iI_cue hI hf)
  have hcap9 := hI9.cap
  have hmono : s_n S ≤ s_n (iff0 (fCue S (xs (6 * k + 1)) (xs (6 * k + 2)) (xs (6 * k + 3))) (cueP (xs (6 * k + 1)) (xs (6 * k + 2)) (xs (6 * k + 3)) S) S) := iff0_n' rfl
  have hfle : fCue S (xs (6 * k + 1)) (xs (6 * k + 2)) (xs (6 * k + 3)) ≤ 2 := fCue_le
  refine x_aload_n hE dL_law_419 rfl rfl ?_
  refine x_aload_n hE dL_law_420 rfl rfl ?_
  refine x_iload hE dL_law_421 rfl ?_
  refine x_iconst (v := nI 1) hE dL_law_423 (by decide) ?_
  refine x_iadd hE dL_law_424 ?_
  refine x_ieq (y := nI (6 * k + 1)) (nI_add _ _) ?_
  refine x_sld hE hX hbl hbA (j := (6 * k + 1)) (by omega) (by omega) dL_law_425 ?_
  refine x_aload_n hE dL_law_426 rfl rfl ?_
  refine x_iload hE dL_law_427 rfl ?_
  refine x_iconst (v := nI 2) hE dL_law_429 (by decide) ?_
  refine x_iadd hE dL_law_430 ?_
  refine x_ieq (y := nI (6 * k + 2)) (nI_add _ _) ?_
  refine x_sld hE hX hbl hbA (j := (6 * k + 2)) (by omega) (by omega) dL_law_431 ?_
  refine x_aload_n hE dL_law_432 rfl rfl ?_
  refine x_iload hE dL_law_433 rfl ?_
  refine x_iconst (v := nI 3) hE dL_law_435 (by decide) ?_
  refine x_iadd hE dL_law_436 ?_
  refine x_ieq (y := nI (6 * k + 3)) (nI_add _ _) ?_
  refine x_sld hE hX hbl hbA (j := (6 * k + 3)) (by omega) (by omega) dL_law_437 ?_
  refine x_aload_n hE dL_law_438 rfl rfl ?_
  have hcw : ∀ A : Nat → Prop, y_M (reG G A) yL_cue wsL_cue ({ frames := 7, cells := s_n (iff0 (fCue S (xs (6 * k + 1)) (xs (6 * k + 2)) (xs (6 * k + 3))) (cueP (xs (6 * k + 1)) (xs (6 * k + 2)) (xs (6 * k + 3)) S) S) - s_n S + 4, slots := 3 * (s_n (iff0 (fCue S (xs (6 * k + 1)) (xs (6 * k + 2)) (xs (6 * k + 3))) (cueP (xs (6 * k + 1)) (xs (6 * k + 2)) (xs (6 * k + 3)) S) S) - s_n S) + 57, locals := 114 } : Room) [.ref xa, .int (xs (6 * k + 1)), .int (xs (6 * k + 2)), .int (xs (6 * k + 3)), .ref oa] (jn hC (oM G oa u)) (wP G xa oa (fCue S (xs (6 * k + 1)) (xs (6 * k + 2)) (xs (6 * k + 3))) ((nI (s_C S)).toInt64) (iff0 (fCue S (xs (6 * k + 1)) (xs (6 * k + 2)) (xs (6 * k + 3))) (cueP (xs (6 * k + 1)) (xs (6 * k + 2)) (xs (6 * k + 3)) S) S)) (fun _ => False) (s_n (iff0 (fCue S (xs (6 * k + 1)) (xs (6 * k + 2)) (xs (6 * k + 3))) (cueP (xs (6 * k + 1)) (xs (6 * k + 2)) (xs (6 * k + 3)) S) S) - s_n S + 4) (3 * (s_n (iff0 (fCue S (xs (6 * k + 1)) (xs (6 * k + 2)) (xs (6 * k + 3))) (cueP (xs (6 * k + 1)) (xs (6 * k + 2)) (xs (6 * k + 3)) S) S) - s_n S) + 57) := fun A => c_L_cue (reG G A) hb dC hI hk9 (xs (6 * k + 1)) (xs (6 * k + 2)) (xs (6 * k + 3))
  refine z_callW (st := []) (a := CC k S) (b := SS k S) hE hT 5 hcw dM gL_law_L_cue rfl rfl rfl (by decide +kernel) ⟨(Nat.le_of_ble_eq_true rfl), (Nat.le_of_ble_eq_true rfl)⟩ rfl rfl dL_law_439 rfl (Nat.le_of_ble_eq_true rfl) ⟨by show CC k S + (s_n (iff0 (fCue S (xs (6 * k + 1)) (xs (6 * k + 2)) (xs (6 * k + 3))) (cueP (xs (6 * k + 1)) (xs (6 * k + 2)) (xs (6 * k + 3)) S) S) - s_n S + 4) ≤ 601024; unfold CC; omega, by show SS k S + (3 * (s_n (iff0 (fCue S (xs (6 * k + 1)) (xs (6 * k + 2)) (xs (6 * k + 3))) (cueP (xs (6 * k + 1)) (xs (6 * k + 2)) (xs (6 * k + 3)) S) S) - s_n S) + 57) ≤ 7293034; unfold SS; omega⟩ (fun v h9 hp d9 => ?_)
  obtain ⟨rfl, hC9, u9, rfl, dC9, hb9, hu9⟩ := hp
  refine x_istore (L' := [some (.ref b), some (.ref xa), some (.ref (ma 30)), some (.ref oa), some (.int (nI (6 * k))), some (.int (nI (fCue S (xs (6 * k + 1)) (xs (6 * k + 2)) (xs (6 * k + 3))))), none]) hE dL_law_442 (Nat.le_of_ble_eq_true rfl) rfl ?_
  refine x_aload_n hE dL_law_444 rfl rfl ?_
  refine x_aload_n hE dL_law_445 rfl rfl ?_
  refine x_iload hE dL_law_446 rfl ?_
  refine x_iconst (v := nI 1) hE dL_law_448 (by decide) ?_
  refine x_iadd hE dL_law_449 ?_
  refine x_ieq (y := nI (6 * k + 1)) (nI_add _ _) ?_
  refine x_sld hE hX hbl hbA (j := (6 * k + 1)) (by omega) (by omega) dL_law_450 ?_
  refine x_aload_n hE dL_law_451 rfl rfl ?_
  refine x_iload hE dL_law_452 rfl ?_
  refine x_iconst (v := nI 2) hE dL_law_454 (by decide) ?_
  refine x_iadd hE dL_law_455 ?_
  refine x_ieq (y := nI (6 * k + 2)) (nI_add _ _) ?_
  refine x_sld hE hX hbl hbA (j := (6 * k + 2)) (by omega) (by omega) dL_law_456 ?_
  refine x_aload_n hE dL_law_457 rfl rfl ?_
  refine x_iload hE dL_law_458 rfl ?_
  refine x_iconst (v := nI 3) hE dL_law_460 (by decide) ?_
  refine x_iadd hE dL_law_461 ?_
  refine x_ieq (y := nI (6 * k + 3)) (nI_add _ _) ?_
  refine x_sld hE hX hbl hbA (j := (6 * k + 3)) (by omega) (by omega) dL_law_462 ?_
  refine x_heq (jn_comm d9) ?_
  have hcx : ∀ A : Nat → Prop, x_M (reG G A) yX8_cue wsX8_cue ({ frames := 1, cells := 0, slots := 0, locals := 22 } : Room) [.ref (ma 30), .int (xs (6 * k + 1)), .int (xs (6 * k + 2)), .int (xs (6 * k + 3))] hM (mP G ma ow (fCue S (xs (6 * k + 1)) (xs (6 * k + 2)) (xs (6 * k + 3))) (nI (s_C S)) (iff0 (fCue S (xs (6 * k + 1)) (xs (6 * k + 2)) (xs (6 * k + 3))) (cueP (xs (6 * k + 1)) (xs (6 * k + 2)) (xs (6 * k + 3)) S) S) (gn)) 0 0 := fun A => c_X8_cue (reG G A) hMM hMS hI.1.mI (xs (6 * k + 1)) (xs (6 * k + 2)) (xs (6 * k + 3))
  refine z_callV (ci := 8) (st := []) hE 3 hcx d9.symm gL_law_X8_cue rfl rfl rfl (by decide +kernel) ⟨(Nat.le_of_ble_eq_true rfl), (Nat.le_of_ble_eq_true rfl)⟩ hMM.o rfl rfl rfl dL_law_463 rfl (Nat.le_of_ble_eq_true rfl) ⟨by show CC k S + (s_n (iff0 (fCue S (xs (6 * k + 1)) (xs (6 * k + 2)) (xs (6 * k + 3))) (cueP (xs (6 * k + 1)) (xs (6 * k + 2)) (xs (6 * k + 3)) S) S) - s_n S + 4) + 0 ≤ 601024; unfold CC; omega, by show SS k S + (3 * (s_n (iff0 (fCue S (xs (6 * k + 1)) (xs (6 * k + 2)) (xs (6 * k + 3))) (cueP (xs (6 * k + 1)) (xs (6 * k + 2)) (xs (6 * k + 3)) S) S) - s_n S) + 57) + 0 ≤ 7293034; unfold SS; omega⟩ (fun v h10 hp d10 => ?_)
  obtain ⟨⟨y, rfl, hy⟩, R', sc', gn', hM', hS', e28, hg'⟩ := hp
  refine x_istore (L' := [some (.ref b), some (.ref xa), some (.ref (ma 30)), some (.ref oa), some (.int (nI (6 * k))), some (.int (nI (fCue S (xs (6 * k + 1)) (xs (6 * k + 2)) (xs (6 * k + 3))))), some (.int y)]) hE dL_law_466 (Nat.le_of_ble_eq_true rfl) rfl ?_
  refine x_aload_n hE dL_law_468 rfl rfl ?_
  have hct : ∀ A : Nat → Prop, x_M (reG G A) yX8_thrown wsX8_thrown ({ frames := 0, cells := 0, slots := 0, locals := 0 } : Room) [.ref (ma 30)] h10 (x_is (some (.int (sc' 28))) h10) 0 0 := fun A => c_X8_thrown (reG G A) hM'
  refine z_callV (ci := 8) (st := []) hE 0 hct d10 gL_law_X8_thrown rfl rfl rfl (by decide +kernel) ⟨(Nat.le_of_ble_eq_true rfl), (Nat.le_of_ble_eq_true rfl)⟩ hM'.o rfl rfl rfl dL_law_469 rfl (Nat.le_of_ble_eq_true rfl) ⟨by show CC k S + (s_n (iff0 (fCue S (xs (6 * k + 1)) (xs (6 * k + 2)) (xs (6 * k + 3))) (cueP (xs (6 * k + 1)) (xs (6 * k + 2)) (xs (6 * k + 3)) S) S) - s_n S + 4) + 0 + 0 ≤ 601024; unfold CC; omega, by show SS k S + (3 * (s_n (iff0 (fCue S (xs (6 * k + 1)) (xs (6 * k + 2)) (xs (6 * k + 3))) (cueP (xs (6 * k + 1)) (xs (6 * k + 2)) (xs (6 * k + 3)) S) S) - s_n S) + 57) + 0 + 0 ≤ 7293034; unfold SS; omega⟩ (fun v h11 hp d11 => ?_)
  obtain ⟨rfl, rfl⟩ := hp
  refine x_ieq (y := nI (fCue S (xs (6 * k + 1)) (xs (6 * k + 2)) (xs (6 * k + 3)))) (e28) ?_
  refine x_iload hE dL_law_472 rfl ?_
  refine x_icmp_eq (tgt := 479) hE dL_law_474 (by decide) (fun c474 => ?_) (fun c474 => ?_)
  · refine x_iload hE dL_law_479 rfl ?_
    refine x_if_ne (tgt := 496) hE dL_law_481 (by decide) (fun c481 => ?_) (fun c481 => ?_)
    · refine x_goto (tgt := 1275) hE dL_law_496 (by decide) ?_
      refine x_heq (jn_comm d10) ?_
      refine x_widen (k := CC (k + 1) (iff0 (fCue S (xs (6 * k + 1)) (xs (6 * k + 2)) (xs (6 * k + 3))) (cueP (xs (6 * k + 1)) (xs (6 * k + 2)) (xs (6 * k + 3)) S) S)) (n := SS (k + 1) (iff0 (fCue S (xs (6 * k + 1)) (xs (6 * k + 2)) (xs (6 * k + 3))) (cueP (xs (6 * k + 1)) (xs (6 * k + 2)) (xs (6 * k + 3)) S) S)) (by unfold CC; omega) (by unfold SS; omega) ?_
      refine x_forget (L' := [some (.ref b), some (.ref xa), some (.ref (ma 30)), some (.ref oa), some (.int (nI (6 * k))), none, none]) (And.intro rfl (And.intro rfl (And.intro rfl (And.intro rfl (And.intro rfl trivial))))) ?_
      exact kk (iff0 (fCue S (xs (6 * k + 1)) (xs (6 * k + 2)) (xs (6 * k + 3))) (cueP (xs (6 * k + 1)) (xs (6 * k + 2)) (xs (6 * k + 3)) S) S) _ ⟨hC9, h10, u9, ma, ow, sc', R', gn', rfl, dC9, d10.symm, hb9, rfl, hM', hS', hI9, by omega⟩
    · have hf : fCue S (xs (6 * k + 1)) (xs (6 * k + 2)) (xs (6 * k + 3)) = 0 := nI_f0 hfle c481
      have hy1 := hy hf
      have hw1 := hu9 hf
      refine x_aload_n hE dL_law_484 rfl rfl ?_
      refine x_iconst (v := nI 0) hE dL_law_485 (by decide) ?_
      refine x_lald (v := (nI (s_C S)).toInt64) hE (jn_r d10 (jn_r dC9 oM_at)) zin0 (by rw [zcl0]; exact hw1) dL_law_486 ?_
      refine x_iload hE dL_law_487 rfl ?_
      refine x_i2l hE dL_law_489 ?_
      refine x_lcmp hE dL_law_490 ?_
      refine x_ieq (y := nI 0) (by rw [hy1]; exact lg_self _) ?_
      refine x_if_eq (tgt := 496) hE dL_law_491 (by decide) (fun c491 => ?_) (fun c491 => ?_)
      · refine x_goto (tgt := 1275) hE dL_law_496 (by decide) ?_
        refine x_heq (jn_comm d10) ?_
        refine x_widen (k := CC (k + 1) (iff0 (fCue S (xs (6 * k + 1)) (xs (6 * k + 2)) (xs (6 * k + 3))) (cueP (xs (6 * k + 1)) (xs (6 * k + 2)) (xs (6 * k + 3)) S) S)) (n := SS (k + 1) (iff0 (fCue S (xs (6 * k + 1)) (xs (6 * k + 2)) (xs (6 * k + 3))) (cueP (xs (6 * k + 1)) (xs (6 * k + 2)) (xs (6 * k + 3)) S) S)) (by unfold CC; omega) (by unfold SS; omega) ?_
        refine x_forget (L' := [some (.ref b), some (.ref xa), some (.ref (ma 30)), some (.ref oa), some (.int (nI (6 * k))), none, none]) (And.intro rfl (And.intro rfl (And.intro rfl (And.intro rfl (And.intro rfl trivial))))) ?_
        exact kk (iff0 (fCue S (xs (6 * k + 1)) (xs (6 * k + 2)) (xs (6 * k + 3))) (cueP (xs (6 * k + 1)) (xs (6 * k + 2)) (xs (6 * k + 3)) S) S) _ ⟨hC9, h10, u9, ma, ow, sc', R', gn', rfl, dC9, d10.symm, hb9, rfl, hM', hS', hI9, by omega⟩
      · exact absurd rfl c491
  · exact absurd rfl c474
set_option maxHeartbeats 4000000 in
set_option maxRecDepth 100000 in
theorem case_level (G : XG) {F : XF} {b L : Nat} {xs : Nat → Int32} (hl : lwE G F b L xs) {Q : State → Prop} {k : Nat} (hk : 6 * k + 6 ≤ L) {xa m oa : Nat} {S : PS} {h : HM} (hI0 : lI G xa m oa k S h) (kk : ∀ (S1 : PS) (h1 : HM), lI G xa m oa (k + 1) S1 h1 → x_W G F Q (CC (k + 1) S1) (SS (k + 1) S1) h1 1275 [some (.ref b), some (.ref xa), some (.ref m), some (.ref oa), some (.int (nI (6 * k))), none, none] []) : x_W G F Q (CC k S) (SS k S) h 499 [some (.ref b), some (.ref xa), some (.ref m), some (.ref oa), some (.int (nI (6 * k))), none, none] [] := by
  obtain ⟨hE, hT, hX, hbl, hbA, hL⟩ := id hl
  obtain ⟨hC, hM, u, ma, ow, sc, R, gn, rfl, dC, dM, hb, rfl, hMM, hMS, hI, hgn⟩ := hI0
  have hk9 : k ≤ 511 := by omega
  have hcap := hI.cap
  have hI9 : iI (iff0 (fLevel S (xs (6 * k + 1)) (xs (6 * k + 2)) (xs (6 * k + 3))) (levelP (xs (6 * k + 1)).toNatClampNeg (xs (6 * k + 2)).toNatClampNeg (xs (6 * k + 3)) S) S) (k + 1) := iI_iff hI (fun hf => iI_level hI hf)
  have hcap9 := hI9.cap
  have hmono : s_n S ≤ s_n (iff0 (fLevel S (xs (6 * k + 1)) (xs (6 * k + 2)) (xs (6 * k + 3))) (levelP (xs (6 * k + 1)).toNatClampNeg (xs (6 * k + 2)).toNatClampNeg (xs (6 * k + 3)) S) S) := iff0_n' rfl
  have hfle : fLevel S (xs (6 * k + 1)) (xs (6 * k + 2)) (xs (6 * k + 3)) ≤ 2 := fLevel_le
  refine x_aload_n hE dL_law_499 rfl rfl ?_
  refine x_aload_n hE dL_law_500 rfl rfl ?_
  refine x_iload hE dL_law_501 rfl ?_
  refine x_iconst (v := nI 1) hE dL_law_503 (by decide) ?_
  refine x_iadd hE dL_law_504 ?_
  refine x_ieq (y := nI (6 * k + 1)) (nI_add _ _) ?_
  refine x_sld hE hX hbl hbA (j := (6 * k + 1)) (by omega) (by omega) dL_law_505 ?_
  refine x_aload_n hE dL_law_506 rfl rfl ?_
  refine x_iload hE dL_law_507 rfl ?_
  refine x_iconst (v := nI 2) hE dL_law_509 (by decide) ?_
  refine x_iadd hE dL_law_510 ?_
  refine x_ieq (y := nI (6 * k + 2)) (nI_add _ _) ?_
  refine x_sld hE hX hbl hbA (j := (6 * k + 2)) (by omega) (by omega) dL_law_511 ?_
  refine x_aload_n hE dL_law_512 rfl rfl ?_
  refine x_iload hE dL_law_513 rfl ?_
  refine x_iconst (v := nI 3) hE dL_law_515 (by decide) ?_
  refine x_iadd hE dL_law_516 ?_
  refine x_ieq (y := nI (6 * k + 3)) (nI_add _ _) ?_
  refine x_sld hE hX hbl hbA (j := (6 * k + 3)) (by omega) (by omega) dL_law_517 ?_
  refine x_aload_n hE dL_law_518 rfl rfl ?_
  have hcw : ∀ A : Nat → Prop, y_M (reG G A) yL_level wsL_level ({ frames := 7, cells := s_n (iff0 (fLevel S (xs (6 * k + 1)) (xs (6 * k + 2)) (xs (6 * k + 3))) (levelP (xs (6 * k + 1)).toNatClampNeg (xs (6 * k + 2)).toNatClampNeg (xs (6 * k + 3)) S) S) - s_n S + 4, slots := 3 * (s_n (iff0 (fLevel S (xs (6 * k + 1)) (xs (6 * k + 2)) (xs (6 * k + 3))) (levelP (xs (6 * k + 1)).toNatClampNeg (xs (6 * k + 2)).toNatClampNeg (xs (6 * k + 3)) S) S) - s_n S) + 57, locals := 118 } : Room) [.ref xa, .int (xs (6 * k + 1)), .int (xs (6 * k + 2)), .int (xs (6 * k + 3)), .ref oa] (jn hC (oM G oa u)) (wP G xa oa (fLevel S (xs (6 * k + 1)) (xs (6 * k + 2)) (xs (6 * k + 3))) ((s_ar S 14 (16 * (xs (6 * k + 1)).toNatClampNeg + (xs (6 * k + 2)).toNatClampNeg)).toInt64) (iff0 (fLevel S (xs (6 * k + 1)) (xs (6 * k + 2)) (xs (6 * k + 3))) (levelP (xs (6 * k + 1)).toNatClampNeg (xs (6 * k + 2)).toNatClampNeg (xs (6 * k + 3)) S) S)) (fun _ => False) (s_n (iff0 (fLevel S (xs (6 * k + 1)) (xs (6 * k + 2)) (xs (6 * k + 3))) (levelP (xs (6 * k + 1)).toNatClampNeg (xs (6 * k + 2)).toNatClampNeg (xs (6 * k + 3)) S) S) - s_n S + 4) (3 * (s_n (iff0 (fLevel S (xs (6 * k + 1)) (xs (6 * k + 2)) (xs (6 * k + 3))) (levelP (xs (6 * k + 1)).toNatClampNeg (xs (6 * k + 2)).toNatClampNeg (xs (6 * k + 3)) S) S) - s_n S) + 57) := fun A => c_L_level (reG G A) hb dC hI hk9 (xs (6 * k + 1)) (xs (6 * k + 2)) (xs (6 * k + 3))
  refine z_callW (st := []) (a := CC k S) (b := SS k S) hE hT 5 hcw dM gL_law_L_level rfl rfl rfl (by decide +kernel) ⟨(Nat.le_of_ble_eq_true rfl), (Nat.le_of_ble_eq_true rfl)⟩ rfl rfl dL_law_519 rfl (Nat.le_of_ble_eq_true rfl) ⟨by show CC k S + (s_n (iff0 (fLevel S (xs (6 * k + 1)) (xs (6 * k + 2)) (xs (6 * k + 3))) (levelP (xs (6 * k + 1)).toNatClampNeg (xs (6 * k + 2)).toNatClampNeg (xs (6 * k + 3)) S) S) - s_n S + 4) ≤ 601024; unfold CC; omega, by show SS k S + (3 * (s_n (iff0 (fLevel S (xs (6 * k + 1)) (xs (6 * k + 2)) (xs (6 * k + 3))) (levelP (xs (6 * k + 1)).toNatClampNeg (xs (6 * k + 2)).toNatClampNeg (xs (6 * k + 3)) S) S) - s_n S) + 57) ≤ 7293034; unfold SS; omega⟩ (fun v h9 hp d9 => ?_)
  obtain ⟨rfl, hC9, u9, rfl, dC9, hb9, hu9⟩ := hp
  refine x_istore (L' := [some (.ref b), some (.ref xa), some (.ref (ma 30)), some (.ref oa), some (.int (nI (6 * k))), some (.int (nI (fLevel S (xs (6 * k + 1)) (xs (6 * k + 2)) (xs (6 * k + 3))))), none]) hE dL_law_522 (Nat.le_of_ble_eq_true rfl) rfl ?_
  refine x_aload_n hE dL_law_524 rfl rfl ?_
  refine x_aload_n hE dL_law_525 rfl rfl ?_
  refine x_iload hE dL_law_526 rfl ?_
  refine x_iconst (v := nI 1) hE dL_law_528 (by decide) ?_
  refine x_iadd hE dL_law_529 ?_
  refine x_ieq (y := nI (6 * k + 1)) (nI_add _ _) ?_
  refine x_sld hE hX hbl hbA (j := (6 * k + 1)) (by omega) (by omega) dL_law_530 ?_
  refine x_aload_n hE dL_law_531 rfl rfl ?_
  refine x_iload hE dL_law_532 rfl ?_
  refine x_iconst (v := nI 2) hE dL_law_534 (by decide) ?_
  refine x_iadd hE dL_law_535 ?_
  refine x_ieq (y := nI (6 * k + 2)) (nI_add _ _) ?_
  refine x_sld hE hX hbl hbA (j := (6 * k + 2)) (by omega) (by omega) dL_law_536 ?_
  refine x_aload_n hE dL_law_537 rfl rfl ?_
  refine x_iload hE dL_law_538 rfl ?_
  refine x_iconst (v := nI 3) hE dL_law_540 (by decide) ?_
  refine x_iadd hE dL_law_541 ?_
  refine x_ieq (y := nI (6 * k + 3)) (nI_add _ _) ?_
  refine x_sld hE hX hbl hbA (j := (6 * k + 3)) (by omega) (by omega) dL_law_542 ?_
  refine x_heq (jn_comm d9) ?_
  have hcx : ∀ A : Nat → Prop, x_M (reG G A) yX8_level wsX8_level ({ frames := 2, cells := 0, slots := 0, locals := 43 } : Room) [.ref (ma 30), .int (xs (6 * k + 1)), .int (xs (6 * k + 2)), .int (xs (6 * k + 3))] hM (mP G ma ow (fLevel S (xs (6 * k + 1)) (xs (6 * k + 2)) (xs (6 * k + 3))) (s_ar S 14 (16 * (xs (6 * k + 1)).toNatClampNeg + (xs (6 * k + 2)).toNatClampNeg)) (iff0 (fLevel S (xs (6 * k + 1)) (xs (6 * k + 2)) (xs (6 * k + 3))) (levelP (xs (6 * k + 1)).toNatClampNeg (xs (6 * k + 2)).toNatClampNeg (xs (6 * k + 3)) S) S) (gn)) 0 0 := fun A => c_X8_level (reG G A) hMM hMS hI.1.mI (xs (6 * k + 1)) (xs (6 * k + 2)) (xs (6 * k + 3))
  refine z_callV (ci := 8) (st := []) hE 3 hcx d9.symm gL_law_X8_level rfl rfl rfl (by decide +kernel) ⟨(Nat.le_of_ble_eq_true rfl), (Nat.le_of_ble_eq_true rfl)⟩ hMM.o rfl rfl rfl dL_law_543 rfl (Nat.le_of_ble_eq_true rfl) ⟨by show CC k S + (s_n (iff0 (fLevel S (xs (6 * k + 1)) (xs (6 * k + 2)) (xs (6 * k + 3))) (levelP (xs (6 * k + 1)).toNatClampNeg (xs (6 * k + 2)).toNatClampNeg (xs (6 * k + 3)) S) S) - s_n S + 4) + 0 ≤ 601024; unfold CC; omega, by show SS k S + (3 * (s_n (iff0 (fLevel S (xs (6 * k + 1)) (xs (6 * k + 2)) (xs (6 * k + 3))) (levelP (xs (6 * k + 1)).toNatClampNeg (xs (6 * k + 2)).toNatClampNeg (xs (6 * k + 3)) S) S) - s_n S) + 57) + 0 ≤ 7293034; unfold SS; omega⟩ (fun v h10 hp d10 => ?_)
  obtain ⟨⟨y, rfl, hy⟩, R', sc', gn', hM', hS', e28, hg'⟩ := hp
  refine x_istore (L' := [some (.ref b), some (.ref xa), some (.ref (ma 30)), some (.ref oa), some (.int (nI (6 * k))), some (.int (nI (fLevel S (xs (6 * k + 1)) (xs (6 * k + 2)) (xs (6 * k + 3))))), some (.int y)]) hE dL_law_546 (Nat.le_of_ble_eq_true rfl) rfl ?_
  refine x_aload_n hE dL_law_548 rfl rfl ?_
  have hct : ∀ A : Nat → Prop, x_M (reG G A) yX8_thrown wsX8_thrown ({ frames := 0, cells := 0, slots := 0, locals := 0 } : Room) [.ref (ma 30)] h10 (x_is (some (.int (sc' 28))) h10) 0 0 := fun A => c_X8_thrown (reG G A) hM'
  refine z_callV (ci := 8) (st := []) hE 0 hct d10 gL_law_X8_thrown rfl rfl rfl (by decide +kernel) ⟨(Nat.le_of_ble_eq_true rfl), (Nat.le_of_ble_eq_true rfl)⟩ hM'.o rfl rfl rfl dL_law_549 rfl (Nat.le_of_ble_eq_true rfl) ⟨by show CC k S + (s_n (iff0 (fLevel S (xs (6 * k + 1)) (xs (6 * k + 2)) (xs (6 * k + 3))) (levelP (xs (6 * k + 1)).toNatClampNeg (xs (6 * k + 2)).toNatClampNeg (xs (6 * k + 3)) S) S) - s_n S + 4) + 0 + 0 ≤ 601024; unfold CC; omega, by show SS k S + (3 * (s_n (iff0 (fLevel S (xs (6 * k + 1)) (xs (6 * k + 2)) (xs (6 * k + 3))) (levelP (xs (6 * k + 1)).toNatClampNeg (xs (6 * k + 2)).toNatClampNeg (xs (6 * k + 3)) S) S) - s_n S) + 57) + 0 + 0 ≤ 7293034; unfold SS; omega⟩ (fun v h11 hp d11 => ?_)
  obtain ⟨rfl, rfl⟩ := hp
  refine x_ieq (y := nI (fLevel S (xs (6 * k + 1)) (xs (6 * k + 2)) (xs (6 * k + 3)))) (e28) ?_
  refine x_iload hE dL_law_552 rfl ?_
  refine x_icmp_eq (tgt := 559) hE dL_law_554 (by decide) (fun c554 => ?_) (fun c554 => ?_)
  · refine x_iload hE dL_law_559 rfl ?_
    refine x_if_ne (tgt := 576) hE dL_law_561 (by decide) (fun c561 => ?_) (fun c561 => ?_)
    · refine x_goto (tgt := 1275) hE dL_law_576 (by decide) ?_
      refine x_heq (jn_comm d10) ?_
      refine x_widen (k := CC (k + 1) (iff0 (fLevel S (xs (6 * k + 1)) (xs (6 * k + 2)) (xs (6 * k + 3))) (levelP (xs (6 * k + 1)).toNatClampNeg (xs (6 * k + 2)).toNatClampNeg (xs (6 * k + 3)) S) S)) (n := SS (k + 1) (iff0 (fLevel S (xs (6 * k + 1)) (xs (6 * k + 2)) (xs (6 * k + 3))) (levelP (xs (6 * k + 1)).toNatClampNeg (xs (6 * k + 2)).toNatClampNeg (xs (6 * k + 3)) S) S)) (by unfold CC; omega) (by unfold SS; omega) ?_
      refine x_forget (L' := [some (.ref b), some (.ref xa), some (.ref (ma 30)), some (.ref oa), some (.int (nI (6 * k))), none, none]) (And.intro rfl (And.intro rfl (And.intro rfl (And.intro rfl (And.intro rfl trivial))))) ?_
      exact kk (iff0 (fLevel S (xs (6 * k + 1)) (xs (6 * k + 2)) (xs (6 * k + 3))) (levelP (xs (6 * k + 1)).toNatClampNeg (xs (6 * k + 2)).toNatClampNeg (xs (6 * k + 3)) S) S) _ ⟨hC9, h10, u9, ma, ow, sc', R', gn', rfl, dC9, d10.symm, hb9, rfl, hM', hS', hI9, by omega⟩
    · have hf : fLevel S (xs (6 * k + 1)) (xs (6 * k + 2)) (xs (6 * k + 3)) = 0 := nI_f0 hfle c561
      have hy1 := hy hf
      have hw1 := hu9 hf
      refine x_aload_n hE dL_law_564 rfl rfl ?_
      refine x_iconst (v := nI 0) hE dL_law_565 (by decide) ?_
      refine x_lald (v := (s_ar S 14 (16 * (xs (6 * k + 1)).toNatClampNeg + (xs (6 * k + 2)).toNatClampNeg)).toInt64) hE (jn_r d10 (jn_r dC9 oM_at)) zin0 (by rw [zcl0]; exact hw1) dL_law_566 ?_
      refine x_iload hE dL_law_567 rfl ?_
      refine x_i2l hE dL_law_569 ?_
      refine x_lcmp hE dL_law_570 ?_
      refine x_ieq (y := nI 0) (by rw [hy1]; exact lg_self _) ?_
      refine x_if_eq (tgt := 576) hE dL_law_571 (by decide) (fun c571 => ?_) (fun c571 => ?_)
      · refine x_goto (tgt := 1275) hE dL_law_576 (by decide) ?_
        refine x_heq (jn_comm d10) ?_
        refine x_widen (k := CC (k + 1) (iff0 (fLevel S (xs (6 * k + 1)) (xs (6 * k + 2)) (xs (6 * k + 3))) (levelP (xs (6 * k + 1)).toNatClampNeg (xs (6 * k + 2)).toNatClampNeg (xs (6 * k + 3)) S) S)) (n := SS (k + 1) (iff0 (fLevel S (xs (6 * k + 1)) (xs (6 * k + 2)) (xs (6 * k + 3))) (levelP (xs (6 * k + 1)).toNatClampNeg (xs (6 * k + 2)).toNatClampNeg (xs (6 * k + 3)) S) S)) (by unfold CC; omega) (by unfold SS; omega) ?_
        refine x_forget (L' := [some (.ref b), some (.ref xa), some (.ref (ma 30)), some (.ref oa), some (.int (nI (6 * k))), none, none]) (And.intro rfl (And.intro rfl (And.intro rfl (And.intro rfl (And.intro rfl trivial))))) ?_
        exact kk (iff0 (fLevel S (xs (6 * k + 1)) (xs (6 * k + 2)) (xs (6 * k + 3))) (levelP (xs (6 * k + 1)).toNatClampNeg (xs (6 * k + 2)).toNatClampNeg (xs (6 * k + 3)) S) S) _ ⟨hC9, h10, u9, ma, ow, sc', R', gn', rfl, dC9, d10.symm, hb9, rfl, hM', hS', hI9, by omega⟩
      · exact absurd rfl c571
  · exact absurd rfl c554
set_option maxHeartbeats 4000000 in
set_option maxRecDepth 100000 in
theorem case_follow (G : XG) {F : XF} {b L : Nat} {xs : Nat → Int32} (hl : lwE G F b L xs) {Q : State → Prop} {k : Nat} (hk : 6 * k + 6 ≤ L) {xa m oa : Nat} {S : PS} {h : HM} (hI0 : lI G xa m oa k S h) (kk : ∀ (S1 : PS) (h1 : HM), lI G xa m oa (k + 1) S1 h1 → x_W G F Q (CC (k + 1) S1) (SS (k + 1) S1) h1 1275 [some (.ref b), some (.ref xa), some (.ref m), some (.ref oa), some (.int (nI (6 * k))), none, none] []) : x_W G F Q (CC k S) (SS k S) h 579 [some (.ref b), some (.ref xa), some (.ref m), some (.ref oa), some (.int (nI (6 * k))), none, none] [] := by
  obtain ⟨hE, hT, hX, hbl, hbA, hL⟩ := id hl
  obtain ⟨hC, hM, u, ma, ow, sc, R, gn, rfl, dC, dM, hb, rfl, hMM, hMS, hI, hgn⟩ := hI0
  have hk9 : k ≤ 511 := by omega
  have hcap := hI.cap
  have hI9 : iI (iff0 (fFollow S (xs (6 * k + 1)) (xs (6 * k + 2)) (xs (6 * k + 3))) (followP (xs (6 * k + 1)).toNatClampNeg (xs (6 * k + 2)) (xs (6 * k + 3)) S) S) (k + 1) := iI_iff hI (fun hf => iI_follow hI hf)
  have hcap9 := hI9.cap
  have hmono : s_n S ≤ s_n (iff0 (fFollow S (xs (6 * k + 1)) (xs (6 * k + 2)) (xs (6 * k + 3))) (followP (xs (6 * k + 1)).toNatClampNeg (xs (6 * k + 2)) (xs (6 * k + 3)) S) S) := iff0_n' rfl
  have hfle : fFollow S (xs (6 * k + 1)) (xs (6 * k + 2)) (xs (6 * k + 3)) ≤ 2 := fFollow_le
  refine x_aload_n hE dL_law_579 rfl rfl ?_
  refine x_aload_n hE dL_law_580 rfl rfl ?_
  refine x_iload hE dL_law_581 rfl ?_
  refine x_iconst (v := nI 1) hE dL_law_583 (by decide) ?_
  refine x_iadd hE dL_law_584 ?_
  refine x_ieq (y := nI (6 * k + 1)) (nI_add _ _) ?_
  refine x_sld hE hX hbl hbA (j := (6 * k + 1)) (by omega) (by omega) dL_law_585 ?_
  refine x_aload_n hE dL_law_586 rfl rfl ?_
  refine x_iload hE dL_law_587 rfl ?_
  refine x_iconst (v := nI 2) hE dL_law_589 (by decide) ?_
  refine x_iadd hE dL_law_590 ?_
  refine x_ieq (y := nI (6 * k + 2)) (nI_add _ _) ?_
  refine x_sld hE hX hbl hbA (j := (6 * k + 2)) (by omega) (by omega) dL_law_591 ?_
  refine x_aload_n hE dL_law_592 rfl rfl ?_
  refine x_iload hE dL_law_593 rfl ?_
  refine x_iconst (v := nI 3) hE dL_law_595 (by decide) ?_
  refine x_iadd hE dL_law_596 ?_
  refine x_ieq (y := nI (6 * k + 3)) (nI_add _ _) ?_
  refine x_sld hE hX hbl hbA (j := (6 * k + 3)) (by omega) (by omega) dL_law_597 ?_
  refine x_aload_n hE dL_law_598 rfl rfl ?_
  have hcw : ∀ A : Nat → Prop, y_M (reG G A) yL_follow wsL_follow ({ frames := 7, cells := s_n (iff0 (fFollow S (xs (6 * k + 1)) (xs (6 * k + 2)) (xs (6 * k + 3))) (followP (xs (6 * k + 1)).toNatClampNeg (xs (6 * k + 2)) (xs (6 * k + 3)) S) S) - s_n S + 4, slots := 3 * (s_n (iff0 (fFollow S (xs (6 * k + 1)) (xs (6 * k + 2)) (xs (6 * k + 3))) (followP (xs (6 * k + 1)).toNatClampNeg (xs (6 * k + 2)) (xs (6 * k + 3)) S) S) - s_n S) + 57, locals := 116 } : Room) [.ref xa, .int (xs (6 * k + 1)), .int (xs (6 * k + 2)), .int (xs (6 * k + 3)), .ref oa] (jn hC (oM G oa u)) (wP G xa oa (fFollow S (xs (6 * k + 1)) (xs (6 * k + 2)) (xs (6 * k + 3))) ((s_ar S 15 (xs (6 * k + 1)).toNatClampNeg).toInt64) (iff0 (fFollow S (xs (6 * k + 1)) (xs (6 * k + 2)) (xs (6 * k + 3))) (followP (xs (6 * k + 1)).toNatClampNeg (xs (6 * k + 2)) (xs (6 * k + 3)) S) S)) (fun _ => False) (s_n (iff0 (fFollow S (xs (6 * k + 1)) (xs (6 * k + 2)) (xs (6 * k + 3))) (followP (xs (6 * k + 1)).toNatClampNeg (xs (6 * k + 2)) (xs (6 * k + 3)) S) S) - s_n S + 4) (3 * (s_n (iff0 (fFollow S (xs (6 * k + 1)) (xs (6 * k + 2)) (xs (6 * k + 3))) (followP (xs (6 * k + 1)).toNatClampNeg (xs (6 * k + 2)) (xs (6 * k + 3)) S) S) - s_n S) + 57) := fun A => c_L_follow (reG G A) hb dC hI hk9 (xs (6 * k + 1)) (xs (6 * k + 2)) (xs (6 * k + 3))
  refine z_callW (st := []) (a := CC k S) (b := SS k S) hE hT 5 hcw dM gL_law_L_follow rfl rfl rfl (by decide +kernel) ⟨(Nat.le_of_ble_eq_true rfl), (Nat.le_of_ble_eq_true rfl)⟩ rfl rfl dL_law_599 rfl (Nat.le_of_ble_eq_true rfl) ⟨by show CC k S + (s_n (iff0 (fFollow S (xs (6 * k + 1)) (xs (6 * k + 2)) (xs (6 * k + 3))) (followP (xs (6 * k + 1)).toNatClampNeg (xs (6 * k + 2)) (xs (6 * k + 3)) S) S) - s_n S + 4) ≤ 601024; unfold CC; omega, by show SS k S + (3 * (s_n (iff0 (fFollow S (xs (6 * k + 1)) (xs (6 * k + 2)) (xs (6 * k + 3))) (followP (xs (6 * k + 1)).toNatClampNeg (xs (6 * k + 2)) (xs (6 * k + 3)) S) S) - s_n S) + 57) ≤ 7293034; unfold SS; omega⟩ (fun v h9 hp d9 => ?_)
  obtain ⟨rfl, hC9, u9, rfl, dC9, hb9, hu9⟩ := hp
  refine x_istore (L' := [some (.ref b), some (.ref xa), some (.ref (ma 30)), some (.ref oa), some (.int (nI (6 * k))), some (.int (nI (fFollow S (xs (6 * k + 1)) (xs (6 * k + 2)) (xs (6 * k + 3))))), none]) hE dL_law_602 (Nat.le_of_ble_eq_true rfl) rfl ?_
  refine x_aload_n hE dL_law_604 rfl rfl ?_
  refine x_aload_n hE dL_law_605 rfl rfl ?_
  refine x_iload hE dL_law_606 rfl ?_
  refine x_iconst (v := nI 1) hE dL_law_608 (by decide) ?_
  refine x_iadd hE dL_law_609 ?_
  refine x_ieq (y := nI (6 * k + 1)) (nI_add _ _) ?_
  refine x_sld hE hX hbl hbA (j := (6 * k + 1)) (by omega) (by omega) dL_law_610 ?_
  refine x_aload_n hE dL_law_611 rfl rfl ?_
  refine x_iload hE dL_law_612 rfl ?_
  refine x_iconst (v := nI 2) hE dL_law_614 (by decide) ?_
  refine x_iadd hE dL_law_615 ?_
  refine x_ieq (y := nI (6 * k + 2)) (nI_add _ _) ?_
  refine x_sld hE hX hbl hbA (j := (6 * k + 2)) (by omega) (by omega) dL_law_616 ?_
  refine x_aload_n hE dL_law_617 rfl rfl ?_
  refine x_iload hE dL_law_618 rfl ?_
  refine x_iconst (v := nI 3) hE dL_law_620 (by decide) ?_
  refine x_iadd hE dL_law_621 ?_
  refine x_ieq (y := nI (6 * k + 3)) (nI_add _ _) ?_
  refine x_sld hE hX hbl hbA (j := (6 * k + 3)) (by omega) (by omega) dL_law_622 ?_
  refine x_heq (jn_comm d9) ?_
  have hcx : ∀ A : Nat → Prop, x_M (reG G A) yX8_follow wsX8_follow ({ frames := 2, cells := 0, slots := 0, locals := 43 } : Room) [.ref (ma 30), .int (xs (6 * k + 1)), .int (xs (6 * k + 2)), .int (xs (6 * k + 3))] hM (mP G ma ow (fFollow S (xs (6 * k + 1)) (xs (6 * k + 2)) (xs (6 * k + 3))) (s_ar S 15 (xs (6 * k + 1)).toNatClampNeg) (iff0 (fFollow S (xs (6 * k + 1)) (xs (6 * k + 2)) (xs (6 * k + 3))) (followP (xs (6 * k + 1)).toNatClampNeg (xs (6 * k + 2)) (xs (6 * k + 3)) S) S) (gn)) 0 0 := fun A => c_X8_follow (reG G A) hMM hMS hI.1.mI (xs (6 * k + 1)) (xs (6 * k + 2)) (xs (6 * k + 3))
  refine z_callV (ci := 8) (st := []) hE 3 hcx d9.symm gL_law_X8_follow rfl rfl rfl (by decide +kernel) ⟨(Nat.le_of_ble_eq_true rfl), (Nat.le_of_ble_eq_true rfl)⟩ hMM.o rfl rfl rfl dL_law_623 rfl (Nat.le_of_ble_eq_true rfl) ⟨by show CC k S + (s_n (iff0 (fFollow S (xs (6 * k + 1)) (xs (6 * k + 2)) (xs (6 * k + 3))) (followP (xs (6 * k + 1)).toNatClampNeg (xs (6 * k + 2)) (xs (6 * k + 3)) S) S) - s_n S + 4) + 0 ≤ 601024; unfold CC; omega, by show SS k S + (3 * (s_n (iff0 (fFollow S (xs (6 * k + 1)) (xs (6 * k + 2)) (xs (6 * k + 3))) (followP (xs (6 * k + 1)).toNatClampNeg (xs (6 * k + 2)) (xs (6 * k + 3)) S) S) - s_n S) + 57) + 0 ≤ 7293034; unfold SS; omega⟩ (fun v h10 hp d10 => ?_)
  obtain ⟨⟨y, rfl, hy⟩, R', sc', gn', hM', hS', e28, hg'⟩ := hp
  refine x_istore (L' := [some (.ref b), some (.ref xa), some (.ref (ma 30)), some (.ref oa), some (.int (nI (6 * k))), some (.int (nI (fFollow S (xs (6 * k + 1)) (xs (6 * k + 2)) (xs (6 * k + 3))))), some (.int y)]) hE dL_law_626 (Nat.le_of_ble_eq_true rfl) rfl ?_
  refine x_aload_n hE dL_law_628 rfl rfl ?_
  have hct : ∀ A : Nat → Prop, x_M (reG G A) yX8_thrown wsX8_thrown ({ frames := 0, cells := 0, slots := 0, locals := 0 } : Room) [.ref (ma 30)] h10 (x_is (some (.int (sc' 28))) h10) 0 0 := fun A => c_X8_thrown (reG G A) hM'
  refine z_callV (ci := 8) (st := []) hE 0 hct d10 gL_law_X8_thrown rfl rfl rfl (by decide +kernel) ⟨(Nat.le_of_ble_eq_true rfl), (Nat.le_of_ble_eq_true rfl)⟩ hM'.o rfl rfl rfl dL_law_629 rfl (Nat.le_of_ble_eq_true rfl) ⟨by show CC k S + (s_n (iff0 (fFollow S (xs (6 * k + 1)) (xs (6 * k + 2)) (xs (6 * k + 3))) (followP (xs (6 * k + 1)).toNatClampNeg (xs (6 * k + 2)) (xs (6 * k + 3)) S) S) - s_n S + 4) + 0 + 0 ≤ 601024; unfold CC; omega, by show SS k S + (3 * (s_n (iff0 (fFollow S (xs (6 * k + 1)) (xs (6 * k + 2)) (xs (6 * k + 3))) (followP (xs (6 * k + 1)).toNatClampNeg (xs (6 * k + 2)) (xs (6 * k + 3)) S) S) - s_n S) + 57) + 0 + 0 ≤ 7293034; unfold SS; omega⟩ (fun v h11 hp d11 => ?_)
  obtain ⟨rfl, rfl⟩ := hp
  refine x_ieq (y := nI (fFollow S (xs (6 * k + 1)) (xs (6 * k + 2)) (xs (6 * k + 3)))) (e28) ?_
  refine x_iload hE dL_law_632 rfl ?_
  refine x_icmp_eq (tgt := 639) hE dL_law_634 (by decide) (fun c634 => ?_) (fun c634 => ?_)
  · refine x_iload hE dL_law_639 rfl ?_
    refine x_if_ne (tgt := 656) hE dL_law_641 (by decide) (fun c641 => ?_) (fun c641 => ?_)
    · refine x_goto (tgt := 1275) hE dL_law_656 (by decide) ?_
      refine x_heq (jn_comm d10) ?_
      refine x_widen (k := CC (k + 1) (iff0 (fFollow S (xs (6 * k + 1)) (xs (6 * k + 2)) (xs (6 * k + 3))) (followP (xs (6 * k + 1)).toNatClampNeg (xs (6 * k + 2)) (xs (6 * k + 3)) S) S)) (n := SS (k + 1) (iff0 (fFollow S (xs (6 * k + 1)) (xs (6 * k + 2)) (xs (6 * k + 3))) (followP (xs (6 * k + 1)).toNatClampNeg (xs (6 * k + 2)) (xs (6 * k + 3)) S) S)) (by unfold CC; omega) (by unfold SS; omega) ?_
      refine x_forget (L' := [some (.ref b), some (.ref xa), some (.ref (ma 30)), some (.ref oa), some (.int (nI (6 * k))), none, none]) (And.intro rfl (And.intro rfl (And.intro rfl (And.intro rfl (And.intro rfl trivial))))) ?_
      exact kk (iff0 (fFollow S (xs (6 * k + 1)) (xs (6 * k + 2)) (xs (6 * k + 3))) (followP (xs (6 * k + 1)).toNatClampNeg (xs (6 * k + 2)) (xs (6 * k + 3)) S) S) _ ⟨hC9, h10, u9, ma, ow, sc', R', gn', rfl, dC9, d10.symm, hb9, rfl, hM', hS', hI9, by omega⟩
    · have hf : fFollow S (xs (6 * k + 1)) (xs (6 * k + 2)) (xs (6 * k + 3)) = 0 := nI_f0 hfle c641
      have hy1 := hy hf
      have hw1 := hu9 hf
      refine x_aload_n hE dL_law_644 rfl rfl ?_
      refine x_iconst (v := nI 0) hE dL_law_645 (by decide) ?_
      refine x_lald (v := (s_ar S 15 (xs (6 * k + 1)).toNatClampNeg).toInt64) hE (jn_r d10 (jn_r dC9 oM_at)) zin0 (by rw [zcl0]; exact hw1) dL_law_646 ?_
      refine x_iload hE dL_law_647 rfl ?_
      refine x_i2l hE dL_law_649 ?_
      refine x_lcmp hE dL_law_650 ?_
      refine x_ieq (y := nI 0) (by rw [hy1]; exact lg_self _) ?_
      refine x_if_eq (tgt := 656) hE dL_law_651 (by decide) (fun c651 => ?_) (fun c651 => ?_)
      · refine x_goto (tgt := 1275) hE dL_law_656 (by decide) ?_
        refine x_heq (jn_comm d10) ?_
        refine x_widen (k := CC (k + 1) (iff0 (fFollow S (xs (6 * k + 1)) (xs (6 * k + 2)) (xs (6 * k + 3))) (followP (xs (6 * k + 1)).toNatClampNeg (xs (6 * k + 2)) (xs (6 * k + 3)) S) S)) (n := SS (k + 1) (iff0 (fFollow S (xs (6 * k + 1)) (xs (6 * k + 2)) (xs (6 * k + 3))) (followP (xs (6 * k + 1)).toNatClampNeg (xs (6 * k + 2)) (xs (6 * k + 3)) S) S)) (by unfold CC; omega) (by unfold SS; omega) ?_
        refine x_forget (L' := [some (.ref b), some (.ref xa), some (.ref (ma 30)), some (.ref oa), some (.int (nI (6 * k))), none, none]) (And.intro rfl (And.intro rfl (And.intro rfl (And.intro rfl (And.intro rfl trivial))))) ?_
        exact kk (iff0 (fFollow S (xs (6 * k + 1)) (xs (6 * k + 2)) (xs (6 * k + 3))) (followP (xs (6 * k + 1)).toNatClampNeg (xs (6 * k + 2)) (xs (6 * k + 3)) S) S) _ ⟨hC9, h10, u9, ma, ow, sc', R', gn', rfl, dC9, d10.symm, hb9, rfl, hM', hS', hI9, by omega⟩
      · exact absurd rfl c651
  · exact absurd rfl c634