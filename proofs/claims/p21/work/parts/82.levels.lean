set_option maxHeartbeats 4000000 in
set_option maxRecDepth 100000 in
theorem c_L_areLevels (G : XG) {xa : Nat} {S : PS} {hA h : HM} (hh : lH G xa S hA h) (hS : lS S) (hI : cI S) (ht : s_t S < 2 ^ 24) {ca : Nat} {cf : Nat → Int32} (hca : hA ca = some (rowI G 5 cf)) (hcc : lRc S cf) {ma : Nat} {mf : Nat → Int32} (hma : hA ma = some (rowI G 60 mf)) (hmm : lRm S mf) {la : Nat} {lf : Nat → Int32} (hla : hA la = some (rowI G 60 lf)) (hll : lRl S lf) : w_M G (x_TF G) yL_areLevels wsL_areLevels ({ frames := 8, cells := 11, slots := 63, locals := 139 } : Room) [.ref xa, .ref ca, .ref ma, .ref la] h (fun v h' => v = some (.int (nI 1)) ∧ lH G xa S hA h') 11 63 := by
  refine w_M.of (cc := cL_areLevels) (maxL := 11) (ret := (some .boolean)) (ent := [some (.ref xa), some (.ref ca), some (.ref ma), some (.ref la), none, none, none, none, none, none, none]) (by decide +kernel) rfl (Nat.le_of_ble_eq_true rfl) rfl rfl ?_
  intro F hE hname hT
  have hS0 := hS
  obtain ⟨hL10, hC6, hV⟩ := hS
  have hf := hI.1
  have hf0 := hf
  obtain ⟨f1, f2, f3, f4, f5⟩ := hf
  have hrp := hI.2.2.2.2.2.2.2.2.2.1
  have heI := hI.eI ht
  have g4 := f4
  have g2 := f2
  rw [hC6] at f2 f4
  refine x_iconst (v := nI 1) hE dL_areLevels_0 (by decide) ?_
  refine x_istore (L' := [some (.ref xa), some (.ref ca), some (.ref ma), some (.ref la), some (.int (nI 1)), none, none, none, none, none, none]) hE dL_areLevels_1 (Nat.le_of_ble_eq_true rfl) rfl ?_
  refine x_iconst (v := nI 3) hE dL_areLevels_3 (by decide) ?_
  refine x_newa (t0 := 0) (cA := g_c G 0) (a0 := (3, .inl (fun _ => 0))) hE (List.mem_of_getElem? (i := 1) rfl) rfl rfl (fun C e => by cases e) (fun cA => rfl) (nI_pos (by decide)) (nI_clamp (by decide)) (by decide) (by show 0 + 1 ≤ 11; omega) (by show 0 + 3 ≤ 63; omega) dL_areLevels_4 (fun q hq0 => ?_)
  have hh1 := hh.new hq0 (rowI G 3 (fun _ => 0))
  have hqA := hh.no hq0
  have hca1 : ∀ f, x_up hA q (rowI G 3 f) ca = some (rowI G 5 cf) := fun f => (x_up_ne (x_none_ne hqA hca)).trans hca
  have hma1 : ∀ f, x_up hA q (rowI G 3 f) ma = some (rowI G 60 mf) := fun f => (x_up_ne (x_none_ne hqA hma)).trans hma
  have hla1 : ∀ f, x_up hA q (rowI G 3 f) la = some (rowI G 60 lf) := fun f => (x_up_ne (x_none_ne hqA hla)).trans hla
  refine x_astore (L' := [some (.ref xa), some (.ref ca), some (.ref ma), some (.ref la), some (.int (nI 1)), some (.ref q), none, none, none, none, none]) hE dL_areLevels_6 (Nat.le_of_ble_eq_true rfl) rfl rfl ?_
  refine x_iconst (v := nI 0) hE dL_areLevels_8 (by decide) ?_
  refine x_istore (L' := [some (.ref xa), some (.ref ca), some (.ref ma), some (.ref la), some (.int (nI 1)), some (.ref q), some (.int (nI 0)), none, none, none, none]) hE dL_areLevels_9 (Nat.le_of_ble_eq_true rfl) rfl ?_
  refine x_down (N := 10) (P := fun i => ∀ (h1 : HM) (f : Nat → Int32), lH G xa S (x_up hA q (rowI G 3 f)) h1 → (∀ p, p < 3 → f p = nI (ldN (s_ar S) (s_L S) (s_B S) (s_t S) (s_G S) (nI p) i).toNat) → x_W G F (x_Q G F (fun v h' => v = some (.int (nI 1)) ∧ lH G xa S hA h') 11 63) (1 + i) (3 + 6 * i) h1 11 [some (.ref xa), some (.ref ca), some (.ref ma), some (.ref la), some (.int (nI 1)), some (.ref q), some (.int (nI i)), none, none, none, none] []) (fun i hiN ih => ?_) 0 (by omega) _ _ hh1 (fun p _ => rfl)
  intro h1 f hh1 hfl
  refine x_iload hE dL_areLevels_11 rfl ?_
  refine x_aload_n hE dL_areLevels_13 rfl rfl ?_
  refine x_iconst (v := nI 0) hE dL_areLevels_14 (by decide) ?_
  refine x_iald (v := nI 10) hE (hh1.at (hca1 f)) (vp_in_nI (by omega) (by decide)) (by rw [nI_clamp (by omega)]; exact hcc.1) dL_areLevels_15 ?_
  refine x_icmp_ge (tgt := 195) hE dL_areLevels_16 (by decide) (fun c16 => ?_) (fun c16 => ?_)
  · replace c16 := x_nIle c16 (by omega) (by omega)
    obtain rfl : i = 10 := by omega
    refine x_iconst (v := nI 0) hE dL_areLevels_195 (by decide) ?_
    refine x_istore (L' := [some (.ref xa), some (.ref ca), some (.ref ma), some (.ref la), some (.int (nI 1)), some (.ref q), some (.int (nI 0)), none, none, none, none]) hE dL_areLevels_196 (Nat.le_of_ble_eq_true rfl) rfl ?_
    refine x_widen (k := 11) (n := 63) (by omega) (by omega) ?_
    refine x_down (N := 3) (P := fun k => x_W G F (x_Q G F (fun v h' => v = some (.int (nI 1)) ∧ lH G xa S hA h') 11 63) 11 63 h1 198 [some (.ref xa), some (.ref ca), some (.ref ma), some (.ref la), some (.int (nI 1)), some (.ref q), some (.int (nI k)), none, none, none, none] []) (fun k hkN ih2 => ?_) 0 (by omega)
    refine x_iload hE dL_areLevels_198 rfl ?_
    refine x_iconst (v := nI 3) hE dL_areLevels_200 (by decide) ?_
    refine x_icmp_ge (tgt := 253) hE dL_areLevels_201 (by decide) (fun c201 => ?_) (fun c201 => ?_)
    · refine x_iload hE dL_areLevels_253 rfl ?_
      obtain ⟨h2, hh2, hs2⟩ := hh1.drop hqA
      refine x_drop hs2 ?_
      refine x_widen (k := 11) (n := 63) (by omega) (by omega) ?_
      exact x_zret hE (Or.inr rfl) dL_areLevels_255 (⟨rfl, hh2⟩)
    · replace c201 := x_nInle c201 (by omega) (by omega)
      refine x_iload hE dL_areLevels_204 rfl ?_
      refine x_if_eq (tgt := 253) hE dL_areLevels_206 (by decide) (fun c206 => absurd c206 (by decide)) (fun c206 => ?_)
      have eT : ldN (s_ar S) (s_L S) (s_B S) (s_t S) (s_G S) (nI k) 16 = ldN (s_ar S) (s_L S) (s_B S) (s_t S) (s_G S) (nI k) 10 := by rw [hL10]; exact ldN_top
      have hb18 := (ldN_is (B := s_B S) (ph := nI k) hf0 10 (by decide)).b18 (by decide)
      refine x_aload_n hE dL_areLevels_209 rfl rfl ?_
      refine x_iload hE dL_areLevels_210 rfl ?_
      refine k_ask (st := []) hE 1 (Q_loadOf G hh1.bw hf0 (p := k) (by omega)) hh1.bw gL_areLevels_X7_loadOf rfl rfl rfl (by decide +kernel) ⟨(Nat.le_of_ble_eq_true rfl), (Nat.le_of_ble_eq_true rfl)⟩ rfl rfl dL_areLevels_212 rfl (Nat.le_of_ble_eq_true rfl) ⟨by show 11 ≤ 11; omega, by show 63 ≤ 63; omega⟩ ?_
      refine x_aload hE dL_areLevels_215 rfl rfl ?_
      refine x_iload hE dL_areLevels_217 rfl ?_
      refine x_iald (v := nI (ldN (s_ar S) (s_L S) (s_B S) (s_t S) (s_G S) (nI k) 10).toNat) hE (hh1.at (x_up_eq _ _ _)) (vp_in_nI (by omega) (by decide)) (by rw [nI_clamp (by omega)]; exact hfl k (by omega)) dL_areLevels_219 ?_
      refine x_icmp_ne (tgt := 244) hE dL_areLevels_220 (by decide) (fun c220 => absurd (by rw [eT]) c220) (fun c220 => ?_)
      refine x_aload_n hE dL_areLevels_223 rfl rfl ?_
      refine x_iload hE dL_areLevels_224 rfl ?_
      refine k_ask (st := []) hE 1 (Q_watts G hh1.bw hf0 (p := k) (by omega)) hh1.bw gL_areLevels_X7_watts rfl rfl rfl (by decide +kernel) ⟨(Nat.le_of_ble_eq_true rfl), (Nat.le_of_ble_eq_true rfl)⟩ rfl rfl dL_areLevels_226 rfl (Nat.le_of_ble_eq_true rfl) ⟨by show 11 ≤ 11; omega, by show 63 ≤ 63; omega⟩ ?_
      refine x_aload hE dL_areLevels_229 rfl rfl ?_
      refine x_iload hE dL_areLevels_231 rfl ?_
      refine x_iald (v := nI (ldN (s_ar S) (s_L S) (s_B S) (s_t S) (s_G S) (nI k) 10).toNat) hE (hh1.at (x_up_eq _ _ _)) (vp_in_nI (by omega) (by decide)) (by rw [nI_clamp (by omega)]; exact hfl k (by omega)) dL_areLevels_233 ?_
      refine k_st (st := [.int (FP.f2i (ldN (s_ar S) (s_L S) (s_B S) (s_t S) (s_G S) (nI k) 16))]) hE 1 (c_L_cast G (A := (ldN (s_ar S) (s_L S) (s_B S) (s_t S) (s_G S) (nI k) 10).toNat) (hb18.elim Or.inl (fun z => Or.inr (by omega))) (by omega)) gL_areLevels_L_cast rfl rfl rfl (by decide +kernel) ⟨(Nat.le_of_ble_eq_true rfl), (Nat.le_of_ble_eq_true rfl)⟩ rfl rfl dL_areLevels_234 rfl (Nat.le_of_ble_eq_true rfl) ⟨by show 11 ≤ 11; omega, by show 63 ≤ 63; omega⟩ ?_
      refine x_icmp_ne (tgt := 244) hE dL_areLevels_237 (by decide) (fun c237 => absurd (by rw [eT, fB_of]) c237) (fun c237 => ?_)
      refine x_iconst (v := nI 1) hE dL_areLevels_240 (by decide) ?_
      refine x_goto (tgt := 245) hE dL_areLevels_241 (by decide) ?_
      refine x_istore (L' := [some (.ref xa), some (.ref ca), some (.ref ma), some (.ref la), some (.int (nI 1)), some (.ref q), some (.int (nI k)), none, none, none, none]) hE dL_areLevels_245 (Nat.le_of_ble_eq_true rfl) rfl ?_
      refine x_iinc (v := nI (k + 1)) (L' := [some (.ref xa), some (.ref ca), some (.ref ma), some (.ref la), some (.int (nI 1)), some (.ref q), some (.int (nI (k + 1))), none, none, none, none]) hE dL_areLevels_247 rfl (nI_1 _) rfl ?_
      refine x_goto (tgt := 198) hE dL_areLevels_250 (by decide) ?_
      exact ih2 (k + 1) (by omega) (by omega)
  · replace c16 := x_nInle c16 (by omega) (by omega)
    refine x_iload hE dL_areLevels_19 rfl ?_
    refine x_if_eq (tgt := 195) hE dL_areLevels_21 (by decide) (fun c21 => absurd c21 (by decide)) (fun c21 => ?_)
    have hX11 := (mixG_lv (L := s_L S) (B := s_B S) (i := i) g2 f3 g4 f5).b11 (by decide)
    have hX11 : (levS S (s_G S) i).toNat = 0 ∨ (115 * 2 ^ 23 ≤ (levS S (s_G S) i).toNat ∧ (levS S (s_G S) i).toNat ≤ 138 * 2 ^ 23) := hX11
    refine x_aload_n hE dL_areLevels_24 rfl rfl ?_
    refine x_iload hE dL_areLevels_25 rfl ?_
    refine k_ask (st := []) hE 1 (Q_levelOf G hh1.bw hf0 (i := i) (by omega)) hh1.bw gL_areLevels_X7_levelOf rfl rfl rfl (by decide +kernel) ⟨(Nat.le_of_ble_eq_true rfl), (Nat.le_of_ble_eq_true rfl)⟩ rfl rfl dL_areLevels_27 rfl (Nat.le_of_ble_eq_true rfl) ⟨by show 1 + i ≤ 11; omega, by show 3 + 6 * i ≤ 63; omega⟩ ?_
    refine x_istore (L' := [some (.ref xa), some (.ref ca), some (.ref ma), some (.ref la), some (.int (nI 1)), some (.ref q), some (.int (nI i)), some (.int (nI (levS S (s_G S) i).toNat)), none, none, none]) hE dL_areLevels_30 (Nat.le_of_ble_eq_true rfl) rfl ?_
    refine x_iconst (v := nI 0) hE dL_areLevels_32 (by decide) ?_
    refine x_istore (L' := [some (.ref xa), some (.ref ca), some (.ref ma), some (.ref la), some (.int (nI 1)), some (.ref q), some (.int (nI i)), some (.int (nI (levS S (s_G S) i).toNat)), some (.int (nI 0)), none, none]) hE dL_areLevels_33 (Nat.le_of_ble_eq_true rfl) rfl ?_
    refine x_iconst (v := nI 0) hE dL_areLevels_35 (by decide) ?_
    refine x_istore (L' := [some (.ref xa), some (.ref ca), some (.ref ma), some (.ref la), some (.int (nI 1)), some (.ref q), some (.int (nI i)), some (.int (nI (levS S (s_G S) i).toNat)), some (.int (nI 0)), some (.int (nI 0)), none]) hE dL_areLevels_36 (Nat.le_of_ble_eq_true rfl) rfl ?_
    refine x_down (N := 6) (P := fun j => x_W G F (x_Q G F (fun v h' => v = some (.int (nI 1)) ∧ lH G xa S hA h') 11 63) (1 + i) (3 + 6 * i) h1 38 [some (.ref xa), some (.ref ca), some (.ref ma), some (.ref la), some (.int (nI 1)), some (.ref q), some (.int (nI i)), some (.int (nI (levS S (s_G S) i).toNat)), some (.int (mxF (itA S i) (nI 0) j)), some (.int (nI j)), none] []) (fun j hjN ih2 => ?_) 0 (by omega)
    refine x_iload hE dL_areLevels_38 rfl ?_
    refine x_aload_n hE dL_areLevels_40 rfl rfl ?_
    refine x_iconst (v := nI 1) hE dL_areLevels_41 (by decide) ?_
    refine x_iald (v := nI 6) hE (hh1.at (hca1 f)) (vp_in_nI (by omega) (by decide)) (by rw [nI_clamp (by omega)]; exact hcc.2.1) dL_areLevels_42 ?_
    refine x_icmp_ge (tgt := 95) hE dL_areLevels_43 (by decide) (fun c43 => ?_) (fun c43 => ?_)
    · replace c43 := x_nIle c43 (by omega) (by omega)
      obtain rfl : j = 6 := by omega
      obtain ⟨M, hM, eM⟩ : ∃ M, M ≤ 100 ∧ mxF (itA S i) (nI 0) 6 = nI M := i32_num (mxF_ge 6) ((act_max f4 (by decide)).mpr (fun g hg1 => lev_le f2 (f4.2 g hg1) i)) (by decide)
      have hbM : ∀ g, g ∈ s_G S → levP (s_ar S) (s_L S) (s_B S) g.1 i ≤ nI M := (act_max f4 ((nI_leI (by decide) (by omega)).mpr (Nat.zero_le _))).mp (by rw [eM]; exact i32_le_rfl _)
      have hXM : (levS S (s_G S) i).toNat ≤ if M = 0 then 0 else (FP.i2f (nI M)).toNat + 1 := mix_bound g2 f3 g4 f5 hM (fun g hg1 => hbM g hg1)
      have hW : (FP.i2f (nI M)).toNat < 1200000000 := by
        by_cases z : M = 0
        · rw [z]; decide
        · have nM := i2f_nn (a := M) (by omega)
          have n2 := fB_nn (n := 138 * 2 ^ 23) (by decide)
          have e2 : fz (fB (138 * 2 ^ 23)) = 2048 * fO := by decide +kernel
          have b := fz_bits nM n2 (by rw [e2, i2f_fz (by omega)]; exact Int.mul_le_mul_of_nonneg_right (by omega) (Int.le_of_lt fO_pos))
          rw [fB_nat (by decide)] at b
          omega
      refine x_aload_n hE dL_areLevels_95 rfl rfl ?_
      refine x_iload hE dL_areLevels_96 rfl ?_
      refine k_call (st := []) hE hT 1 (m_levelAnew G (i := i) (by rw [hrp]; exact hf0) heI (by omega)) hh1 gL_areLevels_X7_levelAnew rfl rfl rfl (by decide +kernel) ⟨(Nat.le_of_ble_eq_true rfl), (Nat.le_of_ble_eq_true rfl)⟩ rfl rfl dL_areLevels_98 rfl (Nat.le_of_ble_eq_true rfl) ⟨by show 1 + i + (1) ≤ 11; omega, by show 3 + 6 * i + (6) ≤ 63; omega⟩ (fun h2 hh2 => ?_) (fun E hE9 => hE9.elim)
      refine x_ieq (y := nI (levS S (s_G S) i).toNat) (by rw [hrp]) ?_
      refine x_iload hE dL_areLevels_101 rfl ?_
      refine x_icmp_ne (tgt := 137) hE dL_areLevels_103 (by decide) (fun c103 => absurd rfl c103) (fun c103 => ?_)
      refine x_iload hE dL_areLevels_106 rfl ?_
      refine x_if_lt (tgt := 137) hE dL_areLevels_108 (by decide) (fun c108 => absurd c108 (nI_pos (by omega))) (fun c108 => ?_)
      refine x_iload hE dL_areLevels_111 rfl ?_
      refine x_iload hE dL_areLevels_113 rfl ?_
      refine x_ieq (y := nI M) (eM) ?_
      refine k_st (st := [.int (nI (levS S (s_G S) i).toNat)]) hE 1 (c_L_whole G (n := M) (by omega)) gL_areLevels_L_whole rfl rfl rfl (by decide +kernel) ⟨(Nat.le_of_ble_eq_true rfl), (Nat.le_of_ble_eq_true rfl)⟩ rfl rfl dL_areLevels_115 rfl (Nat.le_of_ble_eq_true rfl) ⟨by show 1 + i + (1) ≤ 11; omega, by show 3 + 6 * i + (6) ≤ 63; omega⟩ ?_
      refine x_iload hE dL_areLevels_118 rfl ?_
      refine x_ieq (y := nI M) (eM) ?_
      refine x_if_ne (tgt := 127) hE dL_areLevels_120 (by decide) (fun c120 => ?_) (fun c120 => ?_)
      · have hM0 : M ≠ 0 := fun z => c120 (by rw [z]; rfl)
        rw [if_neg hM0] at hXM
        refine x_bipush (v := nI 16) hE dL_areLevels_127 (by decide) ?_
        refine x_iadd hE dL_areLevels_129 ?_
        refine x_ieq (y := nI ((FP.i2f (nI M)).toNat + 16)) (nI_add _ _) ?_
        refine x_icmp_gt (tgt := 137) hE dL_areLevels_130 (by decide) (fun c130 => absurd (x_nIlt c130 (by omega) (by omega)) (by omega)) (fun c130 => ?_)
        obtain ⟨_, _, ⟨p, hp2, ep⟩, _⟩ := hV i (by omega)
        obtain ⟨wt, hw1, hw2, ew⟩ := f1 i (by omega)
        have hY18 := (ldN_is (B := s_B S) (ph := nI p) hf0 i (by omega)).b18 (by omega)
        obtain ⟨⟨s1, s2, s3⟩, ⟨s4, s5, s6, s7⟩, s8, s9, s10⟩ := load_step (w := wt) (X := (levS S (s_G S) i).toNat) (Y := (ldN (s_ar S) (s_L S) (s_B S) (s_t S) (s_G S) (nI p) i).toNat) hw1 hw2 hX11 hY18
        refine x_iconst (v := nI 1) hE dL_areLevels_133 (by decide) ?_
        refine x_goto (tgt := 138) hE dL_areLevels_134 (by decide) ?_
        refine x_istore (L' := [some (.ref xa), some (.ref ca), some (.ref ma), some (.ref la), some (.int (nI 1)), some (.ref q), some (.int (nI i)), some (.int (nI (levS S (s_G S) i).toNat)), some (.int (mxF (itA S i) (nI 0) 6)), some (.int (nI 6)), none]) hE dL_areLevels_138 (Nat.le_of_ble_eq_true rfl) rfl ?_
        refine x_aload_n hE dL_areLevels_140 rfl rfl ?_
        refine x_bipush (v := nI 6) hE dL_areLevels_141 (by decide) ?_
        refine x_iload hE dL_areLevels_143 rfl ?_
        refine x_imul hE dL_areLevels_145 ?_
        refine x_ieq (y := nI (6 * i)) (pk_mul _ _) ?_
        refine x_iconst (v := nI 4) hE dL_areLevels_146 (by decide) ?_
        refine x_iadd hE dL_areLevels_147 ?_
        refine x_ieq (y := nI (6 * i + 4)) (nI_add _ _) ?_
        refine x_iald (v := nI p) hE (hh2.at (hma1 f)) (vp_in_nI (by omega) (by decide)) (by rw [nI_clamp (by omega)]; exact ((hmm i (by omega)).2.2.2.2.1.trans ep)) dL_areLevels_148 ?_
        refine x_istore (L' := [some (.ref xa), some (.ref ca), some (.ref ma), some (.ref la), some (.int (nI 1)), some (.ref q), some (.int (nI i)), some (.int (nI (levS S (s_G S) i).toNat)), some (.int (mxF (itA S i) (nI 0) 6)), some (.int (nI p)), none]) hE dL_areLevels_149 (Nat.le_of_ble_eq_true rfl) rfl ?_
        refine x_aload hE dL_areLevels_151 rfl rfl ?_
        refine x_iload hE dL_areLevels_153 rfl ?_
        refine x_aload hE dL_areLevels_155 rfl rfl ?_
        refine x_iload hE dL_areLevels_157 rfl ?_
        refine x_iald (v := nI (ldN (s_ar S) (s_L S) (s_B S) (s_t S) (s_G S) (nI p) i).toNat) hE (hh2.at (x_up_eq _ _ _)) (vp_in_nI (by omega) (by decide)) (by rw [nI_clamp (by omega)]; exact hfl p (by omega)) dL_areLevels_159 ?_
        refine x_aload_n hE dL_areLevels_160 rfl rfl ?_
        refine x_bipush (v := nI 6) hE dL_areLevels_161 (by decide) ?_
        refine x_iload hE dL_areLevels_163 rfl ?_
        refine x_imul hE dL_areLevels_165 ?_
        refine x_ieq (y := nI (6 * i)) (pk_mul _ _) ?_
        refine x_iconst (v := nI 3) hE dL_areLevels_166 (by decide) ?_
        refine x_iadd hE dL_areLevels_167 ?_
        refine x_ieq (y := nI (6 * i + 3)) (nI_add _ _) ?_
        refine x_iald (v := nI wt) hE (hh2.at (hma1 f)) (vp_in_nI (by omega) (by decide)) (by rw [nI_clamp (by omega)]; exact ((hmm i (by omega)).2.2.2.1.trans ew)) dL_areLevels_168 ?_
        refine k_st (st := [.int (nI (ldN (s_ar S) (s_L S) (s_B S) (s_t S) (s_G S) (nI p) i).toNat), .int (nI p), .ref q]) hE 1 (c_L_whole G (n := wt) (by omega)) gL_areLevels_L_whole rfl rfl rfl (by decide +kernel) ⟨(Nat.le_of_ble_eq_true rfl), (Nat.le_of_ble_eq_true rfl)⟩ rfl rfl dL_areLevels_169 rfl (Nat.le_of_ble_eq_true rfl) ⟨by show 1 + i + (1) ≤ 11; omega, by show 3 + 6 * i + (6) ≤ 63; omega⟩ ?_
        refine x_iload hE dL_areLevels_172 rfl ?_
        refine k_st (st := [.int (nI (ldN (s_ar S) (s_L S) (s_B S) (s_t S) (s_G S) (nI p) i).toNat), .int (nI p), .ref q]) hE 2 (c_L_times G (A := (FP.i2f (nI wt)).toNat) (B := (levS S (s_G S) i).toNat) s1 s2 s3) gL_areLevels_L_times rfl rfl rfl (by decide +kernel) ⟨(Nat.le_of_ble_eq_true rfl), (Nat.le_of_ble_eq_true rfl)⟩ rfl rfl dL_areLevels_174 rfl (Nat.le_of_ble_eq_true rfl) ⟨by show 1 + i + (1) ≤ 11; omega, by show 3 + 6 * i + (6) ≤ 63; omega⟩ ?_
        refine x_ieq (y := nI (FP.fmul (FP.i2f (nI wt)) (fB (levS S (s_G S) i).toNat)).toNat) (by rw [fB_of (FP.i2f (nI wt))]) ?_
        refine x_bipush (v := nI 100) hE dL_areLevels_177 (by decide) ?_
        refine k_st (st := [.int (nI (FP.fmul (FP.i2f (nI wt)) (fB (levS S (s_G S) i).toNat)).toNat), .int (nI (ldN (s_ar S) (s_L S) (s_B S) (s_t S) (s_G S) (nI p) i).toNat), .int (nI p), .ref q]) hE 1 (c_L_whole G (n := 100) (by decide)) gL_areLevels_L_whole rfl rfl rfl (by decide +kernel) ⟨(Nat.le_of_ble_eq_true rfl), (Nat.le_of_ble_eq_true rfl)⟩ rfl rfl dL_areLevels_179 rfl (Nat.le_of_ble_eq_true rfl) ⟨by show 1 + i + (1) ≤ 11; omega, by show 3 + 6 * i + (6) ≤ 63; omega⟩ ?_
        refine k_st (st := [.int (nI (ldN (s_ar S) (s_L S) (s_B S) (s_t S) (s_G S) (nI p) i).toNat), .int (nI p), .ref q]) hE 2 (c_L_over G (A := (FP.fmul (FP.i2f (nI wt)) (fB (levS S (s_G S) i).toNat)).toNat) (B := (FP.i2f (nI 100)).toNat) s4 s5 s6 s7) gL_areLevels_L_over rfl rfl rfl (by decide +kernel) ⟨(Nat.le_of_ble_eq_true rfl), (Nat.le_of_ble_eq_true rfl)⟩ rfl rfl dL_areLevels_182 rfl (Nat.le_of_ble_eq_true rfl) ⟨by show 1 + i + (1) ≤ 11; omega, by show 3 + 6 * i + (6) ≤ 63; omega⟩ ?_
        refine x_ieq (y := nI (FP.fdiv (FP.fmul (FP.i2f (nI wt)) (fB (levS S (s_G S) i).toNat)) c100).toNat) (by rw [fB_of (FP.fmul (FP.i2f (nI wt)) (fB (levS S (s_G S) i).toNat)), fB_of (FP.i2f (nI 100)), c100_i]) ?_
        refine k_st (st := [.int (nI p), .ref q]) hE 2 (c_L_plus G (A := (ldN (s_ar S) (s_L S) (s_B S) (s_t S) (s_G S) (nI p) i).toNat) (B := (FP.fdiv (FP.fmul (FP.i2f (nI wt)) (fB (levS S (s_G S) i).toNat)) c100).toNat) s8 s9 s10) gL_areLevels_L_plus rfl rfl rfl (by decide +kernel) ⟨(Nat.le_of_ble_eq_true rfl), (Nat.le_of_ble_eq_true rfl)⟩ rfl rfl dL_areLevels_185 rfl (Nat.le_of_ble_eq_true rfl) ⟨by show 1 + i + (1) ≤ 11; omega, by show 3 + 6 * i + (6) ≤ 63; omega⟩ ?_
        refine x_ieq (y := nI (ldN (s_ar S) (s_L S) (s_B S) (s_t S) (s_G S) (nI p) (i + 1)).toNat) (by rw [fB_of, fB_of, fB_of, ldN_y (ar := s_ar S) (n := i) ⟨by omega, ep⟩, ew]; rfl) ?_
        refine x_iast (f' := upd f p (nI (ldN (s_ar S) (s_L S) (s_B S) (s_t S) (s_G S) (nI p) (i + 1)).toNat)) hE (hh2.at (x_up_eq _ _ _)) (vp_in_nI (by omega) (by decide)) (x_updN _ (by omega) _) dL_areLevels_188 ?_
        have hh3 := hh2.up (x_up_eq _ _ _) (rowI G 3 (upd f p (nI (ldN (s_ar S) (s_L S) (s_B S) (s_t S) (s_G S) (nI p) (i + 1)).toNat)))
        rw [x_up_up] at hh3
        refine x_iinc (v := nI (i + 1)) (L' := [some (.ref xa), some (.ref ca), some (.ref ma), some (.ref la), some (.int (nI 1)), some (.ref q), some (.int (nI (i + 1))), some (.int (nI (levS S (s_G S) i).toNat)), some (.int (mxF (itA S i) (nI 0) 6)), some (.int (nI p)), none]) hE dL_areLevels_189 rfl (nI_1 _) rfl ?_
        refine x_goto (tgt := 11) hE dL_areLevels_192 (by decide) ?_
        refine x_widen (k := 1 + (i + 1)) (n := 3 + 6 * (i + 1)) (by omega) (by omega) ?_
        refine x_forget (L' := [some (.ref xa), some (.ref ca), some (.ref ma), some (.ref la), some (.int (nI 1)), some (.ref q), some (.int (nI (i + 1))), none, none, none, none]) (And.intro rfl (And.intro rfl (And.intro rfl (And.intro rfl (And.intro rfl (And.intro rfl (And.intro rfl trivial))))))) ?_
        exact ih (i + 1) (by omega) (by omega) _ _ hh3 (fun p' hp' => by
          by_cases z : p' = p
          · subst z; rw [upd_at]
          · rw [upd_ne z, hfl p' hp', ldN_n (fun y => z (x_nIinj (y.2.symm.trans ep) (by omega) (by omega)))])
      · have hM0 : M = 0 := x_nIinj (a := M) (b := 0) c120 (by omega) (by decide)
        rw [if_pos hM0] at hXM
        refine x_iconst (v := nI 0) hE dL_areLevels_123 (by decide) ?_
        refine x_goto (tgt := 129) hE dL_areLevels_124 (by decide) ?_
        refine x_iadd hE dL_areLevels_129 ?_
        refine x_ieq (y := nI ((FP.i2f (nI M)).toNat + 0)) (nI_add _ _) ?_
        refine x_icmp_gt (tgt := 137) hE dL_areLevels_130 (by decide) (fun c130 => absurd (x_nIlt c130 (by omega) (by omega)) (by omega)) (fun c130 => ?_)
        obtain ⟨_, _, ⟨p, hp2, ep⟩, _⟩ := hV i (by omega)
        obtain ⟨wt, hw1, hw2, ew⟩ := f1 i (by omega)
        have hY18 := (ldN_is (B := s_B S) (ph := nI p) hf0 i (by omega)).b18 (by omega)
        obtain ⟨⟨s1, s2, s3⟩, ⟨s4, s5, s6, s7⟩, s8, s9, s10⟩ := load_step (w := wt) (X := (levS S (s_G S) i).toNat) (Y := (ldN (s_ar S) (s_L S) (s_B S) (s_t S) (s_G S) (nI p) i).toNat) hw1 hw2 hX11 hY18
        refine x_iconst (v := nI 1) hE dL_areLevels_133 (by decide) ?_
        refine x_goto (tgt := 138) hE dL_areLevels_134 (by decide) ?_
        refine x_istore (L' := [some (.ref xa), some (.ref ca), some (.ref ma), some (.ref la), some (.int (nI 1)), some (.ref q), some (.int (nI i)), some (.int (nI (levS S (s_G S) i).toNat)), some (.int (mxF (itA S i) (nI 0) 6)), some (.int (nI 6)), none]) hE dL_areLevels_138 (Nat.le_of_ble_eq_true rfl) rfl ?_
        refine x_aload_n hE dL_areLevels_140 rfl rfl ?_
        refine x_bipush (v := nI 6) hE dL_areLevels_141 (by decide) ?_
        refine x_iload hE dL_areLevels_143 rfl ?_
        refine x_imul hE dL_areLevels_145 ?_
        refine x_ieq (y := nI (6 * i)) (pk_mul _ _) ?_
        refine x_iconst (v := nI 4) hE dL_areLevels_146 (by decide) ?_
        refine x_iadd hE dL_areLevels_147 ?_
        refine x_ieq (y := nI (6 * i + 4)) (nI_add _ _) ?_
        refine x_iald (v := nI p) hE (hh2.at (hma1 f)) (vp_in_nI (by omega) (by decide)) (by rw [nI_clamp (by omega)]; exact ((hmm i (by omega)).2.2.2.2.1.trans ep)) dL_areLevels_148 ?_
        refine x_istore (L' := [some (.ref xa), some (.ref ca), some (.ref ma), some (.ref la), some (.int (nI 1)), some (.ref q), some (.int (nI i)), some (.int (nI (levS S (s_G S) i).toNat)), some (.int (mxF (itA S i) (nI 0) 6)), some (.int (nI p)), none]) hE dL_areLevels_149 (Nat.le_of_ble_eq_true rfl) rfl ?_
        refine x_aload hE dL_areLevels_151 rfl rfl ?_
        refine x_iload hE dL_areLevels_153 rfl ?_
        refine x_aload hE dL_areLevels_155 rfl rfl ?_
        refine x_iload hE dL_areLevels_157 rfl ?_
        refine x_iald (v := nI (ldN (s_ar S) (s_L S) (s_B S) (s_t S) (s_G S) (nI p) i).toNat) hE (hh2.at (x_up_eq _ _ _)) (vp_in_nI (by omega) (by decide)) (by rw [nI_clamp (by omega)]; exact hfl p (by omega)) dL_areLevels_159 ?_
        refine x_aload_n hE dL_areLevels_160 rfl rfl ?_
        refine x_bipush (v := nI 6) hE dL_areLevels_161 (by decide) ?_
        refine x_iload hE dL_areLevels_163 rfl ?_
        refine x_imul hE dL_areLevels_165 ?_
        refine x_ieq (y := nI (6 * i)) (pk_mul _ _) ?_
        refine x_iconst (v := nI 3) hE dL_areLevels_166 (by decide) ?_
        refine x_iadd hE dL_areLevels_167 ?_
        refine x_ieq (y := nI (6 * i + 3)) (nI_add _ _) ?_
        refine x_iald (v := nI wt) hE (hh2.at (hma1 f)) (vp_in_nI (by omega) (by decide)) (by rw [nI_clamp (by omega)]; exact ((hmm i (by omega)).2.2.2.1.trans ew)) dL_areLevels_168 ?_
        refine k_st (st := [.int (nI (ldN (s_ar S) (s_L S) (s_B S) (s_t S) (s_G S) (nI p) i).toNat), .int (nI p), .ref q]) hE 1 (c_L_whole G (n := wt) (by omega)) gL_areLevels_L_whole rfl rfl rfl (by decide +kernel) ⟨(Nat.le_of_ble_eq_true rfl), (Nat.le_of_ble_eq_true rfl)⟩ rfl rfl dL_areLevels_169 rfl (Nat.le_of_ble_eq_true rfl) ⟨by show 1 + i + (1) ≤ 11; omega, by show 3 + 6 * i + (6) ≤ 63; omega⟩ ?_
        refine x_iload hE dL_areLevels_172 rfl ?_
        refine k_st (st := [.int (nI (ldN (s_ar S) (s_L S) (s_B S) (s_t S) (s_G S) (nI p) i).toNat), .int (nI p), .ref q]) hE 2 (c_L_times G (A := (FP.i2f (nI wt)).toNat) (B := (levS S (s_G S) i).toNat) s1 s2 s3) gL_areLevels_L_times rfl rfl rfl (by decide +kernel) ⟨(Nat.le_of_ble_eq_true rfl), (Nat.le_of_ble_eq_true rfl)⟩ rfl rfl dL_areLevels_174 rfl (Nat.le_of_ble_eq_true rfl) ⟨by show 1 + i + (1) ≤ 11; omega, by show 3 + 6 * i + (6) ≤ 63; omega⟩ ?_
        refine x_ieq (y := nI (FP.fmul (FP.i2f (nI wt)) (fB (levS S (s_G S) i).toNat)).toNat) (by rw [fB_of (FP.i2f (nI wt))]) ?_
        refine x_bipush (v := nI 100) hE dL_areLevels_177 (by decide) ?_
        refine k_st (st := [.int (nI (FP.fmul (FP.i2f (nI wt)) (fB (levS S (s_G S) i).toNat)).toNat), .int (nI (ldN (s_ar S) (s_L S) (s_B S) (s_t S) (s_G S) (nI p) i).toNat), .int (nI p), .ref q]) hE 1 (c_L_whole G (n := 100) (by decide)) gL_areLevels_L_whole rfl rfl rfl (by decide +kernel) ⟨(Nat.le_of_ble_eq_true rfl), (Nat.le_of_ble_eq_true rfl)⟩ rfl rfl dL_areLevels_179 rfl (Nat.le_of_ble_eq_true rfl) ⟨by show 1 + i + (1) ≤ 11; omega, by show 3 + 6 * i + (6) ≤ 63; omega⟩ ?_
        refine k_st (st := [.int (nI (ldN (s_ar S) (s_L S) (s_B S) (s_t S) (s_G S) (nI p) i).toNat), .int (nI p), .ref q]) hE 2 (c_L_over G (A := (FP.fmul (FP.i2f (nI wt)) (fB (levS S (s_G S) i).toNat)).toNat) (B := (FP.i2f (nI 100)).toNat) s4 s5 s6 s7) gL_areLevels_L_over rfl rfl rfl (by decide +kernel) ⟨(Nat.le_of_ble_eq_true rfl), (Nat.le_of_ble_eq_true rfl)⟩ rfl rfl dL_areLevels_182 rfl (Nat.le_of_ble_eq_true rfl) ⟨by show 1 + i + (1) ≤ 11; omega, by show 3 + 6 * i + (6) ≤ 63; omega⟩ ?_
        refine x_ieq (y := nI (FP.fdiv (FP.fmul (FP.i2f (nI wt)) (fB (levS S (s_G S) i).toNat)) c100).toNat) (by rw [fB_of (FP.fmul (FP.i2f (nI wt)) (fB (levS S (s_G S) i).toNat)), fB_of (FP.i2f (nI 100)), c100_i]) ?_
        refine k_st (st := [.int (nI p), .ref q]) hE 2 (c_L_plus G (A := (ldN (s_ar S) (s_L S) (s_B S) (s_t S) (s_G S) (nI p) i).toNat) (B := (FP.fdiv (FP.fmul (FP.i2f (nI wt)) (fB (levS S (s_G S) i).toNat)) c100).toNat) s8 s9 s10) gL_areLevels_L_plus rfl rfl rfl (by decide +kernel) ⟨(Nat.le_of_ble_eq_true rfl), (Nat.le_of_ble_eq_true rfl)⟩ rfl rfl dL_areLevels_185 rfl (Nat.le_of_ble_eq_true rfl) ⟨by show 1 + i + (1) ≤ 11; omega, by show 3 + 6 * i + (6) ≤ 63; omega⟩ ?_
        refine x_ieq (y := nI (ldN (s_ar S) (s_L S) (s_B S) (s_t S) (s_G S) (nI p) (i + 1)).toNat) (by rw [fB_of, fB_of, fB_of, ldN_y (ar := s_ar S) (n := i) ⟨by omega, ep⟩, ew]; rfl) ?_
        refine x_iast (f' := upd f p (nI (ldN (s_ar S) (s_L S) (s_B S) (s_t S) (s_G S) (nI p) (i + 1)).toNat)) hE (hh2.at (x_up_eq _ _ _)) (vp_in_nI (by omega) (by decide)) (x_updN _ (by omega) _) dL_areLevels_188 ?_
        have hh3 := hh2.up (x_up_eq _ _ _) (rowI G 3 (upd f p (nI (ldN (s_ar S) (s_L S) (s_B S) (s_t S) (s_G S) (nI p) (i + 1)).toNat)))
        rw [x_up_up] at hh3
        refine x_iinc (v := nI (i + 1)) (L' := [some (.ref xa), some (.ref ca), some (.ref ma), some (.ref la), some (.int (nI 1)), some (.ref q), some (.int (nI (i + 1))), some (.int (nI (levS S (s_G S) i).toNat)), some (.int (mxF (itA S i) (nI 0) 6)), some (.int (nI p)), none]) hE dL_areLevels_189 rfl (nI_1 _) rfl ?_
        refine x_goto (tgt := 11) hE dL_areLevels_192 (by decide) ?_
        refine x_widen (k := 1 + (i + 1)) (n := 3 + 6 * (i + 1)) (by omega) (by omega) ?_
        refine x_forget (L' := [some (.ref xa), some (.ref ca), some (.ref ma), some (.ref la), some (.int (nI 1)), some (.ref q), some (.int (nI (i + 1))), none, none, none, none]) (And.intro rfl (And.intro rfl (And.intro rfl (And.intro rfl (And.intro rfl (And.intro rfl (And.intro rfl trivial))))))) ?_
        exact ih (i + 1) (by omega) (by omega) _ _ hh3 (fun p' hp' => by
          by_cases z : p' = p
          · subst z; rw [upd_at]
          · rw [upd_ne z, hfl p' hp', ldN_n (fun y => z (x_nIinj (y.2.symm.trans ep) (by omega) (by omega)))])
    · replace c43 := x_nInle c43 (by omega) (by omega)
      refine x_aload_n hE dL_areLevels_46 rfl rfl ?_
      refine x_iload hE dL_areLevels_47 rfl ?_
      refine x_iconst (v := nI 0) hE dL_areLevels_49 (by decide) ?_
      refine k_ask (st := []) hE 2 (Q_playing G hh1.bw hf0 (c := j) (w := 0) (by omega) (by decide)) hh1.bw gL_areLevels_X7_playing rfl rfl rfl (by decide +kernel) ⟨(Nat.le_of_ble_eq_true rfl), (Nat.le_of_ble_eq_true rfl)⟩ rfl rfl dL_areLevels_50 rfl (Nat.le_of_ble_eq_true rfl) ⟨by show 1 + i ≤ 11; omega, by show 3 + 6 * i ≤ 63; omega⟩ ?_
      refine x_iconst (v := nI 1) hE dL_areLevels_53 (by decide) ?_
      refine x_icmp_ne (tgt := 70) hE dL_areLevels_54 (by decide) (fun c54 => ?_) (fun c54 => ?_)
      · refine x_iconst (v := nI 0) hE dL_areLevels_70 (by decide) ?_
        refine x_ieq (y := itA S i j) ((if_neg c54).symm) ?_
        refine x_istore (L' := [some (.ref xa), some (.ref ca), some (.ref ma), some (.ref la), some (.int (nI 1)), some (.ref q), some (.int (nI i)), some (.int (nI (levS S (s_G S) i).toNat)), some (.int (mxF (itA S i) (nI 0) j)), some (.int (nI j)), some (.int (itA S i j))]) hE dL_areLevels_71 (Nat.le_of_ble_eq_true rfl) rfl ?_
        refine x_iload hE dL_areLevels_73 rfl ?_
        refine x_iload hE dL_areLevels_75 rfl ?_
        refine x_icmp_le (tgt := 85) hE dL_areLevels_77 (by decide) (fun c77 => ?_) (fun c77 => ?_)
        · refine x_iload hE dL_areLevels_85 rfl ?_
          refine x_ieq (y := mxF (itA S i) (nI 0) (j + 1)) ((mxF_y c77).symm) ?_
          refine x_istore (L' := [some (.ref xa), some (.ref ca), some (.ref ma), some (.ref la), some (.int (nI 1)), some (.ref q), some (.int (nI i)), some (.int (nI (levS S (s_G S) i).toNat)), some (.int (mxF (itA S i) (nI 0) (j + 1))), some (.int (nI j)), some (.int (itA S i j))]) hE dL_areLevels_87 (Nat.le_of_ble_eq_true rfl) rfl ?_
          refine x_iinc (v := nI (j + 1)) (L' := [some (.ref xa), some (.ref ca), some (.ref ma), some (.ref la), some (.int (nI 1)), some (.ref q), some (.int (nI i)), some (.int (nI (levS S (s_G S) i).toNat)), some (.int (mxF (itA S i) (nI 0) (j + 1))), some (.int (nI (j + 1))), some (.int (itA S i j))]) hE dL_areLevels_89 rfl (nI_1 _) rfl ?_
          refine x_goto (tgt := 38) hE dL_areLevels_92 (by decide) ?_
          refine x_forget (L' := [some (.ref xa), some (.ref ca), some (.ref ma), some (.ref la), some (.int (nI 1)), some (.ref q), some (.int (nI i)), some (.int (nI (levS S (s_G S) i).toNat)), some (.int (mxF (itA S i) (nI 0) (j + 1))), some (.int (nI (j + 1))), none]) (And.intro rfl (And.intro rfl (And.intro rfl (And.intro rfl (And.intro rfl (And.intro rfl (And.intro rfl (And.intro rfl (And.intro rfl (And.intro rfl trivial)))))))))) ?_
          exact ih2 (j + 1) (by omega) (by omega)
        · refine x_iload hE dL_areLevels_80 rfl ?_
          refine x_goto (tgt := 87) hE dL_areLevels_82 (by decide) ?_
          refine x_ieq (y := mxF (itA S i) (nI 0) (j + 1)) ((mxF_n c77).symm) ?_
          refine x_istore (L' := [some (.ref xa), some (.ref ca), some (.ref ma), some (.ref la), some (.int (nI 1)), some (.ref q), some (.int (nI i)), some (.int (nI (levS S (s_G S) i).toNat)), some (.int (mxF (itA S i) (nI 0) (j + 1))), some (.int (nI j)), some (.int (itA S i j))]) hE dL_areLevels_87 (Nat.le_of_ble_eq_true rfl) rfl ?_
          refine x_iinc (v := nI (j + 1)) (L' := [some (.ref xa), some (.ref ca), some (.ref ma), some (.ref la), some (.int (nI 1)), some (.ref q), some (.int (nI i)), some (.int (nI (levS S (s_G S) i).toNat)), some (.int (mxF (itA S i) (nI 0) (j + 1))), some (.int (nI (j + 1))), some (.int (itA S i j))]) hE dL_areLevels_89 rfl (nI_1 _) rfl ?_
          refine x_goto (tgt := 38) hE dL_areLevels_92 (by decide) ?_
          refine x_forget (L' := [some (.ref xa), some (.ref ca), some (.ref ma), some (.ref la), some (.int (nI 1)), some (.ref q), some (.int (nI i)), some (.int (nI (levS S (s_G S) i).toNat)), some (.int (mxF (itA S i) (nI 0) (j + 1))), some (.int (nI (j + 1))), none]) (And.intro rfl (And.intro rfl (And.intro rfl (And.intro rfl (And.intro rfl (And.intro rfl (And.intro rfl (And.intro rfl (And.intro rfl (And.intro rfl trivial)))))))))) ?_
          exact ih2 (j + 1) (by omega) (by omega)
      · refine x_aload_n hE dL_areLevels_57 rfl rfl ?_
        refine x_iload hE dL_areLevels_58 rfl ?_
        refine x_iload hE dL_areLevels_60 rfl ?_
        refine x_aload_n hE dL_areLevels_62 rfl rfl ?_
        refine x_aload_n hE dL_areLevels_63 rfl rfl ?_
        refine k_st (st := []) hE 5 (D_levelBy G hh1.bw hS0 (hh1.at (hca1 f)) hcc (hh1.at (hla1 f)) hll (c := j) (u := i) (by omega) (by omega)) gL_areLevels_L_levelBy rfl rfl rfl (by decide +kernel) ⟨(Nat.le_of_ble_eq_true rfl), (Nat.le_of_ble_eq_true rfl)⟩ rfl rfl dL_areLevels_64 rfl (Nat.le_of_ble_eq_true rfl) ⟨by show 1 + i ≤ 11; omega, by show 3 + 6 * i ≤ 63; omega⟩ ?_
        refine x_goto (tgt := 71) hE dL_areLevels_67 (by decide) ?_
        refine x_ieq (y := itA S i j) ((if_pos c54).symm) ?_
        refine x_istore (L' := [some (.ref xa), some (.ref ca), some (.ref ma), some (.ref la), some (.int (nI 1)), some (.ref q), some (.int (nI i)), some (.int (nI (levS S (s_G S) i).toNat)), some (.int (mxF (itA S i) (nI 0) j)), some (.int (nI j)), some (.int (itA S i j))]) hE dL_areLevels_71 (Nat.le_of_ble_eq_true rfl) rfl ?_
        refine x_iload hE dL_areLevels_73 rfl ?_
        refine x_iload hE dL_areLevels_75 rfl ?_
        refine x_icmp_le (tgt := 85) hE dL_areLevels_77 (by decide) (fun c77 => ?_) (fun c77 => ?_)
        · refine x_iload hE dL_areLevels_85 rfl ?_
          refine x_ieq (y := mxF (itA S i) (nI 0) (j + 1)) ((mxF_y c77).symm) ?_
          refine x_istore (L' := [some (.ref xa), some (.ref ca), some (.ref ma), some (.ref la), some (.int (nI 1)), some (.ref q), some (.int (nI i)), some (.int (nI (levS S (s_G S) i).toNat)), some (.int (mxF (itA S i) (nI 0) (j + 1))), some (.int (nI j)), some (.int (itA S i j))]) hE dL_areLevels_87 (Nat.le_of_ble_eq_true rfl) rfl ?_
          refine x_iinc (v := nI (j + 1)) (L' := [some (.ref xa), some (.ref ca), some (.ref ma), some (.ref la), some (.int (nI 1)), some (.ref q), some (.int (nI i)), some (.int (nI (levS S (s_G S) i).toNat)), some (.int (mxF (itA S i) (nI 0) (j + 1))), some (.int (nI (j + 1))), some (.int (itA S i j))]) hE dL_areLevels_89 rfl (nI_1 _) rfl ?_
          refine x_goto (tgt := 38) hE dL_areLevels_92 (by decide) ?_
          refine x_forget (L' := [some (.ref xa), some (.ref ca), some (.ref ma), some (.ref la), some (.int (nI 1)), some (.ref q), some (.int (nI i)), some (.int (nI (levS S (s_G S) i).toNat)), some (.int (mxF (itA S i) (nI 0) (j + 1))), some (.int (nI (j + 1))), none]) (And.intro rfl (And.intro rfl (And.intro rfl (And.intro rfl (And.intro rfl (And.intro rfl (And.intro rfl (And.intro rfl (And.intro rfl (And.intro rfl trivial)))))))))) ?_
          exact ih2 (j + 1) (by omega) (by omega)
        · refine x_iload hE dL_areLevels_80 rfl ?_
          refine x_goto (tgt := 87) hE dL_areLevels_82 (by decide) ?_
          refine x_ieq (y := mxF (itA S i) (nI 0) (j + 1)) ((mxF_n c77).symm) ?_
          refine x_istore (L' := [some (.ref xa), some (.ref ca), some (.ref ma), some (.ref la), some (.int (nI 1)), some (.ref q), some (.int (nI i)), some (.int (nI (levS S (s_G S) i).toNat)), some (.int (mxF (itA S i) (nI 0) (j + 1))), some (.int (nI j)), some (.int (itA S i j))]) hE dL_areLevels_87 (Nat.le_of_ble_eq_true rfl) rfl ?_
          refine x_iinc (v := nI (j + 1)) (L' := [some (.ref xa), some (.ref ca), some (.ref ma), some (.ref la), some (.int (nI 1)), some (.ref q), some (.int (nI i)), some (.int (nI (levS S (s_G S) i).toNat)), some (.int (mxF (itA S i) (nI 0) (j + 1))), some (.int (nI (j + 1))), some (.int (itA S i j))]) hE dL_areLevels_89 rfl (nI_1 _) rfl ?_
          refine x_goto (tgt := 38) hE dL_areLevels_92 (by decide) ?_
          refine x_forget (L' := [some (.ref xa), some (.ref ca), some (.ref ma), some (.ref la), some (.int (nI 1)), some (.ref q), some (.int (nI i)), some (.int (nI (levS S (s_G S) i).toNat)), some (.int (mxF (itA S i) (nI 0) (j + 1))), some (.int (nI (j + 1))), none]) (And.intro rfl (And.intro rfl (And.intro rfl (And.intro rfl (And.intro rfl (And.intro rfl (And.intro rfl (And.intro rfl (And.intro rfl (And.intro rfl trivial)))))))))) ?_
          exact ih2 (j + 1) (by omega) (by omega)
