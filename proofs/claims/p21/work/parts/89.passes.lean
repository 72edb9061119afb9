theorem x_dup2 {G : XG} {F : XF} {cc : ByteArray} {own : String} {Ts : List Cond} {nL : Nat} {ret : Option FieldType} {rm : Room} {Q : State → Prop} {a b : Nat} {h : HM} {pc : Nat} {L : List (Option Value)} {st : List Value} (hE : x_E G F cc own Ts nL ret rm) {va vb : Value} (d : decode cc pc = .ok (.dup2, 1)) (hva : va.category = 1) (hvb : vb.category = 1) (kk : x_W G F Q a b h (pc + 1) L (va :: vb :: va :: vb :: st)) : x_W G F Q a b h pc L (va :: vb :: st) := fun H locs ls hH hS hL => lv_dup2_11 hE.1 hE.2.1 d hva hvb (kk H locs ls hH hS hL)
set_option maxHeartbeats 4000000 in
set_option maxRecDepth 100000 in
theorem c_L_passes (G : XG) {xa : Nat} {S : PS} {hA h : HM} (hh : lH G xa S hA h) (hS : lS S) {kk : Nat} (hI : iI S kk) (hk : kk ≤ 511) {ca : Nat} {cf : Nat → Int32} (hca : hA ca = some (rowI G 5 cf)) (hcc : lRc S cf) {ta : Nat} {tf : Nat → Int32} (hta : hA ta = some (rowI G 18 tf)) (htt : lRt S tf) {x n : Nat} (hx : x < 2 ^ 31) (hn : 1 + x % 20 = n) : w_M G (x_TF G) yL_passes wsL_passes ({ frames := 7, cells := s_n (passK S n) - s_n S + 2, slots := 3 * (s_n (passK S n) - s_n S) + 12, locals := 157 } : Room) [.ref xa, .int (nI x), .ref ca, .ref ta] h (fun v h' => v = some (.int (nI 1)) ∧ lH G xa (passK S n) (x_up hA ca (rowI G 5 (upd cf 3 (nI (s_t S + n))))) h') (s_n (passK S n) - s_n S + 2) (3 * (s_n (passK S n) - s_n S) + 12) := by
  refine w_M.of (cc := cL_passes) (maxL := 9) (ret := (some .boolean)) (ent := [some (.ref xa), some (.int (nI x)), some (.ref ca), some (.ref ta), none, none, none, none, none]) (by decide +kernel) rfl (Nat.le_of_ble_eq_true rfl) rfl rfl ?_
  intro F hE hname hT
  obtain ⟨hL10, hC6, hV⟩ := hS
  have hf := hI.1.1
  have hf0 := hf
  obtain ⟨f1, f2, f3, f4, f5⟩ := hf
  have g4 := f4
  have g2 := f2
  rw [hC6] at f2 f4
  have ht20 : s_t S < 2 ^ 20 := by have := hI.2.1; omega
  have hn1 : 1 ≤ n := by omega
  have hn2 : n ≤ 20 := by omega
  refine x_iconst (v := nI 1) hE dL_passes_0 (by decide) ?_
  refine x_iload_n hE dL_passes_1 rfl ?_
  refine x_bipush (v := nI 20) hE dL_passes_2 (by decide) ?_
  refine x_irem hE dL_passes_4 (by decide) ?_
  refine x_ieq (y := nI (x % 20)) (pk_rem (by omega) (by decide) (by decide)) ?_
  refine x_iadd hE dL_passes_5 ?_
  refine x_ieq (y := nI n) (by rw [nI_add, hn]) ?_
  refine x_istore (L' := [some (.ref xa), some (.int (nI x)), some (.ref ca), some (.ref ta), some (.int (nI n)), none, none, none, none]) hE dL_passes_6 (Nat.le_of_ble_eq_true rfl) rfl ?_
  refine x_iconst (v := nI 1) hE dL_passes_8 (by decide) ?_
  refine x_istore (L' := [some (.ref xa), some (.int (nI x)), some (.ref ca), some (.ref ta), some (.int (nI n)), some (.int (nI 1)), none, none, none]) hE dL_passes_9 (Nat.le_of_ble_eq_true rfl) rfl ?_
  refine x_bipush (v := nI 6) hE dL_passes_11 (by decide) ?_
  refine x_newa (t0 := 0) (cA := g_c G 0) (a0 := (6, .inl (fun _ => 0))) hE (List.mem_of_getElem? (i := 1) rfl) rfl rfl (fun C e => by cases e) (fun cA => rfl) (nI_pos (by decide)) (nI_clamp (by decide)) (by decide) (by show 0 + 1 ≤ s_n (passK S n) - s_n S + 2; omega) (by show 0 + 6 ≤ 3 * (s_n (passK S n) - s_n S) + 12; omega) dL_passes_13 (fun q hq0 => ?_)
  have hh1 := hh.new hq0 (rowI G 6 (fun _ => 0))
  have hqA := hh.no hq0
  have hca1 : ∀ f, x_up hA q (rowI G 6 f) ca = some (rowI G 5 cf) := fun f => (x_up_ne (x_none_ne hqA hca)).trans hca
  have hta1 : ∀ f, x_up hA q (rowI G 6 f) ta = some (rowI G 18 tf) := fun f => (x_up_ne (x_none_ne hqA hta)).trans hta
  refine x_astore (L' := [some (.ref xa), some (.int (nI x)), some (.ref ca), some (.ref ta), some (.int (nI n)), some (.int (nI 1)), some (.ref q), none, none]) hE dL_passes_15 (Nat.le_of_ble_eq_true rfl) rfl rfl ?_
  refine x_iconst (v := nI 0) hE dL_passes_17 (by decide) ?_
  refine x_istore (L' := [some (.ref xa), some (.int (nI x)), some (.ref ca), some (.ref ta), some (.int (nI n)), some (.int (nI 1)), some (.ref q), some (.int (nI 0)), none]) hE dL_passes_18 (Nat.le_of_ble_eq_true rfl) rfl ?_
  refine x_down (N := 6) (P := fun k => ∀ (h1 : HM) (wf : Nat → Int32), lH G xa S (x_up hA q (rowI G 6 wf)) h1 → (∀ j, j < k → wf j = playP S j 2) → x_W G F (x_Q G F (fun v h' => v = some (.int (nI 1)) ∧ lH G xa (passK S n) (x_up hA ca (rowI G 5 (upd cf 3 (nI (s_t S + n))))) h') (s_n (passK S n) - s_n S + 2) (3 * (s_n (passK S n) - s_n S) + 12)) (0 + 1) (0 + 6) h1 20 [some (.ref xa), some (.int (nI x)), some (.ref ca), some (.ref ta), some (.int (nI n)), some (.int (nI 1)), some (.ref q), some (.int (nI k)), none] []) (fun k hkN ih => ?_) 0 (by omega) _ _ hh1 (fun j hj => absurd hj (Nat.not_lt_zero j))
  intro h1 wf hh1 hwf
  refine x_iload hE dL_passes_20 rfl ?_
  refine x_aload_n hE dL_passes_22 rfl rfl ?_
  refine x_iconst (v := nI 1) hE dL_passes_23 (by decide) ?_
  refine x_iald (v := nI 6) hE (hh1.at (hca1 wf)) (vp_in_nI (by omega) (by decide)) (by rw [nI_clamp (by omega)]; exact hcc.2.1) dL_passes_24 ?_
  refine x_icmp_ge (tgt := 46) hE dL_passes_25 (by decide) (fun c25 => ?_) (fun c25 => ?_)
  · replace c25 := x_nIle c25 (by omega) (by omega)
    obtain rfl : k = 6 := by omega
    refine x_aload_n hE dL_passes_46 rfl rfl ?_
    refine x_iconst (v := nI 3) hE dL_passes_47 (by decide) ?_
    refine x_dup2 hE dL_passes_48 rfl rfl ?_
    refine x_iald (v := nI (s_t S)) hE (hh1.at (hca1 wf)) (vp_in_nI (by omega) (by decide)) (by rw [nI_clamp (by omega)]; exact hcc.2.2.2.1) dL_passes_49 ?_
    refine x_iload hE dL_passes_50 rfl ?_
    refine x_iadd hE dL_passes_52 ?_
    refine x_ieq (y := nI (s_t S + n)) (nI_add _ _) ?_
    refine x_iast (f' := (upd cf 3 (nI (s_t S + n)))) hE (hh1.at (hca1 wf)) (vp_in_nI (by omega) (by decide)) (x_updN _ (by omega) _) dL_passes_53 ?_
    have hqc : q ≠ ca := (x_none_ne hqA hca).symm
    have hh2 := hh1.up (hca1 wf) (rowI G 5 (upd cf 3 (nI (s_t S + n))))
    rw [x_up_cm hA _ _ hqc] at hh2
    generalize x_up h1 ca (rowI G 5 (upd cf 3 (nI (s_t S + n)))) = h2 at hh2 ⊢
    obtain ⟨hA2, eA2⟩ : ∃ hA2, x_up hA ca (rowI G 5 (upd cf 3 (nI (s_t S + n)))) = hA2 := ⟨_, rfl⟩
    rw [eA2] at hh2
    have hca2 : x_up hA2 q (rowI G 6 wf) ca = some (rowI G 5 (upd cf 3 (nI (s_t S + n)))) := by rw [x_up_ne hqc.symm, ← eA2]; exact x_up_eq _ _ _
    have hta2 : x_up hA2 q (rowI G 6 wf) ta = some (rowI G 18 tf) := by rw [x_up_ne (x_none_ne hqA hta), ← eA2]; exact (x_up_ne (row_ne hta hca (by decide))).trans hta
    have hqA2 : hA2 q = none := by rw [← eA2]; exact (x_up_ne hqc).trans hqA
    obtain ⟨Q9, hQ9⟩ : ∃ Q9, x_Q G F (fun v h' => v = some (.int (nI 1)) ∧ lH G xa (passK S n) (x_up hA ca (rowI G 5 (upd cf 3 (nI (s_t S + n))))) h') (s_n (passK S n) - s_n S + 2) (3 * (s_n (passK S n) - s_n S) + 12) = Q9 := ⟨_, rfl⟩
    rw [hQ9]
    obtain ⟨k1, k2, k3, k4, k5⟩ := passK_keep S n
    have hI2 := iI_pass hI hk hn2
    have hf2 := hI2.1.1
    have hGp := passK_G (S := S) n
    have hcap2 : s_n S ≤ s_n (passK S n) := by have := passK_le (k := n) (fun i hi => (iI_pI hI hk i (by omega)).1) 0 (Nat.zero_le _); exact this
    refine x_aload_n hE dL_passes_54 rfl rfl ?_
    refine x_iload hE dL_passes_55 rfl ?_
    refine k_call (st := []) hE hT 1 (m_pass G (fun j hj => (iI_pI hI hk j hj).1) hn1 hn2) hh2 gL_passes_X7_pass rfl rfl rfl (by decide +kernel) ⟨(Nat.le_of_ble_eq_true rfl), (Nat.le_of_ble_eq_true rfl)⟩ rfl rfl dL_passes_57 rfl (Nat.le_of_ble_eq_true rfl) ⟨by show 0 + 1 + (s_n (passK S n) - s_n S + 1) ≤ s_n (passK S n) - s_n S + 2; omega, by show 0 + 6 + (3 * (s_n (passK S n) - s_n S) + 6) ≤ 3 * (s_n (passK S n) - s_n S) + 12; omega⟩ (fun h3 hh3 => ?_) (fun E hE9 => hE9.elim)
    refine x_aload_n hE dL_passes_60 rfl rfl ?_
    refine x_iconst (v := nI 3) hE dL_passes_61 (by decide) ?_
    refine x_iald (v := nI (s_t S + n)) hE (hh3.at hca2) (vp_in_nI (by omega) (by decide)) (by rw [nI_clamp (by omega)]; exact (upd_at _ _ _)) dL_passes_62 ?_
    refine x_icmp_ne (tgt := 70) hE dL_passes_63 (by decide) (fun c63 => absurd (by rw [k5]) c63) (fun c63 => ?_)
    refine x_iconst (v := nI 1) hE dL_passes_66 (by decide) ?_
    refine x_goto (tgt := 71) hE dL_passes_67 (by decide) ?_
    refine x_istore (L' := [some (.ref xa), some (.int (nI x)), some (.ref ca), some (.ref ta), some (.int (nI n)), some (.int (nI 1)), some (.ref q), some (.int (nI 6)), none]) hE dL_passes_71 (Nat.le_of_ble_eq_true rfl) rfl ?_
    refine x_iconst (v := nI 0) hE dL_passes_73 (by decide) ?_
    refine x_istore (L' := [some (.ref xa), some (.int (nI x)), some (.ref ca), some (.ref ta), some (.int (nI n)), some (.int (nI 1)), some (.ref q), some (.int (nI 0)), none]) hE dL_passes_74 (Nat.le_of_ble_eq_true rfl) rfl ?_
    refine x_down (N := 6) (P := fun j => x_W G F Q9 (0 + 1 + (s_n (passK S n) - s_n S + 1)) (0 + 6 + (3 * (s_n (passK S n) - s_n S) + 6)) h3 76 [some (.ref xa), some (.int (nI x)), some (.ref ca), some (.ref ta), some (.int (nI n)), some (.int (nI 1)), some (.ref q), some (.int (nI j)), none] []) (fun j hjN ih2 => ?_) 0 (by omega)
    refine x_iload hE dL_passes_76 rfl ?_
    refine x_aload_n hE dL_passes_78 rfl rfl ?_
    refine x_iconst (v := nI 1) hE dL_passes_79 (by decide) ?_
    refine x_iald (v := nI 6) hE (hh3.at hca2) (vp_in_nI (by omega) (by decide)) (by rw [nI_clamp (by omega)]; exact (by rw [upd_ne (by decide)]; exact hcc.2.1)) dL_passes_80 ?_
    refine x_icmp_ge (tgt := 190) hE dL_passes_81 (by decide) (fun c81 => ?_) (fun c81 => ?_)
    · refine x_iload hE dL_passes_190 rfl ?_
      rw [← hQ9]
      obtain ⟨h4, hh4, hs4⟩ := hh3.drop hqA2
      refine x_drop hs4 ?_
      rw [← eA2] at hh4
      refine x_widen (k := s_n (passK S n) - s_n S + 2) (n := 3 * (s_n (passK S n) - s_n S) + 12) (by omega) (by omega) ?_
      exact x_zret hE (Or.inr rfl) dL_passes_192 (⟨rfl, hh4⟩)
    · replace c81 := x_nInle c81 (by omega) (by omega)
      refine x_iload hE dL_passes_84 rfl ?_
      refine x_if_eq (tgt := 190) hE dL_passes_86 (by decide) (fun c86 => absurd c86 (by decide)) (fun c86 => ?_)
      refine x_aload_n hE dL_passes_89 rfl rfl ?_
      refine x_iload hE dL_passes_90 rfl ?_
      refine x_iconst (v := nI 2) hE dL_passes_92 (by decide) ?_
      have hg6 := hf2.2.2.2.1
      rcases goF_act (c := j) hg6 with ⟨_, hno⟩ | ⟨g, hg1, hg2, _, hso⟩
      · obtain ⟨p0, p1, p2, p3⟩ := play_none hno
        refine k_ask (st := []) hE 2 (Q_playing G hh3.bw hf2 (c := j) (w := 2) (by omega) (by decide)) hh3.bw gL_passes_X7_playing rfl rfl rfl (by decide +kernel) ⟨(Nat.le_of_ble_eq_true rfl), (Nat.le_of_ble_eq_true rfl)⟩ rfl rfl dL_passes_93 rfl (Nat.le_of_ble_eq_true rfl) ⟨by show 0 + 1 + (s_n (passK S n) - s_n S + 1) ≤ s_n (passK S n) - s_n S + 2; omega, by show 0 + 6 + (3 * (s_n (passK S n) - s_n S) + 6) ≤ 3 * (s_n (passK S n) - s_n S) + 12; omega⟩ ?_
        refine x_ieq (y := (-1 : Int32)) (p2) ?_
        refine x_istore (L' := [some (.ref xa), some (.int (nI x)), some (.ref ca), some (.ref ta), some (.int (nI n)), some (.int (nI 1)), some (.ref q), some (.int (nI j)), some (.int (-1 : Int32))]) hE dL_passes_96 (Nat.le_of_ble_eq_true rfl) rfl ?_
        refine x_iload hE dL_passes_98 rfl ?_
        refine x_aload hE dL_passes_100 rfl rfl ?_
        refine x_iload hE dL_passes_102 rfl ?_
        refine x_iald (v := playP S j 2) hE (hh3.at (x_up_eq _ _ _)) (vp_in_nI (by omega) (by decide)) (by rw [nI_clamp (by omega)]; exact hwf j (by omega)) dL_passes_104 ?_
        refine x_icmp_eq (tgt := 125) hE dL_passes_105 (by decide) (fun c105 => ?_) (fun c105 => ?_)
        · refine x_iconst (v := nI 1) hE dL_passes_125 (by decide) ?_
          refine x_goto (tgt := 130) hE dL_passes_126 (by decide) ?_
          refine x_istore (L' := [some (.ref xa), some (.int (nI x)), some (.ref ca), some (.ref ta), some (.int (nI n)), some (.int (nI 1)), some (.ref q), some (.int (nI j)), some (.int (-1 : Int32))]) hE dL_passes_130 (Nat.le_of_ble_eq_true rfl) rfl ?_
          refine x_iload hE dL_passes_132 rfl ?_
          refine x_if_eq (tgt := 181) hE dL_passes_134 (by decide) (fun c134 => absurd c134 (by decide)) (fun c134 => ?_)
          refine x_aload_n hE dL_passes_137 rfl rfl ?_
          refine x_iload hE dL_passes_138 rfl ?_
          refine x_iconst (v := nI 1) hE dL_passes_140 (by decide) ?_
          refine k_ask (st := []) hE 2 (Q_playing G hh3.bw hf2 (c := j) (w := 1) (by omega) (by decide)) hh3.bw gL_passes_X7_playing rfl rfl rfl (by decide +kernel) ⟨(Nat.le_of_ble_eq_true rfl), (Nat.le_of_ble_eq_true rfl)⟩ rfl rfl dL_passes_141 rfl (Nat.le_of_ble_eq_true rfl) ⟨by show 0 + 1 + (s_n (passK S n) - s_n S + 1) ≤ s_n (passK S n) - s_n S + 2; omega, by show 0 + 6 + (3 * (s_n (passK S n) - s_n S) + 6) ≤ 3 * (s_n (passK S n) - s_n S) + 12; omega⟩ ?_
          refine x_ieq (y := nI 0) (p1) ?_
          refine x_if_eq (tgt := 177) hE dL_passes_144 (by decide) (fun c144 => ?_) (fun c144 => absurd c144 (by decide))
          refine x_iconst (v := nI 1) hE dL_passes_177 (by decide) ?_
          refine x_goto (tgt := 182) hE dL_passes_178 (by decide) ?_
          refine x_istore (L' := [some (.ref xa), some (.int (nI x)), some (.ref ca), some (.ref ta), some (.int (nI n)), some (.int (nI 1)), some (.ref q), some (.int (nI j)), some (.int (-1 : Int32))]) hE dL_passes_182 (Nat.le_of_ble_eq_true rfl) rfl ?_
          refine x_iinc (v := nI (j + 1)) (L' := [some (.ref xa), some (.int (nI x)), some (.ref ca), some (.ref ta), some (.int (nI n)), some (.int (nI 1)), some (.ref q), some (.int (nI (j + 1))), some (.int (-1 : Int32))]) hE dL_passes_184 rfl (nI_1 _) rfl ?_
          refine x_goto (tgt := 76) hE dL_passes_187 (by decide) ?_
          refine x_forget (L' := [some (.ref xa), some (.int (nI x)), some (.ref ca), some (.ref ta), some (.int (nI n)), some (.int (nI 1)), some (.ref q), some (.int (nI (j + 1))), none]) (And.intro rfl (And.intro rfl (And.intro rfl (And.intro rfl (And.intro rfl (And.intro rfl (And.intro rfl (And.intro rfl trivial)))))))) ?_
          exact ih2 (j + 1) (by omega) (by omega)
        · refine x_iload hE dL_passes_108 rfl ?_
          refine x_iconst (v := (-1 : Int32)) hE dL_passes_110 (by decide) ?_
          refine x_icmp_eq (tgt := 125) hE dL_passes_111 (by decide) (fun c111 => ?_) (fun c111 => absurd rfl c111)
          refine x_iconst (v := nI 1) hE dL_passes_125 (by decide) ?_
          refine x_goto (tgt := 130) hE dL_passes_126 (by decide) ?_
          refine x_istore (L' := [some (.ref xa), some (.int (nI x)), some (.ref ca), some (.ref ta), some (.int (nI n)), some (.int (nI 1)), some (.ref q), some (.int (nI j)), some (.int (-1 : Int32))]) hE dL_passes_130 (Nat.le_of_ble_eq_true rfl) rfl ?_
          refine x_iload hE dL_passes_132 rfl ?_
          refine x_if_eq (tgt := 181) hE dL_passes_134 (by decide) (fun c134 => absurd c134 (by decide)) (fun c134 => ?_)
          refine x_aload_n hE dL_passes_137 rfl rfl ?_
          refine x_iload hE dL_passes_138 rfl ?_
          refine x_iconst (v := nI 1) hE dL_passes_140 (by decide) ?_
          refine k_ask (st := []) hE 2 (Q_playing G hh3.bw hf2 (c := j) (w := 1) (by omega) (by decide)) hh3.bw gL_passes_X7_playing rfl rfl rfl (by decide +kernel) ⟨(Nat.le_of_ble_eq_true rfl), (Nat.le_of_ble_eq_true rfl)⟩ rfl rfl dL_passes_141 rfl (Nat.le_of_ble_eq_true rfl) ⟨by show 0 + 1 + (s_n (passK S n) - s_n S + 1) ≤ s_n (passK S n) - s_n S + 2; omega, by show 0 + 6 + (3 * (s_n (passK S n) - s_n S) + 6) ≤ 3 * (s_n (passK S n) - s_n S) + 12; omega⟩ ?_
          refine x_ieq (y := nI 0) (p1) ?_
          refine x_if_eq (tgt := 177) hE dL_passes_144 (by decide) (fun c144 => ?_) (fun c144 => absurd c144 (by decide))
          refine x_iconst (v := nI 1) hE dL_passes_177 (by decide) ?_
          refine x_goto (tgt := 182) hE dL_passes_178 (by decide) ?_
          refine x_istore (L' := [some (.ref xa), some (.int (nI x)), some (.ref ca), some (.ref ta), some (.int (nI n)), some (.int (nI 1)), some (.ref q), some (.int (nI j)), some (.int (-1 : Int32))]) hE dL_passes_182 (Nat.le_of_ble_eq_true rfl) rfl ?_
          refine x_iinc (v := nI (j + 1)) (L' := [some (.ref xa), some (.int (nI x)), some (.ref ca), some (.ref ta), some (.int (nI n)), some (.int (nI 1)), some (.ref q), some (.int (nI (j + 1))), some (.int (-1 : Int32))]) hE dL_passes_184 rfl (nI_1 _) rfl ?_
          refine x_goto (tgt := 76) hE dL_passes_187 (by decide) ?_
          refine x_forget (L' := [some (.ref xa), some (.int (nI x)), some (.ref ca), some (.ref ta), some (.int (nI n)), some (.int (nI 1)), some (.ref q), some (.int (nI (j + 1))), none]) (And.intro rfl (And.intro rfl (And.intro rfl (And.intro rfl (And.intro rfl (And.intro rfl (And.intro rfl (And.intro rfl trivial)))))))) ?_
          exact ih2 (j + 1) (by omega) (by omega)
      · obtain ⟨p0, p1, p2, p3⟩ := play_some hso
        have hgo := hf2.2.2.2.2 g hg1
        have hw2 : g.2.1 < 2 ^ 31 := by have a := hgo.2.2.1; rw [k5] at a; omega
        refine k_ask (st := []) hE 2 (Q_playing G hh3.bw hf2 (c := j) (w := 2) (by omega) (by decide)) hh3.bw gL_passes_X7_playing rfl rfl rfl (by decide +kernel) ⟨(Nat.le_of_ble_eq_true rfl), (Nat.le_of_ble_eq_true rfl)⟩ rfl rfl dL_passes_93 rfl (Nat.le_of_ble_eq_true rfl) ⟨by show 0 + 1 + (s_n (passK S n) - s_n S + 1) ≤ s_n (passK S n) - s_n S + 2; omega, by show 0 + 6 + (3 * (s_n (passK S n) - s_n S) + 6) ≤ 3 * (s_n (passK S n) - s_n S) + 12; omega⟩ ?_
        refine x_ieq (y := nI g.2.1) (p2) ?_
        refine x_istore (L' := [some (.ref xa), some (.int (nI x)), some (.ref ca), some (.ref ta), some (.int (nI n)), some (.int (nI 1)), some (.ref q), some (.int (nI j)), some (.int (nI g.2.1))]) hE dL_passes_96 (Nat.le_of_ble_eq_true rfl) rfl ?_
        refine x_iload hE dL_passes_98 rfl ?_
        refine x_aload hE dL_passes_100 rfl rfl ?_
        refine x_iload hE dL_passes_102 rfl ?_
        refine x_iald (v := playP S j 2) hE (hh3.at (x_up_eq _ _ _)) (vp_in_nI (by omega) (by decide)) (by rw [nI_clamp (by omega)]; exact hwf j (by omega)) dL_passes_104 ?_
        rcases hGp g hg1 with hz | hz
        · have hso1 := goF_some f4.1 hz hg2
          have hgo1 := f5 g hz
          refine x_ieq (y := nI g.2.1) ((play_some hso1).2.2.1) ?_
          refine x_icmp_eq (tgt := 125) hE dL_passes_105 (by decide) (fun c105 => ?_) (fun c105 => absurd rfl c105)
          refine x_iconst (v := nI 1) hE dL_passes_125 (by decide) ?_
          refine x_goto (tgt := 130) hE dL_passes_126 (by decide) ?_
          refine x_istore (L' := [some (.ref xa), some (.int (nI x)), some (.ref ca), some (.ref ta), some (.int (nI n)), some (.int (nI 1)), some (.ref q), some (.int (nI j)), some (.int (nI g.2.1))]) hE dL_passes_130 (Nat.le_of_ble_eq_true rfl) rfl ?_
          refine x_iload hE dL_passes_132 rfl ?_
          refine x_if_eq (tgt := 181) hE dL_passes_134 (by decide) (fun c134 => absurd c134 (by decide)) (fun c134 => ?_)
          refine x_aload_n hE dL_passes_137 rfl rfl ?_
          refine x_iload hE dL_passes_138 rfl ?_
          refine x_iconst (v := nI 1) hE dL_passes_140 (by decide) ?_
          refine k_ask (st := []) hE 2 (Q_playing G hh3.bw hf2 (c := j) (w := 1) (by omega) (by decide)) hh3.bw gL_passes_X7_playing rfl rfl rfl (by decide +kernel) ⟨(Nat.le_of_ble_eq_true rfl), (Nat.le_of_ble_eq_true rfl)⟩ rfl rfl dL_passes_141 rfl (Nat.le_of_ble_eq_true rfl) ⟨by show 0 + 1 + (s_n (passK S n) - s_n S + 1) ≤ s_n (passK S n) - s_n S + 2; omega, by show 0 + 6 + (3 * (s_n (passK S n) - s_n S) + 6) ≤ 3 * (s_n (passK S n) - s_n S) + 12; omega⟩ ?_
          by_cases hr : relI g.2.2 = -1
          · refine x_ieq (y := nI 0) (by rw [p1, if_pos hr]) ?_
            refine x_if_eq (tgt := 177) hE dL_passes_144 (by decide) (fun c144 => ?_) (fun c144 => absurd c144 (by decide))
            refine x_iconst (v := nI 1) hE dL_passes_177 (by decide) ?_
            refine x_goto (tgt := 182) hE dL_passes_178 (by decide) ?_
            refine x_istore (L' := [some (.ref xa), some (.int (nI x)), some (.ref ca), some (.ref ta), some (.int (nI n)), some (.int (nI 1)), some (.ref q), some (.int (nI j)), some (.int (nI g.2.1))]) hE dL_passes_182 (Nat.le_of_ble_eq_true rfl) rfl ?_
            refine x_iinc (v := nI (j + 1)) (L' := [some (.ref xa), some (.int (nI x)), some (.ref ca), some (.ref ta), some (.int (nI n)), some (.int (nI 1)), some (.ref q), some (.int (nI (j + 1))), some (.int (nI g.2.1))]) hE dL_passes_184 rfl (nI_1 _) rfl ?_
            refine x_goto (tgt := 76) hE dL_passes_187 (by decide) ?_
            refine x_forget (L' := [some (.ref xa), some (.int (nI x)), some (.ref ca), some (.ref ta), some (.int (nI n)), some (.int (nI 1)), some (.ref q), some (.int (nI (j + 1))), none]) (And.intro rfl (And.intro rfl (And.intro rfl (And.intro rfl (And.intro rfl (And.intro rfl (And.intro rfl (And.intro rfl trivial)))))))) ?_
            exact ih2 (j + 1) (by omega) (by omega)
          · obtain ⟨_, ⟨d, hd, ed, hdd⟩, _⟩ := id hgo
            have hr0 : g.2.2 ≠ 0 := fun z => hr (by rw [z]; rfl)
            have hdd2 := hdd hr0
            rw [k5] at hdd2
            have hrt := hgo1.2.2.2.1
            have hwt := hgo1.2.2.1
            refine x_ieq (y := nI 1) (by rw [p1, if_neg hr]) ?_
            refine x_if_eq (tgt := 177) hE dL_passes_144 (by decide) (fun c144 => absurd c144 (by decide)) (fun c144 => ?_)
            refine x_iload hE dL_passes_147 rfl ?_
            refine x_iconst (v := (-1 : Int32)) hE dL_passes_149 (by decide) ?_
            refine x_icmp_eq (tgt := 177) hE dL_passes_150 (by decide) (fun c150 => absurd c150 (nI_nm (by omega))) (fun c150 => ?_)
            refine x_iload hE dL_passes_153 rfl ?_
            refine x_aload_n hE dL_passes_155 rfl rfl ?_
            refine x_iconst (v := nI 3) hE dL_passes_156 (by decide) ?_
            refine x_iald (v := nI (s_t S + n)) hE (hh3.at hca2) (vp_in_nI (by omega) (by decide)) (by rw [nI_clamp (by omega)]; exact (upd_at _ _ _)) dL_passes_157 ?_
            refine x_iload hE dL_passes_158 rfl ?_
            refine x_isub hE dL_passes_160 ?_
            refine x_ieq (y := nI (s_t S)) (by rw [pk_sub (by omega)]; congr 1; omega) ?_
            refine x_icmp_gt (tgt := 177) hE dL_passes_161 (by decide) (fun c161 => absurd (x_nIlt c161 (by omega) (by omega)) (by omega)) (fun c161 => ?_)
            refine x_iload hE dL_passes_164 rfl ?_
            refine x_aload_n hE dL_passes_166 rfl rfl ?_
            refine x_iconst (v := nI 3) hE dL_passes_167 (by decide) ?_
            refine x_iload hE dL_passes_168 rfl ?_
            refine x_imul hE dL_passes_170 ?_
            refine x_ieq (y := nI (3 * j)) (pk_mul _ _) ?_
            refine x_iconst (v := nI 2) hE dL_passes_171 (by decide) ?_
            refine x_iadd hE dL_passes_172 ?_
            refine x_ieq (y := nI (3 * j + 2)) (nI_add _ _) ?_
            refine x_iald (v := nI d) hE (hh3.at hta2) (vp_in_nI (by omega) (by decide)) (by rw [nI_clamp (by omega)]; exact ((htt j (by omega)).2.2.trans (by rw [← hg2, ← k1]; exact ed))) dL_passes_173 ?_
            refine x_icmp_ge (tgt := 181) hE dL_passes_174 (by decide) (fun c174 => absurd (x_nIle c174 (by omega) (by omega)) (by omega)) (fun c174 => ?_)
            refine x_iconst (v := nI 1) hE dL_passes_177 (by decide) ?_
            refine x_goto (tgt := 182) hE dL_passes_178 (by decide) ?_
            refine x_istore (L' := [some (.ref xa), some (.int (nI x)), some (.ref ca), some (.ref ta), some (.int (nI n)), some (.int (nI 1)), some (.ref q), some (.int (nI j)), some (.int (nI g.2.1))]) hE dL_passes_182 (Nat.le_of_ble_eq_true rfl) rfl ?_
            refine x_iinc (v := nI (j + 1)) (L' := [some (.ref xa), some (.int (nI x)), some (.ref ca), some (.ref ta), some (.int (nI n)), some (.int (nI 1)), some (.ref q), some (.int (nI (j + 1))), some (.int (nI g.2.1))]) hE dL_passes_184 rfl (nI_1 _) rfl ?_
            refine x_goto (tgt := 76) hE dL_passes_187 (by decide) ?_
            refine x_forget (L' := [some (.ref xa), some (.int (nI x)), some (.ref ca), some (.ref ta), some (.int (nI n)), some (.int (nI 1)), some (.ref q), some (.int (nI (j + 1))), none]) (And.intro rfl (And.intro rfl (And.intro rfl (And.intro rfl (And.intro rfl (And.intro rfl (And.intro rfl (And.intro rfl trivial)))))))) ?_
            exact ih2 (j + 1) (by omega) (by omega)
        · refine x_icmp_eq (tgt := 125) hE dL_passes_105 (by decide) (fun c105 => ?_) (fun c105 => ?_)
          · refine x_iconst (v := nI 1) hE dL_passes_125 (by decide) ?_
            refine x_goto (tgt := 130) hE dL_passes_126 (by decide) ?_
            refine x_istore (L' := [some (.ref xa), some (.int (nI x)), some (.ref ca), some (.ref ta), some (.int (nI n)), some (.int (nI 1)), some (.ref q), some (.int (nI j)), some (.int (nI g.2.1))]) hE dL_passes_130 (Nat.le_of_ble_eq_true rfl) rfl ?_
            refine x_iload hE dL_passes_132 rfl ?_
            refine x_if_eq (tgt := 181) hE dL_passes_134 (by decide) (fun c134 => absurd c134 (by decide)) (fun c134 => ?_)
            refine x_aload_n hE dL_passes_137 rfl rfl ?_
            refine x_iload hE dL_passes_138 rfl ?_
            refine x_iconst (v := nI 1) hE dL_passes_140 (by decide) ?_
            refine k_ask (st := []) hE 2 (Q_playing G hh3.bw hf2 (c := j) (w := 1) (by omega) (by decide)) hh3.bw gL_passes_X7_playing rfl rfl rfl (by decide +kernel) ⟨(Nat.le_of_ble_eq_true rfl), (Nat.le_of_ble_eq_true rfl)⟩ rfl rfl dL_passes_141 rfl (Nat.le_of_ble_eq_true rfl) ⟨by show 0 + 1 + (s_n (passK S n) - s_n S + 1) ≤ s_n (passK S n) - s_n S + 2; omega, by show 0 + 6 + (3 * (s_n (passK S n) - s_n S) + 6) ≤ 3 * (s_n (passK S n) - s_n S) + 12; omega⟩ ?_
            by_cases hr : relI g.2.2 = -1
            · refine x_ieq (y := nI 0) (by rw [p1, if_pos hr]) ?_
              refine x_if_eq (tgt := 177) hE dL_passes_144 (by decide) (fun c144 => ?_) (fun c144 => absurd c144 (by decide))
              refine x_iconst (v := nI 1) hE dL_passes_177 (by decide) ?_
              refine x_goto (tgt := 182) hE dL_passes_178 (by decide) ?_
              refine x_istore (L' := [some (.ref xa), some (.int (nI x)), some (.ref ca), some (.ref ta), some (.int (nI n)), some (.int (nI 1)), some (.ref q), some (.int (nI j)), some (.int (nI g.2.1))]) hE dL_passes_182 (Nat.le_of_ble_eq_true rfl) rfl ?_
              refine x_iinc (v := nI (j + 1)) (L' := [some (.ref xa), some (.int (nI x)), some (.ref ca), some (.ref ta), some (.int (nI n)), some (.int (nI 1)), some (.ref q), some (.int (nI (j + 1))), some (.int (nI g.2.1))]) hE dL_passes_184 rfl (nI_1 _) rfl ?_
              refine x_goto (tgt := 76) hE dL_passes_187 (by decide) ?_
              refine x_forget (L' := [some (.ref xa), some (.int (nI x)), some (.ref ca), some (.ref ta), some (.int (nI n)), some (.int (nI 1)), some (.ref q), some (.int (nI (j + 1))), none]) (And.intro rfl (And.intro rfl (And.intro rfl (And.intro rfl (And.intro rfl (And.intro rfl (And.intro rfl (And.intro rfl trivial)))))))) ?_
              exact ih2 (j + 1) (by omega) (by omega)
            · refine x_ieq (y := nI 1) (by rw [p1, if_neg hr]) ?_
              refine x_if_eq (tgt := 177) hE dL_passes_144 (by decide) (fun c144 => absurd c144 (by decide)) (fun c144 => ?_)
              refine x_iload hE dL_passes_147 rfl ?_
              refine x_iconst (v := (-1 : Int32)) hE dL_passes_149 (by decide) ?_
              refine x_icmp_eq (tgt := 177) hE dL_passes_150 (by decide) (fun c150 => absurd c150 (nI_nm hw2)) (fun c150 => ?_)
              refine x_iload hE dL_passes_153 rfl ?_
              refine x_aload_n hE dL_passes_155 rfl rfl ?_
              refine x_iconst (v := nI 3) hE dL_passes_156 (by decide) ?_
              refine x_iald (v := nI (s_t S + n)) hE (hh3.at hca2) (vp_in_nI (by omega) (by decide)) (by rw [nI_clamp (by omega)]; exact (upd_at _ _ _)) dL_passes_157 ?_
              refine x_iload hE dL_passes_158 rfl ?_
              refine x_isub hE dL_passes_160 ?_
              refine x_ieq (y := nI (s_t S)) (by rw [pk_sub (by omega)]; congr 1; omega) ?_
              refine x_icmp_gt (tgt := 177) hE dL_passes_161 (by decide) (fun c161 => ?_) (fun c161 => absurd ((nI_ltI (by omega) hw2).mpr hz) c161)
              refine x_iconst (v := nI 1) hE dL_passes_177 (by decide) ?_
              refine x_goto (tgt := 182) hE dL_passes_178 (by decide) ?_
              refine x_istore (L' := [some (.ref xa), some (.int (nI x)), some (.ref ca), some (.ref ta), some (.int (nI n)), some (.int (nI 1)), some (.ref q), some (.int (nI j)), some (.int (nI g.2.1))]) hE dL_passes_182 (Nat.le_of_ble_eq_true rfl) rfl ?_
              refine x_iinc (v := nI (j + 1)) (L' := [some (.ref xa), some (.int (nI x)), some (.ref ca), some (.ref ta), some (.int (nI n)), some (.int (nI 1)), some (.ref q), some (.int (nI (j + 1))), some (.int (nI g.2.1))]) hE dL_passes_184 rfl (nI_1 _) rfl ?_
              refine x_goto (tgt := 76) hE dL_passes_187 (by decide) ?_
              refine x_forget (L' := [some (.ref xa), some (.int (nI x)), some (.ref ca), some (.ref ta), some (.int (nI n)), some (.int (nI 1)), some (.ref q), some (.int (nI (j + 1))), none]) (And.intro rfl (And.intro rfl (And.intro rfl (And.intro rfl (And.intro rfl (And.intro rfl (And.intro rfl (And.intro rfl trivial)))))))) ?_
              exact ih2 (j + 1) (by omega) (by omega)
          · refine x_iload hE dL_passes_108 rfl ?_
            refine x_iconst (v := (-1 : Int32)) hE dL_passes_110 (by decide) ?_
            refine x_icmp_eq (tgt := 125) hE dL_passes_111 (by decide) (fun c111 => absurd c111 (nI_nm hw2)) (fun c111 => ?_)
            refine x_iload hE dL_passes_114 rfl ?_
            refine x_aload_n hE dL_passes_116 rfl rfl ?_
            refine x_iconst (v := nI 3) hE dL_passes_117 (by decide) ?_
            refine x_iald (v := nI (s_t S + n)) hE (hh3.at hca2) (vp_in_nI (by omega) (by decide)) (by rw [nI_clamp (by omega)]; exact (upd_at _ _ _)) dL_passes_118 ?_
            refine x_iload hE dL_passes_119 rfl ?_
            refine x_isub hE dL_passes_121 ?_
            refine x_ieq (y := nI (s_t S)) (by rw [pk_sub (by omega)]; congr 1; omega) ?_
            refine x_icmp_le (tgt := 129) hE dL_passes_122 (by decide) (fun c122 => absurd (x_nIle c122 hw2 (by omega)) (by omega)) (fun c122 => ?_)
            refine x_iconst (v := nI 1) hE dL_passes_125 (by decide) ?_
            refine x_goto (tgt := 130) hE dL_passes_126 (by decide) ?_
            refine x_istore (L' := [some (.ref xa), some (.int (nI x)), some (.ref ca), some (.ref ta), some (.int (nI n)), some (.int (nI 1)), some (.ref q), some (.int (nI j)), some (.int (nI g.2.1))]) hE dL_passes_130 (Nat.le_of_ble_eq_true rfl) rfl ?_
            refine x_iload hE dL_passes_132 rfl ?_
            refine x_if_eq (tgt := 181) hE dL_passes_134 (by decide) (fun c134 => absurd c134 (by decide)) (fun c134 => ?_)
            refine x_aload_n hE dL_passes_137 rfl rfl ?_
            refine x_iload hE dL_passes_138 rfl ?_
            refine x_iconst (v := nI 1) hE dL_passes_140 (by decide) ?_
            refine k_ask (st := []) hE 2 (Q_playing G hh3.bw hf2 (c := j) (w := 1) (by omega) (by decide)) hh3.bw gL_passes_X7_playing rfl rfl rfl (by decide +kernel) ⟨(Nat.le_of_ble_eq_true rfl), (Nat.le_of_ble_eq_true rfl)⟩ rfl rfl dL_passes_141 rfl (Nat.le_of_ble_eq_true rfl) ⟨by show 0 + 1 + (s_n (passK S n) - s_n S + 1) ≤ s_n (passK S n) - s_n S + 2; omega, by show 0 + 6 + (3 * (s_n (passK S n) - s_n S) + 6) ≤ 3 * (s_n (passK S n) - s_n S) + 12; omega⟩ ?_
            by_cases hr : relI g.2.2 = -1
            · refine x_ieq (y := nI 0) (by rw [p1, if_pos hr]) ?_
              refine x_if_eq (tgt := 177) hE dL_passes_144 (by decide) (fun c144 => ?_) (fun c144 => absurd c144 (by decide))
              refine x_iconst (v := nI 1) hE dL_passes_177 (by decide) ?_
              refine x_goto (tgt := 182) hE dL_passes_178 (by decide) ?_
              refine x_istore (L' := [some (.ref xa), some (.int (nI x)), some (.ref ca), some (.ref ta), some (.int (nI n)), some (.int (nI 1)), some (.ref q), some (.int (nI j)), some (.int (nI g.2.1))]) hE dL_passes_182 (Nat.le_of_ble_eq_true rfl) rfl ?_
              refine x_iinc (v := nI (j + 1)) (L' := [some (.ref xa), some (.int (nI x)), some (.ref ca), some (.ref ta), some (.int (nI n)), some (.int (nI 1)), some (.ref q), some (.int (nI (j + 1))), some (.int (nI g.2.1))]) hE dL_passes_184 rfl (nI_1 _) rfl ?_
              refine x_goto (tgt := 76) hE dL_passes_187 (by decide) ?_
              refine x_forget (L' := [some (.ref xa), some (.int (nI x)), some (.ref ca), some (.ref ta), some (.int (nI n)), some (.int (nI 1)), some (.ref q), some (.int (nI (j + 1))), none]) (And.intro rfl (And.intro rfl (And.intro rfl (And.intro rfl (And.intro rfl (And.intro rfl (And.intro rfl (And.intro rfl trivial)))))))) ?_
              exact ih2 (j + 1) (by omega) (by omega)
            · refine x_ieq (y := nI 1) (by rw [p1, if_neg hr]) ?_
              refine x_if_eq (tgt := 177) hE dL_passes_144 (by decide) (fun c144 => absurd c144 (by decide)) (fun c144 => ?_)
              refine x_iload hE dL_passes_147 rfl ?_
              refine x_iconst (v := (-1 : Int32)) hE dL_passes_149 (by decide) ?_
              refine x_icmp_eq (tgt := 177) hE dL_passes_150 (by decide) (fun c150 => absurd c150 (nI_nm hw2)) (fun c150 => ?_)
              refine x_iload hE dL_passes_153 rfl ?_
              refine x_aload_n hE dL_passes_155 rfl rfl ?_
              refine x_iconst (v := nI 3) hE dL_passes_156 (by decide) ?_
              refine x_iald (v := nI (s_t S + n)) hE (hh3.at hca2) (vp_in_nI (by omega) (by decide)) (by rw [nI_clamp (by omega)]; exact (upd_at _ _ _)) dL_passes_157 ?_
              refine x_iload hE dL_passes_158 rfl ?_
              refine x_isub hE dL_passes_160 ?_
              refine x_ieq (y := nI (s_t S)) (by rw [pk_sub (by omega)]; congr 1; omega) ?_
              refine x_icmp_gt (tgt := 177) hE dL_passes_161 (by decide) (fun c161 => ?_) (fun c161 => absurd ((nI_ltI (by omega) hw2).mpr hz) c161)
              refine x_iconst (v := nI 1) hE dL_passes_177 (by decide) ?_
              refine x_goto (tgt := 182) hE dL_passes_178 (by decide) ?_
              refine x_istore (L' := [some (.ref xa), some (.int (nI x)), some (.ref ca), some (.ref ta), some (.int (nI n)), some (.int (nI 1)), some (.ref q), some (.int (nI j)), some (.int (nI g.2.1))]) hE dL_passes_182 (Nat.le_of_ble_eq_true rfl) rfl ?_
              refine x_iinc (v := nI (j + 1)) (L' := [some (.ref xa), some (.int (nI x)), some (.ref ca), some (.ref ta), some (.int (nI n)), some (.int (nI 1)), some (.ref q), some (.int (nI (j + 1))), some (.int (nI g.2.1))]) hE dL_passes_184 rfl (nI_1 _) rfl ?_
              refine x_goto (tgt := 76) hE dL_passes_187 (by decide) ?_
              refine x_forget (L' := [some (.ref xa), some (.int (nI x)), some (.ref ca), some (.ref ta), some (.int (nI n)), some (.int (nI 1)), some (.ref q), some (.int (nI (j + 1))), none]) (And.intro rfl (And.intro rfl (And.intro rfl (And.intro rfl (And.intro rfl (And.intro rfl (And.intro rfl (And.intro rfl trivial)))))))) ?_
              exact ih2 (j + 1) (by omega) (by omega)
  · replace c25 := x_nInle c25 (by omega) (by omega)
    refine x_aload hE dL_passes_28 rfl rfl ?_
    refine x_iload hE dL_passes_30 rfl ?_
    refine x_aload_n hE dL_passes_32 rfl rfl ?_
    refine x_iload hE dL_passes_33 rfl ?_
    refine x_iconst (v := nI 2) hE dL_passes_35 (by decide) ?_
    refine k_ask (st := [.int (nI k), .ref q]) hE 2 (Q_playing G hh1.bw hf0 (c := k) (w := 2) (by omega) (by decide)) hh1.bw gL_passes_X7_playing rfl rfl rfl (by decide +kernel) ⟨(Nat.le_of_ble_eq_true rfl), (Nat.le_of_ble_eq_true rfl)⟩ rfl rfl dL_passes_36 rfl (Nat.le_of_ble_eq_true rfl) ⟨by show 0 + 1 ≤ s_n (passK S n) - s_n S + 2; omega, by show 0 + 6 ≤ 3 * (s_n (passK S n) - s_n S) + 12; omega⟩ ?_
    refine x_iast (f' := upd wf k (playP S k 2)) hE (hh1.at (x_up_eq _ _ _)) (vp_in_nI (by omega) (by decide)) (x_updN _ (by omega) _) dL_passes_39 ?_
    have hh3 := hh1.up (x_up_eq _ _ _) (rowI G 6 (upd wf k (playP S k 2)))
    rw [x_up_up] at hh3
    refine x_iinc (v := nI (k + 1)) (L' := [some (.ref xa), some (.int (nI x)), some (.ref ca), some (.ref ta), some (.int (nI n)), some (.int (nI 1)), some (.ref q), some (.int (nI (k + 1))), none]) hE dL_passes_40 rfl (nI_1 _) rfl ?_
    refine x_goto (tgt := 20) hE dL_passes_43 (by decide) ?_
    exact ih (k + 1) (by omega) (by omega) _ _ hh3 (fun j hj => by
      by_cases z : j = k
      · rw [z, upd_at]
      · rw [upd_ne z]; exact hwf j (by omega))
