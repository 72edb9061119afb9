set_option maxHeartbeats 4000000 in
set_option maxRecDepth 100000 in
theorem c_L_areShining (G : XG) {ad ow : Nat → Nat} {eA : Nat} {A1 P1 : List Nat} {c1 : Nat → GC} {A2 P2 : List Nat} {c2 : Nat → GC} {RY : List Nat} {S : PS} {h : HM} (hW : cW G ad ow eA A1 P1 c1 A2 P2 c2 RY S h) (hS : lS S) {ca : Nat} {cf : Nat → Int32} (hca : h ca = some (rowI G 5 cf)) (hcc : lRc S cf) {ma : Nat} {mf : Nat → Int32} (hma : h ma = some (rowI G 60 mf)) (hmm : lRm S mf) {la : Nat} {lf : Nat → Int32} (hla : h la = some (rowI G 60 lf)) (hll : lRl S lf) (ht : toI (s_ar S) (s_C S)) {c : Nat} (hc : c < 6) : x_M G yL_areShining wsL_areShining ({ frames := 7, cells := 0, slots := 0, locals := 113 } : Room) [.ref (ad 0), .int (nI c), .ref ca, .ref ma, .ref la] h (x_is (some (.int (nI 1))) h) 0 0 := by
  refine x_M.of (cc := cL_areShining) (maxL := 13) (ret := (some .boolean)) (ent := [some (.ref (ad 0)), some (.int (nI c)), some (.ref ca), some (.ref ma), some (.ref la), none, none, none, none, none, none, none, none]) (by decide +kernel) rfl (Nat.le_of_ble_eq_true rfl) rfl rfl ?_
  intro F hE hname
  have hS0 := hS
  obtain ⟨hL10, hC6, hV⟩ := hS
  rw [hC6] at ht
  refine x_iconst (v := nI 0) hE dL_areShining_0 (by decide) ?_
  refine x_istore (L' := [some (.ref (ad 0)), some (.int (nI c)), some (.ref ca), some (.ref ma), some (.ref la), some (.int (nI 0)), none, none, none, none, none, none, none]) hE dL_areShining_1 (Nat.le_of_ble_eq_true rfl) rfl ?_
  refine x_iconst (v := nI 1) hE dL_areShining_3 (by decide) ?_
  refine x_istore (L' := [some (.ref (ad 0)), some (.int (nI c)), some (.ref ca), some (.ref ma), some (.ref la), some (.int (nI 0)), some (.int (nI 1)), none, none, none, none, none, none]) hE dL_areShining_4 (Nat.le_of_ble_eq_true rfl) rfl ?_
  refine x_iconst (v := nI 0) hE dL_areShining_6 (by decide) ?_
  refine x_istore (L' := [some (.ref (ad 0)), some (.int (nI c)), some (.ref ca), some (.ref ma), some (.ref la), some (.int (nI 0)), some (.int (nI 1)), some (.int (nI 0)), none, none, none, none, none]) hE dL_areShining_7 (Nat.le_of_ble_eq_true rfl) rfl ?_
  refine x_down (N := 10) (P := fun i => ∀ T : Nat, TI S c T i → x_W G F (x_Q G F (x_is (some (.int (nI 1))) h) 0 0) 0 0 h 9 [some (.ref (ad 0)), some (.int (nI c)), some (.ref ca), some (.ref ma), some (.ref la), some (.int (nI T)), some (.int (nI 1)), some (.int (nI i)), none, none, none, none, none] []) (fun i hiN ih => ?_) 0 (by omega) 0 (TI_0 S c)
  intro T hT
  refine x_iload hE dL_areShining_9 rfl ?_
  refine x_aload_n hE dL_areShining_11 rfl rfl ?_
  refine x_iconst (v := nI 0) hE dL_areShining_12 (by decide) ?_
  refine x_iald (v := nI 10) hE hca (vp_in_nI (by omega) (by decide)) (by rw [nI_clamp (by omega)]; exact hcc.1) dL_areShining_13 ?_
  refine x_icmp_ge (tgt := 333) hE dL_areShining_14 (by decide) (fun c14 => ?_) (fun c14 => ?_)
  · refine x_iload hE dL_areShining_333 rfl ?_
    exact x_zret hE (Or.inr rfl) dL_areShining_335 (⟨rfl, rfl⟩)
  · replace c14 := x_nInle c14 (by omega) (by omega)
    obtain ⟨v, hv, ev⟩ := told_num (k := i) ht hc (by omega)
    refine x_iload hE dL_areShining_17 rfl ?_
    refine x_if_eq (tgt := 333) hE dL_areShining_19 (by decide) (fun c19 => absurd c19 (by decide)) (fun c19 => ?_)
    refine x_aload_n hE dL_areShining_22 rfl rfl ?_
    refine x_iload_n hE dL_areShining_23 rfl ?_
    refine x_iload hE dL_areShining_24 rfl ?_
    refine x_callV (ci := 7) (st := []) hE 2 (q_shines G hW (c := c) (i := i) (by omega) (by omega)) gL_areShining_X7_shines rfl rfl rfl (by decide +kernel) ⟨Nat.le_of_ble_eq_true rfl, Nat.le_of_ble_eq_true rfl⟩ hW.1 rfl rfl rfl dL_areShining_26 rfl (Nat.le_of_ble_eq_true rfl) ⟨Nat.le_of_ble_eq_true rfl, Nat.le_of_ble_eq_true rfl⟩ (fun v h9 hp => ?_)
    obtain ⟨rfl, rfl⟩ := hp
    refine x_istore (L' := [some (.ref (ad 0)), some (.int (nI c)), some (.ref ca), some (.ref ma), some (.ref la), some (.int (nI T)), some (.int (nI 1)), some (.int (nI i)), some (.int (shiP S c i)), none, none, none, none]) hE dL_areShining_29 (Nat.le_of_ble_eq_true rfl) rfl ?_
    refine x_aload hE dL_areShining_31 rfl rfl ?_
    refine x_bipush (v := nI 10) hE dL_areShining_33 (by decide) ?_
    refine x_iload_n hE dL_areShining_35 rfl ?_
    refine x_imul hE dL_areShining_36 ?_
    refine x_ieq (y := nI (10 * c)) (pk_mul _ _) ?_
    refine x_iload hE dL_areShining_37 rfl ?_
    refine x_iadd hE dL_areShining_39 ?_
    refine x_ieq (y := nI (10 * c + i)) (nI_add _ _) ?_
    refine x_iald (v := toldF (s_ar S) c i) hE hla (vp_in_nI (by omega) (by decide)) (by rw [nI_clamp (by omega)]; exact (by rw [hll c i hc (by omega)]; unfold toldF; rw [if_pos (by omega)])) dL_areShining_40 ?_
    refine x_if_le (tgt := 48) hE dL_areShining_41 (by decide) (fun c41 => ?_) (fun c41 => ?_)
    · have h0 : toldF (s_ar S) c i = 0 := (told_le0 hv ev).mp c41
      have hs : shiP S c i = -1 := shi_none (by omega) h0
      refine x_iconst (v := nI 0) hE dL_areShining_48 (by decide) ?_
      refine x_istore (L' := [some (.ref (ad 0)), some (.int (nI c)), some (.ref ca), some (.ref ma), some (.ref la), some (.int (nI T)), some (.int (nI 1)), some (.int (nI i)), some (.int (shiP S c i)), some (.int (nI 0)), none, none, none]) hE dL_areShining_49 (Nat.le_of_ble_eq_true rfl) rfl ?_
      refine x_iload hE dL_areShining_51 rfl ?_
      refine x_if_eq (tgt := 66) hE dL_areShining_53 (by decide) (fun c53 => ?_) (fun c53 => absurd c53 (by decide))
      refine x_iload hE dL_areShining_66 rfl ?_
      refine x_iload hE dL_areShining_68 rfl ?_
      refine x_if_eq (tgt := 78) hE dL_areShining_70 (by decide) (fun c70 => ?_) (fun c70 => absurd c70 (by decide))
      refine x_iconst (v := (-1 : Int32)) hE dL_areShining_78 (by decide) ?_
      refine x_icmp_ne (tgt := 86) hE dL_areShining_79 (by decide) (fun c79 => absurd hs c79) (fun c79 => ?_)
      refine x_iconst (v := nI 1) hE dL_areShining_82 (by decide) ?_
      refine x_goto (tgt := 87) hE dL_areShining_83 (by decide) ?_
      refine x_istore (L' := [some (.ref (ad 0)), some (.int (nI c)), some (.ref ca), some (.ref ma), some (.ref la), some (.int (nI T)), some (.int (nI 1)), some (.int (nI i)), some (.int (shiP S c i)), some (.int (nI 0)), none, none, none]) hE dL_areShining_87 (Nat.le_of_ble_eq_true rfl) rfl ?_
      refine x_goto (tgt := 327) hE dL_areShining_89 (by decide) ?_
      refine x_iinc (v := nI (i + 1)) (L' := [some (.ref (ad 0)), some (.int (nI c)), some (.ref ca), some (.ref ma), some (.ref la), some (.int (nI T)), some (.int (nI 1)), some (.int (nI (i + 1))), some (.int (shiP S c i)), some (.int (nI 0)), none, none, none]) hE dL_areShining_327 rfl (nI_1 _) rfl ?_
      refine x_goto (tgt := 9) hE dL_areShining_330 (by decide) ?_
      refine x_forget (L' := [some (.ref (ad 0)), some (.int (nI c)), some (.ref ca), some (.ref ma), some (.ref la), some (.int (nI T)), some (.int (nI 1)), some (.int (nI (i + 1))), none, none, none, none, none]) (And.intro rfl (And.intro rfl (And.intro rfl (And.intro rfl (And.intro rfl (And.intro rfl (And.intro rfl (And.intro rfl trivial)))))))) ?_
      exact ih (i + 1) (by omega) (by omega) T (TI_skip hT (fun j hj _ z => nI_nm (by omega) ((hs.symm.trans z).symm)))
    · have h0 : toldF (s_ar S) c i ≠ 0 := fun z => c41 ((told_le0 hv ev).mpr z)
      refine x_iconst (v := nI 1) hE dL_areShining_44 (by decide) ?_
      refine x_goto (tgt := 49) hE dL_areShining_45 (by decide) ?_
      refine x_istore (L' := [some (.ref (ad 0)), some (.int (nI c)), some (.ref ca), some (.ref ma), some (.ref la), some (.int (nI T)), some (.int (nI 1)), some (.int (nI i)), some (.int (shiP S c i)), some (.int (nI 1)), none, none, none]) hE dL_areShining_49 (Nat.le_of_ble_eq_true rfl) rfl ?_
      refine x_iload hE dL_areShining_51 rfl ?_
      refine x_if_eq (tgt := 66) hE dL_areShining_53 (by decide) (fun c53 => absurd c53 (by decide)) (fun c53 => ?_)
      refine x_aload_n hE dL_areShining_56 rfl rfl ?_
      refine x_aload_n hE dL_areShining_57 rfl rfl ?_
      refine x_iload hE dL_areShining_58 rfl ?_
      refine x_callS (st := []) hE 3 (c_L_isUsable G hca hma (k := i) (by omega)) gL_areShining_L_isUsable rfl rfl rfl (by decide +kernel) ⟨Nat.le_of_ble_eq_true rfl, Nat.le_of_ble_eq_true rfl⟩ rfl rfl dL_areShining_60 rfl (Nat.le_of_ble_eq_true rfl) ⟨Nat.le_of_ble_eq_true rfl, Nat.le_of_ble_eq_true rfl⟩ (fun v h9 hp => ?_)
      obtain ⟨rfl, rfl⟩ := hp
      refine x_ieq (y := b2i (usA (s_ar S) (s_B S) i)) (by have z := hcc.2.2.1; rw [z, (hmm i (by omega)).1, (hmm i (by omega)).2.2.2.2.2]) ?_
      refine x_if_eq (tgt := 92) hE dL_areShining_63 (by decide) (fun c63 => ?_) (fun c63 => ?_)
      · have hu : usA (s_ar S) (s_B S) i = false := b2i_0.mp c63
        rcases near_is_best hL10 hV (by omega : i < 10) hT h0 hu with ⟨hs, hno⟩ | ⟨b, hb, hs, q1, q2, q3, q4, hbest⟩
        · refine x_iload hE dL_areShining_92 rfl ?_
          refine x_iconst (v := (-1 : Int32)) hE dL_areShining_94 (by decide) ?_
          refine x_icmp_eq (tgt := 152) hE dL_areShining_95 (by decide) (fun c95 => ?_) (fun c95 => absurd hs c95)
          refine x_iconst (v := nI 1) hE dL_areShining_152 (by decide) ?_
          refine x_goto (tgt := 157) hE dL_areShining_153 (by decide) ?_
          refine x_istore (L' := [some (.ref (ad 0)), some (.int (nI c)), some (.ref ca), some (.ref ma), some (.ref la), some (.int (nI T)), some (.int (nI 1)), some (.int (nI i)), some (.int (shiP S c i)), some (.int (nI 1)), none, none, none]) hE dL_areShining_157 (Nat.le_of_ble_eq_true rfl) rfl ?_
          refine x_iconst (v := nI 0) hE dL_areShining_159 (by decide) ?_
          refine x_istore (L' := [some (.ref (ad 0)), some (.int (nI c)), some (.ref ca), some (.ref ma), some (.ref la), some (.int (nI T)), some (.int (nI 1)), some (.int (nI i)), some (.int (shiP S c i)), some (.int (nI 1)), some (.int (nI 0)), none, none]) hE dL_areShining_160 (Nat.le_of_ble_eq_true rfl) rfl ?_
          refine x_down (N := 10) (P := fun j => x_W G F (x_Q G F (x_is (some (.int (nI 1))) h) 0 0) 0 0 h 162 [some (.ref (ad 0)), some (.int (nI c)), some (.ref ca), some (.ref ma), some (.ref la), some (.int (nI T)), some (.int (nI 1)), some (.int (nI i)), some (.int (shiP S c i)), some (.int (nI 1)), some (.int (nI j)), none, none] []) (fun j hjN ih2 => ?_) 0 (by omega)
          refine x_iload hE dL_areShining_162 rfl ?_
          refine x_aload_n hE dL_areShining_164 rfl rfl ?_
          refine x_iconst (v := nI 0) hE dL_areShining_165 (by decide) ?_
          refine x_iald (v := nI 10) hE hca (vp_in_nI (by omega) (by decide)) (by rw [nI_clamp (by omega)]; exact hcc.1) dL_areShining_166 ?_
          refine x_icmp_ge (tgt := 309) hE dL_areShining_167 (by decide) (fun c167 => ?_) (fun c167 => ?_)
          · refine x_iload hE dL_areShining_309 rfl ?_
            refine x_iload hE dL_areShining_311 rfl ?_
            refine x_ieq (y := (-1 : Int32)) (hs) ?_
            refine x_if_ge (tgt := 320) hE dL_areShining_313 (by decide) (fun c313 => absurd c313 (by decide)) (fun c313 => ?_)
            refine x_iconst (v := nI 0) hE dL_areShining_316 (by decide) ?_
            refine x_goto (tgt := 324) hE dL_areShining_317 (by decide) ?_
            refine x_ior hE dL_areShining_324 ?_
            refine x_ieq (y := nI T) (or_none T) ?_
            refine x_istore (L' := [some (.ref (ad 0)), some (.int (nI c)), some (.ref ca), some (.ref ma), some (.ref la), some (.int (nI T)), some (.int (nI 1)), some (.int (nI i)), some (.int (shiP S c i)), some (.int (nI 1)), some (.int (nI j)), none, none]) hE dL_areShining_325 (Nat.le_of_ble_eq_true rfl) rfl ?_
            refine x_iinc (v := nI (i + 1)) (L' := [some (.ref (ad 0)), some (.int (nI c)), some (.ref ca), some (.ref ma), some (.ref la), some (.int (nI T)), some (.int (nI 1)), some (.int (nI (i + 1))), some (.int (shiP S c i)), some (.int (nI 1)), some (.int (nI j)), none, none]) hE dL_areShining_327 rfl (nI_1 _) rfl ?_
            refine x_goto (tgt := 9) hE dL_areShining_330 (by decide) ?_
            refine x_forget (L' := [some (.ref (ad 0)), some (.int (nI c)), some (.ref ca), some (.ref ma), some (.ref la), some (.int (nI T)), some (.int (nI 1)), some (.int (nI (i + 1))), none, none, none, none, none]) (And.intro rfl (And.intro rfl (And.intro rfl (And.intro rfl (And.intro rfl (And.intro rfl (And.intro rfl (And.intro rfl trivial)))))))) ?_
            exact ih (i + 1) (by omega) (by omega) T (TI_skip hT (fun j hj _ z => nI_nm (by omega) ((hs.symm.trans z).symm)))
          · replace c167 := x_nInle c167 (by omega) (by omega)
            refine x_iload hE dL_areShining_170 rfl ?_
            refine x_if_eq (tgt := 309) hE dL_areShining_172 (by decide) (fun c172 => absurd c172 (by decide)) (fun c172 => ?_)
            refine x_aload_n hE dL_areShining_175 rfl rfl ?_
            refine x_aload_n hE dL_areShining_176 rfl rfl ?_
            refine x_iload hE dL_areShining_177 rfl ?_
            refine x_callS (st := []) hE 3 (c_L_isUsable G hca hma (k := j) (by omega)) gL_areShining_L_isUsable rfl rfl rfl (by decide +kernel) ⟨Nat.le_of_ble_eq_true rfl, Nat.le_of_ble_eq_true rfl⟩ rfl rfl dL_areShining_179 rfl (Nat.le_of_ble_eq_true rfl) ⟨Nat.le_of_ble_eq_true rfl, Nat.le_of_ble_eq_true rfl⟩ (fun v h9 hp => ?_)
            obtain ⟨rfl, rfl⟩ := hp
            refine x_ieq (y := b2i (usA (s_ar S) (s_B S) j)) (by have z := hcc.2.2.1; rw [z, (hmm j (by omega)).1, (hmm j (by omega)).2.2.2.2.2]) ?_
            refine x_if_eq (tgt := 233) hE dL_areShining_182 (by decide) (fun c182 => ?_) (fun c182 => ?_)
            · refine x_iconst (v := nI 0) hE dL_areShining_233 (by decide) ?_
              refine x_istore (L' := [some (.ref (ad 0)), some (.int (nI c)), some (.ref ca), some (.ref ma), some (.ref la), some (.int (nI T)), some (.int (nI 1)), some (.int (nI i)), some (.int (shiP S c i)), some (.int (nI 1)), some (.int (nI j)), some (.int (nI 0)), none]) hE dL_areShining_234 (Nat.le_of_ble_eq_true rfl) rfl ?_
              refine x_iload hE dL_areShining_236 rfl ?_
              refine x_if_eq (tgt := 266) hE dL_areShining_238 (by decide) (fun c238 => ?_) (fun c238 => absurd c238 (by decide))
              refine x_iconst (v := nI 0) hE dL_areShining_266 (by decide) ?_
              refine x_istore (L' := [some (.ref (ad 0)), some (.int (nI c)), some (.ref ca), some (.ref ma), some (.ref la), some (.int (nI T)), some (.int (nI 1)), some (.int (nI i)), some (.int (shiP S c i)), some (.int (nI 1)), some (.int (nI j)), some (.int (nI 0)), some (.int (nI 0))]) hE dL_areShining_267 (Nat.le_of_ble_eq_true rfl) rfl ?_
              refine x_iload hE dL_areShining_269 rfl ?_
              refine x_if_eq (tgt := 296) hE dL_areShining_271 (by decide) (fun c271 => ?_) (fun c271 => absurd c271 (by decide))
              refine x_iconst (v := nI 1) hE dL_areShining_296 (by decide) ?_
              refine x_goto (tgt := 301) hE dL_areShining_297 (by decide) ?_
              refine x_istore (L' := [some (.ref (ad 0)), some (.int (nI c)), some (.ref ca), some (.ref ma), some (.ref la), some (.int (nI T)), some (.int (nI 1)), some (.int (nI i)), some (.int (shiP S c i)), some (.int (nI 1)), some (.int (nI j)), some (.int (nI 0)), some (.int (nI 0))]) hE dL_areShining_301 (Nat.le_of_ble_eq_true rfl) rfl ?_
              refine x_iinc (v := nI (j + 1)) (L' := [some (.ref (ad 0)), some (.int (nI c)), some (.ref ca), some (.ref ma), some (.ref la), some (.int (nI T)), some (.int (nI 1)), some (.int (nI i)), some (.int (shiP S c i)), some (.int (nI 1)), some (.int (nI (j + 1))), some (.int (nI 0)), some (.int (nI 0))]) hE dL_areShining_303 rfl (nI_1 _) rfl ?_
              refine x_goto (tgt := 162) hE dL_areShining_306 (by decide) ?_
              refine x_forget (L' := [some (.ref (ad 0)), some (.int (nI c)), some (.ref ca), some (.ref ma), some (.ref la), some (.int (nI T)), some (.int (nI 1)), some (.int (nI i)), some (.int (shiP S c i)), some (.int (nI 1)), some (.int (nI (j + 1))), none, none]) (And.intro rfl (And.intro rfl (And.intro rfl (And.intro rfl (And.intro rfl (And.intro rfl (And.intro rfl (And.intro rfl (And.intro rfl (And.intro rfl (And.intro rfl trivial))))))))))) ?_
              exact ih2 (j + 1) (by omega) (by omega)
            · have u1 : usA (s_ar S) (s_B S) j = true := b2i_n0.mp c182
              refine x_aload hE dL_areShining_185 rfl rfl ?_
              refine x_bipush (v := nI 10) hE dL_areShining_187 (by decide) ?_
              refine x_iload_n hE dL_areShining_189 rfl ?_
              refine x_imul hE dL_areShining_190 ?_
              refine x_ieq (y := nI (10 * c)) (pk_mul _ _) ?_
              refine x_iload hE dL_areShining_191 rfl ?_
              refine x_iadd hE dL_areShining_193 ?_
              refine x_ieq (y := nI (10 * c + j)) (nI_add _ _) ?_
              refine x_iald (v := toldF (s_ar S) c j) hE hla (vp_in_nI (by omega) (by decide)) (by rw [nI_clamp (by omega)]; exact (by rw [hll c j hc (by omega)]; unfold toldF; rw [if_pos (by omega)])) dL_areShining_194 ?_
              refine x_if_ne (tgt := 233) hE dL_areShining_195 (by decide) (fun c195 => ?_) (fun c195 => ?_)
              · refine x_iconst (v := nI 0) hE dL_areShining_233 (by decide) ?_
                refine x_istore (L' := [some (.ref (ad 0)), some (.int (nI c)), some (.ref ca), some (.ref ma), some (.ref la), some (.int (nI T)), some (.int (nI 1)), some (.int (nI i)), some (.int (shiP S c i)), some (.int (nI 1)), some (.int (nI j)), some (.int (nI 0)), none]) hE dL_areShining_234 (Nat.le_of_ble_eq_true rfl) rfl ?_
                refine x_iload hE dL_areShining_236 rfl ?_
                refine x_if_eq (tgt := 266) hE dL_areShining_238 (by decide) (fun c238 => ?_) (fun c238 => absurd c238 (by decide))
                refine x_iconst (v := nI 0) hE dL_areShining_266 (by decide) ?_
                refine x_istore (L' := [some (.ref (ad 0)), some (.int (nI c)), some (.ref ca), some (.ref ma), some (.ref la), some (.int (nI T)), some (.int (nI 1)), some (.int (nI i)), some (.int (shiP S c i)), some (.int (nI 1)), some (.int (nI j)), some (.int (nI 0)), some (.int (nI 0))]) hE dL_areShining_267 (Nat.le_of_ble_eq_true rfl) rfl ?_
                refine x_iload hE dL_areShining_269 rfl ?_
                refine x_if_eq (tgt := 296) hE dL_areShining_271 (by decide) (fun c271 => ?_) (fun c271 => absurd c271 (by decide))
                refine x_iconst (v := nI 1) hE dL_areShining_296 (by decide) ?_
                refine x_goto (tgt := 301) hE dL_areShining_297 (by decide) ?_
                refine x_istore (L' := [some (.ref (ad 0)), some (.int (nI c)), some (.ref ca), some (.ref ma), some (.ref la), some (.int (nI T)), some (.int (nI 1)), some (.int (nI i)), some (.int (shiP S c i)), some (.int (nI 1)), some (.int (nI j)), some (.int (nI 0)), some (.int (nI 0))]) hE dL_areShining_301 (Nat.le_of_ble_eq_true rfl) rfl ?_
                refine x_iinc (v := nI (j + 1)) (L' := [some (.ref (ad 0)), some (.int (nI c)), some (.ref ca), some (.ref ma), some (.ref la), some (.int (nI T)), some (.int (nI 1)), some (.int (nI i)), some (.int (shiP S c i)), some (.int (nI 1)), some (.int (nI (j + 1))), some (.int (nI 0)), some (.int (nI 0))]) hE dL_areShining_303 rfl (nI_1 _) rfl ?_
                refine x_goto (tgt := 162) hE dL_areShining_306 (by decide) ?_
                refine x_forget (L' := [some (.ref (ad 0)), some (.int (nI c)), some (.ref ca), some (.ref ma), some (.ref la), some (.int (nI T)), some (.int (nI 1)), some (.int (nI i)), some (.int (shiP S c i)), some (.int (nI 1)), some (.int (nI (j + 1))), none, none]) (And.intro rfl (And.intro rfl (And.intro rfl (And.intro rfl (And.intro rfl (And.intro rfl (And.intro rfl (And.intro rfl (And.intro rfl (And.intro rfl (And.intro rfl trivial))))))))))) ?_
                exact ih2 (j + 1) (by omega) (by omega)
              · have u2 : toldF (s_ar S) c j = 0 := by simpa using c195
                refine x_aload_n hE dL_areShining_198 rfl rfl ?_
                refine x_bipush (v := nI 6) hE dL_areShining_199 (by decide) ?_
                refine x_iload hE dL_areShining_201 rfl ?_
                refine x_imul hE dL_areShining_203 ?_
                refine x_ieq (y := nI (6 * j)) (pk_mul _ _) ?_
                refine x_iconst (v := nI 2) hE dL_areShining_204 (by decide) ?_
                refine x_iadd hE dL_areShining_205 ?_
                refine x_ieq (y := nI (6 * j + 2)) (nI_add _ _) ?_
                refine x_iald (v := s_ar S 4 j) hE hma (vp_in_nI (by omega) (by decide)) (by rw [nI_clamp (by omega)]; exact (hmm j (by omega)).2.2.1) dL_areShining_206 ?_
                refine x_aload_n hE dL_areShining_207 rfl rfl ?_
                refine x_bipush (v := nI 6) hE dL_areShining_208 (by decide) ?_
                refine x_iload hE dL_areShining_210 rfl ?_
                refine x_imul hE dL_areShining_212 ?_
                refine x_ieq (y := nI (6 * i)) (pk_mul _ _) ?_
                refine x_iconst (v := nI 2) hE dL_areShining_213 (by decide) ?_
                refine x_iadd hE dL_areShining_214 ?_
                refine x_ieq (y := nI (6 * i + 2)) (nI_add _ _) ?_
                refine x_iald (v := s_ar S 4 i) hE hma (vp_in_nI (by omega) (by decide)) (by rw [nI_clamp (by omega)]; exact (hmm i (by omega)).2.2.1) dL_areShining_215 ?_
                refine x_icmp_ne (tgt := 233) hE dL_areShining_216 (by decide) (fun c216 => ?_) (fun c216 => ?_)
                · refine x_iconst (v := nI 0) hE dL_areShining_233 (by decide) ?_
                  refine x_istore (L' := [some (.ref (ad 0)), some (.int (nI c)), some (.ref ca), some (.ref ma), some (.ref la), some (.int (nI T)), some (.int (nI 1)), some (.int (nI i)), some (.int (shiP S c i)), some (.int (nI 1)), some (.int (nI j)), some (.int (nI 0)), none]) hE dL_areShining_234 (Nat.le_of_ble_eq_true rfl) rfl ?_
                  refine x_iload hE dL_areShining_236 rfl ?_
                  refine x_if_eq (tgt := 266) hE dL_areShining_238 (by decide) (fun c238 => ?_) (fun c238 => absurd c238 (by decide))
                  refine x_iconst (v := nI 0) hE dL_areShining_266 (by decide) ?_
                  refine x_istore (L' := [some (.ref (ad 0)), some (.int (nI c)), some (.ref ca), some (.ref ma), some (.ref la), some (.int (nI T)), some (.int (nI 1)), some (.int (nI i)), some (.int (shiP S c i)), some (.int (nI 1)), some (.int (nI j)), some (.int (nI 0)), some (.int (nI 0))]) hE dL_areShining_267 (Nat.le_of_ble_eq_true rfl) rfl ?_
                  refine x_iload hE dL_areShining_269 rfl ?_
                  refine x_if_eq (tgt := 296) hE dL_areShining_271 (by decide) (fun c271 => ?_) (fun c271 => absurd c271 (by decide))
                  refine x_iconst (v := nI 1) hE dL_areShining_296 (by decide) ?_
                  refine x_goto (tgt := 301) hE dL_areShining_297 (by decide) ?_
                  refine x_istore (L' := [some (.ref (ad 0)), some (.int (nI c)), some (.ref ca), some (.ref ma), some (.ref la), some (.int (nI T)), some (.int (nI 1)), some (.int (nI i)), some (.int (shiP S c i)), some (.int (nI 1)), some (.int (nI j)), some (.int (nI 0)), some (.int (nI 0))]) hE dL_areShining_301 (Nat.le_of_ble_eq_true rfl) rfl ?_
                  refine x_iinc (v := nI (j + 1)) (L' := [some (.ref (ad 0)), some (.int (nI c)), some (.ref ca), some (.ref ma), some (.ref la), some (.int (nI T)), some (.int (nI 1)), some (.int (nI i)), some (.int (shiP S c i)), some (.int (nI 1)), some (.int (nI (j + 1))), some (.int (nI 0)), some (.int (nI 0))]) hE dL_areShining_303 rfl (nI_1 _) rfl ?_
                  refine x_goto (tgt := 162) hE dL_areShining_306 (by decide) ?_
                  refine x_forget (L' := [some (.ref (ad 0)), some (.int (nI c)), some (.ref ca), some (.ref ma), some (.ref la), some (.int (nI T)), some (.int (nI 1)), some (.int (nI i)), some (.int (shiP S c i)), some (.int (nI 1)), some (.int (nI (j + 1))), none, none]) (And.intro rfl (And.intro rfl (And.intro rfl (And.intro rfl (And.intro rfl (And.intro rfl (And.intro rfl (And.intro rfl (And.intro rfl (And.intro rfl (And.intro rfl trivial))))))))))) ?_
                  exact ih2 (j + 1) (by omega) (by omega)
                · refine x_iload hE dL_areShining_219 rfl ?_
                  refine x_iload hE dL_areShining_221 rfl ?_
                  refine x_ishr hE dL_areShining_223 ?_
                  refine x_iconst (v := nI 1) hE dL_areShining_224 (by decide) ?_
                  refine x_iand hE dL_areShining_225 ?_
                  refine x_ieq (y := nI (T / 2 ^ j % 2)) (tb_is hT.1 (by omega)) ?_
                  refine x_if_ne (tgt := 233) hE dL_areShining_226 (by decide) (fun c226 => ?_) (fun c226 => ?_)
                  · refine x_iconst (v := nI 0) hE dL_areShining_233 (by decide) ?_
                    refine x_istore (L' := [some (.ref (ad 0)), some (.int (nI c)), some (.ref ca), some (.ref ma), some (.ref la), some (.int (nI T)), some (.int (nI 1)), some (.int (nI i)), some (.int (shiP S c i)), some (.int (nI 1)), some (.int (nI j)), some (.int (nI 0)), none]) hE dL_areShining_234 (Nat.le_of_ble_eq_true rfl) rfl ?_
                    refine x_iload hE dL_areShining_236 rfl ?_
                    refine x_if_eq (tgt := 266) hE dL_areShining_238 (by decide) (fun c238 => ?_) (fun c238 => absurd c238 (by decide))
                    refine x_iconst (v := nI 0) hE dL_areShining_266 (by decide) ?_
                    refine x_istore (L' := [some (.ref (ad 0)), some (.int (nI c)), some (.ref ca), some (.ref ma), some (.ref la), some (.int (nI T)), some (.int (nI 1)), some (.int (nI i)), some (.int (shiP S c i)), some (.int (nI 1)), some (.int (nI j)), some (.int (nI 0)), some (.int (nI 0))]) hE dL_areShining_267 (Nat.le_of_ble_eq_true rfl) rfl ?_
                    refine x_iload hE dL_areShining_269 rfl ?_
                    refine x_if_eq (tgt := 296) hE dL_areShining_271 (by decide) (fun c271 => ?_) (fun c271 => absurd c271 (by decide))
                    refine x_iconst (v := nI 1) hE dL_areShining_296 (by decide) ?_
                    refine x_goto (tgt := 301) hE dL_areShining_297 (by decide) ?_
                    refine x_istore (L' := [some (.ref (ad 0)), some (.int (nI c)), some (.ref ca), some (.ref ma), some (.ref la), some (.int (nI T)), some (.int (nI 1)), some (.int (nI i)), some (.int (shiP S c i)), some (.int (nI 1)), some (.int (nI j)), some (.int (nI 0)), some (.int (nI 0))]) hE dL_areShining_301 (Nat.le_of_ble_eq_true rfl) rfl ?_
                    refine x_iinc (v := nI (j + 1)) (L' := [some (.ref (ad 0)), some (.int (nI c)), some (.ref ca), some (.ref ma), some (.ref la), some (.int (nI T)), some (.int (nI 1)), some (.int (nI i)), some (.int (shiP S c i)), some (.int (nI 1)), some (.int (nI (j + 1))), some (.int (nI 0)), some (.int (nI 0))]) hE dL_areShining_303 rfl (nI_1 _) rfl ?_
                    refine x_goto (tgt := 162) hE dL_areShining_306 (by decide) ?_
                    refine x_forget (L' := [some (.ref (ad 0)), some (.int (nI c)), some (.ref ca), some (.ref ma), some (.ref la), some (.int (nI T)), some (.int (nI 1)), some (.int (nI i)), some (.int (shiP S c i)), some (.int (nI 1)), some (.int (nI (j + 1))), none, none]) (And.intro rfl (And.intro rfl (And.intro rfl (And.intro rfl (And.intro rfl (And.intro rfl (And.intro rfl (And.intro rfl (And.intro rfl (And.intro rfl (And.intro rfl trivial))))))))))) ?_
                    exact ih2 (j + 1) (by omega) (by omega)
                  · have u4 : T.testBit j = false := by
                      cases z : T.testBit j with
                      | false => rfl
                      | true =>
                        rw [tb_bit.mpr z] at c226
                        exact absurd c226 (by decide)
                    exact (hno j (by omega) u1 c216 u2 u4).elim
        · refine x_iload hE dL_areShining_92 rfl ?_
          refine x_iconst (v := (-1 : Int32)) hE dL_areShining_94 (by decide) ?_
          refine x_icmp_eq (tgt := 152) hE dL_areShining_95 (by decide) (fun c95 => absurd (hs.symm.trans c95) (nI_nm (by omega))) (fun c95 => ?_)
          refine x_aload_n hE dL_areShining_98 rfl rfl ?_
          refine x_aload_n hE dL_areShining_99 rfl rfl ?_
          refine x_iload hE dL_areShining_100 rfl ?_
          refine x_ieq (y := nI b) (hs) ?_
          refine x_callS (st := []) hE 3 (c_L_isUsable G hca hma (k := b) (by omega)) gL_areShining_L_isUsable rfl rfl rfl (by decide +kernel) ⟨Nat.le_of_ble_eq_true rfl, Nat.le_of_ble_eq_true rfl⟩ rfl rfl dL_areShining_102 rfl (Nat.le_of_ble_eq_true rfl) ⟨Nat.le_of_ble_eq_true rfl, Nat.le_of_ble_eq_true rfl⟩ (fun v h9 hp => ?_)
          obtain ⟨rfl, rfl⟩ := hp
          refine x_ieq (y := b2i (usA (s_ar S) (s_B S) b)) (by have z := hcc.2.2.1; rw [z, (hmm b (by omega)).1, (hmm b (by omega)).2.2.2.2.2]) ?_
          refine x_if_eq (tgt := 156) hE dL_areShining_105 (by decide) (fun c105 => absurd (b2i_0.mp c105) (by rw [q1]; decide)) (fun c105 => ?_)
          refine x_aload hE dL_areShining_108 rfl rfl ?_
          refine x_bipush (v := nI 10) hE dL_areShining_110 (by decide) ?_
          refine x_iload_n hE dL_areShining_112 rfl ?_
          refine x_imul hE dL_areShining_113 ?_
          refine x_ieq (y := nI (10 * c)) (pk_mul _ _) ?_
          refine x_iload hE dL_areShining_114 rfl ?_
          refine x_ieq (y := nI b) (hs) ?_
          refine x_iadd hE dL_areShining_116 ?_
          refine x_ieq (y := nI (10 * c + b)) (nI_add _ _) ?_
          refine x_iald (v := toldF (s_ar S) c b) hE hla (vp_in_nI (by omega) (by decide)) (by rw [nI_clamp (by omega)]; exact (by rw [hll c b hc (by omega)]; unfold toldF; rw [if_pos (by omega)])) dL_areShining_117 ?_
          refine x_if_ne (tgt := 156) hE dL_areShining_118 (by decide) (fun c118 => absurd q3 c118) (fun c118 => ?_)
          refine x_aload_n hE dL_areShining_121 rfl rfl ?_
          refine x_bipush (v := nI 6) hE dL_areShining_122 (by decide) ?_
          refine x_iload hE dL_areShining_124 rfl ?_
          refine x_ieq (y := nI b) (hs) ?_
          refine x_imul hE dL_areShining_126 ?_
          refine x_ieq (y := nI (6 * b)) (pk_mul _ _) ?_
          refine x_iconst (v := nI 2) hE dL_areShining_127 (by decide) ?_
          refine x_iadd hE dL_areShining_128 ?_
          refine x_ieq (y := nI (6 * b + 2)) (nI_add _ _) ?_
          refine x_iald (v := s_ar S 4 b) hE hma (vp_in_nI (by omega) (by decide)) (by rw [nI_clamp (by omega)]; exact (hmm b (by omega)).2.2.1) dL_areShining_129 ?_
          refine x_aload_n hE dL_areShining_130 rfl rfl ?_
          refine x_bipush (v := nI 6) hE dL_areShining_131 (by decide) ?_
          refine x_iload hE dL_areShining_133 rfl ?_
          refine x_imul hE dL_areShining_135 ?_
          refine x_ieq (y := nI (6 * i)) (pk_mul _ _) ?_
          refine x_iconst (v := nI 2) hE dL_areShining_136 (by decide) ?_
          refine x_iadd hE dL_areShining_137 ?_
          refine x_ieq (y := nI (6 * i + 2)) (nI_add _ _) ?_
          refine x_iald (v := s_ar S 4 i) hE hma (vp_in_nI (by omega) (by decide)) (by rw [nI_clamp (by omega)]; exact (hmm i (by omega)).2.2.1) dL_areShining_138 ?_
          refine x_icmp_ne (tgt := 156) hE dL_areShining_139 (by decide) (fun c139 => absurd q2 c139) (fun c139 => ?_)
          refine x_iload hE dL_areShining_142 rfl ?_
          refine x_iload hE dL_areShining_144 rfl ?_
          refine x_ieq (y := nI b) (hs) ?_
          refine x_ishr hE dL_areShining_146 ?_
          refine x_iconst (v := nI 1) hE dL_areShining_147 (by decide) ?_
          refine x_iand hE dL_areShining_148 ?_
          refine x_ieq (y := nI (T / 2 ^ b % 2)) (tb_is hT.1 hb) ?_
          refine x_if_ne (tgt := 156) hE dL_areShining_149 (by decide) (fun c149 => absurd (x_nIinj (a := T / 2 ^ b % 2) (b := 0) (by have z := (not_congr (tb_bit (T := T) (j := b))).mpr (by rw [q4]; decide); rw [show T / 2 ^ b % 2 = 0 by omega]) (by omega) (by decide)) (fun z => c149 (by rw [z]; rfl))) (fun c149 => ?_)
          refine x_iconst (v := nI 1) hE dL_areShining_152 (by decide) ?_
          refine x_goto (tgt := 157) hE dL_areShining_153 (by decide) ?_
          refine x_istore (L' := [some (.ref (ad 0)), some (.int (nI c)), some (.ref ca), some (.ref ma), some (.ref la), some (.int (nI T)), some (.int (nI 1)), some (.int (nI i)), some (.int (shiP S c i)), some (.int (nI 1)), none, none, none]) hE dL_areShining_157 (Nat.le_of_ble_eq_true rfl) rfl ?_
          refine x_iconst (v := nI 0) hE dL_areShining_159 (by decide) ?_
          refine x_istore (L' := [some (.ref (ad 0)), some (.int (nI c)), some (.ref ca), some (.ref ma), some (.ref la), some (.int (nI T)), some (.int (nI 1)), some (.int (nI i)), some (.int (shiP S c i)), some (.int (nI 1)), some (.int (nI 0)), none, none]) hE dL_areShining_160 (Nat.le_of_ble_eq_true rfl) rfl ?_
          refine x_down (N := 10) (P := fun j => x_W G F (x_Q G F (x_is (some (.int (nI 1))) h) 0 0) 0 0 h 162 [some (.ref (ad 0)), some (.int (nI c)), some (.ref ca), some (.ref ma), some (.ref la), some (.int (nI T)), some (.int (nI 1)), some (.int (nI i)), some (.int (shiP S c i)), some (.int (nI 1)), some (.int (nI j)), none, none] []) (fun j hjN ih2 => ?_) 0 (by omega)
          refine x_iload hE dL_areShining_162 rfl ?_
          refine x_aload_n hE dL_areShining_164 rfl rfl ?_
          refine x_iconst (v := nI 0) hE dL_areShining_165 (by decide) ?_
          refine x_iald (v := nI 10) hE hca (vp_in_nI (by omega) (by decide)) (by rw [nI_clamp (by omega)]; exact hcc.1) dL_areShining_166 ?_
          refine x_icmp_ge (tgt := 309) hE dL_areShining_167 (by decide) (fun c167 => ?_) (fun c167 => ?_)
          · refine x_iload hE dL_areShining_309 rfl ?_
            refine x_iload hE dL_areShining_311 rfl ?_
            refine x_ieq (y := nI b) (hs) ?_
            refine x_if_ge (tgt := 320) hE dL_areShining_313 (by decide) (fun c313 => ?_) (fun c313 => absurd (nI_pos' (by omega)) c313)
            refine x_iconst (v := nI 1) hE dL_areShining_320 (by decide) ?_
            refine x_iload hE dL_areShining_321 rfl ?_
            refine x_ieq (y := nI b) (hs) ?_
            refine x_ishl hE dL_areShining_323 ?_
            refine x_ior hE dL_areShining_324 ?_
            refine x_ieq (y := nI (T ||| 2 ^ b)) (or_put hb) ?_
            refine x_istore (L' := [some (.ref (ad 0)), some (.int (nI c)), some (.ref ca), some (.ref ma), some (.ref la), some (.int (nI (T ||| 2 ^ b))), some (.int (nI 1)), some (.int (nI i)), some (.int (shiP S c i)), some (.int (nI 1)), some (.int (nI j)), none, none]) hE dL_areShining_325 (Nat.le_of_ble_eq_true rfl) rfl ?_
            refine x_iinc (v := nI (i + 1)) (L' := [some (.ref (ad 0)), some (.int (nI c)), some (.ref ca), some (.ref ma), some (.ref la), some (.int (nI (T ||| 2 ^ b))), some (.int (nI 1)), some (.int (nI (i + 1))), some (.int (shiP S c i)), some (.int (nI 1)), some (.int (nI j)), none, none]) hE dL_areShining_327 rfl (nI_1 _) rfl ?_
            refine x_goto (tgt := 9) hE dL_areShining_330 (by decide) ?_
            refine x_forget (L' := [some (.ref (ad 0)), some (.int (nI c)), some (.ref ca), some (.ref ma), some (.ref la), some (.int (nI (T ||| 2 ^ b))), some (.int (nI 1)), some (.int (nI (i + 1))), none, none, none, none, none]) (And.intro rfl (And.intro rfl (And.intro rfl (And.intro rfl (And.intro rfl (And.intro rfl (And.intro rfl (And.intro rfl trivial)))))))) ?_
            exact ih (i + 1) (by omega) (by omega) (T ||| 2 ^ b) (TI_put hT hb hs)
          · replace c167 := x_nInle c167 (by omega) (by omega)
            refine x_iload hE dL_areShining_170 rfl ?_
            refine x_if_eq (tgt := 309) hE dL_areShining_172 (by decide) (fun c172 => absurd c172 (by decide)) (fun c172 => ?_)
            refine x_aload_n hE dL_areShining_175 rfl rfl ?_
            refine x_aload_n hE dL_areShining_176 rfl rfl ?_
            refine x_iload hE dL_areShining_177 rfl ?_
            refine x_callS (st := []) hE 3 (c_L_isUsable G hca hma (k := j) (by omega)) gL_areShining_L_isUsable rfl rfl rfl (by decide +kernel) ⟨Nat.le_of_ble_eq_true rfl, Nat.le_of_ble_eq_true rfl⟩ rfl rfl dL_areShining_179 rfl (Nat.le_of_ble_eq_true rfl) ⟨Nat.le_of_ble_eq_true rfl, Nat.le_of_ble_eq_true rfl⟩ (fun v h9 hp => ?_)
            obtain ⟨rfl, rfl⟩ := hp
            refine x_ieq (y := b2i (usA (s_ar S) (s_B S) j)) (by have z := hcc.2.2.1; rw [z, (hmm j (by omega)).1, (hmm j (by omega)).2.2.2.2.2]) ?_
            refine x_if_eq (tgt := 233) hE dL_areShining_182 (by decide) (fun c182 => ?_) (fun c182 => ?_)
            · refine x_iconst (v := nI 0) hE dL_areShining_233 (by decide) ?_
              refine x_istore (L' := [some (.ref (ad 0)), some (.int (nI c)), some (.ref ca), some (.ref ma), some (.ref la), some (.int (nI T)), some (.int (nI 1)), some (.int (nI i)), some (.int (shiP S c i)), some (.int (nI 1)), some (.int (nI j)), some (.int (nI 0)), none]) hE dL_areShining_234 (Nat.le_of_ble_eq_true rfl) rfl ?_
              refine x_iload hE dL_areShining_236 rfl ?_
              refine x_if_eq (tgt := 266) hE dL_areShining_238 (by decide) (fun c238 => ?_) (fun c238 => absurd c238 (by decide))
              refine x_iconst (v := nI 0) hE dL_areShining_266 (by decide) ?_
              refine x_istore (L' := [some (.ref (ad 0)), some (.int (nI c)), some (.ref ca), some (.ref ma), some (.ref la), some (.int (nI T)), some (.int (nI 1)), some (.int (nI i)), some (.int (shiP S c i)), some (.int (nI 1)), some (.int (nI j)), some (.int (nI 0)), some (.int (nI 0))]) hE dL_areShining_267 (Nat.le_of_ble_eq_true rfl) rfl ?_
              refine x_iload hE dL_areShining_269 rfl ?_
              refine x_if_eq (tgt := 296) hE dL_areShining_271 (by decide) (fun c271 => ?_) (fun c271 => absurd c271 (by decide))
              refine x_iconst (v := nI 1) hE dL_areShining_296 (by decide) ?_
              refine x_goto (tgt := 301) hE dL_areShining_297 (by decide) ?_
              refine x_istore (L' := [some (.ref (ad 0)), some (.int (nI c)), some (.ref ca), some (.ref ma), some (.ref la), some (.int (nI T)), some (.int (nI 1)), some (.int (nI i)), some (.int (shiP S c i)), some (.int (nI 1)), some (.int (nI j)), some (.int (nI 0)), some (.int (nI 0))]) hE dL_areShining_301 (Nat.le_of_ble_eq_true rfl) rfl ?_
              refine x_iinc (v := nI (j + 1)) (L' := [some (.ref (ad 0)), some (.int (nI c)), some (.ref ca), some (.ref ma), some (.ref la), some (.int (nI T)), some (.int (nI 1)), some (.int (nI i)), some (.int (shiP S c i)), some (.int (nI 1)), some (.int (nI (j + 1))), some (.int (nI 0)), some (.int (nI 0))]) hE dL_areShining_303 rfl (nI_1 _) rfl ?_
              refine x_goto (tgt := 162) hE dL_areShining_306 (by decide) ?_
              refine x_forget (L' := [some (.ref (ad 0)), some (.int (nI c)), some (.ref ca), some (.ref ma), some (.ref la), some (.int (nI T)), some (.int (nI 1)), some (.int (nI i)), some (.int (shiP S c i)), some (.int (nI 1)), some (.int (nI (j + 1))), none, none]) (And.intro rfl (And.intro rfl (And.intro rfl (And.intro rfl (And.intro rfl (And.intro rfl (And.intro rfl (And.intro rfl (And.intro rfl (And.intro rfl (And.intro rfl trivial))))))))))) ?_
              exact ih2 (j + 1) (by omega) (by omega)
            · have u1 : usA (s_ar S) (s_B S) j = true := b2i_n0.mp c182
              refine x_aload hE dL_areShining_185 rfl rfl ?_
              refine x_bipush (v := nI 10) hE dL_areShining_187 (by decide) ?_
              refine x_iload_n hE dL_areShining_189 rfl ?_
              refine x_imul hE dL_areShining_190 ?_
              refine x_ieq (y := nI (10 * c)) (pk_mul _ _) ?_
              refine x_iload hE dL_areShining_191 rfl ?_
              refine x_iadd hE dL_areShining_193 ?_
              refine x_ieq (y := nI (10 * c + j)) (nI_add _ _) ?_
              refine x_iald (v := toldF (s_ar S) c j) hE hla (vp_in_nI (by omega) (by decide)) (by rw [nI_clamp (by omega)]; exact (by rw [hll c j hc (by omega)]; unfold toldF; rw [if_pos (by omega)])) dL_areShining_194 ?_
              refine x_if_ne (tgt := 233) hE dL_areShining_195 (by decide) (fun c195 => ?_) (fun c195 => ?_)
              · refine x_iconst (v := nI 0) hE dL_areShining_233 (by decide) ?_
                refine x_istore (L' := [some (.ref (ad 0)), some (.int (nI c)), some (.ref ca), some (.ref ma), some (.ref la), some (.int (nI T)), some (.int (nI 1)), some (.int (nI i)), some (.int (shiP S c i)), some (.int (nI 1)), some (.int (nI j)), some (.int (nI 0)), none]) hE dL_areShining_234 (Nat.le_of_ble_eq_true rfl) rfl ?_
                refine x_iload hE dL_areShining_236 rfl ?_
                refine x_if_eq (tgt := 266) hE dL_areShining_238 (by decide) (fun c238 => ?_) (fun c238 => absurd c238 (by decide))
                refine x_iconst (v := nI 0) hE dL_areShining_266 (by decide) ?_
                refine x_istore (L' := [some (.ref (ad 0)), some (.int (nI c)), some (.ref ca), some (.ref ma), some (.ref la), some (.int (nI T)), some (.int (nI 1)), some (.int (nI i)), some (.int (shiP S c i)), some (.int (nI 1)), some (.int (nI j)), some (.int (nI 0)), some (.int (nI 0))]) hE dL_areShining_267 (Nat.le_of_ble_eq_true rfl) rfl ?_
                refine x_iload hE dL_areShining_269 rfl ?_
                refine x_if_eq (tgt := 296) hE dL_areShining_271 (by decide) (fun c271 => ?_) (fun c271 => absurd c271 (by decide))
                refine x_iconst (v := nI 1) hE dL_areShining_296 (by decide) ?_
                refine x_goto (tgt := 301) hE dL_areShining_297 (by decide) ?_
                refine x_istore (L' := [some (.ref (ad 0)), some (.int (nI c)), some (.ref ca), some (.ref ma), some (.ref la), some (.int (nI T)), some (.int (nI 1)), some (.int (nI i)), some (.int (shiP S c i)), some (.int (nI 1)), some (.int (nI j)), some (.int (nI 0)), some (.int (nI 0))]) hE dL_areShining_301 (Nat.le_of_ble_eq_true rfl) rfl ?_
                refine x_iinc (v := nI (j + 1)) (L' := [some (.ref (ad 0)), some (.int (nI c)), some (.ref ca), some (.ref ma), some (.ref la), some (.int (nI T)), some (.int (nI 1)), some (.int (nI i)), some (.int (shiP S c i)), some (.int (nI 1)), some (.int (nI (j + 1))), some (.int (nI 0)), some (.int (nI 0))]) hE dL_areShining_303 rfl (nI_1 _) rfl ?_
                refine x_goto (tgt := 162) hE dL_areShining_306 (by decide) ?_
                refine x_forget (L' := [some (.ref (ad 0)), some (.int (nI c)), some (.ref ca), some (.ref ma), some (.ref la), some (.int (nI T)), some (.int (nI 1)), some (.int (nI i)), some (.int (shiP S c i)), some (.int (nI 1)), some (.int (nI (j + 1))), none, none]) (And.intro rfl (And.intro rfl (And.intro rfl (And.intro rfl (And.intro rfl (And.intro rfl (And.intro rfl (And.intro rfl (And.intro rfl (And.intro rfl (And.intro rfl trivial))))))))))) ?_
                exact ih2 (j + 1) (by omega) (by omega)
              · have u2 : toldF (s_ar S) c j = 0 := by simpa using c195
                refine x_aload_n hE dL_areShining_198 rfl rfl ?_
                refine x_bipush (v := nI 6) hE dL_areShining_199 (by decide) ?_
                refine x_iload hE dL_areShining_201 rfl ?_
                refine x_imul hE dL_areShining_203 ?_
                refine x_ieq (y := nI (6 * j)) (pk_mul _ _) ?_
                refine x_iconst (v := nI 2) hE dL_areShining_204 (by decide) ?_
                refine x_iadd hE dL_areShining_205 ?_
                refine x_ieq (y := nI (6 * j + 2)) (nI_add _ _) ?_
                refine x_iald (v := s_ar S 4 j) hE hma (vp_in_nI (by omega) (by decide)) (by rw [nI_clamp (by omega)]; exact (hmm j (by omega)).2.2.1) dL_areShining_206 ?_
                refine x_aload_n hE dL_areShining_207 rfl rfl ?_
                refine x_bipush (v := nI 6) hE dL_areShining_208 (by decide) ?_
                refine x_iload hE dL_areShining_210 rfl ?_
                refine x_imul hE dL_areShining_212 ?_
                refine x_ieq (y := nI (6 * i)) (pk_mul _ _) ?_
                refine x_iconst (v := nI 2) hE dL_areShining_213 (by decide) ?_
                refine x_iadd hE dL_areShining_214 ?_
                refine x_ieq (y := nI (6 * i + 2)) (nI_add _ _) ?_
                refine x_iald (v := s_ar S 4 i) hE hma (vp_in_nI (by omega) (by decide)) (by rw [nI_clamp (by omega)]; exact (hmm i (by omega)).2.2.1) dL_areShining_215 ?_
                refine x_icmp_ne (tgt := 233) hE dL_areShining_216 (by decide) (fun c216 => ?_) (fun c216 => ?_)
                · refine x_iconst (v := nI 0) hE dL_areShining_233 (by decide) ?_
                  refine x_istore (L' := [some (.ref (ad 0)), some (.int (nI c)), some (.ref ca), some (.ref ma), some (.ref la), some (.int (nI T)), some (.int (nI 1)), some (.int (nI i)), some (.int (shiP S c i)), some (.int (nI 1)), some (.int (nI j)), some (.int (nI 0)), none]) hE dL_areShining_234 (Nat.le_of_ble_eq_true rfl) rfl ?_
                  refine x_iload hE dL_areShining_236 rfl ?_
                  refine x_if_eq (tgt := 266) hE dL_areShining_238 (by decide) (fun c238 => ?_) (fun c238 => absurd c238 (by decide))
                  refine x_iconst (v := nI 0) hE dL_areShining_266 (by decide) ?_
                  refine x_istore (L' := [some (.ref (ad 0)), some (.int (nI c)), some (.ref ca), some (.ref ma), some (.ref la), some (.int (nI T)), some (.int (nI 1)), some (.int (nI i)), some (.int (shiP S c i)), some (.int (nI 1)), some (.int (nI j)), some (.int (nI 0)), some (.int (nI 0))]) hE dL_areShining_267 (Nat.le_of_ble_eq_true rfl) rfl ?_
                  refine x_iload hE dL_areShining_269 rfl ?_
                  refine x_if_eq (tgt := 296) hE dL_areShining_271 (by decide) (fun c271 => ?_) (fun c271 => absurd c271 (by decide))
                  refine x_iconst (v := nI 1) hE dL_areShining_296 (by decide) ?_
                  refine x_goto (tgt := 301) hE dL_areShining_297 (by decide) ?_
                  refine x_istore (L' := [some (.ref (ad 0)), some (.int (nI c)), some (.ref ca), some (.ref ma), some (.ref la), some (.int (nI T)), some (.int (nI 1)), some (.int (nI i)), some (.int (shiP S c i)), some (.int (nI 1)), some (.int (nI j)), some (.int (nI 0)), some (.int (nI 0))]) hE dL_areShining_301 (Nat.le_of_ble_eq_true rfl) rfl ?_
                  refine x_iinc (v := nI (j + 1)) (L' := [some (.ref (ad 0)), some (.int (nI c)), some (.ref ca), some (.ref ma), some (.ref la), some (.int (nI T)), some (.int (nI 1)), some (.int (nI i)), some (.int (shiP S c i)), some (.int (nI 1)), some (.int (nI (j + 1))), some (.int (nI 0)), some (.int (nI 0))]) hE dL_areShining_303 rfl (nI_1 _) rfl ?_
                  refine x_goto (tgt := 162) hE dL_areShining_306 (by decide) ?_
                  refine x_forget (L' := [some (.ref (ad 0)), some (.int (nI c)), some (.ref ca), some (.ref ma), some (.ref la), some (.int (nI T)), some (.int (nI 1)), some (.int (nI i)), some (.int (shiP S c i)), some (.int (nI 1)), some (.int (nI (j + 1))), none, none]) (And.intro rfl (And.intro rfl (And.intro rfl (And.intro rfl (And.intro rfl (And.intro rfl (And.intro rfl (And.intro rfl (And.intro rfl (And.intro rfl (And.intro rfl trivial))))))))))) ?_
                  exact ih2 (j + 1) (by omega) (by omega)
                · refine x_iload hE dL_areShining_219 rfl ?_
                  refine x_iload hE dL_areShining_221 rfl ?_
                  refine x_ishr hE dL_areShining_223 ?_
                  refine x_iconst (v := nI 1) hE dL_areShining_224 (by decide) ?_
                  refine x_iand hE dL_areShining_225 ?_
                  refine x_ieq (y := nI (T / 2 ^ j % 2)) (tb_is hT.1 (by omega)) ?_
                  refine x_if_ne (tgt := 233) hE dL_areShining_226 (by decide) (fun c226 => ?_) (fun c226 => ?_)
                  · refine x_iconst (v := nI 0) hE dL_areShining_233 (by decide) ?_
                    refine x_istore (L' := [some (.ref (ad 0)), some (.int (nI c)), some (.ref ca), some (.ref ma), some (.ref la), some (.int (nI T)), some (.int (nI 1)), some (.int (nI i)), some (.int (shiP S c i)), some (.int (nI 1)), some (.int (nI j)), some (.int (nI 0)), none]) hE dL_areShining_234 (Nat.le_of_ble_eq_true rfl) rfl ?_
                    refine x_iload hE dL_areShining_236 rfl ?_
                    refine x_if_eq (tgt := 266) hE dL_areShining_238 (by decide) (fun c238 => ?_) (fun c238 => absurd c238 (by decide))
                    refine x_iconst (v := nI 0) hE dL_areShining_266 (by decide) ?_
                    refine x_istore (L' := [some (.ref (ad 0)), some (.int (nI c)), some (.ref ca), some (.ref ma), some (.ref la), some (.int (nI T)), some (.int (nI 1)), some (.int (nI i)), some (.int (shiP S c i)), some (.int (nI 1)), some (.int (nI j)), some (.int (nI 0)), some (.int (nI 0))]) hE dL_areShining_267 (Nat.le_of_ble_eq_true rfl) rfl ?_
                    refine x_iload hE dL_areShining_269 rfl ?_
                    refine x_if_eq (tgt := 296) hE dL_areShining_271 (by decide) (fun c271 => ?_) (fun c271 => absurd c271 (by decide))
                    refine x_iconst (v := nI 1) hE dL_areShining_296 (by decide) ?_
                    refine x_goto (tgt := 301) hE dL_areShining_297 (by decide) ?_
                    refine x_istore (L' := [some (.ref (ad 0)), some (.int (nI c)), some (.ref ca), some (.ref ma), some (.ref la), some (.int (nI T)), some (.int (nI 1)), some (.int (nI i)), some (.int (shiP S c i)), some (.int (nI 1)), some (.int (nI j)), some (.int (nI 0)), some (.int (nI 0))]) hE dL_areShining_301 (Nat.le_of_ble_eq_true rfl) rfl ?_
                    refine x_iinc (v := nI (j + 1)) (L' := [some (.ref (ad 0)), some (.int (nI c)), some (.ref ca), some (.ref ma), some (.ref la), some (.int (nI T)), some (.int (nI 1)), some (.int (nI i)), some (.int (shiP S c i)), some (.int (nI 1)), some (.int (nI (j + 1))), some (.int (nI 0)), some (.int (nI 0))]) hE dL_areShining_303 rfl (nI_1 _) rfl ?_
                    refine x_goto (tgt := 162) hE dL_areShining_306 (by decide) ?_
                    refine x_forget (L' := [some (.ref (ad 0)), some (.int (nI c)), some (.ref ca), some (.ref ma), some (.ref la), some (.int (nI T)), some (.int (nI 1)), some (.int (nI i)), some (.int (shiP S c i)), some (.int (nI 1)), some (.int (nI (j + 1))), none, none]) (And.intro rfl (And.intro rfl (And.intro rfl (And.intro rfl (And.intro rfl (And.intro rfl (And.intro rfl (And.intro rfl (And.intro rfl (And.intro rfl (And.intro rfl trivial))))))))))) ?_
                    exact ih2 (j + 1) (by omega) (by omega)
                  · have u4 : T.testBit j = false := by
                      cases z : T.testBit j with
                      | false => rfl
                      | true =>
                        rw [tb_bit.mpr z] at c226
                        exact absurd c226 (by decide)
                    have hbj := hbest j (by omega) u1 c216 u2 u4
                    have d1 := dN_b hV hb (by omega : i < 10)
                    have d2 := dN_b hV (by omega : j < 10) (by omega : i < 10)
                    refine x_iconst (v := nI 1) hE dL_areShining_229 (by decide) ?_
                    refine x_goto (tgt := 234) hE dL_areShining_230 (by decide) ?_
                    refine x_istore (L' := [some (.ref (ad 0)), some (.int (nI c)), some (.ref ca), some (.ref ma), some (.ref la), some (.int (nI T)), some (.int (nI 1)), some (.int (nI i)), some (.int (shiP S c i)), some (.int (nI 1)), some (.int (nI j)), some (.int (nI 1)), none]) hE dL_areShining_234 (Nat.le_of_ble_eq_true rfl) rfl ?_
                    refine x_iload hE dL_areShining_236 rfl ?_
                    refine x_if_eq (tgt := 266) hE dL_areShining_238 (by decide) (fun c238 => absurd c238 (by decide)) (fun c238 => ?_)
                    refine x_iload hE dL_areShining_241 rfl ?_
                    refine x_ieq (y := nI b) (hs) ?_
                    refine x_if_lt (tgt := 266) hE dL_areShining_243 (by decide) (fun c243 => absurd c243 (nI_pos (by omega))) (fun c243 => ?_)
                    refine x_aload_n hE dL_areShining_246 rfl rfl ?_
                    refine x_iload hE dL_areShining_247 rfl ?_
                    refine x_iload hE dL_areShining_249 rfl ?_
                    refine x_callS (st := []) hE 3 (c_L_distance G hV hma hmm (a := j) (b := i) (by omega) (by omega)) gL_areShining_L_distance rfl rfl rfl (by decide +kernel) ⟨Nat.le_of_ble_eq_true rfl, Nat.le_of_ble_eq_true rfl⟩ rfl rfl dL_areShining_251 rfl (Nat.le_of_ble_eq_true rfl) ⟨Nat.le_of_ble_eq_true rfl, Nat.le_of_ble_eq_true rfl⟩ (fun v h9 hp => ?_)
                    obtain ⟨rfl, rfl⟩ := hp
                    refine x_aload_n hE dL_areShining_254 rfl rfl ?_
                    refine x_iload hE dL_areShining_255 rfl ?_
                    refine x_ieq (y := nI b) (hs) ?_
                    refine x_iload hE dL_areShining_257 rfl ?_
                    refine x_callS (st := [.int (nI (dN S j i))]) hE 3 (c_L_distance G hV hma hmm (a := b) (b := i) hb (by omega)) gL_areShining_L_distance rfl rfl rfl (by decide +kernel) ⟨Nat.le_of_ble_eq_true rfl, Nat.le_of_ble_eq_true rfl⟩ rfl rfl dL_areShining_259 rfl (Nat.le_of_ble_eq_true rfl) ⟨Nat.le_of_ble_eq_true rfl, Nat.le_of_ble_eq_true rfl⟩ (fun v h9 hp => ?_)
                    obtain ⟨rfl, rfl⟩ := hp
                    refine x_isub hE dL_areShining_262 ?_
                    refine x_goto (tgt := 267) hE dL_areShining_263 (by decide) ?_
                    refine x_istore (L' := [some (.ref (ad 0)), some (.int (nI c)), some (.ref ca), some (.ref ma), some (.ref la), some (.int (nI T)), some (.int (nI 1)), some (.int (nI i)), some (.int (shiP S c i)), some (.int (nI 1)), some (.int (nI j)), some (.int (nI 1)), some (.int ((nI (dN S j i)) - (nI (dN S b i))))]) hE dL_areShining_267 (Nat.le_of_ble_eq_true rfl) rfl ?_
                    refine x_iload hE dL_areShining_269 rfl ?_
                    refine x_if_eq (tgt := 296) hE dL_areShining_271 (by decide) (fun c271 => absurd c271 (by decide)) (fun c271 => ?_)
                    refine x_iload hE dL_areShining_274 rfl ?_
                    refine x_ieq (y := nI b) (hs) ?_
                    refine x_if_lt (tgt := 300) hE dL_areShining_276 (by decide) (fun c276 => absurd c276 (nI_pos (by omega))) (fun c276 => ?_)
                    refine x_iload hE dL_areShining_279 rfl ?_
                    refine x_if_gt (tgt := 296) hE dL_areShining_281 (by decide) (fun c281 => ?_) (fun c281 => ?_)
                    · refine x_iconst (v := nI 1) hE dL_areShining_296 (by decide) ?_
                      refine x_goto (tgt := 301) hE dL_areShining_297 (by decide) ?_
                      refine x_istore (L' := [some (.ref (ad 0)), some (.int (nI c)), some (.ref ca), some (.ref ma), some (.ref la), some (.int (nI T)), some (.int (nI 1)), some (.int (nI i)), some (.int (shiP S c i)), some (.int (nI 1)), some (.int (nI j)), some (.int (nI 1)), some (.int ((nI (dN S j i)) - (nI (dN S b i))))]) hE dL_areShining_301 (Nat.le_of_ble_eq_true rfl) rfl ?_
                      refine x_iinc (v := nI (j + 1)) (L' := [some (.ref (ad 0)), some (.int (nI c)), some (.ref ca), some (.ref ma), some (.ref la), some (.int (nI T)), some (.int (nI 1)), some (.int (nI i)), some (.int (shiP S c i)), some (.int (nI 1)), some (.int (nI (j + 1))), some (.int (nI 1)), some (.int ((nI (dN S j i)) - (nI (dN S b i))))]) hE dL_areShining_303 rfl (nI_1 _) rfl ?_
                      refine x_goto (tgt := 162) hE dL_areShining_306 (by decide) ?_
                      refine x_forget (L' := [some (.ref (ad 0)), some (.int (nI c)), some (.ref ca), some (.ref ma), some (.ref la), some (.int (nI T)), some (.int (nI 1)), some (.int (nI i)), some (.int (shiP S c i)), some (.int (nI 1)), some (.int (nI (j + 1))), none, none]) (And.intro rfl (And.intro rfl (And.intro rfl (And.intro rfl (And.intro rfl (And.intro rfl (And.intro rfl (And.intro rfl (And.intro rfl (And.intro rfl (And.intro rfl trivial))))))))))) ?_
                      exact ih2 (j + 1) (by omega) (by omega)
                    · have hde : dN S j i = dN S b i ∧ b ≤ j := by
                        rw [Int32.lt_iff_toInt_lt, pk_sub_toInt (by omega) (by omega)] at c281
                        have e0 : (0 : Int32).toInt = 0 := by decide
                        rcases hbj with z | ⟨z1, z2⟩
                        · omega
                        · exact ⟨z1.symm, z2⟩
                      refine x_iload hE dL_areShining_284 rfl ?_
                      refine x_if_ne (tgt := 300) hE dL_areShining_286 (by decide) (fun c286 => absurd (by rw [hde.1]; exact Int32.sub_self _) c286) (fun c286 => ?_)
                      refine x_iload hE dL_areShining_289 rfl ?_
                      refine x_iload hE dL_areShining_291 rfl ?_
                      refine x_ieq (y := nI b) (hs) ?_
                      refine x_icmp_lt (tgt := 300) hE dL_areShining_293 (by decide) (fun c293 => absurd (x_nIlt c293 (by omega) (by omega)) (by omega)) (fun c293 => ?_)
                      refine x_iconst (v := nI 1) hE dL_areShining_296 (by decide) ?_
                      refine x_goto (tgt := 301) hE dL_areShining_297 (by decide) ?_
                      refine x_istore (L' := [some (.ref (ad 0)), some (.int (nI c)), some (.ref ca), some (.ref ma), some (.ref la), some (.int (nI T)), some (.int (nI 1)), some (.int (nI i)), some (.int (shiP S c i)), some (.int (nI 1)), some (.int (nI j)), some (.int (nI 1)), some (.int ((nI (dN S j i)) - (nI (dN S b i))))]) hE dL_areShining_301 (Nat.le_of_ble_eq_true rfl) rfl ?_
                      refine x_iinc (v := nI (j + 1)) (L' := [some (.ref (ad 0)), some (.int (nI c)), some (.ref ca), some (.ref ma), some (.ref la), some (.int (nI T)), some (.int (nI 1)), some (.int (nI i)), some (.int (shiP S c i)), some (.int (nI 1)), some (.int (nI (j + 1))), some (.int (nI 1)), some (.int ((nI (dN S j i)) - (nI (dN S b i))))]) hE dL_areShining_303 rfl (nI_1 _) rfl ?_
                      refine x_goto (tgt := 162) hE dL_areShining_306 (by decide) ?_
                      refine x_forget (L' := [some (.ref (ad 0)), some (.int (nI c)), some (.ref ca), some (.ref ma), some (.ref la), some (.int (nI T)), some (.int (nI 1)), some (.int (nI i)), some (.int (shiP S c i)), some (.int (nI 1)), some (.int (nI (j + 1))), none, none]) (And.intro rfl (And.intro rfl (And.intro rfl (And.intro rfl (And.intro rfl (And.intro rfl (And.intro rfl (And.intro rfl (And.intro rfl (And.intro rfl (And.intro rfl trivial))))))))))) ?_
                      exact ih2 (j + 1) (by omega) (by omega)
      · have hu : usA (s_ar S) (s_B S) i = true := b2i_n0.mp c63
        have hs : shiP S c i = nI i := shi_self (by omega) (by omega) h0 hu
        refine x_iload hE dL_areShining_66 rfl ?_
        refine x_iload hE dL_areShining_68 rfl ?_
        refine x_if_eq (tgt := 78) hE dL_areShining_70 (by decide) (fun c70 => absurd c70 (by decide)) (fun c70 => ?_)
        refine x_iload hE dL_areShining_73 rfl ?_
        refine x_goto (tgt := 79) hE dL_areShining_75 (by decide) ?_
        refine x_icmp_ne (tgt := 86) hE dL_areShining_79 (by decide) (fun c79 => absurd hs c79) (fun c79 => ?_)
        refine x_iconst (v := nI 1) hE dL_areShining_82 (by decide) ?_
        refine x_goto (tgt := 87) hE dL_areShining_83 (by decide) ?_
        refine x_istore (L' := [some (.ref (ad 0)), some (.int (nI c)), some (.ref ca), some (.ref ma), some (.ref la), some (.int (nI T)), some (.int (nI 1)), some (.int (nI i)), some (.int (shiP S c i)), some (.int (nI 1)), none, none, none]) hE dL_areShining_87 (Nat.le_of_ble_eq_true rfl) rfl ?_
        refine x_goto (tgt := 327) hE dL_areShining_89 (by decide) ?_
        refine x_iinc (v := nI (i + 1)) (L' := [some (.ref (ad 0)), some (.int (nI c)), some (.ref ca), some (.ref ma), some (.ref la), some (.int (nI T)), some (.int (nI 1)), some (.int (nI (i + 1))), some (.int (shiP S c i)), some (.int (nI 1)), none, none, none]) hE dL_areShining_327 rfl (nI_1 _) rfl ?_
        refine x_goto (tgt := 9) hE dL_areShining_330 (by decide) ?_
        refine x_forget (L' := [some (.ref (ad 0)), some (.int (nI c)), some (.ref ca), some (.ref ma), some (.ref la), some (.int (nI T)), some (.int (nI 1)), some (.int (nI (i + 1))), none, none, none, none, none]) (And.intro rfl (And.intro rfl (And.intro rfl (And.intro rfl (And.intro rfl (And.intro rfl (And.intro rfl (And.intro rfl trivial)))))))) ?_
        exact ih (i + 1) (by omega) (by omega) T (TI_skip hT (fun j hj hj0 z => by have := x_nIinj (hs.symm.trans z) (by omega) (by omega); subst this; exact h0 hj0))
