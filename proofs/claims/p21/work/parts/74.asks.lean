set_option maxHeartbeats 4000000 in
set_option maxRecDepth 100000 in
theorem c_L_isUsable (G : XG) {h : HM} {ca ma k : Nat} {cf mf : Nat → Int32} (hca : h ca = some (rowI G 5 cf)) (hma : h ma = some (rowI G 60 mf)) (hk : k < 10) : x_M G yL_isUsable wsL_isUsable ({ frames := 0, cells := 0, slots := 0, locals := 0 } : Room) [.ref ca, .ref ma, .int (nI k)] h (x_is (some (.int (b2i (usV (cf 2) (mf (6 * k)) (mf (6 * k + 5)))))) h) 0 0 := by
  refine x_M.of (cc := cL_isUsable) (maxL := 3) (ret := (some .boolean)) (ent := [some (.ref ca), some (.ref ma), some (.int (nI k))]) (by decide +kernel) rfl (Nat.le_of_ble_eq_true rfl) rfl rfl ?_
  intro F hE hname
  refine x_aload_n hE dL_isUsable_0 rfl rfl ?_
  refine x_bipush (v := nI 6) hE dL_isUsable_1 (by decide) ?_
  refine x_iload_n hE dL_isUsable_3 rfl ?_
  refine x_imul hE dL_isUsable_4 ?_
  refine x_ieq (y := nI (6 * k)) (pk_mul _ _) ?_
  refine x_iconst (v := nI 5) hE dL_isUsable_5 (by decide) ?_
  refine x_iadd hE dL_isUsable_6 ?_
  refine x_ieq (y := nI (6 * k + 5)) (nI_add _ _) ?_
  refine x_iald (v := mf (6 * k + 5)) hE hma (vp_in_nI (by omega) (by decide)) (x_atN _ (by omega)) dL_isUsable_7 ?_
  refine x_if_ne (tgt := 31) hE dL_isUsable_8 (by decide) (fun c8 => ?_) (fun c8 => ?_)
  · have e : usV (cf 2) (mf (6 * k)) (mf (6 * k + 5)) = false := by unfold usV; rw [decide_eq_false c8, Bool.false_and]
    refine x_iconst (v := nI 0) hE dL_isUsable_31 (by decide) ?_
    exact x_zret hE (Or.inl rfl) dL_isUsable_32 (⟨x_zf e, rfl⟩)
  · refine x_aload_n hE dL_isUsable_11 rfl rfl ?_
    refine x_iconst (v := nI 2) hE dL_isUsable_12 (by decide) ?_
    refine x_iald (v := cf 2) hE hca (vp_in_nI (by omega) (by decide)) (x_atN _ (by omega)) dL_isUsable_13 ?_
    refine x_aload_n hE dL_isUsable_14 rfl rfl ?_
    refine x_bipush (v := nI 6) hE dL_isUsable_15 (by decide) ?_
    refine x_iload_n hE dL_isUsable_17 rfl ?_
    refine x_imul hE dL_isUsable_18 ?_
    refine x_ieq (y := nI (6 * k)) (pk_mul _ _) ?_
    refine x_iald (v := mf (6 * k)) hE hma (vp_in_nI (by omega) (by decide)) (x_atN _ (by omega)) dL_isUsable_19 ?_
    refine x_ishr hE dL_isUsable_20 ?_
    refine x_iconst (v := nI 1) hE dL_isUsable_21 (by decide) ?_
    refine x_iand hE dL_isUsable_22 ?_
    refine x_iconst (v := nI 1) hE dL_isUsable_23 (by decide) ?_
    refine x_icmp_ne (tgt := 31) hE dL_isUsable_24 (by decide) (fun c24 => ?_) (fun c24 => ?_)
    · have e : usV (cf 2) (mf (6 * k)) (mf (6 * k + 5)) = false := by unfold usV; rw [decide_eq_false c24, Bool.and_false]
      refine x_iconst (v := nI 0) hE dL_isUsable_31 (by decide) ?_
      exact x_zret hE (Or.inl rfl) dL_isUsable_32 (⟨x_zf e, rfl⟩)
    · have e : usV (cf 2) (mf (6 * k)) (mf (6 * k + 5)) = true := by unfold usV; rw [decide_eq_true c8, decide_eq_true c24]; rfl
      refine x_iconst (v := nI 1) hE dL_isUsable_27 (by decide) ?_
      refine x_goto (tgt := 32) hE dL_isUsable_28 (by decide) ?_
      exact x_zret hE (Or.inr rfl) dL_isUsable_32 (⟨x_zt e, rfl⟩)

set_option maxHeartbeats 4000000 in
set_option maxRecDepth 100000 in
theorem c_L_distance (G : XG) {h : HM} {S : PS} {ma a b : Nat} {mf : Nat → Int32} (hV : lV S) (hma : h ma = some (rowI G 60 mf)) (hmm : lRm S mf) (ha : a < 10) (hb : b < 10) : x_M G yL_distance wsL_distance ({ frames := 0, cells := 0, slots := 0, locals := 0 } : Room) [.ref ma, .int (nI a), .int (nI b)] h (x_is (some (.int (nI (dN S a b)))) h) 0 0 := by
  refine x_M.of (cc := cL_distance) (maxL := 5) (ret := (some .int)) (ent := [some (.ref ma), some (.int (nI a)), some (.int (nI b)), none, none]) (by decide +kernel) rfl (Nat.le_of_ble_eq_true rfl) rfl rfl ?_
  intro F hE hname
  obtain ⟨⟨b1, v1, e1⟩, ⟨p1, v2, e2⟩, _⟩ := hV a ha
  obtain ⟨⟨b2, v3, e3⟩, ⟨p2, v4, e4⟩, _⟩ := hV b hb
  obtain ⟨m1, m2, _⟩ := hmm a ha
  obtain ⟨m3, m4, _⟩ := hmm b hb
  have eD : dN S a b = 10 * dfN b1 b2 + dfN p1 p2 := by unfold dN; rw [e1, e2, e3, e4, nI_clamp (by omega), nI_clamp (by omega), nI_clamp (by omega), nI_clamp (by omega)]
  refine x_aload_n hE dL_distance_0 rfl rfl ?_
  refine x_bipush (v := nI 6) hE dL_distance_1 (by decide) ?_
  refine x_iload_n hE dL_distance_3 rfl ?_
  refine x_imul hE dL_distance_4 ?_
  refine x_ieq (y := nI (6 * a)) (pk_mul _ _) ?_
  refine x_iald (v := nI b1) hE hma (vp_in_nI (by omega) (by decide)) (by rw [nI_clamp (by omega)]; exact (m1.trans e1)) dL_distance_5 ?_
  refine x_aload_n hE dL_distance_6 rfl rfl ?_
  refine x_bipush (v := nI 6) hE dL_distance_7 (by decide) ?_
  refine x_iload_n hE dL_distance_9 rfl ?_
  refine x_imul hE dL_distance_10 ?_
  refine x_ieq (y := nI (6 * b)) (pk_mul _ _) ?_
  refine x_iald (v := nI b2) hE hma (vp_in_nI (by omega) (by decide)) (by rw [nI_clamp (by omega)]; exact (m3.trans e3)) dL_distance_11 ?_
  refine x_isub hE dL_distance_12 ?_
  refine x_istore_n (L' := [some (.ref ma), some (.int (nI a)), some (.int (nI b)), some (.int ((nI b1) - (nI b2))), none]) hE dL_distance_13 rfl (Nat.le_of_ble_eq_true rfl) rfl ?_
  refine x_aload_n hE dL_distance_14 rfl rfl ?_
  refine x_bipush (v := nI 6) hE dL_distance_15 (by decide) ?_
  refine x_iload_n hE dL_distance_17 rfl ?_
  refine x_imul hE dL_distance_18 ?_
  refine x_ieq (y := nI (6 * a)) (pk_mul _ _) ?_
  refine x_iconst (v := nI 1) hE dL_distance_19 (by decide) ?_
  refine x_iadd hE dL_distance_20 ?_
  refine x_ieq (y := nI (6 * a + 1)) (nI_add _ _) ?_
  refine x_iald (v := nI p1) hE hma (vp_in_nI (by omega) (by decide)) (by rw [nI_clamp (by omega)]; exact (m2.trans e2)) dL_distance_21 ?_
  refine x_aload_n hE dL_distance_22 rfl rfl ?_
  refine x_bipush (v := nI 6) hE dL_distance_23 (by decide) ?_
  refine x_iload_n hE dL_distance_25 rfl ?_
  refine x_imul hE dL_distance_26 ?_
  refine x_ieq (y := nI (6 * b)) (pk_mul _ _) ?_
  refine x_iconst (v := nI 1) hE dL_distance_27 (by decide) ?_
  refine x_iadd hE dL_distance_28 ?_
  refine x_ieq (y := nI (6 * b + 1)) (nI_add _ _) ?_
  refine x_iald (v := nI p2) hE hma (vp_in_nI (by omega) (by decide)) (by rw [nI_clamp (by omega)]; exact (m4.trans e4)) dL_distance_29 ?_
  refine x_isub hE dL_distance_30 ?_
  refine x_istore (L' := [some (.ref ma), some (.int (nI a)), some (.int (nI b)), some (.int ((nI b1) - (nI b2))), some (.int ((nI p1) - (nI p2)))]) hE dL_distance_31 (Nat.le_of_ble_eq_true rfl) rfl ?_
  refine x_bipush (v := nI 10) hE dL_distance_33 (by decide) ?_
  refine x_iload_n hE dL_distance_35 rfl ?_
  refine x_if_ge (tgt := 44) hE dL_distance_36 (by decide) (fun c36 => ?_) (fun c36 => ?_)
  · refine x_iload_n hE dL_distance_44 rfl ?_
    refine x_ieq (y := nI (dfN b1 b2)) (df_pos (by omega) (by omega) c36) ?_
    refine x_imul hE dL_distance_45 ?_
    refine x_ieq (y := nI (10 * dfN b1 b2)) (pk_mul _ _) ?_
    refine x_iload hE dL_distance_46 rfl ?_
    refine x_if_ge (tgt := 57) hE dL_distance_48 (by decide) (fun c48 => ?_) (fun c48 => ?_)
    · refine x_iload hE dL_distance_57 rfl ?_
      refine x_ieq (y := nI (dfN p1 p2)) (df_pos (by omega) (by omega) c48) ?_
      refine x_iadd hE dL_distance_59 ?_
      refine x_ieq (y := nI (dN S a b)) (by rw [nI_add, eD]) ?_
      exact x_iret hE dL_distance_60 (⟨rfl, rfl⟩)
    · refine x_iload hE dL_distance_51 rfl ?_
      refine x_ineg hE dL_distance_53 ?_
      refine x_ieq (y := nI (dfN p1 p2)) (df_neg (by omega) (by omega) c48) ?_
      refine x_goto (tgt := 59) hE dL_distance_54 (by decide) ?_
      refine x_iadd hE dL_distance_59 ?_
      refine x_ieq (y := nI (dN S a b)) (by rw [nI_add, eD]) ?_
      exact x_iret hE dL_distance_60 (⟨rfl, rfl⟩)
  · refine x_iload_n hE dL_distance_39 rfl ?_
    refine x_ineg hE dL_distance_40 ?_
    refine x_ieq (y := nI (dfN b1 b2)) (df_neg (by omega) (by omega) c36) ?_
    refine x_goto (tgt := 45) hE dL_distance_41 (by decide) ?_
    refine x_imul hE dL_distance_45 ?_
    refine x_ieq (y := nI (10 * dfN b1 b2)) (pk_mul _ _) ?_
    refine x_iload hE dL_distance_46 rfl ?_
    refine x_if_ge (tgt := 57) hE dL_distance_48 (by decide) (fun c48 => ?_) (fun c48 => ?_)
    · refine x_iload hE dL_distance_57 rfl ?_
      refine x_ieq (y := nI (dfN p1 p2)) (df_pos (by omega) (by omega) c48) ?_
      refine x_iadd hE dL_distance_59 ?_
      refine x_ieq (y := nI (dN S a b)) (by rw [nI_add, eD]) ?_
      exact x_iret hE dL_distance_60 (⟨rfl, rfl⟩)
    · refine x_iload hE dL_distance_51 rfl ?_
      refine x_ineg hE dL_distance_53 ?_
      refine x_ieq (y := nI (dfN p1 p2)) (df_neg (by omega) (by omega) c48) ?_
      refine x_goto (tgt := 59) hE dL_distance_54 (by decide) ?_
      refine x_iadd hE dL_distance_59 ?_
      refine x_ieq (y := nI (dN S a b)) (by rw [nI_add, eD]) ?_
      exact x_iret hE dL_distance_60 (⟨rfl, rfl⟩)

set_option maxHeartbeats 4000000 in
set_option maxRecDepth 100000 in
theorem c_L_levelBy (G : XG) {ad ow : Nat → Nat} {eA : Nat} {A1 P1 : List Nat} {c1 : Nat → GC} {A2 P2 : List Nat} {c2 : Nat → GC} {RY : List Nat} {S : PS} {h : HM} (hW : cW G ad ow eA A1 P1 c1 A2 P2 c2 RY S h) (hS : lS S) {ca : Nat} {cf : Nat → Int32} (hca : h ca = some (rowI G 5 cf)) (hcc : lRc S cf) {la : Nat} {lf : Nat → Int32} (hla : h la = some (rowI G 60 lf)) (hll : lRl S lf) {c u : Nat} (hc : c < 6) (hu : u < 10) : x_M G yL_levelBy wsL_levelBy ({ frames := 7, cells := 0, slots := 0, locals := 113 } : Room) [.ref (ad 0), .int (nI c), .int (nI u), .ref ca, .ref la] h (x_is (some (.int (levP (s_ar S) (s_L S) (s_B S) c u))) h) 0 0 := by
  refine x_M.of (cc := cL_levelBy) (maxL := 7) (ret := (some .int)) (ent := [some (.ref (ad 0)), some (.int (nI c)), some (.int (nI u)), some (.ref ca), some (.ref la), none, none]) (by decide +kernel) rfl (Nat.le_of_ble_eq_true rfl) rfl rfl ?_
  intro F hE hname
  obtain ⟨hL10, hC6, hV⟩ := hS
  have eL : lbF (shiP S c) (toldF (s_ar S) c) u 10 = levP (s_ar S) (s_L S) (s_B S) c u := by
    rw [show (10 : Nat) = s_L S from hL10.symm]
    exact lbF_lev (by omega) (by omega)
  refine x_iconst (v := nI 0) hE dL_levelBy_0 (by decide) ?_
  refine x_istore (L' := [some (.ref (ad 0)), some (.int (nI c)), some (.int (nI u)), some (.ref ca), some (.ref la), some (.int (nI 0)), none]) hE dL_levelBy_1 (Nat.le_of_ble_eq_true rfl) rfl ?_
  refine x_iconst (v := nI 0) hE dL_levelBy_3 (by decide) ?_
  refine x_istore (L' := [some (.ref (ad 0)), some (.int (nI c)), some (.int (nI u)), some (.ref ca), some (.ref la), some (.int (nI 0)), some (.int (nI 0))]) hE dL_levelBy_4 (Nat.le_of_ble_eq_true rfl) rfl ?_
  refine x_down (N := 10) (P := fun i => x_W G F (x_Q G F (x_is (some (.int (levP (s_ar S) (s_L S) (s_B S) c u))) h) 0 0) 0 0 h 6 [some (.ref (ad 0)), some (.int (nI c)), some (.int (nI u)), some (.ref ca), some (.ref la), some (.int (lbF (shiP S c) (toldF (s_ar S) c) u i)), some (.int (nI i))] []) (fun i hiN ih => ?_) 0 (by omega) 
  refine x_iload hE dL_levelBy_6 rfl ?_
  refine x_aload_n hE dL_levelBy_8 rfl rfl ?_
  refine x_iconst (v := nI 0) hE dL_levelBy_9 (by decide) ?_
  refine x_iald (v := nI 10) hE hca (vp_in_nI (by omega) (by decide)) (by rw [nI_clamp (by omega)]; exact hcc.1) dL_levelBy_10 ?_
  refine x_icmp_ge (tgt := 50) hE dL_levelBy_11 (by decide) (fun c11 => ?_) (fun c11 => ?_)
  · replace c11 := x_nIle c11 (by omega) (by omega)
    obtain rfl : i = 10 := by omega
    refine x_iload hE dL_levelBy_50 rfl ?_
    exact x_iret hE dL_levelBy_52 (⟨by rw [eL], rfl⟩)
  · replace c11 := x_nInle c11 (by omega) (by omega)
    refine x_iload hE dL_levelBy_14 rfl ?_
    refine x_aload_n hE dL_levelBy_16 rfl rfl ?_
    refine x_iload_n hE dL_levelBy_17 rfl ?_
    refine x_iload hE dL_levelBy_18 rfl ?_
    refine x_callV (ci := 7) (st := [.int (lbF (shiP S c) (toldF (s_ar S) c) u i)]) hE 2 (q_shines G hW (c := c) (i := i) (by omega) (by omega)) gL_levelBy_X7_shines rfl rfl rfl (by decide +kernel) ⟨Nat.le_of_ble_eq_true rfl, Nat.le_of_ble_eq_true rfl⟩ hW.1 rfl rfl rfl dL_levelBy_20 rfl (Nat.le_of_ble_eq_true rfl) ⟨Nat.le_of_ble_eq_true rfl, Nat.le_of_ble_eq_true rfl⟩ (fun v h9 hp => ?_)
    obtain ⟨rfl, rfl⟩ := hp
    refine x_iload_n hE dL_levelBy_23 rfl ?_
    refine x_icmp_ne (tgt := 40) hE dL_levelBy_24 (by decide) (fun c24 => ?_) (fun c24 => ?_)
    · refine x_iconst (v := nI 0) hE dL_levelBy_40 (by decide) ?_
      refine x_iadd hE dL_levelBy_41 ?_
      refine x_ieq (y := lbF (shiP S c) (toldF (s_ar S) c) u (i + 1)) (by rw [lbF_s, if_neg c24]) ?_
      refine x_istore (L' := [some (.ref (ad 0)), some (.int (nI c)), some (.int (nI u)), some (.ref ca), some (.ref la), some (.int (lbF (shiP S c) (toldF (s_ar S) c) u (i + 1))), some (.int (nI i))]) hE dL_levelBy_42 (Nat.le_of_ble_eq_true rfl) rfl ?_
      refine x_iinc (v := nI (i + 1)) (L' := [some (.ref (ad 0)), some (.int (nI c)), some (.int (nI u)), some (.ref ca), some (.ref la), some (.int (lbF (shiP S c) (toldF (s_ar S) c) u (i + 1))), some (.int (nI (i + 1)))]) hE dL_levelBy_44 rfl (nI_1 _) rfl ?_
      refine x_goto (tgt := 6) hE dL_levelBy_47 (by decide) ?_
      exact ih (i + 1) (by omega) (by omega)
    · refine x_aload hE dL_levelBy_27 rfl rfl ?_
      refine x_bipush (v := nI 10) hE dL_levelBy_29 (by decide) ?_
      refine x_iload_n hE dL_levelBy_31 rfl ?_
      refine x_imul hE dL_levelBy_32 ?_
      refine x_ieq (y := nI (10 * c)) (pk_mul _ _) ?_
      refine x_iload hE dL_levelBy_33 rfl ?_
      refine x_iadd hE dL_levelBy_35 ?_
      refine x_ieq (y := nI (10 * c + i)) (nI_add _ _) ?_
      refine x_iald (v := toldF (s_ar S) c i) hE hla (vp_in_nI (by omega) (by decide)) (by rw [nI_clamp (by omega)]; exact (by rw [hll c i hc (by omega)]; unfold toldF; rw [if_pos (by omega)])) dL_levelBy_36 ?_
      refine x_goto (tgt := 41) hE dL_levelBy_37 (by decide) ?_
      refine x_iadd hE dL_levelBy_41 ?_
      refine x_ieq (y := lbF (shiP S c) (toldF (s_ar S) c) u (i + 1)) (by rw [lbF_s, if_pos c24]) ?_
      refine x_istore (L' := [some (.ref (ad 0)), some (.int (nI c)), some (.int (nI u)), some (.ref ca), some (.ref la), some (.int (lbF (shiP S c) (toldF (s_ar S) c) u (i + 1))), some (.int (nI i))]) hE dL_levelBy_42 (Nat.le_of_ble_eq_true rfl) rfl ?_
      refine x_iinc (v := nI (i + 1)) (L' := [some (.ref (ad 0)), some (.int (nI c)), some (.int (nI u)), some (.ref ca), some (.ref la), some (.int (lbF (shiP S c) (toldF (s_ar S) c) u (i + 1))), some (.int (nI (i + 1)))]) hE dL_levelBy_44 rfl (nI_1 _) rfl ?_
      refine x_goto (tgt := 6) hE dL_levelBy_47 (by decide) ?_
      exact ih (i + 1) (by omega) (by omega)

set_option maxHeartbeats 4000000 in
set_option maxRecDepth 100000 in
theorem c_L_due (G : XG) {ad ow : Nat → Nat} {eA : Nat} {A1 P1 : List Nat} {c1 : Nat → GC} {A2 P2 : List Nat} {c2 : Nat → GC} {RY : List Nat} {S : PS} {h : HM} (hW : cW G ad ow eA A1 P1 c1 A2 P2 c2 RY S h) (hS : lS S) (hf : fI (s_ar S) (s_L S) (s_C S) (s_t S) (s_G S)) {ca : Nat} {cf : Nat → Int32} (hca : h ca = some (rowI G 5 cf)) (hcc : lRc S cf) {ma : Nat} {mf : Nat → Int32} (hma : h ma = some (rowI G 60 mf)) (hmm : lRm S mf) {la : Nat} {lf : Nat → Int32} (hla : h la = some (rowI G 60 lf)) (hll : lRl S lf) {c p : Nat} (hc : c < 6) (hp : p < 3) : x_M G yL_due wsL_due ({ frames := 8, cells := 0, slots := 0, locals := 139 } : Room) [.ref (ad 0), .int (nI c), .int (nI p), .ref ca, .ref ma, .ref la] h (x_is (some (.int (askP (s_ar S) (s_L S) (s_B S) (s_G S) c (nI p)))) h) 0 0 := by
  refine x_M.of (cc := cL_due) (maxL := 11) (ret := (some .int)) (ent := [some (.ref (ad 0)), some (.int (nI c)), some (.int (nI p)), some (.ref ca), some (.ref ma), some (.ref la), none, none, none, none, none]) (by decide +kernel) rfl (Nat.le_of_ble_eq_true rfl) rfl rfl ?_
  intro F hE hname
  have hS0 := hS
  obtain ⟨hL10, hC6, hV⟩ := hS
  have hf0 := hf
  obtain ⟨f1, f2, f3, f4, f5⟩ := hf
  rw [hC6] at f2 f4
  have eT : askN (s_ar S) (s_L S) (s_B S) (s_G S) c (nI p) 16 = askN (s_ar S) (s_L S) (s_B S) (s_G S) c (nI p) 10 := by rw [hL10]; exact askN_top
  obtain ⟨sm, hsm, esm⟩ : ∃ s, s ≤ 200000 * 10 ∧ askN (s_ar S) (s_L S) (s_B S) (s_G S) c (nI p) 10 = nI s := askN_num f1 f2 f4 hc 10 (by decide)
  refine x_iconst (v := nI 0) hE dL_due_0 (by decide) ?_
  refine x_istore (L' := [some (.ref (ad 0)), some (.int (nI c)), some (.int (nI p)), some (.ref ca), some (.ref ma), some (.ref la), some (.int (nI 0)), none, none, none, none]) hE dL_due_1 (Nat.le_of_ble_eq_true rfl) rfl ?_
  refine x_iconst (v := nI 0) hE dL_due_3 (by decide) ?_
  refine x_istore (L' := [some (.ref (ad 0)), some (.int (nI c)), some (.int (nI p)), some (.ref ca), some (.ref ma), some (.ref la), some (.int (nI 0)), some (.int (nI 0)), none, none, none]) hE dL_due_4 (Nat.le_of_ble_eq_true rfl) rfl ?_
  refine x_down (N := 10) (P := fun i => x_W G F (x_Q G F (x_is (some (.int (askP (s_ar S) (s_L S) (s_B S) (s_G S) c (nI p)))) h) 0 0) 0 0 h 6 [some (.ref (ad 0)), some (.int (nI c)), some (.int (nI p)), some (.ref ca), some (.ref ma), some (.ref la), some (.int (askN (s_ar S) (s_L S) (s_B S) (s_G S) c (nI p) i)), some (.int (nI i)), none, none, none] []) (fun i hiN ih => ?_) 0 (by omega) 
  refine x_iload hE dL_due_6 rfl ?_
  refine x_aload_n hE dL_due_8 rfl rfl ?_
  refine x_iconst (v := nI 0) hE dL_due_9 (by decide) ?_
  refine x_iald (v := nI 10) hE hca (vp_in_nI (by omega) (by decide)) (by rw [nI_clamp (by omega)]; exact hcc.1) dL_due_10 ?_
  refine x_icmp_ge (tgt := 135) hE dL_due_11 (by decide) (fun c11 => ?_) (fun c11 => ?_)
  · replace c11 := x_nIle c11 (by omega) (by omega)
    obtain rfl : i = 10 := by omega
    refine x_iload hE dL_due_135 rfl ?_
    refine x_ieq (y := nI sm) (esm) ?_
    refine x_bipush (v := nI 100) hE dL_due_137 (by decide) ?_
    refine x_idiv hE dL_due_139 (by decide) ?_
    refine x_iload hE dL_due_140 rfl ?_
    refine x_ieq (y := nI sm) (esm) ?_
    refine x_bipush (v := nI 100) hE dL_due_142 (by decide) ?_
    refine x_irem hE dL_due_144 (by decide) ?_
    refine x_if_le (tgt := 152) hE dL_due_145 (by decide) (fun c145 => ?_) (fun c145 => ?_)
    · refine x_iconst (v := nI 0) hE dL_due_152 (by decide) ?_
      refine x_iadd hE dL_due_153 ?_
      exact x_iret hE dL_due_154 (⟨by unfold askP; rw [eT, esm, up_is (by omega), if_neg (fun z => by rw [Int32.le_iff_toInt_le] at c145; rw [Int32.lt_iff_toInt_lt] at z; omega)], rfl⟩)
    · refine x_iconst (v := nI 1) hE dL_due_148 (by decide) ?_
      refine x_goto (tgt := 153) hE dL_due_149 (by decide) ?_
      refine x_iadd hE dL_due_153 ?_
      exact x_iret hE dL_due_154 (⟨by unfold askP; rw [eT, esm, up_is (by omega), if_pos (by rw [Int32.le_iff_toInt_le] at c145; rw [Int32.lt_iff_toInt_lt]; omega)], rfl⟩)
  · replace c11 := x_nInle c11 (by omega) (by omega)
    obtain ⟨m0, m1, m2, m3, m4, m5⟩ := hmm i (by omega)
    refine x_aload hE dL_due_14 rfl rfl ?_
    refine x_bipush (v := nI 6) hE dL_due_16 (by decide) ?_
    refine x_iload hE dL_due_18 rfl ?_
    refine x_imul hE dL_due_20 ?_
    refine x_ieq (y := nI (6 * i)) (pk_mul _ _) ?_
    refine x_iconst (v := nI 4) hE dL_due_21 (by decide) ?_
    refine x_iadd hE dL_due_22 ?_
    refine x_ieq (y := nI (6 * i + 4)) (nI_add _ _) ?_
    refine x_iald (v := s_ar S 6 i) hE hma (vp_in_nI (by omega) (by decide)) (by rw [nI_clamp (by omega)]; exact m4) dL_due_23 ?_
    refine x_iload_n hE dL_due_24 rfl ?_
    refine x_icmp_ne (tgt := 129) hE dL_due_25 (by decide) (fun c25 => ?_) (fun c25 => ?_)
    · have eN : askN (s_ar S) (s_L S) (s_B S) (s_G S) c (nI p) (i + 1) = askN (s_ar S) (s_L S) (s_B S) (s_G S) c (nI p) i := askN_n (fun z => c25 z.2)
      refine x_iinc (v := nI (i + 1)) (L' := [some (.ref (ad 0)), some (.int (nI c)), some (.int (nI p)), some (.ref ca), some (.ref ma), some (.ref la), some (.int (askN (s_ar S) (s_L S) (s_B S) (s_G S) c (nI p) i)), some (.int (nI (i + 1))), none, none, none]) hE dL_due_129 rfl (nI_1 _) rfl ?_
      refine x_goto (tgt := 6) hE dL_due_132 (by decide) ?_
      have e2 := ih (i + 1) (by omega) (by omega)
      rw [eN] at e2
      exact e2
    · refine x_aload_n hE dL_due_28 rfl rfl ?_
      refine x_iload_n hE dL_due_29 rfl ?_
      refine x_iload hE dL_due_30 rfl ?_
      refine x_aload_n hE dL_due_32 rfl rfl ?_
      refine x_aload hE dL_due_33 rfl rfl ?_
      refine x_callS (st := []) hE 5 (c_L_levelBy G hW hS0 hca hcc hla hll (c := c) (u := i) hc (by omega)) gL_due_L_levelBy rfl rfl rfl (by decide +kernel) ⟨Nat.le_of_ble_eq_true rfl, Nat.le_of_ble_eq_true rfl⟩ rfl rfl dL_due_35 rfl (Nat.le_of_ble_eq_true rfl) ⟨Nat.le_of_ble_eq_true rfl, Nat.le_of_ble_eq_true rfl⟩ (fun v h9 hp => ?_)
      obtain ⟨rfl, rfl⟩ := hp
      refine x_istore (L' := [some (.ref (ad 0)), some (.int (nI c)), some (.int (nI p)), some (.ref ca), some (.ref ma), some (.ref la), some (.int (askN (s_ar S) (s_L S) (s_B S) (s_G S) c (nI p) i)), some (.int (nI i)), some (.int (levP (s_ar S) (s_L S) (s_B S) c i)), none, none]) hE dL_due_38 (Nat.le_of_ble_eq_true rfl) rfl ?_
      refine x_iconst (v := nI 0) hE dL_due_40 (by decide) ?_
      refine x_istore (L' := [some (.ref (ad 0)), some (.int (nI c)), some (.int (nI p)), some (.ref ca), some (.ref ma), some (.ref la), some (.int (askN (s_ar S) (s_L S) (s_B S) (s_G S) c (nI p) i)), some (.int (nI i)), some (.int (levP (s_ar S) (s_L S) (s_B S) c i)), some (.int (nI 0)), none]) hE dL_due_41 (Nat.le_of_ble_eq_true rfl) rfl ?_
      refine x_down (N := 6) (P := fun j => x_W G F (x_Q G F (x_is (some (.int (askP (s_ar S) (s_L S) (s_B S) (s_G S) c (nI p)))) h) 0 0) 0 0 h 43 [some (.ref (ad 0)), some (.int (nI c)), some (.int (nI p)), some (.ref ca), some (.ref ma), some (.ref la), some (.int (askN (s_ar S) (s_L S) (s_B S) (s_G S) c (nI p) i)), some (.int (nI i)), some (.int (mxF (itU S i) (levP (s_ar S) (s_L S) (s_B S) c i) j)), some (.int (nI j)), none] []) (fun j hjN ih2 => ?_) 0 (by omega)
      refine x_iload hE dL_due_43 rfl ?_
      refine x_aload_n hE dL_due_45 rfl rfl ?_
      refine x_iconst (v := nI 1) hE dL_due_46 (by decide) ?_
      refine x_iald (v := nI 6) hE hca (vp_in_nI (by omega) (by decide)) (by rw [nI_clamp (by omega)]; exact hcc.2.1) dL_due_47 ?_
      refine x_icmp_ge (tgt := 111) hE dL_due_48 (by decide) (fun c48 => ?_) (fun c48 => ?_)
      · replace c48 := x_nIle c48 (by omega) (by omega)
        obtain rfl : j = 6 := by omega
        refine x_iload hE dL_due_111 rfl ?_
        refine x_aload hE dL_due_113 rfl rfl ?_
        refine x_bipush (v := nI 6) hE dL_due_115 (by decide) ?_
        refine x_iload hE dL_due_117 rfl ?_
        refine x_imul hE dL_due_119 ?_
        refine x_ieq (y := nI (6 * i)) (pk_mul _ _) ?_
        refine x_iconst (v := nI 3) hE dL_due_120 (by decide) ?_
        refine x_iadd hE dL_due_121 ?_
        refine x_ieq (y := nI (6 * i + 3)) (nI_add _ _) ?_
        refine x_iald (v := s_ar S 5 i) hE hma (vp_in_nI (by omega) (by decide)) (by rw [nI_clamp (by omega)]; exact m3) dL_due_122 ?_
        refine x_iload hE dL_due_123 rfl ?_
        refine x_imul hE dL_due_125 ?_
        refine x_iadd hE dL_due_126 ?_
        refine x_ieq (y := askN (s_ar S) (s_L S) (s_B S) (s_G S) c (nI p) (i + 1)) (by rw [askN_y ⟨by omega, c25⟩, due_max hC6 f4 f2 hc]) ?_
        refine x_istore (L' := [some (.ref (ad 0)), some (.int (nI c)), some (.int (nI p)), some (.ref ca), some (.ref ma), some (.ref la), some (.int (askN (s_ar S) (s_L S) (s_B S) (s_G S) c (nI p) (i + 1))), some (.int (nI i)), some (.int (mxF (itU S i) (levP (s_ar S) (s_L S) (s_B S) c i) 6)), some (.int (nI 6)), none]) hE dL_due_127 (Nat.le_of_ble_eq_true rfl) rfl ?_
        refine x_iinc (v := nI (i + 1)) (L' := [some (.ref (ad 0)), some (.int (nI c)), some (.int (nI p)), some (.ref ca), some (.ref ma), some (.ref la), some (.int (askN (s_ar S) (s_L S) (s_B S) (s_G S) c (nI p) (i + 1))), some (.int (nI (i + 1))), some (.int (mxF (itU S i) (levP (s_ar S) (s_L S) (s_B S) c i) 6)), some (.int (nI 6)), none]) hE dL_due_129 rfl (nI_1 _) rfl ?_
        refine x_goto (tgt := 6) hE dL_due_132 (by decide) ?_
        refine x_forget (L' := [some (.ref (ad 0)), some (.int (nI c)), some (.int (nI p)), some (.ref ca), some (.ref ma), some (.ref la), some (.int (askN (s_ar S) (s_L S) (s_B S) (s_G S) c (nI p) (i + 1))), some (.int (nI (i + 1))), none, none, none]) (And.intro rfl (And.intro rfl (And.intro rfl (And.intro rfl (And.intro rfl (And.intro rfl (And.intro rfl (And.intro rfl trivial)))))))) ?_
        exact ih (i + 1) (by omega) (by omega)
      · replace c48 := x_nInle c48 (by omega) (by omega)
        refine x_aload_n hE dL_due_51 rfl rfl ?_
        refine x_iload hE dL_due_52 rfl ?_
        refine x_iconst (v := nI 0) hE dL_due_54 (by decide) ?_
        refine x_callV (ci := 7) (st := []) hE 2 (q_playing G hW hf0 (c := j) (w := 0) (by omega) (by decide)) gL_due_X7_playing rfl rfl rfl (by decide +kernel) ⟨Nat.le_of_ble_eq_true rfl, Nat.le_of_ble_eq_true rfl⟩ hW.1 rfl rfl rfl dL_due_55 rfl (Nat.le_of_ble_eq_true rfl) ⟨Nat.le_of_ble_eq_true rfl, Nat.le_of_ble_eq_true rfl⟩ (fun v h9 hp => ?_)
        obtain ⟨rfl, rfl⟩ := hp
        refine x_iconst (v := nI 1) hE dL_due_58 (by decide) ?_
        refine x_icmp_ne (tgt := 86) hE dL_due_59 (by decide) (fun c59 => ?_) (fun c59 => ?_)
        · refine x_iconst (v := nI 0) hE dL_due_86 (by decide) ?_
          refine x_ieq (y := itU S i j) ((if_neg (fun y => c59 y.1)).symm) ?_
          refine x_istore (L' := [some (.ref (ad 0)), some (.int (nI c)), some (.int (nI p)), some (.ref ca), some (.ref ma), some (.ref la), some (.int (askN (s_ar S) (s_L S) (s_B S) (s_G S) c (nI p) i)), some (.int (nI i)), some (.int (mxF (itU S i) (levP (s_ar S) (s_L S) (s_B S) c i) j)), some (.int (nI j)), some (.int (itU S i j))]) hE dL_due_87 (Nat.le_of_ble_eq_true rfl) rfl ?_
          refine x_iload hE dL_due_89 rfl ?_
          refine x_iload hE dL_due_91 rfl ?_
          refine x_icmp_le (tgt := 101) hE dL_due_93 (by decide) (fun c93 => ?_) (fun c93 => ?_)
          · refine x_iload hE dL_due_101 rfl ?_
            refine x_ieq (y := mxF (itU S i) (levP (s_ar S) (s_L S) (s_B S) c i) (j + 1)) ((mxF_y c93).symm) ?_
            refine x_istore (L' := [some (.ref (ad 0)), some (.int (nI c)), some (.int (nI p)), some (.ref ca), some (.ref ma), some (.ref la), some (.int (askN (s_ar S) (s_L S) (s_B S) (s_G S) c (nI p) i)), some (.int (nI i)), some (.int (mxF (itU S i) (levP (s_ar S) (s_L S) (s_B S) c i) (j + 1))), some (.int (nI j)), some (.int (itU S i j))]) hE dL_due_103 (Nat.le_of_ble_eq_true rfl) rfl ?_
            refine x_iinc (v := nI (j + 1)) (L' := [some (.ref (ad 0)), some (.int (nI c)), some (.int (nI p)), some (.ref ca), some (.ref ma), some (.ref la), some (.int (askN (s_ar S) (s_L S) (s_B S) (s_G S) c (nI p) i)), some (.int (nI i)), some (.int (mxF (itU S i) (levP (s_ar S) (s_L S) (s_B S) c i) (j + 1))), some (.int (nI (j + 1))), some (.int (itU S i j))]) hE dL_due_105 rfl (nI_1 _) rfl ?_
            refine x_goto (tgt := 43) hE dL_due_108 (by decide) ?_
            refine x_forget (L' := [some (.ref (ad 0)), some (.int (nI c)), some (.int (nI p)), some (.ref ca), some (.ref ma), some (.ref la), some (.int (askN (s_ar S) (s_L S) (s_B S) (s_G S) c (nI p) i)), some (.int (nI i)), some (.int (mxF (itU S i) (levP (s_ar S) (s_L S) (s_B S) c i) (j + 1))), some (.int (nI (j + 1))), none]) (And.intro rfl (And.intro rfl (And.intro rfl (And.intro rfl (And.intro rfl (And.intro rfl (And.intro rfl (And.intro rfl (And.intro rfl (And.intro rfl trivial)))))))))) ?_
            exact ih2 (j + 1) (by omega) (by omega)
          · refine x_iload hE dL_due_96 rfl ?_
            refine x_goto (tgt := 103) hE dL_due_98 (by decide) ?_
            refine x_ieq (y := mxF (itU S i) (levP (s_ar S) (s_L S) (s_B S) c i) (j + 1)) ((mxF_n c93).symm) ?_
            refine x_istore (L' := [some (.ref (ad 0)), some (.int (nI c)), some (.int (nI p)), some (.ref ca), some (.ref ma), some (.ref la), some (.int (askN (s_ar S) (s_L S) (s_B S) (s_G S) c (nI p) i)), some (.int (nI i)), some (.int (mxF (itU S i) (levP (s_ar S) (s_L S) (s_B S) c i) (j + 1))), some (.int (nI j)), some (.int (itU S i j))]) hE dL_due_103 (Nat.le_of_ble_eq_true rfl) rfl ?_
            refine x_iinc (v := nI (j + 1)) (L' := [some (.ref (ad 0)), some (.int (nI c)), some (.int (nI p)), some (.ref ca), some (.ref ma), some (.ref la), some (.int (askN (s_ar S) (s_L S) (s_B S) (s_G S) c (nI p) i)), some (.int (nI i)), some (.int (mxF (itU S i) (levP (s_ar S) (s_L S) (s_B S) c i) (j + 1))), some (.int (nI (j + 1))), some (.int (itU S i j))]) hE dL_due_105 rfl (nI_1 _) rfl ?_
            refine x_goto (tgt := 43) hE dL_due_108 (by decide) ?_
            refine x_forget (L' := [some (.ref (ad 0)), some (.int (nI c)), some (.int (nI p)), some (.ref ca), some (.ref ma), some (.ref la), some (.int (askN (s_ar S) (s_L S) (s_B S) (s_G S) c (nI p) i)), some (.int (nI i)), some (.int (mxF (itU S i) (levP (s_ar S) (s_L S) (s_B S) c i) (j + 1))), some (.int (nI (j + 1))), none]) (And.intro rfl (And.intro rfl (And.intro rfl (And.intro rfl (And.intro rfl (And.intro rfl (And.intro rfl (And.intro rfl (And.intro rfl (And.intro rfl trivial)))))))))) ?_
            exact ih2 (j + 1) (by omega) (by omega)
        · refine x_aload_n hE dL_due_62 rfl rfl ?_
          refine x_iload hE dL_due_63 rfl ?_
          refine x_iconst (v := nI 1) hE dL_due_65 (by decide) ?_
          refine x_callV (ci := 7) (st := []) hE 2 (q_playing G hW hf0 (c := j) (w := 1) (by omega) (by decide)) gL_due_X7_playing rfl rfl rfl (by decide +kernel) ⟨Nat.le_of_ble_eq_true rfl, Nat.le_of_ble_eq_true rfl⟩ hW.1 rfl rfl rfl dL_due_66 rfl (Nat.le_of_ble_eq_true rfl) ⟨Nat.le_of_ble_eq_true rfl, Nat.le_of_ble_eq_true rfl⟩ (fun v h9 hp => ?_)
          obtain ⟨rfl, rfl⟩ := hp
          refine x_if_ne (tgt := 86) hE dL_due_69 (by decide) (fun c69 => ?_) (fun c69 => ?_)
          · refine x_iconst (v := nI 0) hE dL_due_86 (by decide) ?_
            refine x_ieq (y := itU S i j) ((if_neg (fun y => c69 y.2)).symm) ?_
            refine x_istore (L' := [some (.ref (ad 0)), some (.int (nI c)), some (.int (nI p)), some (.ref ca), some (.ref ma), some (.ref la), some (.int (askN (s_ar S) (s_L S) (s_B S) (s_G S) c (nI p) i)), some (.int (nI i)), some (.int (mxF (itU S i) (levP (s_ar S) (s_L S) (s_B S) c i) j)), some (.int (nI j)), some (.int (itU S i j))]) hE dL_due_87 (Nat.le_of_ble_eq_true rfl) rfl ?_
            refine x_iload hE dL_due_89 rfl ?_
            refine x_iload hE dL_due_91 rfl ?_
            refine x_icmp_le (tgt := 101) hE dL_due_93 (by decide) (fun c93 => ?_) (fun c93 => ?_)
            · refine x_iload hE dL_due_101 rfl ?_
              refine x_ieq (y := mxF (itU S i) (levP (s_ar S) (s_L S) (s_B S) c i) (j + 1)) ((mxF_y c93).symm) ?_
              refine x_istore (L' := [some (.ref (ad 0)), some (.int (nI c)), some (.int (nI p)), some (.ref ca), some (.ref ma), some (.ref la), some (.int (askN (s_ar S) (s_L S) (s_B S) (s_G S) c (nI p) i)), some (.int (nI i)), some (.int (mxF (itU S i) (levP (s_ar S) (s_L S) (s_B S) c i) (j + 1))), some (.int (nI j)), some (.int (itU S i j))]) hE dL_due_103 (Nat.le_of_ble_eq_true rfl) rfl ?_
              refine x_iinc (v := nI (j + 1)) (L' := [some (.ref (ad 0)), some (.int (nI c)), some (.int (nI p)), some (.ref ca), some (.ref ma), some (.ref la), some (.int (askN (s_ar S) (s_L S) (s_B S) (s_G S) c (nI p) i)), some (.int (nI i)), some (.int (mxF (itU S i) (levP (s_ar S) (s_L S) (s_B S) c i) (j + 1))), some (.int (nI (j + 1))), some (.int (itU S i j))]) hE dL_due_105 rfl (nI_1 _) rfl ?_
              refine x_goto (tgt := 43) hE dL_due_108 (by decide) ?_
              refine x_forget (L' := [some (.ref (ad 0)), some (.int (nI c)), some (.int (nI p)), some (.ref ca), some (.ref ma), some (.ref la), some (.int (askN (s_ar S) (s_L S) (s_B S) (s_G S) c (nI p) i)), some (.int (nI i)), some (.int (mxF (itU S i) (levP (s_ar S) (s_L S) (s_B S) c i) (j + 1))), some (.int (nI (j + 1))), none]) (And.intro rfl (And.intro rfl (And.intro rfl (And.intro rfl (And.intro rfl (And.intro rfl (And.intro rfl (And.intro rfl (And.intro rfl (And.intro rfl trivial)))))))))) ?_
              exact ih2 (j + 1) (by omega) (by omega)
            · refine x_iload hE dL_due_96 rfl ?_
              refine x_goto (tgt := 103) hE dL_due_98 (by decide) ?_
              refine x_ieq (y := mxF (itU S i) (levP (s_ar S) (s_L S) (s_B S) c i) (j + 1)) ((mxF_n c93).symm) ?_
              refine x_istore (L' := [some (.ref (ad 0)), some (.int (nI c)), some (.int (nI p)), some (.ref ca), some (.ref ma), some (.ref la), some (.int (askN (s_ar S) (s_L S) (s_B S) (s_G S) c (nI p) i)), some (.int (nI i)), some (.int (mxF (itU S i) (levP (s_ar S) (s_L S) (s_B S) c i) (j + 1))), some (.int (nI j)), some (.int (itU S i j))]) hE dL_due_103 (Nat.le_of_ble_eq_true rfl) rfl ?_
              refine x_iinc (v := nI (j + 1)) (L' := [some (.ref (ad 0)), some (.int (nI c)), some (.int (nI p)), some (.ref ca), some (.ref ma), some (.ref la), some (.int (askN (s_ar S) (s_L S) (s_B S) (s_G S) c (nI p) i)), some (.int (nI i)), some (.int (mxF (itU S i) (levP (s_ar S) (s_L S) (s_B S) c i) (j + 1))), some (.int (nI (j + 1))), some (.int (itU S i j))]) hE dL_due_105 rfl (nI_1 _) rfl ?_
              refine x_goto (tgt := 43) hE dL_due_108 (by decide) ?_
              refine x_forget (L' := [some (.ref (ad 0)), some (.int (nI c)), some (.int (nI p)), some (.ref ca), some (.ref ma), some (.ref la), some (.int (askN (s_ar S) (s_L S) (s_B S) (s_G S) c (nI p) i)), some (.int (nI i)), some (.int (mxF (itU S i) (levP (s_ar S) (s_L S) (s_B S) c i) (j + 1))), some (.int (nI (j + 1))), none]) (And.intro rfl (And.intro rfl (And.intro rfl (And.intro rfl (And.intro rfl (And.intro rfl (And.intro rfl (And.intro rfl (And.intro rfl (And.intro rfl trivial)))))))))) ?_
              exact ih2 (j + 1) (by omega) (by omega)
          · refine x_aload_n hE dL_due_72 rfl rfl ?_
            refine x_iload hE dL_due_73 rfl ?_
            refine x_iload hE dL_due_75 rfl ?_
            refine x_aload_n hE dL_due_77 rfl rfl ?_
            refine x_aload hE dL_due_78 rfl rfl ?_
            refine x_callS (st := []) hE 5 (c_L_levelBy G hW hS0 hca hcc hla hll (c := j) (u := i) (by omega) (by omega)) gL_due_L_levelBy rfl rfl rfl (by decide +kernel) ⟨Nat.le_of_ble_eq_true rfl, Nat.le_of_ble_eq_true rfl⟩ rfl rfl dL_due_80 rfl (Nat.le_of_ble_eq_true rfl) ⟨Nat.le_of_ble_eq_true rfl, Nat.le_of_ble_eq_true rfl⟩ (fun v h9 hp => ?_)
            obtain ⟨rfl, rfl⟩ := hp
            refine x_goto (tgt := 87) hE dL_due_83 (by decide) ?_
            refine x_ieq (y := itU S i j) ((if_pos ⟨c59, c69⟩).symm) ?_
            refine x_istore (L' := [some (.ref (ad 0)), some (.int (nI c)), some (.int (nI p)), some (.ref ca), some (.ref ma), some (.ref la), some (.int (askN (s_ar S) (s_L S) (s_B S) (s_G S) c (nI p) i)), some (.int (nI i)), some (.int (mxF (itU S i) (levP (s_ar S) (s_L S) (s_B S) c i) j)), some (.int (nI j)), some (.int (itU S i j))]) hE dL_due_87 (Nat.le_of_ble_eq_true rfl) rfl ?_
            refine x_iload hE dL_due_89 rfl ?_
            refine x_iload hE dL_due_91 rfl ?_
            refine x_icmp_le (tgt := 101) hE dL_due_93 (by decide) (fun c93 => ?_) (fun c93 => ?_)
            · refine x_iload hE dL_due_101 rfl ?_
              refine x_ieq (y := mxF (itU S i) (levP (s_ar S) (s_L S) (s_B S) c i) (j + 1)) ((mxF_y c93).symm) ?_
              refine x_istore (L' := [some (.ref (ad 0)), some (.int (nI c)), some (.int (nI p)), some (.ref ca), some (.ref ma), some (.ref la), some (.int (askN (s_ar S) (s_L S) (s_B S) (s_G S) c (nI p) i)), some (.int (nI i)), some (.int (mxF (itU S i) (levP (s_ar S) (s_L S) (s_B S) c i) (j + 1))), some (.int (nI j)), some (.int (itU S i j))]) hE dL_due_103 (Nat.le_of_ble_eq_true rfl) rfl ?_
              refine x_iinc (v := nI (j + 1)) (L' := [some (.ref (ad 0)), some (.int (nI c)), some (.int (nI p)), some (.ref ca), some (.ref ma), some (.ref la), some (.int (askN (s_ar S) (s_L S) (s_B S) (s_G S) c (nI p) i)), some (.int (nI i)), some (.int (mxF (itU S i) (levP (s_ar S) (s_L S) (s_B S) c i) (j + 1))), some (.int (nI (j + 1))), some (.int (itU S i j))]) hE dL_due_105 rfl (nI_1 _) rfl ?_
              refine x_goto (tgt := 43) hE dL_due_108 (by decide) ?_
              refine x_forget (L' := [some (.ref (ad 0)), some (.int (nI c)), some (.int (nI p)), some (.ref ca), some (.ref ma), some (.ref la), some (.int (askN (s_ar S) (s_L S) (s_B S) (s_G S) c (nI p) i)), some (.int (nI i)), some (.int (mxF (itU S i) (levP (s_ar S) (s_L S) (s_B S) c i) (j + 1))), some (.int (nI (j + 1))), none]) (And.intro rfl (And.intro rfl (And.intro rfl (And.intro rfl (And.intro rfl (And.intro rfl (And.intro rfl (And.intro rfl (And.intro rfl (And.intro rfl trivial)))))))))) ?_
              exact ih2 (j + 1) (by omega) (by omega)
            · refine x_iload hE dL_due_96 rfl ?_
              refine x_goto (tgt := 103) hE dL_due_98 (by decide) ?_
              refine x_ieq (y := mxF (itU S i) (levP (s_ar S) (s_L S) (s_B S) c i) (j + 1)) ((mxF_n c93).symm) ?_
              refine x_istore (L' := [some (.ref (ad 0)), some (.int (nI c)), some (.int (nI p)), some (.ref ca), some (.ref ma), some (.ref la), some (.int (askN (s_ar S) (s_L S) (s_B S) (s_G S) c (nI p) i)), some (.int (nI i)), some (.int (mxF (itU S i) (levP (s_ar S) (s_L S) (s_B S) c i) (j + 1))), some (.int (nI j)), some (.int (itU S i j))]) hE dL_due_103 (Nat.le_of_ble_eq_true rfl) rfl ?_
              refine x_iinc (v := nI (j + 1)) (L' := [some (.ref (ad 0)), some (.int (nI c)), some (.int (nI p)), some (.ref ca), some (.ref ma), some (.ref la), some (.int (askN (s_ar S) (s_L S) (s_B S) (s_G S) c (nI p) i)), some (.int (nI i)), some (.int (mxF (itU S i) (levP (s_ar S) (s_L S) (s_B S) c i) (j + 1))), some (.int (nI (j + 1))), some (.int (itU S i j))]) hE dL_due_105 rfl (nI_1 _) rfl ?_
              refine x_goto (tgt := 43) hE dL_due_108 (by decide) ?_
              refine x_forget (L' := [some (.ref (ad 0)), some (.int (nI c)), some (.int (nI p)), some (.ref ca), some (.ref ma), some (.ref la), some (.int (askN (s_ar S) (s_L S) (s_B S) (s_G S) c (nI p) i)), some (.int (nI i)), some (.int (mxF (itU S i) (levP (s_ar S) (s_L S) (s_B S) c i) (j + 1))), some (.int (nI (j + 1))), none]) (And.intro rfl (And.intro rfl (And.intro rfl (And.intro rfl (And.intro rfl (And.intro rfl (And.intro rfl (And.intro rfl (And.intro rfl (And.intro rfl trivial)))))))))) ?_
              exact ih2 (j + 1) (by omega) (by omega)
