set_option maxHeartbeats 4000000 in
set_option maxRecDepth 100000 in
theorem c_X7_isWithin (G : XG) {h : HM} (i lo hi : Int32) : x_M G yX7_isWithin wsX7_isWithin ({ frames := 0, cells := 0, slots := 0, locals := 0 } : Room) [.int i, .int lo, .int hi] h (x_is (some (.int (b2i (decide (lo ≤ i) && decide (i ≤ hi))))) h) 0 0 := by
  refine x_M.of (cc := cX7_isWithin) (maxL := 3) (ret := (some .boolean)) (ent := [some (.int i), some (.int lo), some (.int hi)]) (by decide +kernel) rfl (Nat.le_of_ble_eq_true rfl) rfl rfl ?_
  intro F hE hname
  refine x_iload_n hE dX7_isWithin_0 rfl ?_
  refine x_iload_n hE dX7_isWithin_1 rfl ?_
  refine x_icmp_lt (tgt := 14) hE dX7_isWithin_2 (by decide) (fun c2 => ?_) (fun c2 => ?_)
  · refine x_iconst (v := nI 0) hE dX7_isWithin_14 (by decide) ?_
    exact x_zret hE (Or.inl rfl) dX7_isWithin_15 (⟨x_zf (by simp only [x_lei] at *; simp [*]), rfl⟩)
  · refine x_iload_n hE dX7_isWithin_5 rfl ?_
    refine x_iload_n hE dX7_isWithin_6 rfl ?_
    refine x_icmp_gt (tgt := 14) hE dX7_isWithin_7 (by decide) (fun c7 => ?_) (fun c7 => ?_)
    · refine x_iconst (v := nI 0) hE dX7_isWithin_14 (by decide) ?_
      exact x_zret hE (Or.inl rfl) dX7_isWithin_15 (⟨x_zf (by simp only [x_lei] at *; simp [*]), rfl⟩)
    · refine x_iconst (v := nI 1) hE dX7_isWithin_10 (by decide) ?_
      refine x_goto (tgt := 15) hE dX7_isWithin_11 (by decide) ?_
      exact x_zret hE (Or.inr rfl) dX7_isWithin_15 (⟨x_zt (by simp only [x_lei, Decidable.not_not] at *; simp [*]), rfl⟩)

set_option maxHeartbeats 4000000 in
set_option maxRecDepth 100000 in
theorem c_X7_isPhase (G : XG) {h : HM} (i : Int32) : x_M G yX7_isPhase wsX7_isPhase ({ frames := 1, cells := 0, slots := 0, locals := 22 } : Room) [.int i] h (x_is (some (.int (b2i (decide (nI 0 ≤ i) && decide (i ≤ nI 2))))) h) 0 0 := by
  refine x_M.of (cc := cX7_isPhase) (maxL := 1) (ret := (some .boolean)) (ent := [some (.int i)]) (by decide +kernel) rfl (Nat.le_of_ble_eq_true rfl) rfl rfl ?_
  intro F hE hname
  refine x_iload_n hE dX7_isPhase_0 rfl ?_
  refine x_iconst (v := nI 0) hE dX7_isPhase_1 (by decide) ?_
  refine x_iconst (v := nI 2) hE dX7_isPhase_2 (by decide) ?_
  refine x_callS (st := []) hE 3 (c_X7_isWithin G i (nI 0) (nI 2)) gX7_isPhase_X7_isWithin rfl rfl rfl (by decide +kernel) ⟨Nat.le_of_ble_eq_true rfl, Nat.le_of_ble_eq_true rfl⟩ rfl rfl dX7_isPhase_3 rfl (Nat.le_of_ble_eq_true rfl) ⟨Nat.le_of_ble_eq_true rfl, Nat.le_of_ble_eq_true rfl⟩ (fun v h9 hp => ?_)
  obtain ⟨rfl, rfl⟩ := hp
  exact x_zret hE (b2i_01 _) dX7_isPhase_6 (⟨rfl, rfl⟩)

set_option maxHeartbeats 4000000 in
set_option maxRecDepth 100000 in
theorem c_X7_isGel (G : XG) {h : HM} (i : Int32) : x_M G yX7_isGel wsX7_isGel ({ frames := 0, cells := 0, slots := 0, locals := 0 } : Room) [.int i] h (x_is (some (.int (b2i (decide (0 ≤ i) && (decide (i / nI 10 ≤ nI 5) && decide (i - i / nI 10 * nI 10 ≤ nI 5)))))) h) 0 0 := by
  refine x_M.of (cc := cX7_isGel) (maxL := 1) (ret := (some .boolean)) (ent := [some (.int i)]) (by decide +kernel) rfl (Nat.le_of_ble_eq_true rfl) rfl rfl ?_
  intro F hE hname
  refine x_iload_n hE dX7_isGel_0 rfl ?_
  refine x_if_lt (tgt := 24) hE dX7_isGel_1 (by decide) (fun c1 => ?_) (fun c1 => ?_)
  · refine x_iconst (v := nI 0) hE dX7_isGel_24 (by decide) ?_
    exact x_zret hE (Or.inl rfl) dX7_isGel_25 (⟨x_zf (by simp only [x_lei] at *; simp [*]), rfl⟩)
  · refine x_iload_n hE dX7_isGel_4 rfl ?_
    refine x_bipush (v := nI 10) hE dX7_isGel_5 (by decide) ?_
    refine x_idiv hE dX7_isGel_7 (by decide) ?_
    refine x_iconst (v := nI 5) hE dX7_isGel_8 (by decide) ?_
    refine x_icmp_gt (tgt := 24) hE dX7_isGel_9 (by decide) (fun c9 => ?_) (fun c9 => ?_)
    · refine x_iconst (v := nI 0) hE dX7_isGel_24 (by decide) ?_
      exact x_zret hE (Or.inl rfl) dX7_isGel_25 (⟨x_zf (by simp only [x_lei] at *; simp [*]), rfl⟩)
    · refine x_iload_n hE dX7_isGel_12 rfl ?_
      refine x_bipush (v := nI 10) hE dX7_isGel_13 (by decide) ?_
      refine x_irem hE dX7_isGel_15 (by decide) ?_
      refine x_iconst (v := nI 5) hE dX7_isGel_16 (by decide) ?_
      refine x_icmp_gt (tgt := 24) hE dX7_isGel_17 (by decide) (fun c17 => ?_) (fun c17 => ?_)
      · refine x_iconst (v := nI 0) hE dX7_isGel_24 (by decide) ?_
        exact x_zret hE (Or.inl rfl) dX7_isGel_25 (⟨x_zf (by simp only [x_lei] at *; simp [*]), rfl⟩)
      · refine x_iconst (v := nI 1) hE dX7_isGel_20 (by decide) ?_
        refine x_goto (tgt := 25) hE dX7_isGel_21 (by decide) ?_
        exact x_zret hE (Or.inr rfl) dX7_isGel_25 (⟨x_zt (by simp only [x_lei, Decidable.not_not] at *; simp [*]), rfl⟩)

set_option maxHeartbeats 4000000 in
set_option maxRecDepth 100000 in
theorem c_X7_cueAt (G : XG) {ad : Nat → Nat} {C t b : Nat} {h : HM} (hB : cB ad C t b h) (hCs : h (ad 3) = some (.inl (g_c G 4, 12, .inr (.inr (.inr (.inr (lampF C (fun i => ad (100 + 4 * i))))))))) (i : Int32) : x_M G yX7_cueAt wsX7_cueAt ({ frames := 0, cells := 0, slots := 0, locals := 0 } : Room) [.ref (ad 0), .int i] h (x_is (some (va_rf (x_sel 12 (lampF C (fun i => ad (100 + 4 * i))) i none))) h) 0 0 := by
  refine x_M.of (cc := cX7_cueAt) (maxL := 2) (ret := (some (.object "GelBook$Cue"))) (ent := [some (.ref (ad 0)), some (.int i)]) (by decide +kernel) rfl (Nat.le_of_ble_eq_true rfl) rfl rfl ?_
  intro F hE hname
  have hinX7 : ∀ w ∈ wsX70, w ∈ wsX7_cueAt := by decide +kernel
  refine x_iload_n hE dX7_cueAt_0 rfl ?_
  refine x_if_lt (tgt := 22) hE dX7_cueAt_1 (by decide) (fun c1 => ?_) (fun c1 => ?_)
  · refine x_null hE dX7_cueAt_22 ?_
    exact x_aret hE (Or.inl ⟨_, rfl⟩) rfl dX7_cueAt_23 (⟨by rw [x_sel_lo (x_lt0 c1)]; rfl, rfl⟩)
  · refine x_iload_n hE dX7_cueAt_4 rfl ?_
    refine x_aload_n hE dX7_cueAt_5 rfl rfl ?_
    refine x_get hE hinX7 hB rfl 1 (by decide) (List.mem_of_getElem? (i := 1) rfl) rfl dX7_cueAt_6 ?_
    refine x_alen (t0 := 4) hE hCs rfl dX7_cueAt_9 ?_
    refine x_icmp_ge (tgt := 22) hE dX7_cueAt_10 (by decide) (fun c10 => ?_) (fun c10 => ?_)
    · refine x_null hE dX7_cueAt_22 ?_
      exact x_aret hE (Or.inl ⟨_, rfl⟩) rfl dX7_cueAt_23 (⟨by rw [x_sel_hi c10]; rfl, rfl⟩)
    · refine x_aload_n hE dX7_cueAt_13 rfl rfl ?_
      refine x_get hE hinX7 hB rfl 1 (by decide) (List.mem_of_getElem? (i := 1) rfl) rfl dX7_cueAt_14 ?_
      refine x_iload_n hE dX7_cueAt_17 rfl ?_
      refine x_aald (t0 := 4) (v := x_sel 12 (lampF C (fun i => ad (100 + 4 * i))) i none) hE hCs rfl (x_inn (by decide) (x_ge0 c1) c10) (x_sel_in (x_ge0 c1) c10).symm dX7_cueAt_18 ?_
      refine x_goto (tgt := 23) hE dX7_cueAt_19 (by decide) ?_
      exact x_aret hE (Or.inl ⟨_, rfl⟩) (x_rv_rf _) dX7_cueAt_23 (⟨rfl, rfl⟩)

set_option maxHeartbeats 4000000 in
set_option maxRecDepth 100000 in
theorem c_X7_barred (G : XG) {ad : Nat → Nat} {C t b : Nat} {h : HM} (hB : cB ad C t b h) : x_M G yX7_barred wsX7_barred ({ frames := 0, cells := 0, slots := 0, locals := 0 } : Room) [.ref (ad 0)] h (x_is (some (.int (nI b))) h) 0 0 := by
  refine x_M.of (cc := cX7_barred) (maxL := 1) (ret := (some .int)) (ent := [some (.ref (ad 0))]) (by decide +kernel) rfl (Nat.le_of_ble_eq_true rfl) rfl rfl ?_
  intro F hE hname
  have hinX7 : ∀ w ∈ wsX70, w ∈ wsX7_barred := by decide +kernel
  refine x_aload_n hE dX7_barred_0 rfl rfl ?_
  refine x_get hE hinX7 hB rfl 9 (by decide) (List.mem_of_getElem? (i := 1) rfl) rfl dX7_barred_1 ?_
  exact x_iret hE dX7_barred_4 (⟨rfl, rfl⟩)

set_option maxHeartbeats 4000000 in
set_option maxRecDepth 100000 in
theorem c_X7_arrangeCues (G : XG) {ad : Nat → Nat} {C t b : Nat} {h : HM} (hB : cB ad C t b h) (hCs : h (ad 3) = some (.inl (g_c G 4, 12, .inr (.inr (.inr (.inr (lampF C (fun i => ad (100 + 4 * i))))))))) {ow : Nat → Nat} {eA : Nat} {A1 P1 A2 P2 : List Nat} {ar : Nat → Nat → Int32} {L : Nat} {B : Int32} (hO : oW ad ow eA (A1 ++ P1) (A2 ++ P2) L C) (hR : riW G ad ar L B h) (hC12 : C ≤ 12) (hcu : ∀ i, i < C → ∃ sf vf, cuE0 G ad ar i sf vf h) : x_M G yX7_arrangeCues wsX7_arrangeCues ({ frames := 4, cells := 0, slots := 0, locals := 93 } : Room) [.ref (ad 0)] h (fun v h' => v = none ∧ cuW G ad ar L B C h' ∧ frO ow lA h h') 0 0 := by
  refine x_M.of (cc := cX7_arrangeCues) (maxL := 3) (ret := none) (ent := [some (.ref (ad 0)), none, none]) (by decide +kernel) rfl (Nat.le_of_ble_eq_true rfl) rfl rfl ?_
  intro F hE hname
  have hinX7 : ∀ w ∈ wsX70, w ∈ wsX7_arrangeCues := by decide +kernel
  refine x_iconst (v := nI 0) hE dX7_arrangeCues_0 (by decide) ?_
  refine x_istore_n (L' := [some (.ref (ad 0)), some (.int (nI 0)), none]) hE dX7_arrangeCues_1 rfl (Nat.le_of_ble_eq_true rfl) rfl ?_
  refine x_down (N := 12) (P := fun i => ∀ (h2 : HM), frO ow lA h h2 → (∀ j, j < C → j < i → cuE G ad ar L B j h2) → (∀ j, j < C → i ≤ j → ∃ sf vf, cuE0 G ad ar j sf vf h2) → x_W G F (x_Q G F (fun v h' => v = none ∧ cuW G ad ar L B C h' ∧ frO ow lA h h') 0 0) 0 0 h2 2 [some (.ref (ad 0)), some (.int (nI i)), none] []) (fun i hiN ih => ?_) 0 (by omega) h (x_fr.refl h) (fun j _ hj => absurd hj (by omega)) (fun j hj _ => hcu j hj)
  intro h2 hf2 hD2 hT2
  have hB2 := hB.fr hO hf2 (lA_lo (by decide))
  have hR2 := hR.fr hO hf2 (lA_lo (by decide)) (lA_lo (by decide)) (fun j hj => lA_lo (by have := hR.2.2.1; omega))
  have hCs2 := hf2 _ _ hCs (by show ow (ad 3) ∉ lA; rw [hO.1 3 (by decide)]; exact lA_lo (by decide))
  refine x_iload_n hE dX7_arrangeCues_2 rfl ?_
  refine x_aload_n hE dX7_arrangeCues_3 rfl rfl ?_
  refine x_get hE hinX7 hB2 rfl 1 (by decide) (List.mem_of_getElem? (i := 1) rfl) rfl dX7_arrangeCues_4 ?_
  refine x_alen (t0 := 4) hE hCs2 rfl dX7_arrangeCues_7 ?_
  refine x_icmp_ge (tgt := 36) hE dX7_arrangeCues_8 (by decide) (fun c8 => ?_) (fun c8 => ?_)
  · replace c8 := x_nIle c8 (by omega) (by omega)
    exact x_vret hE dX7_arrangeCues_36 (⟨rfl, ⟨hCs2, hC12, fun j hj => hD2 j hj (by omega)⟩, hf2⟩)
  · replace c8 := x_nInle c8 (by omega) (by omega)
    refine x_aload_n hE dX7_arrangeCues_11 rfl rfl ?_
    refine x_get hE hinX7 hB2 rfl 1 (by decide) (List.mem_of_getElem? (i := 1) rfl) rfl dX7_arrangeCues_12 ?_
    refine x_iload_n hE dX7_arrangeCues_15 rfl ?_
    refine x_aald (t0 := 4) (v := (lampF C (fun i => ad (100 + 4 * i))) i) hE hCs2 rfl (vp_in_nI (by omega) (by decide)) (x_atN _ (by omega)) dX7_arrangeCues_16 ?_
    rcases Nat.lt_or_ge i C with hc | hc
    · have ei := lampF_in (aL := fun i => ad (100 + 4 * i)) hc
      obtain ⟨sf, vf, hE0⟩ := hT2 i hc (Nat.le_refl i)
      refine x_qref (q := (ad (100 + 4 * i))) (ei) ?_
      refine x_astore_n (L' := [some (.ref (ad 0)), some (.int (nI i)), some (.ref (ad (100 + 4 * i)))]) hE dX7_arrangeCues_17 rfl (Nat.le_of_ble_eq_true rfl) rfl rfl ?_
      refine x_aload_n hE dX7_arrangeCues_18 rfl rfl ?_
      refine x_ifnull hE dX7_arrangeCues_19 ?_
      refine x_aload_n hE dX7_arrangeCues_22 rfl rfl ?_
      refine x_aload_n hE dX7_arrangeCues_23 rfl rfl ?_
      refine x_get hE hinX7 hB2 rfl 0 (by decide) (List.mem_of_getElem? (i := 2) rfl) rfl dX7_arrangeCues_24 ?_
      have n12 : ad (100 + (4 * i + 1)) ≠ ad (100 + (4 * i + 2)) := fun z => by have z1 := congrArg ow z; rw [hO.2.2.1 _ (by omega), hO.2.2.1 _ (by omega)] at z1; omega
      have n13 : ad (100 + (4 * i + 1)) ≠ ad (100 + (4 * i + 3)) := fun z => by have z1 := congrArg ow z; rw [hO.2.2.1 _ (by omega), hO.2.2.1 _ (by omega)] at z1; omega
      have n23 : ad (100 + (4 * i + 2)) ≠ ad (100 + (4 * i + 3)) := fun z => by have z1 := congrArg ow z; rw [hO.2.2.1 _ (by omega), hO.2.2.1 _ (by omega)] at z1; omega
      refine x_callV (ci := 0) (st := []) hE 1 (c_X0_arrange G hR2 hE0.1 hE0.2.1 hE0.2.2.1 hE0.2.2.2 n12 n13 n23) gX7_arrangeCues_X0_arrange rfl rfl rfl (by decide +kernel) ⟨Nat.le_of_ble_eq_true rfl, Nat.le_of_ble_eq_true rfl⟩ hE0.1 rfl rfl rfl dX7_arrangeCues_27 rfl (Nat.le_of_ble_eq_true rfl) ⟨Nat.le_of_ble_eq_true rfl, Nat.le_of_ble_eq_true rfl⟩ (fun v h9 hp => ?_)
      obtain ⟨rfl, rfl⟩ := hp
      refine x_iinc (v := nI (i + 1)) (L' := [some (.ref (ad 0)), some (.int (nI (i + 1))), some (.ref (ad (100 + 4 * i)))]) hE dX7_arrangeCues_30 rfl (nI_1 _) rfl ?_
      refine x_goto (tgt := 2) hE dX7_arrangeCues_33 (by decide) ?_
      have hfi : frO ow [100 + (4 * i + 2), 100 + (4 * i + 3)] h2 (arrH G h2 (ad (100 + (4 * i + 2))) (ad (100 + (4 * i + 3))) (arrF L ar B (toldF ar i) 16)) := frO.of (arrH_fr G h2 _ _ _) (fun q hq => by rcases hq with rfl | rfl <;> (rw [hO.2.2.1 _ (by omega)]; simp))
      have hf3 : frO ow lA h _ := hf2.trans (hfi.sub (fun x hx => (List.mem_cons.mp hx).elim (fun e => by rw [e]; exact (lA_in (by omega)).1) (fun e => by rw [List.mem_singleton.mp e]; exact (lA_in (by omega)).2)))
      have nn : ∀ j k, j ≠ i → k < 4 → 100 + (4 * j + k) ∉ [100 + (4 * i + 2), 100 + (4 * i + 3)] := fun j k hj hk z => by simp at z; omega
      refine x_forget (L' := [some (.ref (ad 0)), some (.int (nI (i + 1))), none]) (And.intro rfl (And.intro rfl trivial)) ?_
      refine ih (i + 1) (by omega) (by omega) _ hf3 (fun j hj hji => ?_) (fun j hj hji => ?_)
      · by_cases e : j = i
        · subst e; exact ⟨hfi _ _ hE0.1 (by show ow _ ∉ _; rw [hO.2.2.1 (4 * j) (by omega)]; intro z; simp at z <;> omega), hfi _ _ hE0.2.1 (by show ow _ ∉ _; rw [hO.2.2.1 _ (by omega)]; intro z; simp at z <;> omega), arrH_s n23, arrH_v⟩
        · exact (hD2 j hj (by omega)).fr hO hfi hj (nn j 0 e (by omega)) (nn j 1 e (by omega)) (nn j 2 e (by omega)) (nn j 3 e (by omega))
      · obtain ⟨sf3, vf3, h3⟩ := hT2 j hj (by omega); exact ⟨sf3, vf3, cuE0.fr hO hfi hj h3 (nn j 0 (by omega) (by omega)) (nn j 1 (by omega) (by omega)) (nn j 2 (by omega) (by omega)) (nn j 3 (by omega) (by omega))⟩
    · have ei := lampF_out (aL := fun i => ad (100 + 4 * i)) hc
      refine x_qnull (ei) ?_
      refine x_astore_n (L' := [some (.ref (ad 0)), some (.int (nI i)), some (.null)]) hE dX7_arrangeCues_17 rfl (Nat.le_of_ble_eq_true rfl) rfl rfl ?_
      refine x_aload_n hE dX7_arrangeCues_18 rfl rfl ?_
      refine x_ifnullN (tgt := 30) hE dX7_arrangeCues_19 (by decide) ?_
      refine x_iinc (v := nI (i + 1)) (L' := [some (.ref (ad 0)), some (.int (nI (i + 1))), some (.null)]) hE dX7_arrangeCues_30 rfl (nI_1 _) rfl ?_
      refine x_goto (tgt := 2) hE dX7_arrangeCues_33 (by decide) ?_
      refine x_forget (L' := [some (.ref (ad 0)), some (.int (nI (i + 1))), none]) (And.intro rfl (And.intro rfl trivial)) ?_
      exact ih (i + 1) (by omega) (by omega) h2 hf2 (fun j hj hji => hD2 j hj (by omega)) (fun j hj hji => hT2 j hj (by omega))
