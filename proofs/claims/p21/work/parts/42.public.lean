def fFollow (S : PS) (c o t : Int32) : Nat := if isN c (s_C S) = true ∧ (isN o (s_C S) = true ∨ o = -1) then (if inI t 1 60 = true then 0 else 2) else 1
def followP (c : Nat) (o t : Int32) (S : PS) : PS := (set2 (set2 (s_ar S) 15 c o) 16 c t, s_L S, s_B S, s_C S, s_t S, s_b S, s_G S, s_N S, s_H S, s_n S)
set_option maxHeartbeats 4000000 in
set_option maxRecDepth 100000 in
theorem c_X7_follow (G : XG) {ad ow : Nat → Nat} {eA : Nat} {A1 P1 : List Nat} {c1 : Nat → GC} {A2 P2 : List Nat} {c2 : Nat → GC} {RY : List Nat} {S : PS} {h : HM} (hW : cW G ad ow eA A1 P1 c1 A2 P2 c2 RY S h) (hcu : cuI (s_ar S) (s_C S)) (c o t : Int32) : y_M G yX7_follow wsX7_follow ({ frames := 6, cells := 1, slots := 6, locals := 90 } : Room) [.ref (ad 0), .int c, .int o, .int t] h (fun v h' => fFollow S c o t = 0 ∧ v = some (.int (s_ar S 15 c.toNatClampNeg)) ∧ cW G ad ow eA A1 P1 c1 A2 P2 c2 RY (followP c.toNatClampNeg o t S) h') (fun E => (fFollow S c o t = 1 ∧ E = xIO) ∨ (fFollow S c o t = 2 ∧ E = xIA)) 1 6 := by
  refine y_M.of (cc := cX7_follow) (maxL := 7) (ret := (some .int)) (ent := [some (.ref (ad 0)), some (.int c), some (.int o), some (.int t), none, none, none]) (by decide +kernel) rfl (Nat.le_of_ble_eq_true rfl) rfl rfl ?_
  intro F hE hname hT hX
  have hinX0 : ∀ w ∈ wsX00, w ∈ wsX7_follow := by decide +kernel
  have hW0 := hW
  obtain ⟨hB, hR, hC, hp, hl, hr, hw, hI, hO⟩ := hW0
  refine x_aload_n hE dX7_follow_0 rfl rfl ?_
  refine x_iload_n hE dX7_follow_1 rfl ?_
  refine x_callV (ci := 7) (st := []) hE 1 (c_X7_cueAt G hB hC.1 c) gX7_follow_X7_cueAt rfl rfl rfl (by decide +kernel) ⟨Nat.le_of_ble_eq_true rfl, Nat.le_of_ble_eq_true rfl⟩ hB rfl rfl rfl dX7_follow_2 rfl (Nat.le_of_ble_eq_true rfl) ⟨Nat.le_of_ble_eq_true rfl, Nat.le_of_ble_eq_true rfl⟩ (fun v h9 hp => ?_)
  obtain ⟨rfl, rfl⟩ := hp
  skip
  rcases sel_n (x := c) (f := fun i => ad (100 + 4 * i)) hC.2.1 (by decide : 12 < 2 ^ 31) with ⟨hq, k, hk1, hk, hz⟩ | ⟨hq, hz⟩
  · subst hk
    refine x_qref (q := (ad (100 + 4 * k))) (hz) ?_
    have hC12 := hC.2.1
    refine x_astore (L' := [some (.ref (ad 0)), some (.int (nI k)), some (.int o), some (.int t), some (.ref (ad (100 + 4 * k))), none, none]) hE dX7_follow_5 (Nat.le_of_ble_eq_true rfl) rfl rfl ?_
    refine x_aload_n hE dX7_follow_7 rfl rfl ?_
    refine x_iload_n hE dX7_follow_8 rfl ?_
    refine x_callV (ci := 7) (st := []) hE 1 (c_X7_cueAt G hB hC.1 o) gX7_follow_X7_cueAt rfl rfl rfl (by decide +kernel) ⟨Nat.le_of_ble_eq_true rfl, Nat.le_of_ble_eq_true rfl⟩ hB rfl rfl rfl dX7_follow_9 rfl (Nat.le_of_ble_eq_true rfl) ⟨Nat.le_of_ble_eq_true rfl, Nat.le_of_ble_eq_true rfl⟩ (fun v h9 hp => ?_)
    obtain ⟨rfl, rfl⟩ := hp
    rcases sel_n (x := o) (f := fun i => ad (100 + 4 * i)) hC.2.1 (by decide : 12 < 2 ^ 31) with ⟨hq2, j, hj1, hj, hz2⟩ | ⟨hq2, hz2⟩
    · subst hj
      refine x_qref (q := (ad (100 + 4 * j))) (hz2) ?_
      have nmo : ¬ nI j = -1 := by intro z; have := congrArg Int32.toInt z; rw [nI_toInt (by omega)] at this; simp at this <;> omega
      have hfo : foO ad (nI j) = some (ad (100 + 4 * j)) := by unfold foO; rw [if_neg nmo, nI_clamp (by omega)]
      clear hz2
      skip
      refine x_astore (L' := [some (.ref (ad 0)), some (.int (nI k)), some (.int (nI j)), some (.int t), some (.ref (ad (100 + 4 * k))), some (.ref (ad (100 + 4 * j))), none]) hE dX7_follow_12 (Nat.le_of_ble_eq_true rfl) rfl rfl ?_
      refine x_aload hE dX7_follow_14 rfl rfl ?_
      refine x_ifnull hE dX7_follow_16 ?_
      refine x_aload hE dX7_follow_19 rfl rfl ?_
      refine x_ifnonnull (tgt := 39) hE dX7_follow_21 (by decide) ?_
      refine x_iload_n hE dX7_follow_39 rfl ?_
      refine x_iconst (v := nI 1) hE dX7_follow_40 (by decide) ?_
      refine x_bipush (v := nI 60) hE dX7_follow_41 (by decide) ?_
      refine x_callS (st := []) hE 3 (c_X7_isWithin G t (nI 1) (nI 60)) gX7_follow_X7_isWithin rfl rfl rfl (by decide +kernel) ⟨Nat.le_of_ble_eq_true rfl, Nat.le_of_ble_eq_true rfl⟩ rfl rfl dX7_follow_43 rfl (Nat.le_of_ble_eq_true rfl) ⟨Nat.le_of_ble_eq_true rfl, Nat.le_of_ble_eq_true rfl⟩ (fun v h9 hp => ?_)
      obtain ⟨rfl, rfl⟩ := hp
      refine x_if_ne (tgt := 59) hE dX7_follow_46 (by decide) (fun cc => ?_) (fun cc => ?_)
      · have q1 : inI t 1 60 = true := b2i_n0.mp cc
        have ek : (nI k).toNatClampNeg = k := nI_clamp (by omega)
        rw [ek]
        refine x_aload hE dX7_follow_59 rfl rfl ?_
        refine x_get hE hinX0 (hC.2.2 k hk1).1 rfl 7 (by decide) (List.mem_of_getElem? (i := 5) rfl) rfl dX7_follow_61 ?_
        refine x_astore (L' := [some (.ref (ad 0)), some (.int (nI k)), some (.int (nI j)), some (.int t), some (.ref (ad (100 + 4 * k))), some (.ref (ad (100 + 4 * j))), some (va_rf (foO ad (s_ar S 15 k)))]) hE dX7_follow_64 (Nat.le_of_ble_eq_true rfl) (x_rv_rf _) rfl ?_
        refine x_aload hE dX7_follow_66 rfl rfl ?_
        refine x_aload hE dX7_follow_68 rfl rfl ?_
        refine x_put (fs' := [.int (nI k), .int (s_ar S 11 k), .int (s_ar S 12 k), .int (s_ar S 13 k), .ref (ad (100 + (4 * k + 1))), .ref (ad (100 + (4 * k + 2))), .ref (ad (100 + (4 * k + 3))), .ref (ad (100 + 4 * j)), .int (s_ar S 16 k)]) hE hinX0 tyX0 tyX0_ok nmX0 (hC.2.2 k hk1).1 rfl 7 (by decide) (List.mem_of_getElem? (i := 5) rfl) rfl rfl rfl (Nat.le_of_ble_eq_true rfl) rfl dX7_follow_70 ?_
        generalize hhh1 : x_up h (ad (100 + 4 * k)) (.inr (0, [.int (nI k), .int (s_ar S 11 k), .int (s_ar S 12 k), .int (s_ar S 13 k), .ref (ad (100 + (4 * k + 1))), .ref (ad (100 + (4 * k + 2))), .ref (ad (100 + (4 * k + 3))), .ref (ad (100 + 4 * j)), .int (s_ar S 16 k)])) = h1
        have hc2 : h1 (ad (100 + 4 * k)) = some (.inr (0, [.int (nI k), .int (s_ar S 11 k), .int (s_ar S 12 k), .int (s_ar S 13 k), .ref (ad (100 + (4 * k + 1))), .ref (ad (100 + (4 * k + 2))), .ref (ad (100 + (4 * k + 3))), .ref (ad (100 + 4 * j)), .int (s_ar S 16 k)])) := by rw [← hhh1]; exact x_up_eq _ _ _
        refine x_aload hE dX7_follow_73 rfl rfl ?_
        refine x_iload_n hE dX7_follow_75 rfl ?_
        refine x_put (fs' := [.int (nI k), .int (s_ar S 11 k), .int (s_ar S 12 k), .int (s_ar S 13 k), .ref (ad (100 + (4 * k + 1))), .ref (ad (100 + (4 * k + 2))), .ref (ad (100 + (4 * k + 3))), .ref (ad (100 + 4 * j)), .int t]) hE hinX0 tyX0 tyX0_ok nmX0 hc2 rfl 8 (by decide) (List.mem_of_getElem? (i := 6) rfl) rfl rfl rfl (Nat.le_of_ble_eq_true rfl) rfl dX7_follow_76 ?_
        generalize hhh3 : x_up h1 (ad (100 + 4 * k)) (.inr (0, [.int (nI k), .int (s_ar S 11 k), .int (s_ar S 12 k), .int (s_ar S 13 k), .ref (ad (100 + (4 * k + 1))), .ref (ad (100 + (4 * k + 2))), .ref (ad (100 + (4 * k + 3))), .ref (ad (100 + 4 * j)), .int t])) = h3
        have hc4 : h3 (ad (100 + 4 * k)) = some (.inr (0, [.int (nI k), .int (s_ar S 11 k), .int (s_ar S 12 k), .int (s_ar S 13 k), .ref (ad (100 + (4 * k + 1))), .ref (ad (100 + (4 * k + 2))), .ref (ad (100 + (4 * k + 3))), .ref (ad (100 + 4 * j)), .int t])) := by rw [← hhh3]; exact x_up_eq _ _ _
        have f1 : frO ow [100 + 4 * k] h h3 := by rw [← hhh3, ← hhh1]; exact ((x_fr.refl h).up (by show ow _ ∈ _; rw [hO.2.2.1 _ (by omega)]; simp)).up (by show ow _ ∈ _; rw [hO.2.2.1 _ (by omega)]; simp)
        have nl : ∀ z, z < 100 → z ∉ [100 + 4 * k] := fun z hz1 hz2 => by simp at hz2; omega
        have sV : sameL (s_ar S) (set2 (set2 (s_ar S) 15 k (nI j)) 16 k t) := ⟨by rw [set2_ne (by decide), set2_ne (by decide)], by rw [set2_ne (by decide), set2_ne (by decide)], by rw [set2_ne (by decide), set2_ne (by decide)], by rw [set2_ne (by decide), set2_ne (by decide)]⟩
        have hB2 := hB.fr hO f1 (nl 0 (by decide))
        have hR2 : riW G ad (set2 (set2 (s_ar S) 15 k (nI j)) 16 k t) (s_L S) (s_B S) h3 := riW.same sV (by rw [set2_ne (by decide), set2_ne (by decide)]) (by rw [set2_ne (by decide), set2_ne (by decide)]) (hR.fr hO f1 (nl 1 (by decide)) (nl 2 (by decide)) (fun j hj => nl _ (by have := hR.2.2.1; omega)))
        have hp2 : poW G ad (set2 (set2 (s_ar S) 15 k (nI j)) 16 k t) h3 := poW.same (by rw [set2_ne (by decide), set2_ne (by decide)]) (hp.fr hO f1 (nl 4 (by decide)))
        have hl2 := hl.fr hO f1 (nl 5 (by decide)) (nl 6 (by decide)) (nl 14 (by decide))
        have hr2 := hr.fr f1 (hO.1 7 (by decide)) (hO.1 8 (by decide)) hO.2.2.2.2.2 (nl 7 (by decide)) (nl 8 (by decide)) (nl 15 (by decide))
        have hw2 := hw.fr hO f1 (nl 9 (by decide)) (nl 10 (by decide)) (nl 11 (by decide)) (nl 12 (by decide))
        have hI2 := hI.fr hO f1 (nl 13 (by decide)) (nl 16 (by decide))
        have tS : ∀ d, toldF (set2 (set2 (s_ar S) 15 k (nI j)) 16 k t) d = toldF (s_ar S) d := fun d => by unfold toldF; rw [set2_ne (by decide), set2_ne (by decide)]
        have hC2 : cuW G ad (set2 (set2 (s_ar S) 15 k (nI j)) 16 k t) (s_L S) (s_B S) (s_C S) h3 := by
          refine ⟨f1 _ _ hC.1 (by show ow (ad 3) ∉ _; rw [hO.1 3 (by decide)]; exact nl 3 (by decide)), hC12, fun d hd => ?_⟩
          unfold cuE; rw [arrF_same sV, tS]
          obtain ⟨u1, u2, u3, u4⟩ := hC.2.2 d hd
          have nd : ∀ z, 1 ≤ z → z < 4 → 100 + (4 * d + z) ∉ [100 + 4 * k] := fun z hz1 hz y => by simp at y; omega
          refine ⟨?_, by rw [tS]; exact f1 _ _ u2 (by show ow _ ∉ _; rw [hO.2.2.1 _ (by omega)]; exact nd 1 (by decide) (by decide)), f1 _ _ u3 (by show ow _ ∉ _; rw [hO.2.2.1 _ (by omega)]; exact nd 2 (by decide) (by decide)), f1 _ _ u4 (by show ow _ ∉ _; rw [hO.2.2.1 _ (by omega)]; exact nd 3 (by decide) (by decide))⟩
          rw [set2_ne (show 11 ≠ 16 by decide), set2_ne (show 11 ≠ 15 by decide), set2_ne (show 12 ≠ 16 by decide), set2_ne (show 12 ≠ 15 by decide), set2_ne (show 13 ≠ 16 by decide), set2_ne (show 13 ≠ 15 by decide), set2_ne (show 15 ≠ 16 by decide), set2_at, set2_at]
          by_cases e : d = k
          · subst e; rw [upd_at, upd_at, hfo]; exact hc4
          · rw [upd_ne e, set2_ne (show 16 ≠ 15 by decide), upd_ne e]; exact f1 _ _ u1 (by show ow _ ∉ _; rw [hO.2.2.1 _ (by omega)]; intro y; simp at y; omega)
        refine x_aload hE dX7_follow_79 rfl (x_rv_rf _) ?_
        rcases hcu k hk1 with hno | ⟨j9, d9, hj9, -, -, h15, -⟩
        · have e0 : foO ad (s_ar S 15 k) = none := by unfold foO; rw [if_pos hno]
          refine x_qnull (e0) ?_
          refine x_ifnonnullN hE dX7_follow_81 ?_
          refine x_iconst (v := (-1 : Int32)) hE dX7_follow_84 (by decide) ?_
          refine x_goto (tgt := 93) hE dX7_follow_85 (by decide) ?_
          refine x_widen (k := 1) (n := 6) (Nat.le_of_ble_eq_true rfl) (Nat.le_of_ble_eq_true rfl) ?_
          exact y_ret (x_iret hE dX7_follow_93 (⟨by unfold fFollow; rw [if_pos ⟨hq, (Or.inl hq2)⟩, if_pos q1], by rw [hno], ⟨hB2, hR2, hC2, hp2, hl2, hr2, hw2, hI2, hO⟩⟩))
        · have nm : ¬ nI j9 = -1 := by intro z; have := congrArg Int32.toInt z; rw [nI_toInt (by omega)] at this; simp at this <;> omega
          have e0 : foO ad (s_ar S 15 k) = some (ad (100 + 4 * j9)) := by unfold foO; rw [h15, if_neg nm, nI_clamp (by omega)]
          refine x_qref (q := (ad (100 + 4 * j9))) (e0) ?_
          refine x_ifnonnull (tgt := 88) hE dX7_follow_81 (by decide) ?_
          refine x_aload hE dX7_follow_88 rfl (x_rv_rf _) ?_
          refine x_qref (q := (ad (100 + 4 * j9))) (e0) ?_
          have hn9 := (hC2.2.2 j9 hj9).1
          refine x_get hE hinX0 hn9 rfl 0 (by decide) (List.mem_of_getElem? (i := 7) rfl) rfl dX7_follow_90 ?_
          refine x_widen (k := 1) (n := 6) (Nat.le_of_ble_eq_true rfl) (Nat.le_of_ble_eq_true rfl) ?_
          exact y_ret (x_iret hE dX7_follow_93 (⟨by unfold fFollow; rw [if_pos ⟨hq, (Or.inl hq2)⟩, if_pos q1], by rw [h15], ⟨hB2, hR2, hC2, hp2, hl2, hr2, hw2, hI2, hO⟩⟩))
      · exact y_IA hE hT hX (List.mem_of_getElem? (i := 9) rfl) (List.mem_of_getElem? (i := 3) rfl) (List.mem_of_getElem? (i := 4) rfl) (fun w hw => List.mem_cons_of_mem _ (List.mem_append_right _ hw)) rfl dX7_follow_49 dX7_follow_52 dX7_follow_53 dX7_follow_55 dX7_follow_58 (Nat.le_of_ble_eq_true rfl) (Nat.le_of_ble_eq_true rfl) ⟨by decide, by decide⟩ ⟨by decide, by decide⟩ (Or.inr ⟨by unfold fFollow; rw [if_pos ⟨hq, (Or.inl hq2)⟩, if_neg (by rw [show inI t 1 60 = false from b2i_0.mp cc]; decide)], rfl⟩)
    · refine x_qnull (hz2) ?_
      refine x_astore (L' := [some (.ref (ad 0)), some (.int (nI k)), some (.int o), some (.int t), some (.ref (ad (100 + 4 * k))), some (.null), none]) hE dX7_follow_12 (Nat.le_of_ble_eq_true rfl) rfl rfl ?_
      refine x_aload hE dX7_follow_14 rfl rfl ?_
      refine x_ifnull hE dX7_follow_16 ?_
      refine x_aload hE dX7_follow_19 rfl rfl ?_
      refine x_ifnonnullN hE dX7_follow_21 ?_
      refine x_iload_n hE dX7_follow_24 rfl ?_
      refine x_iconst (v := (-1 : Int32)) hE dX7_follow_25 (by decide) ?_
      refine x_icmp_eq (tgt := 39) hE dX7_follow_26 (by decide) (fun c26 => ?_) (fun c26 => ?_)
      · subst c26
        have hfo : foO ad (-1) = none := if_pos rfl
        refine x_iload_n hE dX7_follow_39 rfl ?_
        refine x_iconst (v := nI 1) hE dX7_follow_40 (by decide) ?_
        refine x_bipush (v := nI 60) hE dX7_follow_41 (by decide) ?_
        refine x_callS (st := []) hE 3 (c_X7_isWithin G t (nI 1) (nI 60)) gX7_follow_X7_isWithin rfl rfl rfl (by decide +kernel) ⟨Nat.le_of_ble_eq_true rfl, Nat.le_of_ble_eq_true rfl⟩ rfl rfl dX7_follow_43 rfl (Nat.le_of_ble_eq_true rfl) ⟨Nat.le_of_ble_eq_true rfl, Nat.le_of_ble_eq_true rfl⟩ (fun v h9 hp => ?_)
        obtain ⟨rfl, rfl⟩ := hp
        refine x_if_ne (tgt := 59) hE dX7_follow_46 (by decide) (fun cc => ?_) (fun cc => ?_)
        · have q1 : inI t 1 60 = true := b2i_n0.mp cc
          have ek : (nI k).toNatClampNeg = k := nI_clamp (by omega)
          rw [ek]
          refine x_aload hE dX7_follow_59 rfl rfl ?_
          refine x_get hE hinX0 (hC.2.2 k hk1).1 rfl 7 (by decide) (List.mem_of_getElem? (i := 5) rfl) rfl dX7_follow_61 ?_
          refine x_astore (L' := [some (.ref (ad 0)), some (.int (nI k)), some (.int (-1 : Int32)), some (.int t), some (.ref (ad (100 + 4 * k))), some (.null), some (va_rf (foO ad (s_ar S 15 k)))]) hE dX7_follow_64 (Nat.le_of_ble_eq_true rfl) (x_rv_rf _) rfl ?_
          refine x_aload hE dX7_follow_66 rfl rfl ?_
          refine x_aload hE dX7_follow_68 rfl rfl ?_
          refine x_put (fs' := [.int (nI k), .int (s_ar S 11 k), .int (s_ar S 12 k), .int (s_ar S 13 k), .ref (ad (100 + (4 * k + 1))), .ref (ad (100 + (4 * k + 2))), .ref (ad (100 + (4 * k + 3))), .null, .int (s_ar S 16 k)]) hE hinX0 tyX0 tyX0_ok nmX0 (hC.2.2 k hk1).1 rfl 7 (by decide) (List.mem_of_getElem? (i := 5) rfl) rfl rfl rfl (Nat.le_of_ble_eq_true rfl) rfl dX7_follow_70 ?_
          generalize hhh5 : x_up h (ad (100 + 4 * k)) (.inr (0, [.int (nI k), .int (s_ar S 11 k), .int (s_ar S 12 k), .int (s_ar S 13 k), .ref (ad (100 + (4 * k + 1))), .ref (ad (100 + (4 * k + 2))), .ref (ad (100 + (4 * k + 3))), .null, .int (s_ar S 16 k)])) = h5
          have hc6 : h5 (ad (100 + 4 * k)) = some (.inr (0, [.int (nI k), .int (s_ar S 11 k), .int (s_ar S 12 k), .int (s_ar S 13 k), .ref (ad (100 + (4 * k + 1))), .ref (ad (100 + (4 * k + 2))), .ref (ad (100 + (4 * k + 3))), .null, .int (s_ar S 16 k)])) := by rw [← hhh5]; exact x_up_eq _ _ _
          refine x_aload hE dX7_follow_73 rfl rfl ?_
          refine x_iload_n hE dX7_follow_75 rfl ?_
          refine x_put (fs' := [.int (nI k), .int (s_ar S 11 k), .int (s_ar S 12 k), .int (s_ar S 13 k), .ref (ad (100 + (4 * k + 1))), .ref (ad (100 + (4 * k + 2))), .ref (ad (100 + (4 * k + 3))), .null, .int t]) hE hinX0 tyX0 tyX0_ok nmX0 hc6 rfl 8 (by decide) (List.mem_of_getElem? (i := 6) rfl) rfl rfl rfl (Nat.le_of_ble_eq_true rfl) rfl dX7_follow_76 ?_
          generalize hhh7 : x_up h5 (ad (100 + 4 * k)) (.inr (0, [.int (nI k), .int (s_ar S 11 k), .int (s_ar S 12 k), .int (s_ar S 13 k), .ref (ad (100 + (4 * k + 1))), .ref (ad (100 + (4 * k + 2))), .ref (ad (100 + (4 * k + 3))), .null, .int t])) = h7
          have hc8 : h7 (ad (100 + 4 * k)) = some (.inr (0, [.int (nI k), .int (s_ar S 11 k), .int (s_ar S 12 k), .int (s_ar S 13 k), .ref (ad (100 + (4 * k + 1))), .ref (ad (100 + (4 * k + 2))), .ref (ad (100 + (4 * k + 3))), .null, .int t])) := by rw [← hhh7]; exact x_up_eq _ _ _
          have f1 : frO ow [100 + 4 * k] h h7 := by rw [← hhh7, ← hhh5]; exact ((x_fr.refl h).up (by show ow _ ∈ _; rw [hO.2.2.1 _ (by omega)]; simp)).up (by show ow _ ∈ _; rw [hO.2.2.1 _ (by omega)]; simp)
          have nl : ∀ z, z < 100 → z ∉ [100 + 4 * k] := fun z hz1 hz2 => by simp at hz2; omega
          have sV : sameL (s_ar S) (set2 (set2 (s_ar S) 15 k ((-1))) 16 k t) := ⟨by rw [set2_ne (by decide), set2_ne (by decide)], by rw [set2_ne (by decide), set2_ne (by decide)], by rw [set2_ne (by decide), set2_ne (by decide)], by rw [set2_ne (by decide), set2_ne (by decide)]⟩
          have hB2 := hB.fr hO f1 (nl 0 (by decide))
          have hR2 : riW G ad (set2 (set2 (s_ar S) 15 k ((-1))) 16 k t) (s_L S) (s_B S) h7 := riW.same sV (by rw [set2_ne (by decide), set2_ne (by decide)]) (by rw [set2_ne (by decide), set2_ne (by decide)]) (hR.fr hO f1 (nl 1 (by decide)) (nl 2 (by decide)) (fun j hj => nl _ (by have := hR.2.2.1; omega)))
          have hp2 : poW G ad (set2 (set2 (s_ar S) 15 k ((-1))) 16 k t) h7 := poW.same (by rw [set2_ne (by decide), set2_ne (by decide)]) (hp.fr hO f1 (nl 4 (by decide)))
          have hl2 := hl.fr hO f1 (nl 5 (by decide)) (nl 6 (by decide)) (nl 14 (by decide))
          have hr2 := hr.fr f1 (hO.1 7 (by decide)) (hO.1 8 (by decide)) hO.2.2.2.2.2 (nl 7 (by decide)) (nl 8 (by decide)) (nl 15 (by decide))
          have hw2 := hw.fr hO f1 (nl 9 (by decide)) (nl 10 (by decide)) (nl 11 (by decide)) (nl 12 (by decide))
          have hI2 := hI.fr hO f1 (nl 13 (by decide)) (nl 16 (by decide))
          have tS : ∀ d, toldF (set2 (set2 (s_ar S) 15 k ((-1))) 16 k t) d = toldF (s_ar S) d := fun d => by unfold toldF; rw [set2_ne (by decide), set2_ne (by decide)]
          have hC2 : cuW G ad (set2 (set2 (s_ar S) 15 k ((-1))) 16 k t) (s_L S) (s_B S) (s_C S) h7 := by
            refine ⟨f1 _ _ hC.1 (by show ow (ad 3) ∉ _; rw [hO.1 3 (by decide)]; exact nl 3 (by decide)), hC12, fun d hd => ?_⟩
            unfold cuE; rw [arrF_same sV, tS]
            obtain ⟨u1, u2, u3, u4⟩ := hC.2.2 d hd
            have nd : ∀ z, 1 ≤ z → z < 4 → 100 + (4 * d + z) ∉ [100 + 4 * k] := fun z hz1 hz y => by simp at y; omega
            refine ⟨?_, by rw [tS]; exact f1 _ _ u2 (by show ow _ ∉ _; rw [hO.2.2.1 _ (by omega)]; exact nd 1 (by decide) (by decide)), f1 _ _ u3 (by show ow _ ∉ _; rw [hO.2.2.1 _ (by omega)]; exact nd 2 (by decide) (by decide)), f1 _ _ u4 (by show ow _ ∉ _; rw [hO.2.2.1 _ (by omega)]; exact nd 3 (by decide) (by decide))⟩
            rw [set2_ne (show 11 ≠ 16 by decide), set2_ne (show 11 ≠ 15 by decide), set2_ne (show 12 ≠ 16 by decide), set2_ne (show 12 ≠ 15 by decide), set2_ne (show 13 ≠ 16 by decide), set2_ne (show 13 ≠ 15 by decide), set2_ne (show 15 ≠ 16 by decide), set2_at, set2_at]
            by_cases e : d = k
            · subst e; rw [upd_at, upd_at, hfo]; exact hc8
            · rw [upd_ne e, set2_ne (show 16 ≠ 15 by decide), upd_ne e]; exact f1 _ _ u1 (by show ow _ ∉ _; rw [hO.2.2.1 _ (by omega)]; intro y; simp at y; omega)
          refine x_aload hE dX7_follow_79 rfl (x_rv_rf _) ?_
          rcases hcu k hk1 with hno | ⟨j9, d9, hj9, -, -, h15, -⟩
          · have e0 : foO ad (s_ar S 15 k) = none := by unfold foO; rw [if_pos hno]
            refine x_qnull (e0) ?_
            refine x_ifnonnullN hE dX7_follow_81 ?_
            refine x_iconst (v := (-1 : Int32)) hE dX7_follow_84 (by decide) ?_
            refine x_goto (tgt := 93) hE dX7_follow_85 (by decide) ?_
            refine x_widen (k := 1) (n := 6) (Nat.le_of_ble_eq_true rfl) (Nat.le_of_ble_eq_true rfl) ?_
            exact y_ret (x_iret hE dX7_follow_93 (⟨by unfold fFollow; rw [if_pos ⟨hq, (Or.inr rfl)⟩, if_pos q1], by rw [hno], ⟨hB2, hR2, hC2, hp2, hl2, hr2, hw2, hI2, hO⟩⟩))
          · have nm : ¬ nI j9 = -1 := by intro z; have := congrArg Int32.toInt z; rw [nI_toInt (by omega)] at this; simp at this <;> omega
            have e0 : foO ad (s_ar S 15 k) = some (ad (100 + 4 * j9)) := by unfold foO; rw [h15, if_neg nm, nI_clamp (by omega)]
            refine x_qref (q := (ad (100 + 4 * j9))) (e0) ?_
            refine x_ifnonnull (tgt := 88) hE dX7_follow_81 (by decide) ?_
            refine x_aload hE dX7_follow_88 rfl (x_rv_rf _) ?_
            refine x_qref (q := (ad (100 + 4 * j9))) (e0) ?_
            have hn9 := (hC2.2.2 j9 hj9).1
            refine x_get hE hinX0 hn9 rfl 0 (by decide) (List.mem_of_getElem? (i := 7) rfl) rfl dX7_follow_90 ?_
            refine x_widen (k := 1) (n := 6) (Nat.le_of_ble_eq_true rfl) (Nat.le_of_ble_eq_true rfl) ?_
            exact y_ret (x_iret hE dX7_follow_93 (⟨by unfold fFollow; rw [if_pos ⟨hq, (Or.inr rfl)⟩, if_pos q1], by rw [h15], ⟨hB2, hR2, hC2, hp2, hl2, hr2, hw2, hI2, hO⟩⟩))
        · exact y_IA hE hT hX (List.mem_of_getElem? (i := 9) rfl) (List.mem_of_getElem? (i := 3) rfl) (List.mem_of_getElem? (i := 4) rfl) (fun w hw => List.mem_cons_of_mem _ (List.mem_append_right _ hw)) rfl dX7_follow_49 dX7_follow_52 dX7_follow_53 dX7_follow_55 dX7_follow_58 (Nat.le_of_ble_eq_true rfl) (Nat.le_of_ble_eq_true rfl) ⟨by decide, by decide⟩ ⟨by decide, by decide⟩ (Or.inr ⟨by unfold fFollow; rw [if_pos ⟨hq, (Or.inr rfl)⟩, if_neg (by rw [show inI t 1 60 = false from b2i_0.mp cc]; decide)], rfl⟩)
      · exact y_IO hE hT hX (List.mem_of_getElem? (i := 8) rfl) (List.mem_of_getElem? (i := 1) rfl) (List.mem_of_getElem? (i := 2) rfl) (fun w hw => List.mem_cons_of_mem _ (List.mem_append_left _ (List.mem_append_right _ hw))) rfl dX7_follow_29 dX7_follow_32 dX7_follow_33 dX7_follow_35 dX7_follow_38 (Nat.le_of_ble_eq_true rfl) (Nat.le_of_ble_eq_true rfl) ⟨by decide, by decide⟩ ⟨by decide, by decide⟩ (Or.inl ⟨by unfold fFollow; rw [if_neg (by rw [hq2]; simp [c26])], rfl⟩)
  · refine x_qnull (hz) ?_
    refine x_astore (L' := [some (.ref (ad 0)), some (.int c), some (.int o), some (.int t), some (.null), none, none]) hE dX7_follow_5 (Nat.le_of_ble_eq_true rfl) rfl rfl ?_
    refine x_aload_n hE dX7_follow_7 rfl rfl ?_
    refine x_iload_n hE dX7_follow_8 rfl ?_
    refine x_callV (ci := 7) (st := []) hE 1 (c_X7_cueAt G hB hC.1 o) gX7_follow_X7_cueAt rfl rfl rfl (by decide +kernel) ⟨Nat.le_of_ble_eq_true rfl, Nat.le_of_ble_eq_true rfl⟩ hB rfl rfl rfl dX7_follow_9 rfl (Nat.le_of_ble_eq_true rfl) ⟨Nat.le_of_ble_eq_true rfl, Nat.le_of_ble_eq_true rfl⟩ (fun v h9 hp => ?_)
    obtain ⟨rfl, rfl⟩ := hp
    refine x_astore (L' := [some (.ref (ad 0)), some (.int c), some (.int o), some (.int t), some (.null), some (va_rf (x_sel 12 (lampF (s_C S) (fun i => ad (100 + 4 * i))) o none)), none]) hE dX7_follow_12 (Nat.le_of_ble_eq_true rfl) (x_rv_rf _) rfl ?_
    refine x_aload hE dX7_follow_14 rfl rfl ?_
    refine x_ifnullN (tgt := 29) hE dX7_follow_16 (by decide) ?_
    exact y_IO hE hT hX (List.mem_of_getElem? (i := 8) rfl) (List.mem_of_getElem? (i := 1) rfl) (List.mem_of_getElem? (i := 2) rfl) (fun w hw => List.mem_cons_of_mem _ (List.mem_append_left _ (List.mem_append_right _ hw))) rfl dX7_follow_29 dX7_follow_32 dX7_follow_33 dX7_follow_35 dX7_follow_38 (Nat.le_of_ble_eq_true rfl) (Nat.le_of_ble_eq_true rfl) ⟨by decide, by decide⟩ ⟨by decide, by decide⟩ (Or.inl ⟨by unfold fFollow; rw [if_neg (by rw [hq]; simp)], rfl⟩)
