def dieP (k : Nat) (S : PS) : PS := (set2 (s_ar S) 7 k (if s_ar S 7 k = 0 then 1 else 0), s_L S, s_B S, s_C S, s_t S, s_b S, s_G S, s_N S, s_H S, s_n S)
theorem set2_cue {ar : Nat → Nat → Int32} {r k : Nat} {x : Int32} (h : r ≤ 10) (i : Nat) : set2 ar r k x 11 i = ar 11 i ∧ set2 ar r k x 12 i = ar 12 i ∧ set2 ar r k x 13 i = ar 13 i ∧ toldF (set2 ar r k x) i = toldF ar i ∧ set2 ar r k x 15 i = ar 15 i ∧ set2 ar r k x 16 i = ar 16 i := by
  refine ⟨by rw [set2_ne (by omega)], by rw [set2_ne (by omega)], by rw [set2_ne (by omega)], ?_, by rw [set2_ne (by omega)], by rw [set2_ne (by omega)]⟩
  unfold toldF
  rw [set2_ne (by omega)]
theorem upd_at (f : Nat → Int32) (i : Nat) (x : Int32) : upd f i x i = x := by simp [upd]
theorem upd_ne {f : Nat → Int32} {i j : Nat} {x : Int32} (h : j ≠ i) : upd f i x j = f j := by simp [upd, h]
theorem poW.same {G : XG} {ad : Nat → Nat} {ar ar' : Nat → Nat → Int32} {h : HM} (e : ar' 9 = ar 9) (hp : poW G ad ar h) : poW G ad ar' h := by
  unfold poW powF at *
  rw [e]
  exact hp
set_option maxHeartbeats 4000000 in
set_option maxRecDepth 100000 in
theorem c_X7_die (G : XG) {ad ow : Nat → Nat} {eA : Nat} {A1 P1 : List Nat} {c1 : Nat → GC} {A2 P2 : List Nat} {c2 : Nat → GC} {RY : List Nat} {S : PS} {h : HM} (hW : cW G ad ow eA A1 P1 c1 A2 P2 c2 RY S h) (i : Int32) : y_M G yX7_die wsX7_die ({ frames := 6, cells := 1, slots := 6, locals := 115 } : Room) [.ref (ad 0), .int i] h (fun v h' => fLamp S i = 0 ∧ v = some (.int (s_ar (dieP i.toNatClampNeg S) 7 i.toNatClampNeg)) ∧ cW G ad ow eA A1 P1 c1 A2 P2 c2 RY (dieP i.toNatClampNeg S) h') (fun E => fLamp S i = 1 ∧ E = xIO) 1 6 := by
  refine y_M.of (cc := cX7_die) (maxL := 3) (ret := (some .boolean)) (ent := [some (.ref (ad 0)), some (.int i), none]) (by decide +kernel) rfl (Nat.le_of_ble_eq_true rfl) rfl rfl ?_
  intro F hE hname hT hX
  have hinX4 : ∀ w ∈ wsX40, w ∈ wsX7_die := by decide +kernel
  have hinX7 : ∀ w ∈ wsX70, w ∈ wsX7_die := by decide +kernel
  have hW0 := hW
  obtain ⟨hB, hR, hC, hp, hl, hr, hw, hI, hO⟩ := hW0
  refine x_aload_n hE dX7_die_0 rfl rfl ?_
  refine x_get hE hinX7 hB rfl 0 (by decide) (List.mem_of_getElem? (i := 3) rfl) rfl dX7_die_1 ?_
  refine x_iload_n hE dX7_die_4 rfl ?_
  refine x_callV (ci := 5) (st := []) hE 1 (c_X5_lampAt G hR.1 hR.2.1 i) gX7_die_X5_lampAt rfl rfl rfl (by decide +kernel) ⟨Nat.le_of_ble_eq_true rfl, Nat.le_of_ble_eq_true rfl⟩ hR.1 rfl rfl rfl dX7_die_5 rfl (Nat.le_of_ble_eq_true rfl) ⟨Nat.le_of_ble_eq_true rfl, Nat.le_of_ble_eq_true rfl⟩ (fun v h9 hp => ?_)
  obtain ⟨rfl, rfl⟩ := hp
  rcases sel_n (x := i) (f := fun i => ad (20 + i)) hR.2.2.1 (by decide : 16 < 2 ^ 31) with ⟨hq, k, hk1, hk, hz⟩ | ⟨hq, hz⟩
  · subst hk
    refine x_qref (q := (ad (20 + k))) (hz) ?_
    refine x_astore_n (L' := [some (.ref (ad 0)), some (.int (nI k)), some (.ref (ad (20 + k)))]) hE dX7_die_8 rfl (Nat.le_of_ble_eq_true rfl) rfl rfl ?_
    refine x_aload_n hE dX7_die_9 rfl rfl ?_
    refine x_ifnonnull (tgt := 23) hE dX7_die_10 (by decide) ?_
    have hL16 := hR.2.2.1
    have ek : (nI k).toNatClampNeg = k := nI_clamp (by omega)
    rw [ek]
    refine x_aload_n hE dX7_die_23 rfl rfl ?_
    refine x_aload_n hE dX7_die_24 rfl rfl ?_
    refine x_get hE hinX4 (hR.2.2.2 k hk1) rfl 5 (by decide) (List.mem_of_getElem? (i := 4) rfl) rfl dX7_die_25 ?_
    refine x_if_ne (tgt := 35) hE dX7_die_28 (by decide) (fun c28 => ?_) (fun c28 => ?_)
    · refine x_iconst (v := nI 0) hE dX7_die_35 (by decide) ?_
      refine x_put (fs' := [.int (s_ar S 2 k), .int (s_ar S 3 k), .int (s_ar S 4 k), .int (s_ar S 5 k), .int (s_ar S 6 k), .int (nI 0)]) hE hinX4 tyX4 tyX4_ok nmX4 (hR.2.2.2 k hk1) rfl 5 (by decide) (List.mem_of_getElem? (i := 4) rfl) rfl rfl rfl (Nat.le_of_ble_eq_true rfl) rfl dX7_die_36 ?_
      generalize hhh1 : x_up h (ad (20 + k)) (.inr (4, [.int (s_ar S 2 k), .int (s_ar S 3 k), .int (s_ar S 4 k), .int (s_ar S 5 k), .int (s_ar S 6 k), .int (nI 0)])) = h1
      have hc2 : h1 (ad (20 + k)) = some (.inr (4, [.int (s_ar S 2 k), .int (s_ar S 3 k), .int (s_ar S 4 k), .int (s_ar S 5 k), .int (s_ar S 6 k), .int (nI 0)])) := by rw [← hhh1]; exact x_up_eq _ _ _
      have ear : set2 (s_ar S) 7 k (if s_ar S 7 k = 0 then 1 else 0) = set2 (s_ar S) 7 k (nI 0) := by rw [if_neg c28]; rfl
      have f1 : frO ow [20 + k] h h1 := by rw [← hhh1]; exact (x_fr.refl h).up (by show ow (ad (20 + k)) ∈ _; rw [hO.2.1 k hk1]; simp)
      have n20 : ∀ z, z < 20 → z ∉ [20 + k] := fun z hz1 hz2 => by simp at hz2; omega
      have n100 : ∀ z, 100 ≤ z → z ∉ [20 + k] := fun z hz1 hz2 => by simp at hz2; omega
      have hB1 := hB.fr hO f1 (n20 0 (by decide))
      have hCa := hC.fr hO f1 (n20 3 (by decide)) (fun j hj => n100 _ (by omega))
      have hp1 := hp.fr hO f1 (n20 4 (by decide))
      have hl1 := hl.fr hO f1 (n20 5 (by decide)) (n20 6 (by decide)) (n20 14 (by decide))
      have hr1 := hr.fr f1 (hO.1 7 (by decide)) (hO.1 8 (by decide)) hO.2.2.2.2.2 (n20 7 (by decide)) (n20 8 (by decide)) (n20 15 (by decide))
      have hw1 := hw.fr hO f1 (n20 9 (by decide)) (n20 10 (by decide)) (n20 11 (by decide)) (n20 12 (by decide))
      have hI1 := hI.fr hO f1 (n20 13 (by decide)) (n20 16 (by decide))
      have hR1 : riW G ad (set2 (s_ar S) 7 k (nI 0)) (s_L S) (s_B S) h1 := ⟨f1 _ _ hR.1 (by show ow (ad 1) ∉ _; rw [hO.1 1 (by decide)]; exact n20 1 (by decide)), f1 _ _ hR.2.1 (by show ow (ad 2) ∉ _; rw [hO.1 2 (by decide)]; exact n20 2 (by decide)), hL16, fun j hj => ?_⟩
      rotate_left
      · by_cases e : j = k
        · subst e; unfold lampE; rw [set2_ne (by decide), set2_ne (by decide), set2_ne (by decide), set2_ne (by decide), set2_ne (by decide), set2_at, upd_at]; exact hc2
        · have := f1 _ _ (hR.2.2.2 j hj) (by show ow (ad (20 + j)) ∉ _; rw [hO.2.1 j hj]; simp; omega)
          unfold lampE at this ⊢; rw [set2_ne (by decide), set2_ne (by decide), set2_ne (by decide), set2_ne (by decide), set2_ne (by decide), set2_at, upd_ne e]; exact this
      refine x_aload_n hE dX7_die_39 rfl rfl ?_
      refine x_callV (ci := 7) (st := []) hE 0 (c_X7_arrangeCues G (ar := (set2 (s_ar S) 7 k (nI 0))) hB1 hCa.1 hO hR1 hC.2.1 (fun j hj => ⟨_, _, cuE0.same (set2_cue (by decide) j) (hCa.2.2 j hj)⟩)) gX7_die_X7_arrangeCues rfl rfl rfl (by decide +kernel) ⟨Nat.le_of_ble_eq_true rfl, Nat.le_of_ble_eq_true rfl⟩ hB1 rfl rfl rfl dX7_die_40 rfl (Nat.le_of_ble_eq_true rfl) ⟨Nat.le_of_ble_eq_true rfl, Nat.le_of_ble_eq_true rfl⟩ (fun v h2 hp => ?_)
      obtain ⟨rfl, hC2, fa⟩ := hp
      have hp1b : poW G ad (set2 (s_ar S) 7 k (nI 0)) h1 := poW.same (set2_ne (by decide)) hp1
      have hp1 := hp1b
      have hB2 := hB1.fr hO fa (lA_lo (by decide))
      have hR2 := hR1.fr hO fa (lA_lo (by decide)) (lA_lo (by decide)) (fun i hi => lA_lo (by have := hR1.2.2.1; omega))
      have hp2 := hp1.fr hO fa (lA_lo (by decide))
      have hl2 := hl1.fr hO fa (lA_lo (by decide)) (lA_lo (by decide)) (lA_lo (by decide))
      have hr2 := hr1.fr fa (hO.1 7 (by decide)) (hO.1 8 (by decide)) hO.2.2.2.2.2 (lA_lo (by decide)) (lA_lo (by decide)) (lA_lo (by decide))
      have hw2 := hw1.fr hO fa (lA_lo (by decide)) (lA_lo (by decide)) (lA_lo (by decide)) (lA_lo (by decide))
      have hI2 := hI1.fr hO fa (lA_lo (by decide)) (lA_lo (by decide))
      refine x_aload_n hE dX7_die_43 rfl rfl ?_
      refine x_get hE hinX4 (hR2.2.2.2 k hk1) rfl 5 (by decide) (List.mem_of_getElem? (i := 4) rfl) rfl dX7_die_44 ?_
      refine x_widen (k := 1) (n := 6) (Nat.le_of_ble_eq_true rfl) (Nat.le_of_ble_eq_true rfl) ?_
      exact y_ret (x_zret hE (by rw [set2_at, upd_at]; exact Or.inl rfl) dX7_die_47 (⟨by unfold fLamp; rw [if_pos hq], by show _ = some (Value.int (set2 (s_ar S) 7 k (if s_ar S 7 k = 0 then 1 else 0) 7 k)); rw [ear], by unfold cW dieP; rw [ear]; exact ⟨hB2, hR2, hC2, hp2, hl2, hr2, hw2, hI2, hO⟩⟩))
    · refine x_iconst (v := nI 1) hE dX7_die_31 (by decide) ?_
      refine x_goto (tgt := 36) hE dX7_die_32 (by decide) ?_
      refine x_put (fs' := [.int (s_ar S 2 k), .int (s_ar S 3 k), .int (s_ar S 4 k), .int (s_ar S 5 k), .int (s_ar S 6 k), .int (nI 1)]) hE hinX4 tyX4 tyX4_ok nmX4 (hR.2.2.2 k hk1) rfl 5 (by decide) (List.mem_of_getElem? (i := 4) rfl) rfl rfl rfl (Nat.le_of_ble_eq_true rfl) rfl dX7_die_36 ?_
      generalize hhh3 : x_up h (ad (20 + k)) (.inr (4, [.int (s_ar S 2 k), .int (s_ar S 3 k), .int (s_ar S 4 k), .int (s_ar S 5 k), .int (s_ar S 6 k), .int (nI 1)])) = h3
      have hc4 : h3 (ad (20 + k)) = some (.inr (4, [.int (s_ar S 2 k), .int (s_ar S 3 k), .int (s_ar S 4 k), .int (s_ar S 5 k), .int (s_ar S 6 k), .int (nI 1)])) := by rw [← hhh3]; exact x_up_eq _ _ _
      have ear : set2 (s_ar S) 7 k (if s_ar S 7 k = 0 then 1 else 0) = set2 (s_ar S) 7 k (nI 1) := by rw [if_pos c28]; rfl
      have f1 : frO ow [20 + k] h h3 := by rw [← hhh3]; exact (x_fr.refl h).up (by show ow (ad (20 + k)) ∈ _; rw [hO.2.1 k hk1]; simp)
      have n20 : ∀ z, z < 20 → z ∉ [20 + k] := fun z hz1 hz2 => by simp at hz2; omega
      have n100 : ∀ z, 100 ≤ z → z ∉ [20 + k] := fun z hz1 hz2 => by simp at hz2; omega
      have hB1 := hB.fr hO f1 (n20 0 (by decide))
      have hCa := hC.fr hO f1 (n20 3 (by decide)) (fun j hj => n100 _ (by omega))
      have hp1 := hp.fr hO f1 (n20 4 (by decide))
      have hl1 := hl.fr hO f1 (n20 5 (by decide)) (n20 6 (by decide)) (n20 14 (by decide))
      have hr1 := hr.fr f1 (hO.1 7 (by decide)) (hO.1 8 (by decide)) hO.2.2.2.2.2 (n20 7 (by decide)) (n20 8 (by decide)) (n20 15 (by decide))
      have hw1 := hw.fr hO f1 (n20 9 (by decide)) (n20 10 (by decide)) (n20 11 (by decide)) (n20 12 (by decide))
      have hI1 := hI.fr hO f1 (n20 13 (by decide)) (n20 16 (by decide))
      have hR1 : riW G ad (set2 (s_ar S) 7 k (nI 1)) (s_L S) (s_B S) h3 := ⟨f1 _ _ hR.1 (by show ow (ad 1) ∉ _; rw [hO.1 1 (by decide)]; exact n20 1 (by decide)), f1 _ _ hR.2.1 (by show ow (ad 2) ∉ _; rw [hO.1 2 (by decide)]; exact n20 2 (by decide)), hL16, fun j hj => ?_⟩
      rotate_left
      · by_cases e : j = k
        · subst e; unfold lampE; rw [set2_ne (by decide), set2_ne (by decide), set2_ne (by decide), set2_ne (by decide), set2_ne (by decide), set2_at, upd_at]; exact hc4
        · have := f1 _ _ (hR.2.2.2 j hj) (by show ow (ad (20 + j)) ∉ _; rw [hO.2.1 j hj]; simp; omega)
          unfold lampE at this ⊢; rw [set2_ne (by decide), set2_ne (by decide), set2_ne (by decide), set2_ne (by decide), set2_ne (by decide), set2_at, upd_ne e]; exact this
      refine x_aload_n hE dX7_die_39 rfl rfl ?_
      refine x_callV (ci := 7) (st := []) hE 0 (c_X7_arrangeCues G (ar := (set2 (s_ar S) 7 k (nI 1))) hB1 hCa.1 hO hR1 hC.2.1 (fun j hj => ⟨_, _, cuE0.same (set2_cue (by decide) j) (hCa.2.2 j hj)⟩)) gX7_die_X7_arrangeCues rfl rfl rfl (by decide +kernel) ⟨Nat.le_of_ble_eq_true rfl, Nat.le_of_ble_eq_true rfl⟩ hB1 rfl rfl rfl dX7_die_40 rfl (Nat.le_of_ble_eq_true rfl) ⟨Nat.le_of_ble_eq_true rfl, Nat.le_of_ble_eq_true rfl⟩ (fun v h2 hp => ?_)
      obtain ⟨rfl, hC2, fa⟩ := hp
      have hp1b : poW G ad (set2 (s_ar S) 7 k (nI 1)) h3 := poW.same (set2_ne (by decide)) hp1
      have hp1 := hp1b
      have hB2 := hB1.fr hO fa (lA_lo (by decide))
      have hR2 := hR1.fr hO fa (lA_lo (by decide)) (lA_lo (by decide)) (fun i hi => lA_lo (by have := hR1.2.2.1; omega))
      have hp2 := hp1.fr hO fa (lA_lo (by decide))
      have hl2 := hl1.fr hO fa (lA_lo (by decide)) (lA_lo (by decide)) (lA_lo (by decide))
      have hr2 := hr1.fr fa (hO.1 7 (by decide)) (hO.1 8 (by decide)) hO.2.2.2.2.2 (lA_lo (by decide)) (lA_lo (by decide)) (lA_lo (by decide))
      have hw2 := hw1.fr hO fa (lA_lo (by decide)) (lA_lo (by decide)) (lA_lo (by decide)) (lA_lo (by decide))
      have hI2 := hI1.fr hO fa (lA_lo (by decide)) (lA_lo (by decide))
      refine x_aload_n hE dX7_die_43 rfl rfl ?_
      refine x_get hE hinX4 (hR2.2.2.2 k hk1) rfl 5 (by decide) (List.mem_of_getElem? (i := 4) rfl) rfl dX7_die_44 ?_
      refine x_widen (k := 1) (n := 6) (Nat.le_of_ble_eq_true rfl) (Nat.le_of_ble_eq_true rfl) ?_
      exact y_ret (x_zret hE (by rw [set2_at, upd_at]; exact Or.inr rfl) dX7_die_47 (⟨by unfold fLamp; rw [if_pos hq], by show _ = some (Value.int (set2 (s_ar S) 7 k (if s_ar S 7 k = 0 then 1 else 0) 7 k)); rw [ear], by unfold cW dieP; rw [ear]; exact ⟨hB2, hR2, hC2, hp2, hl2, hr2, hw2, hI2, hO⟩⟩))
  · refine x_qnull (hz) ?_
    refine x_astore_n (L' := [some (.ref (ad 0)), some (.int i), some (.null)]) hE dX7_die_8 rfl (Nat.le_of_ble_eq_true rfl) rfl rfl ?_
    refine x_aload_n hE dX7_die_9 rfl rfl ?_
    refine x_ifnonnullN hE dX7_die_10 ?_
    exact y_IO hE hT hX (List.mem_of_getElem? (i := 0) rfl) (List.mem_of_getElem? (i := 1) rfl) (List.mem_of_getElem? (i := 2) rfl) (fun w hw => List.mem_cons_of_mem _ (List.mem_append_right _ hw)) rfl dX7_die_13 dX7_die_16 dX7_die_17 dX7_die_19 dX7_die_22 (Nat.le_of_ble_eq_true rfl) (Nat.le_of_ble_eq_true rfl) ⟨by decide, by decide⟩ ⟨by decide, by decide⟩ (⟨by unfold fLamp; rw [if_neg (by rw [hq]; decide)], rfl⟩)
