def fHouse (x : Int32) : Nat := if inI x 0 15 = true then 0 else 1
def houseP (x : Int32) (S : PS) : PS := (s_ar S, s_L S, x, s_C S, s_t S, s_b S, s_G S, s_N S, s_H S, s_n S)
set_option maxHeartbeats 4000000 in
set_option maxRecDepth 100000 in
theorem c_X7_house (G : XG) {ad ow : Nat → Nat} {eA : Nat} {A1 P1 : List Nat} {c1 : Nat → GC} {A2 P2 : List Nat} {c2 : Nat → GC} {RY : List Nat} {S : PS} {h : HM} (hW : cW G ad ow eA A1 P1 c1 A2 P2 c2 RY S h) (x : Int32) : y_M G yX7_house wsX7_house ({ frames := 6, cells := 1, slots := 6, locals := 115 } : Room) [.ref (ad 0), .int x] h (fun v h' => fHouse x = 0 ∧ v = some (.int (nI (cnt_ (usL (s_L S) (s_ar S) x) 16))) ∧ cW G ad ow eA A1 P1 c1 A2 P2 c2 RY (houseP x S) h') (fun E => fHouse x = 1 ∧ E = xIA) 1 6 := by
  refine y_M.of (cc := cX7_house) (maxL := 2) (ret := (some .int)) (ent := [some (.ref (ad 0)), some (.int x)]) (by decide +kernel) rfl (Nat.le_of_ble_eq_true rfl) rfl rfl ?_
  intro F hE hname hT hX
  have hinX5 : ∀ w ∈ wsX50, w ∈ wsX7_house := by decide +kernel
  have hinX7 : ∀ w ∈ wsX70, w ∈ wsX7_house := by decide +kernel
  have hW0 := hW
  obtain ⟨hB, hR, hC, hp, hl, hr, hw, hI, hO⟩ := hW0
  refine x_iload_n hE dX7_house_0 rfl ?_
  refine x_iconst (v := nI 0) hE dX7_house_1 (by decide) ?_
  refine x_bipush (v := nI 15) hE dX7_house_2 (by decide) ?_
  refine x_callS (st := []) hE 3 (c_X7_isWithin G x (nI 0) (nI 15)) gX7_house_X7_isWithin rfl rfl rfl (by decide +kernel) ⟨Nat.le_of_ble_eq_true rfl, Nat.le_of_ble_eq_true rfl⟩ rfl rfl dX7_house_4 rfl (Nat.le_of_ble_eq_true rfl) ⟨Nat.le_of_ble_eq_true rfl, Nat.le_of_ble_eq_true rfl⟩ (fun v h9 hp => ?_)
  obtain ⟨rfl, rfl⟩ := hp
  refine x_if_ne (tgt := 20) hE dX7_house_7 (by decide) (fun cc => ?_) (fun cc => ?_)
  · have q1 : inI x 0 15 = true := b2i_n0.mp cc
    refine x_aload_n hE dX7_house_20 rfl rfl ?_
    refine x_get hE hinX7 hB rfl 0 (by decide) (List.mem_of_getElem? (i := 3) rfl) rfl dX7_house_21 ?_
    refine x_iload_n hE dX7_house_24 rfl ?_
    refine x_put (fs' := [.ref (ad 2), .int (nI (s_L S)), .int x]) hE hinX5 tyX5 tyX5_ok nmX5 hR.1 rfl 2 (by decide) (List.mem_of_getElem? (i := 4) rfl) rfl rfl rfl (Nat.le_of_ble_eq_true rfl) rfl dX7_house_25 ?_
    generalize hhh1 : x_up h (ad 1) (.inr (5, [.ref (ad 2), .int (nI (s_L S)), .int x])) = h1
    have hc2 : h1 (ad 1) = some (.inr (5, [.ref (ad 2), .int (nI (s_L S)), .int x])) := by rw [← hhh1]; exact x_up_eq _ _ _
    have f1 : frO ow [1] h h1 := by rw [← hhh1]; exact (x_fr.refl h).up (by show ow (ad 1) ∈ _; rw [hO.1 1 (by decide)]; decide)
    have hB1 := hB.fr hO f1 (by decide)
    have hp1 := hp.fr hO f1 (by decide)
    have hl1 := hl.fr hO f1 (by decide) (by decide) (by decide)
    have hr1 := hr.fr f1 (hO.1 7 (by decide)) (hO.1 8 (by decide)) hO.2.2.2.2.2 (by decide) (by decide) (by decide)
    have hw1 := hw.fr hO f1 (by decide) (by decide) (by decide) (by decide)
    have hI1 := hI.fr hO f1 (by decide) (by decide)
    have hCa := hC.fr hO f1 (by decide) (fun j hj => by intro z; simp at z <;> omega)
    have hR1 : riW G ad (s_ar S) (s_L S) x h1 := ⟨hc2, f1 _ _ hR.2.1 (by show ow (ad 2) ∉ _; rw [hO.1 2 (by decide)]; decide), hR.2.2.1, fun j hj => f1 _ _ (hR.2.2.2 j hj) (by show ow (ad (20 + j)) ∉ _; rw [hO.2.1 j hj]; intro z; simp at z <;> omega)⟩
    refine x_aload_n hE dX7_house_28 rfl rfl ?_
    refine x_callV (ci := 7) (st := []) hE 0 (c_X7_arrangeCues G (ar := s_ar S) hB1 hCa.1 hO hR1 hC.2.1 (fun j hj => ⟨_, _, hCa.2.2 j hj⟩)) gX7_house_X7_arrangeCues rfl rfl rfl (by decide +kernel) ⟨Nat.le_of_ble_eq_true rfl, Nat.le_of_ble_eq_true rfl⟩ hB1 rfl rfl rfl dX7_house_29 rfl (Nat.le_of_ble_eq_true rfl) ⟨Nat.le_of_ble_eq_true rfl, Nat.le_of_ble_eq_true rfl⟩ (fun v h2 hp => ?_)
    obtain ⟨rfl, hC2, fa⟩ := hp
    have hB2 := hB1.fr hO fa (lA_lo (by decide))
    have hR2 := hR1.fr hO fa (lA_lo (by decide)) (lA_lo (by decide)) (fun i hi => lA_lo (by have := hR1.2.2.1; omega))
    have hp2 := hp1.fr hO fa (lA_lo (by decide))
    have hl2 := hl1.fr hO fa (lA_lo (by decide)) (lA_lo (by decide)) (lA_lo (by decide))
    have hr2 := hr1.fr fa (hO.1 7 (by decide)) (hO.1 8 (by decide)) hO.2.2.2.2.2 (lA_lo (by decide)) (lA_lo (by decide)) (lA_lo (by decide))
    have hw2 := hw1.fr hO fa (lA_lo (by decide)) (lA_lo (by decide)) (lA_lo (by decide)) (lA_lo (by decide))
    have hI2 := hI1.fr hO fa (lA_lo (by decide)) (lA_lo (by decide))
    refine x_aload_n hE dX7_house_32 rfl rfl ?_
    refine x_get hE hinX7 hB2 rfl 0 (by decide) (List.mem_of_getElem? (i := 3) rfl) rfl dX7_house_33 ?_
    refine x_callV (ci := 5) (st := []) hE 0 (c_X5_countUsable G hR2) gX7_house_X5_countUsable rfl rfl rfl (by decide +kernel) ⟨Nat.le_of_ble_eq_true rfl, Nat.le_of_ble_eq_true rfl⟩ hR2.1 rfl rfl rfl dX7_house_36 rfl (Nat.le_of_ble_eq_true rfl) ⟨Nat.le_of_ble_eq_true rfl, Nat.le_of_ble_eq_true rfl⟩ (fun v h9 hp => ?_)
    obtain ⟨rfl, rfl⟩ := hp
    refine x_widen (k := 1) (n := 6) (Nat.le_of_ble_eq_true rfl) (Nat.le_of_ble_eq_true rfl) ?_
    exact y_ret (x_iret hE dX7_house_39 (⟨by unfold fHouse; rw [if_pos q1], rfl, ⟨hB2, hR2, hC2, hp2, hl2, hr2, hw2, hI2, hO⟩⟩))
  · exact y_IA hE hT hX (List.mem_of_getElem? (i := 1) rfl) (List.mem_of_getElem? (i := 1) rfl) (List.mem_of_getElem? (i := 2) rfl) (fun w hw => List.mem_cons_of_mem _ (List.mem_append_right _ hw)) rfl dX7_house_10 dX7_house_13 dX7_house_14 dX7_house_16 dX7_house_19 (Nat.le_of_ble_eq_true rfl) (Nat.le_of_ble_eq_true rfl) ⟨by decide, by decide⟩ ⟨by decide, by decide⟩ (⟨by unfold fHouse; rw [if_neg (by rw [show inI x 0 15 = false from b2i_0.mp cc]; decide)], rfl⟩)

def fLevel (S : PS) (c i x : Int32) : Nat := if isN c (s_C S) = true ∧ isN i (s_L S) = true then (if inI x 0 100 = true then 0 else 2) else 1
def levelP (c i : Nat) (x : Int32) (S : PS) : PS := (set2 (s_ar S) 14 (16 * c + i) x, s_L S, s_B S, s_C S, s_t S, s_b S, s_G S, s_N S, s_H S, s_n S)
theorem sameV {ar : Nat → Nat → Int32} {r k : Nat} {x : Int32} (h : 8 ≤ r) : sameL ar (set2 ar r k x) := ⟨set2_ne (by omega), set2_ne (by omega), set2_ne (by omega), set2_ne (by omega)⟩
theorem told_at {ar : Nat → Nat → Int32} {c i : Nat} {x : Int32} (hi : i < 16) : toldF (set2 ar 14 (16 * c + i) x) c = upd (toldF ar c) i x := by
  funext j
  unfold toldF
  rw [set2_at]
  by_cases e : j = i
  · subst e
    rw [if_pos hi, upd_at, upd_at]
  · rw [upd_ne e, upd_ne (show 16 * c + j ≠ 16 * c + i by omega)]
theorem told_ne {ar : Nat → Nat → Int32} {c d i : Nat} {x : Int32} (hi : i < 16) (hd : d ≠ c) : toldF (set2 ar 14 (16 * c + i) x) d = toldF ar d := by
  funext j
  unfold toldF
  rw [set2_at]
  by_cases hj : j < 16
  · rw [if_pos hj, if_pos hj, upd_ne (show 16 * d + j ≠ 16 * c + i by omega)]
  · rw [if_neg hj, if_neg hj]
set_option maxHeartbeats 4000000 in
set_option maxRecDepth 100000 in
theorem c_X7_level (G : XG) {ad ow : Nat → Nat} {eA : Nat} {A1 P1 : List Nat} {c1 : Nat → GC} {A2 P2 : List Nat} {c2 : Nat → GC} {RY : List Nat} {S : PS} {h : HM} (hW : cW G ad ow eA A1 P1 c1 A2 P2 c2 RY S h) (c i x : Int32) : y_M G yX7_level wsX7_level ({ frames := 6, cells := 1, slots := 6, locals := 93 } : Room) [.ref (ad 0), .int c, .int i, .int x] h (fun v h' => fLevel S c i x = 0 ∧ v = some (.int (s_ar S 14 (16 * c.toNatClampNeg + i.toNatClampNeg))) ∧ cW G ad ow eA A1 P1 c1 A2 P2 c2 RY (levelP c.toNatClampNeg i.toNatClampNeg x S) h') (fun E => (fLevel S c i x = 1 ∧ E = xIO) ∨ (fLevel S c i x = 2 ∧ E = xIA)) 1 6 := by
  refine y_M.of (cc := cX7_level) (maxL := 6) (ret := (some .int)) (ent := [some (.ref (ad 0)), some (.int c), some (.int i), some (.int x), none, none]) (by decide +kernel) rfl (Nat.le_of_ble_eq_true rfl) rfl rfl ?_
  intro F hE hname hT hX
  have hinX7 : ∀ w ∈ wsX70, w ∈ wsX7_level := by decide +kernel
  have hW0 := hW
  obtain ⟨hB, hR, hC, hp, hl, hr, hw, hI, hO⟩ := hW0
  refine x_aload_n hE dX7_level_0 rfl rfl ?_
  refine x_iload_n hE dX7_level_1 rfl ?_
  refine x_callV (ci := 7) (st := []) hE 1 (c_X7_cueAt G hB hC.1 c) gX7_level_X7_cueAt rfl rfl rfl (by decide +kernel) ⟨Nat.le_of_ble_eq_true rfl, Nat.le_of_ble_eq_true rfl⟩ hB rfl rfl rfl dX7_level_2 rfl (Nat.le_of_ble_eq_true rfl) ⟨Nat.le_of_ble_eq_true rfl, Nat.le_of_ble_eq_true rfl⟩ (fun v h9 hp => ?_)
  obtain ⟨rfl, rfl⟩ := hp
  rcases sel_n (x := c) (f := fun i => ad (100 + 4 * i)) hC.2.1 (by decide : 12 < 2 ^ 31) with ⟨hq, k, hk1, hk, hz⟩ | ⟨hq, hz⟩
  · subst hk
    refine x_qref (q := (ad (100 + 4 * k))) (hz) ?_
    refine x_astore (L' := [some (.ref (ad 0)), some (.int (nI k)), some (.int i), some (.int x), some (.ref (ad (100 + 4 * k))), none]) hE dX7_level_5 (Nat.le_of_ble_eq_true rfl) rfl rfl ?_
    refine x_aload hE dX7_level_7 rfl rfl ?_
    refine x_ifnull hE dX7_level_9 ?_
    have hC12 := hC.2.1
    refine x_aload_n hE dX7_level_12 rfl rfl ?_
    refine x_get hE hinX7 hB rfl 0 (by decide) (List.mem_of_getElem? (i := 5) rfl) rfl dX7_level_13 ?_
    refine x_iload_n hE dX7_level_16 rfl ?_
    refine x_callV (ci := 5) (st := []) hE 1 (c_X5_lampAt G hR.1 hR.2.1 i) gX7_level_X5_lampAt rfl rfl rfl (by decide +kernel) ⟨Nat.le_of_ble_eq_true rfl, Nat.le_of_ble_eq_true rfl⟩ hR.1 rfl rfl rfl dX7_level_17 rfl (Nat.le_of_ble_eq_true rfl) ⟨Nat.le_of_ble_eq_true rfl, Nat.le_of_ble_eq_true rfl⟩ (fun v h9 hp => ?_)
    obtain ⟨rfl, rfl⟩ := hp
    rcases sel_n (x := i) (f := fun i => ad (20 + i)) hR.2.2.1 (by decide : 16 < 2 ^ 31) with ⟨hq2, j, hj1, hj, hz2⟩ | ⟨hq2, hz2⟩
    · subst hj
      refine x_qref (q := (ad (20 + j))) (hz2) ?_
      refine x_ifnonnull (tgt := 33) hE dX7_level_20 (by decide) ?_
      have hL16 := hR.2.2.1
      refine x_iload_n hE dX7_level_33 rfl ?_
      refine x_iconst (v := nI 0) hE dX7_level_34 (by decide) ?_
      refine x_bipush (v := nI 100) hE dX7_level_35 (by decide) ?_
      refine x_callS (st := []) hE 3 (c_X7_isWithin G x (nI 0) (nI 100)) gX7_level_X7_isWithin rfl rfl rfl (by decide +kernel) ⟨Nat.le_of_ble_eq_true rfl, Nat.le_of_ble_eq_true rfl⟩ rfl rfl dX7_level_37 rfl (Nat.le_of_ble_eq_true rfl) ⟨Nat.le_of_ble_eq_true rfl, Nat.le_of_ble_eq_true rfl⟩ (fun v h9 hp => ?_)
      obtain ⟨rfl, rfl⟩ := hp
      refine x_if_ne (tgt := 53) hE dX7_level_40 (by decide) (fun cc => ?_) (fun cc => ?_)
      · have q1 : inI x 0 100 = true := b2i_n0.mp cc
        have ek : (nI k).toNatClampNeg = k := nI_clamp (by omega)
        have ej : (nI j).toNatClampNeg = j := nI_clamp (by omega)
        rw [ek, ej]
        obtain ⟨e1, e2, e3, e4⟩ := hC.2.2 k hk1
        refine x_aload hE dX7_level_53 rfl rfl ?_
        refine x_iload_n hE dX7_level_55 rfl ?_
        refine x_iload_n hE dX7_level_56 rfl ?_
        refine x_callV (ci := 0) (st := []) hE 2 (c_X0_tell G e1 e2 (by omega : j < 16) (x := x)) gX7_level_X0_tell rfl rfl rfl (by decide +kernel) ⟨Nat.le_of_ble_eq_true rfl, Nat.le_of_ble_eq_true rfl⟩ (hC.2.2 k hk1).1 rfl rfl rfl dX7_level_57 rfl (Nat.le_of_ble_eq_true rfl) ⟨Nat.le_of_ble_eq_true rfl, Nat.le_of_ble_eq_true rfl⟩ (fun v h9 hp => ?_)
        obtain ⟨hv, rfl⟩ := hp
        rw [show toldF (s_ar S) k j = s_ar S 14 (16 * k + j) from if_pos (by omega)] at hv
        subst hv
        generalize hh1 : x_up h (ad (100 + (4 * k + 1))) (.inl (g_c G 0, 16, .inl (upd (toldF (s_ar S) k) j x))) = h1
        have f1 : frO ow [100 + (4 * k + 1)] h h1 := by rw [← hh1]; exact (x_fr.refl h).up (by show ow _ ∈ _; rw [hO.2.2.1 _ (by omega)]; simp)
        have nl : ∀ z, z < 100 → z ∉ [100 + (4 * k + 1)] := fun z hz1 hz2 => by simp at hz2; omega
        have hB1 := hB.fr hO f1 (nl 0 (by decide))
        have hRa := hR.fr hO f1 (nl 1 (by decide)) (nl 2 (by decide)) (fun j hj => nl _ (by omega))
        have hpa := hp.fr hO f1 (nl 4 (by decide))
        have hl1 := hl.fr hO f1 (nl 5 (by decide)) (nl 6 (by decide)) (nl 14 (by decide))
        have hr1 := hr.fr f1 (hO.1 7 (by decide)) (hO.1 8 (by decide)) hO.2.2.2.2.2 (nl 7 (by decide)) (nl 8 (by decide)) (nl 15 (by decide))
        have hw1 := hw.fr hO f1 (nl 9 (by decide)) (nl 10 (by decide)) (nl 11 (by decide)) (nl 12 (by decide))
        have hI1 := hI.fr hO f1 (nl 13 (by decide)) (nl 16 (by decide))
        have hR1 : riW G ad (set2 (s_ar S) 14 (16 * k + j) x) (s_L S) (s_B S) h1 := riW.same (sameV (by decide)) (set2_ne (by decide)) (set2_ne (by decide)) hRa
        have hp1 : poW G ad (set2 (s_ar S) 14 (16 * k + j) x) h1 := poW.same (set2_ne (by decide)) hpa
        have n0 : 100 + 4 * k ∉ [100 + (4 * k + 1)] := fun z => by simp at z <;> omega
        have n2 : 100 + (4 * k + 2) ∉ [100 + (4 * k + 1)] := fun z => by simp at z <;> omega
        have n3 : 100 + (4 * k + 3) ∉ [100 + (4 * k + 1)] := fun z => by simp at z <;> omega
        have g1 := f1 _ _ e1 (by show ow _ ∉ _; rw [hO.2.2.1 _ (by omega)]; exact n0)
        have g2 : h1 (ad (100 + (4 * k + 1))) = some (.inl (g_c G 0, 16, .inl (toldF (set2 (s_ar S) 14 (16 * k + j) x) k))) := by rw [← hh1, told_at (by omega)]; exact x_up_eq _ _ _
        have g3 := f1 _ _ e3 (by show ow _ ∉ _; rw [hO.2.2.1 _ (by omega)]; exact n2)
        have g4 := f1 _ _ e4 (by show ow _ ∉ _; rw [hO.2.2.1 _ (by omega)]; exact n3)
        have na : ∀ a b, a < 4 → b < 4 → a ≠ b → ad (100 + (4 * k + a)) ≠ ad (100 + (4 * k + b)) := fun a b h1 h2 h3 z => by have z1 := congrArg ow z; rw [hO.2.2.1 _ (by omega), hO.2.2.1 _ (by omega)] at z1; omega
        refine x_istore (L' := [some (.ref (ad 0)), some (.int (nI k)), some (.int (nI j)), some (.int x), some (.ref (ad (100 + 4 * k))), some (.int (s_ar S 14 (16 * k + j)))]) hE dX7_level_60 (Nat.le_of_ble_eq_true rfl) rfl ?_
        refine x_aload hE dX7_level_62 rfl rfl ?_
        refine x_aload_n hE dX7_level_64 rfl rfl ?_
        refine x_get hE hinX7 hB1 rfl 0 (by decide) (List.mem_of_getElem? (i := 5) rfl) rfl dX7_level_65 ?_
        refine x_callV (ci := 0) (st := []) hE 1 (c_X0_arrange G hR1 g1 g2 g3 g4 (na 1 2 (by decide) (by decide) (by decide)) (na 1 3 (by decide) (by decide) (by decide)) (na 2 3 (by decide) (by decide) (by decide))) gX7_level_X0_arrange rfl rfl rfl (by decide +kernel) ⟨Nat.le_of_ble_eq_true rfl, Nat.le_of_ble_eq_true rfl⟩ g1 rfl rfl rfl dX7_level_68 rfl (Nat.le_of_ble_eq_true rfl) ⟨Nat.le_of_ble_eq_true rfl, Nat.le_of_ble_eq_true rfl⟩ (fun v h9 hp => ?_)
        obtain ⟨rfl, rfl⟩ := hp
        generalize hh2 : arrH G h1 (ad (100 + (4 * k + 2))) (ad (100 + (4 * k + 3))) (arrF (s_L S) (set2 (s_ar S) 14 (16 * k + j) x) (s_B S) (toldF (set2 (s_ar S) 14 (16 * k + j) x) k) 16) = h2
        have f2 : frO ow [100 + (4 * k + 2), 100 + (4 * k + 3)] h1 h2 := by rw [← hh2]; exact frO.of (arrH_fr G h1 _ _ _) (fun q hq => by rcases hq with rfl | rfl <;> (rw [hO.2.2.1 _ (by omega)]; simp))
        have fa : frO ow lA h1 h2 := f2.sub (fun z hz => (List.mem_cons.mp hz).elim (fun e => by rw [e]; exact (lA_in (by omega)).1) (fun e => by rw [List.mem_singleton.mp e]; exact (lA_in (by omega)).2))
        have hB2 := hB1.fr hO fa (lA_lo (by decide))
        have hR2 := hR1.fr hO fa (lA_lo (by decide)) (lA_lo (by decide)) (fun i hi => lA_lo (by have := hR1.2.2.1; omega))
        have hp2 := hp1.fr hO fa (lA_lo (by decide))
        have hl2 := hl1.fr hO fa (lA_lo (by decide)) (lA_lo (by decide)) (lA_lo (by decide))
        have hr2 := hr1.fr fa (hO.1 7 (by decide)) (hO.1 8 (by decide)) hO.2.2.2.2.2 (lA_lo (by decide)) (lA_lo (by decide)) (lA_lo (by decide))
        have hw2 := hw1.fr hO fa (lA_lo (by decide)) (lA_lo (by decide)) (lA_lo (by decide)) (lA_lo (by decide))
        have hI2 := hI1.fr hO fa (lA_lo (by decide)) (lA_lo (by decide))
        have hC2 : cuW G ad (set2 (s_ar S) 14 (16 * k + j) x) (s_L S) (s_B S) (s_C S) h2 := by
          refine ⟨fa _ _ (f1 _ _ hC.1 (by show ow (ad 3) ∉ _; rw [hO.1 3 (by decide)]; exact nl 3 (by decide))) (by show ow (ad 3) ∉ _; rw [hO.1 3 (by decide)]; exact lA_lo (by decide)), hC12, fun d hd => ?_⟩
          by_cases e : d = k
          · subst e
            refine ⟨f2 _ _ g1 (by show ow _ ∉ _; rw [hO.2.2.1 _ (by omega)]; intro z; simp at z <;> omega), f2 _ _ g2 (by show ow _ ∉ _; rw [hO.2.2.1 _ (by omega)]; intro z; simp at z <;> omega), ?_, ?_⟩
            · rw [← hh2]; exact arrH_s (na 2 3 (by decide) (by decide) (by decide))
            · rw [← hh2]; exact arrH_v
          · have nd1 : ∀ z, z < 4 → 100 + (4 * d + z) ∉ [100 + (4 * k + 1)] := fun z hz y => by simp at y; omega
            have nd2 : ∀ z, z < 4 → 100 + (4 * d + z) ∉ [100 + (4 * k + 2), 100 + (4 * k + 3)] := fun z hz y => by simp at y; omega
            have u1 := (hC.2.2 d hd).fr hO f1 hd (nd1 0 (by decide)) (nd1 1 (by decide)) (nd1 2 (by decide)) (nd1 3 (by decide))
            have u2 := u1.fr hO f2 hd (nd2 0 (by decide)) (nd2 1 (by decide)) (nd2 2 (by decide)) (nd2 3 (by decide))
            have u3 := cuE0.same (ar' := set2 (s_ar S) 14 (16 * k + j) x) ⟨by rw [set2_ne (by decide)], by rw [set2_ne (by decide)], by rw [set2_ne (by decide)], told_ne (by omega) e, by rw [set2_ne (by decide)], by rw [set2_ne (by decide)]⟩ u2
            unfold cuE; rw [arrF_same (sameV (by decide)), told_ne (by omega) e]; exact u3
        refine x_iload hE dX7_level_71 rfl ?_
        refine x_widen (k := 1) (n := 6) (Nat.le_of_ble_eq_true rfl) (Nat.le_of_ble_eq_true rfl) ?_
        exact y_ret (x_iret hE dX7_level_73 (⟨by unfold fLevel; rw [if_pos ⟨hq, hq2⟩, if_pos q1], rfl, ⟨hB2, hR2, hC2, hp2, hl2, hr2, hw2, hI2, hO⟩⟩))
      · exact y_IA hE hT hX (List.mem_of_getElem? (i := 7) rfl) (List.mem_of_getElem? (i := 3) rfl) (List.mem_of_getElem? (i := 4) rfl) (fun w hw => List.mem_cons_of_mem _ (List.mem_append_right _ hw)) rfl dX7_level_43 dX7_level_46 dX7_level_47 dX7_level_49 dX7_level_52 (Nat.le_of_ble_eq_true rfl) (Nat.le_of_ble_eq_true rfl) ⟨by decide, by decide⟩ ⟨by decide, by decide⟩ (Or.inr ⟨by unfold fLevel; rw [if_pos ⟨hq, hq2⟩, if_neg (by rw [show inI x 0 100 = false from b2i_0.mp cc]; decide)], rfl⟩)
    · refine x_qnull (hz2) ?_
      refine x_ifnonnullN hE dX7_level_20 ?_
      exact y_IO hE hT hX (List.mem_of_getElem? (i := 6) rfl) (List.mem_of_getElem? (i := 1) rfl) (List.mem_of_getElem? (i := 2) rfl) (fun w hw => List.mem_cons_of_mem _ (List.mem_append_left _ (List.mem_append_right _ hw))) rfl dX7_level_23 dX7_level_26 dX7_level_27 dX7_level_29 dX7_level_32 (Nat.le_of_ble_eq_true rfl) (Nat.le_of_ble_eq_true rfl) ⟨by decide, by decide⟩ ⟨by decide, by decide⟩ (Or.inl ⟨by unfold fLevel; rw [if_neg (by rw [hq2]; simp)], rfl⟩)
  · refine x_qnull (hz) ?_
    refine x_astore (L' := [some (.ref (ad 0)), some (.int c), some (.int i), some (.int x), some (.null), none]) hE dX7_level_5 (Nat.le_of_ble_eq_true rfl) rfl rfl ?_
    refine x_aload hE dX7_level_7 rfl rfl ?_
    refine x_ifnullN (tgt := 23) hE dX7_level_9 (by decide) ?_
    exact y_IO hE hT hX (List.mem_of_getElem? (i := 6) rfl) (List.mem_of_getElem? (i := 1) rfl) (List.mem_of_getElem? (i := 2) rfl) (fun w hw => List.mem_cons_of_mem _ (List.mem_append_left _ (List.mem_append_right _ hw))) rfl dX7_level_23 dX7_level_26 dX7_level_27 dX7_level_29 dX7_level_32 (Nat.le_of_ble_eq_true rfl) (Nat.le_of_ble_eq_true rfl) ⟨by decide, by decide⟩ ⟨by decide, by decide⟩ (Or.inl ⟨by unfold fLevel; rw [if_neg (by rw [hq]; simp)], rfl⟩)
