set_option maxHeartbeats 4000000 in
set_option maxRecDepth 100000 in
theorem c_X7_passOne (G : XG) {ad ow : Nat → Nat} {eA : Nat} {A1 P1 : List Nat} {c1 : Nat → GC} {A2 P2 : List Nat} {c2 : Nat → GC} {RY : List Nat} {S : PS} {h : HM} (hW : cW G ad ow eA A1 P1 c1 A2 P2 c2 RY S h) (hg : gI (s_C S) (s_G S)) (hN : ∀ x, x ∈ s_N S → x.1 < s_C S ∧ x.2 < 2 ^ 31) (hNl : (s_N S).length < 513) (ht : s_t S + 1 < 2 ^ 31) (hbI : ∀ i, i < (dueP S).length → bI (stI S i)) (hmo : ∀ i, i ≤ (dueP S).length → s_n (stI S i) ≤ s_n (pass1 S)) : x_M G yX7_passOne wsX7_passOne ({ frames := 5, cells := s_n (pass1 S) - s_n S, slots := 3 * (s_n (pass1 S) - s_n S), locals := 113 } : Room) [.ref (ad 0)] h (fun v h' => v = none ∧ ∃ (ow' : Nat → Nat) (eA' : Nat) (A1' P1' : List Nat) (c1' : Nat → GC), cW G ad ow' eA' A1' P1' c1' A2 P2 c2 ((dueP S).map (fun c => ad (100 + 4 * c))) (pass1 S) h') (s_n (pass1 S) - s_n S) (3 * (s_n (pass1 S) - s_n S)) := by
  refine x_M.of (cc := cX7_passOne) (maxL := 3) (ret := none) (ent := [some (.ref (ad 0)), none, none]) (by decide +kernel) rfl (Nat.le_of_ble_eq_true rfl) rfl rfl ?_
  intro F hE hname
  have hinX6 : ∀ w ∈ wsX60, w ∈ wsX7_passOne := by decide +kernel
  have hinX7 : ∀ w ∈ wsX70, w ∈ wsX7_passOne := by decide +kernel
  obtain ⟨hB, hR, hC, hp, hl, hr, hw, hI, hO⟩ := hW
  have hd : ∀ c, c ∈ dueP S → c < s_C S := fun c hc => by
    obtain ⟨x, hx, rfl⟩ := List.mem_map.mp hc
    exact (hN x (List.mem_filter.mp hx).1).1
  have hdl : (dueP S).length ≤ 512 := by
    unfold dueP
    rw [List.length_map]
    exact Nat.le_trans (List.length_filter_le _ _) (by omega)
  refine x_aload_n hE dX7_passOne_0 rfl rfl ?_
  refine x_dup hE dX7_passOne_1 rfl ?_
  refine x_get hE hinX7 hB rfl 8 (by decide) (List.mem_of_getElem? (i := 1) rfl) rfl dX7_passOne_2 ?_
  refine x_iconst (v := nI 1) hE dX7_passOne_5 (by decide) ?_
  refine x_iadd hE dX7_passOne_6 ?_
  refine x_ieq (y := nI (s_t S + 1)) (nI_1 _) ?_
  refine x_put (fs' := [.ref (ad 1), .ref (ad 3), .ref (ad 4), .ref (ad 5), .ref (ad 7), .ref (ad 9), .ref (ad 13), .int (nI (s_C S)), .int (nI (s_t S + 1)), .int (nI (s_b S))]) hE hinX7 tyX7 tyX7_ok nmX7 hB rfl 8 (by decide) (List.mem_of_getElem? (i := 1) rfl) rfl rfl rfl (Nat.le_of_ble_eq_true rfl) rfl dX7_passOne_7 ?_
  generalize hhh1 : x_up h (ad 0) (.inr (7, [.ref (ad 1), .ref (ad 3), .ref (ad 4), .ref (ad 5), .ref (ad 7), .ref (ad 9), .ref (ad 13), .int (nI (s_C S)), .int (nI (s_t S + 1)), .int (nI (s_b S))])) = h1
  have hc2 : h1 (ad 0) = some (.inr (7, [.ref (ad 1), .ref (ad 3), .ref (ad 4), .ref (ad 5), .ref (ad 7), .ref (ad 9), .ref (ad 13), .int (nI (s_C S)), .int (nI (s_t S + 1)), .int (nI (s_b S))])) := by rw [← hhh1]; exact x_up_eq _ _ _
  have f1 : frO ow [0] h h1 := by rw [← hhh1]; exact (x_fr.refl h).up (by show ow (ad 0) ∈ _; rw [hO.1 0 (by decide)]; decide)
  have hB1 : cB ad (s_C S) (s_t S + 1) (s_b S) h1 := hc2
  have hR1 := hR.fr hO f1 (by decide) (by decide) (fun i hi => by intro z; simp at z <;> omega)
  have hC1 := hC.fr hO f1 (by decide) (fun i hi => by intro z; simp at z <;> omega)
  have hp1 := hp.fr hO f1 (by decide)
  have hl1 := hl.fr hO f1 (by decide) (by decide) (by decide)
  have hr1 := hr.fr f1 (hO.1 7 (by decide)) (hO.1 8 (by decide)) hO.2.2.2.2.2 (by decide) (by decide) (by decide)
  have hw1 := hw.fr hO f1 (by decide) (by decide) (by decide) (by decide)
  have hI1 := hI.fr hO f1 (by decide) (by decide)
  have hK1 := goK_of (ar := s_ar S) (L := s_L S) (B := s_B S) hO hC1 hl1.2 hg.2
  refine x_aload_n hE dX7_passOne_10 rfl rfl ?_
  refine x_get hE hinX7 hB1 rfl 3 (by decide) (List.mem_of_getElem? (i := 2) rfl) rfl dX7_passOne_11 ?_
  refine x_aload_n hE dX7_passOne_14 rfl rfl ?_
  refine x_get hE hinX7 hB1 rfl 8 (by decide) (List.mem_of_getElem? (i := 1) rfl) rfl dX7_passOne_15 ?_
  refine x_callV (ci := 2) (st := []) hE 1 (c_X2_dropOver G hl1.1 (now := nI (s_t S + 1)) hK1) gX7_passOne_X2_dropOver rfl rfl rfl (by decide +kernel) ⟨Nat.le_of_ble_eq_true rfl, Nat.le_of_ble_eq_true rfl⟩ hl1.1.1 rfl rfl rfl dX7_passOne_18 rfl (Nat.le_of_ble_eq_true rfl) ⟨Nat.zero_le _, Nat.zero_le _⟩ (fun v h2 hp => ?_)
  obtain ⟨rfl, P3, hG2, hx2, hP3⟩ := hp
  have f2 : frO ow [5, 6] h1 h2 := frO.of hx2 (fun q hq => by rcases hq with rfl | rfl <;> first | (rw [hO.1 5 (by decide)]; decide) | (rw [hO.1 6 (by decide)]; decide))
  have hB2 := hB1.fr hO f2 (by decide)
  have hR2 := hR1.fr hO f2 (by decide) (by decide) (fun i hi => by intro z; simp at z <;> omega)
  have hC2 := hC1.fr hO f2 (by decide) (fun i hi => by intro z; simp at z <;> omega)
  have hp2 := hp1.fr hO f2 (by decide)
  have hr2 := hr1.fr f2 (hO.1 7 (by decide)) (hO.1 8 (by decide)) hO.2.2.2.2.2 (by decide) (by decide) (by decide)
  have hw2 := hw1.fr hO f2 (by decide) (by decide) (by decide) (by decide)
  have hI2 := hI1.fr hO f2 (by decide) (by decide)
  have hl2 : liW G ad (A1.filter (fun x => !ovr c1 (cuK ow (s_ar S) (s_L S) (s_B S)) (nI (s_t S + 1)) x)) P3 c1 ((s_G S).filter (fun g => !ovP (s_ar S) (s_t S + 1) g)) h2 := ⟨hG2, ovP_of hO hl1.2 hg.2 _⟩
  have hO2 := oW.lists hO (fun x (hx : x ∈ (A1.filter (fun x => !ovr c1 (cuK ow (s_ar S) (s_L S) (s_B S)) (nI (s_t S + 1)) x)) ++ P3) => (List.mem_append.mp hx).elim (fun z => List.mem_append_left _ (List.mem_filter.mp z).1) (fun z => hP3 x z)) (fun x (hx : x ∈ A2 ++ P2) => hx)
  have hcu2 : ∀ x, x ∈ (s_N S).map (fun x => (ad (100 + 4 * x.1), nI x.2)) → ∃ vs, h2 x.1 = some (.inr (0, vs)) := fun x hx => by obtain ⟨y, hy, rfl⟩ := List.mem_map.mp hx; exact ⟨_, (hC2.2.2 y.1 (hN y hy).1).1⟩
  refine x_aload_n hE dX7_passOne_21 rfl rfl ?_
  refine x_get hE hinX7 hB2 rfl 5 (by decide) (List.mem_of_getElem? (i := 3) rfl) rfl dX7_passOne_22 ?_
  refine x_aload_n hE dX7_passOne_25 rfl rfl ?_
  refine x_get hE hinX7 hB2 rfl 8 (by decide) (List.mem_of_getElem? (i := 1) rfl) rfl dX7_passOne_26 ?_
  refine x_callV (ci := 6) (st := []) hE 1 (c_X6_takeDue G hw2 (now := nI (s_t S + 1)) hcu2 (fun z => by have z1 := congrArg ow z; rw [hO.1 12 (by decide), hO.1 10 (by decide)] at z1; omega)) gX7_passOne_X6_takeDue rfl rfl rfl (by decide +kernel) ⟨Nat.le_of_ble_eq_true rfl, Nat.le_of_ble_eq_true rfl⟩ hw2.1 rfl rfl rfl dX7_passOne_29 rfl (Nat.le_of_ble_eq_true rfl) ⟨Nat.zero_le _, Nat.zero_le _⟩ (fun v h3 hp => ?_)
  obtain ⟨rfl, hT3, hx3⟩ := hp
  have f3 : frO ow [9, 10, 11, 12] h2 h3 := frO.of hx3 (fun q hq => by rcases hq with rfl | rfl | rfl | rfl <;> first | (rw [hO.1 9 (by decide)]; decide) | (rw [hO.1 10 (by decide)]; decide) | (rw [hO.1 11 (by decide)]; decide) | (rw [hO.1 12 (by decide)]; decide))
  have hB3 := hB2.fr hO2 f3 (by decide)
  have hR3 := hR2.fr hO2 f3 (by decide) (by decide) (fun i hi => by intro z; simp at z <;> omega)
  have hC3 := hC2.fr hO2 f3 (by decide) (fun i hi => by intro z; simp at z <;> omega)
  have hp3 := hp2.fr hO2 f3 (by decide)
  have hl3 := hl2.fr hO2 f3 (by decide) (by decide) (by decide)
  have hr3 := hr2.fr f3 (hO2.1 7 (by decide)) (hO2.1 8 (by decide)) hO2.2.2.2.2.2 (by decide) (by decide) (by decide)
  have hI3 := hI2.fr hO2 f3 (by decide) (by decide)
  rw [due_of (by omega) (fun x hx => (hN x hx).2), kept_of (by omega) (fun x hx => (hN x hx).2), List.map_map] at hT3
  have hw3 : waW G ad ((s_N S).filter (fun x => !decide (x.2 = s_t S + 1))) ((dueP S).map (fun c => ad (100 + 4 * c))) h3 := by unfold dueP; rw [List.map_map]; exact hT3
  have hW3 : cW G ad ow eA _ P3 c1 A2 P2 c2 ((dueP S).map (fun c => ad (100 + 4 * c))) (stI S 0) h3 := ⟨hB3, hR3, hC3, hp3, hl3, hr3, hw3, hI3, hO2⟩
  refine x_iconst (v := nI 0) hE dX7_passOne_32 (by decide) ?_
  refine x_istore_n (L' := [some (.ref (ad 0)), some (.int (nI 0)), none]) hE dX7_passOne_33 rfl (Nat.le_of_ble_eq_true rfl) rfl ?_
  refine x_widen (k := s_n (stI S 0) - s_n S) (n := 3 * (s_n (stI S 0) - s_n S)) (by omega) (by omega) ?_
  refine x_down (N := (dueP S).length) (P := fun i => ∀ (hi : HM) (ow2 : Nat → Nat) (eA2 : Nat) (A12 P12 : List Nat) (c12 : Nat → GC), cW G ad ow2 eA2 A12 P12 c12 A2 P2 c2 ((dueP S).map (fun c => ad (100 + 4 * c))) (stI S i) hi → s_n S ≤ s_n (stI S i) → x_W G F (x_Q G F (fun v h' => v = none ∧ ∃ (ow' : Nat → Nat) (eA' : Nat) (A1' P1' : List Nat) (c1' : Nat → GC), cW G ad ow' eA' A1' P1' c1' A2 P2 c2 ((dueP S).map (fun c => ad (100 + 4 * c))) (pass1 S) h') (s_n (pass1 S) - s_n S) (3 * (s_n (pass1 S) - s_n S))) (s_n (stI S i) - s_n S) (3 * (s_n (stI S i) - s_n S)) hi 34 [some (.ref (ad 0)), some (.int (nI i)), none] []) (fun i hiN ih => ?_) 0 (by omega) _ _ _ _ _ _ hW3 (Nat.le_refl _)
  intro hi ow2 eA2 A12 P12 c12 hWi hni
  have hW2c := hWi
  obtain ⟨hBi, hRi, hCi, hpi, hli, hri, hwi, hIi, hOi⟩ := hWi
  refine x_iload_n hE dX7_passOne_34 rfl ?_
  refine x_aload_n hE dX7_passOne_35 rfl rfl ?_
  refine x_get hE hinX7 hBi rfl 5 (by decide) (List.mem_of_getElem? (i := 3) rfl) rfl dX7_passOne_36 ?_
  refine x_get hE hinX6 hwi.1 rfl 4 (by decide) (List.mem_of_getElem? (i := 4) rfl) rfl dX7_passOne_39 ?_
  refine x_icmp_ge (tgt := 93) hE dX7_passOne_42 (by decide) (fun c42 => ?_) (fun c42 => ?_)
  · rw [List.length_map] at c42
    replace c42 := x_nIle c42 (by omega) (by omega)
    obtain rfl : i = (dueP S).length := by omega
    rw [stI_n]
    rw [stI_n] at hW2c
    exact x_vret hE dX7_passOne_93 (⟨rfl, _, _, _, _, _, hW2c⟩)
  · rw [List.length_map] at c42
    replace c42 := x_nInle c42 (by omega) (by omega)
    obtain ⟨c, hx⟩ : ∃ c, (dueP S)[i]? = some c := ⟨_, List.getElem?_eq_getElem c42⟩
    have hxa : ((dueP S).map (fun c => ad (100 + 4 * c)))[i]? = some (ad (100 + 4 * c)) := by rw [List.getElem?_map, hx]; rfl
    obtain ⟨bg, bcu, bcap, bN, blen⟩ := hbI i c42
    obtain ⟨k1, k2, k3, k4, k5⟩ := stI_keep S i
    have hm0 := hmo i (by omega)
    have hc : c < s_C (stI S i) := by rw [k4]; exact hd c (List.mem_of_getElem? hx)
    refine x_aload_n hE dX7_passOne_45 rfl rfl ?_
    refine x_get hE hinX7 hBi rfl 5 (by decide) (List.mem_of_getElem? (i := 3) rfl) rfl dX7_passOne_46 ?_
    refine x_iload_n hE dX7_passOne_49 rfl ?_
    refine x_callV (ci := 6) (st := []) hE 1 (c_X6_readyAt G hwi hxa) gX7_passOne_X6_readyAt rfl rfl rfl (by decide +kernel) ⟨Nat.le_of_ble_eq_true rfl, Nat.le_of_ble_eq_true rfl⟩ hwi.1 rfl rfl rfl dX7_passOne_50 rfl (Nat.le_of_ble_eq_true rfl) ⟨by dsimp only; omega, by dsimp only; omega⟩ (fun v h9 hp => ?_)
    obtain ⟨rfl, rfl⟩ := hp
    refine x_astore_n (L' := [some (.ref (ad 0)), some (.int (nI i)), some (va_rf (some (ad (100 + 4 * c))))]) hE dX7_passOne_53 rfl (Nat.le_of_ble_eq_true rfl) (x_rv_rf _) rfl ?_
    refine x_Leq (L' := [some (.ref (ad 0)), some (.int (nI i)), some (.ref (ad (100 + 4 * c)))]) rfl ?_
    refine x_aload_n hE dX7_passOne_54 rfl rfl ?_
    refine x_ifnonnull (tgt := 61) hE dX7_passOne_55 (by decide) ?_
    refine x_aload_n hE dX7_passOne_61 rfl rfl ?_
    refine x_aload_n hE dX7_passOne_62 rfl rfl ?_
    refine x_callV (ci := 7) (st := []) hE 1 (c_X7_canGo G hBi hOi hRi hCi hli bg.2 hpi hc) gX7_passOne_X7_canGo rfl rfl rfl (by decide +kernel) ⟨Nat.le_of_ble_eq_true rfl, Nat.le_of_ble_eq_true rfl⟩ hBi rfl rfl rfl dX7_passOne_63 rfl (Nat.le_of_ble_eq_true rfl) ⟨by dsimp only; omega, by dsimp only; omega⟩ (fun v h9 hp => ?_)
    obtain ⟨rfl, rfl⟩ := hp
    refine x_if_eq (tgt := 77) hE dX7_passOne_66 (by decide) (fun c66 => ?_) (fun c66 => ?_)
    · have es : stI S (i + 1) = barP (stI S i) := by rw [stI_s hx]; unfold stepP; rw [if_neg (by rw [b2i_0.mp c66]; decide)]
      refine x_aload_n hE dX7_passOne_77 rfl rfl ?_
      refine x_dup hE dX7_passOne_78 rfl ?_
      refine x_get hE hinX7 hBi rfl 9 (by decide) (List.mem_of_getElem? (i := 5) rfl) rfl dX7_passOne_79 ?_
      refine x_iconst (v := nI 1) hE dX7_passOne_82 (by decide) ?_
      refine x_iadd hE dX7_passOne_83 ?_
      refine x_ieq (y := nI (s_b (stI S i) + 1)) (nI_1 _) ?_
      refine x_put (fs' := [.ref (ad 1), .ref (ad 3), .ref (ad 4), .ref (ad 5), .ref (ad 7), .ref (ad 9), .ref (ad 13), .int (nI (s_C (stI S i))), .int (nI (s_t (stI S i))), .int (nI (s_b (stI S i) + 1))]) hE hinX7 tyX7 tyX7_ok nmX7 hBi rfl 9 (by decide) (List.mem_of_getElem? (i := 5) rfl) rfl rfl rfl (Nat.le_of_ble_eq_true rfl) rfl dX7_passOne_84 ?_
      generalize hhh3 : x_up hi (ad 0) (.inr (7, [.ref (ad 1), .ref (ad 3), .ref (ad 4), .ref (ad 5), .ref (ad 7), .ref (ad 9), .ref (ad 13), .int (nI (s_C (stI S i))), .int (nI (s_t (stI S i))), .int (nI (s_b (stI S i) + 1))])) = h3
      have hc4 : h3 (ad 0) = some (.inr (7, [.ref (ad 1), .ref (ad 3), .ref (ad 4), .ref (ad 5), .ref (ad 7), .ref (ad 9), .ref (ad 13), .int (nI (s_C (stI S i))), .int (nI (s_t (stI S i))), .int (nI (s_b (stI S i) + 1))])) := by rw [← hhh3]; exact x_up_eq _ _ _
      have hc5 : h3 (ad 9) = some (.inr (6, [.ref (ad 10), .ref (ad 11), .ref (ad 12), .int (nI ((s_N (stI S i)).map (fun x => (ad (100 + 4 * x.1), nI x.2))).length), .int (nI ((dueP S).map (fun c => ad (100 + 4 * c))).length)])) := by rw [← hhh3, x_up_ne (fun e => by have z1 := hwi.1; rw [e, hBi] at z1; simp [lampE] at z1)]; exact hwi.1
      have hc6 : h3 (ad (100 + 4 * c)) = some (.inr (0, [.int (nI c), .int (s_ar (stI S i) 11 c), .int (s_ar (stI S i) 12 c), .int (s_ar (stI S i) 13 c), .ref (ad (100 + (4 * c + 1))), .ref (ad (100 + (4 * c + 2))), .ref (ad (100 + (4 * c + 3))), va_rf (foO ad (s_ar (stI S i) 15 c)), .int (s_ar (stI S i) 16 c)])) := by rw [← hhh3, x_up_ne (fun e => by have z1 := (hCi.2.2 c hc).1; rw [e, hBi] at z1; simp [lampE] at z1)]; exact (hCi.2.2 c hc).1
      have f4 : frO ow2 [0] hi h3 := by rw [← hhh3]; exact (x_fr.refl hi).up (by show ow2 (ad 0) ∈ _; rw [hOi.1 0 (by decide)]; decide)
      have hR4 := hRi.fr hOi f4 (by decide) (by decide) (fun i hi => by intro z; simp at z <;> omega)
      have hC4 := hCi.fr hOi f4 (by decide) (fun i hi => by intro z; simp at z <;> omega)
      have hp4 := hpi.fr hOi f4 (by decide)
      have hl4 := hli.fr hOi f4 (by decide) (by decide) (by decide)
      have hr4 := hri.fr f4 (hOi.1 7 (by decide)) (hOi.1 8 (by decide)) hOi.2.2.2.2.2 (by decide) (by decide) (by decide)
      have hw4 := hwi.fr hOi f4 (by decide) (by decide) (by decide) (by decide)
      have hI4 := hIi.fr hOi f4 (by decide) (by decide)
      have hW4 : cW G ad ow2 eA2 A12 P12 c12 A2 P2 c2 ((dueP S).map (fun c => ad (100 + 4 * c))) (stI S (i + 1)) h3 := by rw [es]; exact ⟨hc4, hR4, hC4, hp4, hl4, hr4, hw4, hI4, hOi⟩
      refine x_iinc (v := nI (i + 1)) (L' := [some (.ref (ad 0)), some (.int (nI (i + 1))), some (.ref (ad (100 + 4 * c)))]) hE dX7_passOne_87 rfl (nI_1 _) rfl ?_
      refine x_goto (tgt := 34) hE dX7_passOne_90 (by decide) ?_
      rw [show s_n (stI S i) - s_n S + 0 + 0 = s_n (stI S (i + 1)) - s_n S by rw [es]; rfl, show 3 * (s_n (stI S i) - s_n S) + 0 + 0 = 3 * (s_n (stI S (i + 1)) - s_n S) by rw [es]; rfl]
      refine x_forget (L' := [some (.ref (ad 0)), some (.int (nI (i + 1))), none]) (And.intro rfl (And.intro rfl trivial)) ?_
      exact ih (i + 1) (by omega) (by omega) h3 ow2 eA2 A12 P12 c12 hW4 (by rw [es]; exact hni)
    · have es : stI S (i + 1) = begP c (stI S i) := by rw [stI_s hx]; unfold stepP; rw [if_pos (b2i_n0.mp c66)]
      have hn1 : s_n (stI S i) ≤ s_n (begP c (stI S i)) := bcap.le
      have hn2 := hmo (i + 1) (by omega)
      rw [es] at hn2
      refine x_aload_n hE dX7_passOne_69 rfl rfl ?_
      refine x_aload_n hE dX7_passOne_70 rfl rfl ?_
      refine x_callV (ci := 7) (st := []) hE 1 (c_X7_begin G hW2c hc bg bcu (blen c hc) bcap bN) gX7_passOne_X7_begin rfl rfl rfl (by decide +kernel) ⟨Nat.le_of_ble_eq_true rfl, Nat.le_of_ble_eq_true rfl⟩ hBi rfl rfl rfl dX7_passOne_71 rfl (Nat.le_of_ble_eq_true rfl) ⟨by dsimp only; omega, by dsimp only; omega⟩ (fun v h4 hp => ?_)
      obtain ⟨rfl, ow4, eA4, A14, P14, c14, hW4⟩ := hp
      refine x_goto (tgt := 87) hE dX7_passOne_74 (by decide) ?_
      refine x_iinc (v := nI (i + 1)) (L' := [some (.ref (ad 0)), some (.int (nI (i + 1))), some (.ref (ad (100 + 4 * c)))]) hE dX7_passOne_87 rfl (nI_1 _) rfl ?_
      refine x_goto (tgt := 34) hE dX7_passOne_90 (by decide) ?_
      rw [← es] at hW4
      rw [show s_n (stI S i) - s_n S + 0 + 0 + (s_n (begP c (stI S i)) - s_n (stI S i)) = s_n (stI S (i + 1)) - s_n S by rw [es]; omega, show 3 * (s_n (stI S i) - s_n S) + 0 + 0 + 3 * (s_n (begP c (stI S i)) - s_n (stI S i)) = 3 * (s_n (stI S (i + 1)) - s_n S) by rw [es]; omega]
      refine x_forget (L' := [some (.ref (ad 0)), some (.int (nI (i + 1))), none]) (And.intro rfl (And.intro rfl trivial)) ?_
      exact ih (i + 1) (by omega) (by omega) h4 ow4 eA4 A14 P14 c14 hW4 (by rw [es]; omega)
