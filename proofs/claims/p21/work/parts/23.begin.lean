set_option maxHeartbeats 4000000 in
set_option maxRecDepth 100000 in
theorem c_X7_begin (G : XG) {ad ow : Nat → Nat} {eA : Nat} {A1 P1 : List Nat} {c1 : Nat → GC} {A2 P2 : List Nat} {c2 : Nat → GC} {RY : List Nat} {S : PS} {h : HM} (hW : cW G ad ow eA A1 P1 c1 A2 P2 c2 RY S h) {c : Nat} (hc : c < s_C S) (hg : gI (s_C S) (s_G S)) (hcu : cuI (s_ar S) (s_C S)) (hlen : (strF (entB (s_t S) c) (s_H S)).length < 122880) (hcap : capP (s_n S)) (hNL : (s_N S).length < 512) : x_M G yX7_begin wsX7_begin ({ frames := 4, cells := s_n (begP c S) - s_n S, slots := 3 * (s_n (begP c S) - s_n S), locals := 87 } : Room) [.ref (ad 0), .ref (ad (100 + 4 * c))] h (fun v h' => v = none ∧ ∃ (ow' : Nat → Nat) (eA' : Nat) (A1' P1' : List Nat) (c1' : Nat → GC), cW G ad ow' eA' A1' P1' c1' A2 P2 c2 RY (begP c S) h') (s_n (begP c S) - s_n S) (3 * (s_n (begP c S) - s_n S)) := by
  refine x_M.of (cc := cX7_begin) (maxL := 2) (ret := none) (ent := [some (.ref (ad 0)), some (.ref (ad (100 + 4 * c)))]) (by decide +kernel) rfl (Nat.le_of_ble_eq_true rfl) rfl rfl ?_
  intro F hE hname
  have hinX0 : ∀ w ∈ wsX00, w ∈ wsX7_begin := by decide +kernel
  have hinX7 : ∀ w ∈ wsX70, w ∈ wsX7_begin := by decide +kernel
  obtain ⟨hB, hR, hC, hp, hl, hr, hw, hI, hO⟩ := hW
  have hE0 := hC.2.2 c hc
  have eN : s_n (begP c S) = grw (s_n S) (strF (entF (nI (s_t S)) (nI c) 0) (s_H S)).length := rfl
  refine x_aload_n hE dX7_begin_0 rfl rfl ?_
  refine x_get hE hinX7 hB rfl 3 (by decide) (List.mem_of_getElem? (i := 1) rfl) rfl dX7_begin_1 ?_
  refine x_aload_n hE dX7_begin_4 rfl rfl ?_
  refine x_aload_n hE dX7_begin_5 rfl rfl ?_
  refine x_get hE hinX7 hB rfl 8 (by decide) (List.mem_of_getElem? (i := 2) rfl) rfl dX7_begin_6 ?_
  refine x_callV (ci := 2) (st := []) hE 2 (c_X2_begin G hl.1 (now := nI (s_t S)) (fun z => beg_cap (ow := ow) (Q1 := A1 ++ P1) (Q2 := A2 ++ P2) (eA := eA) (L := s_L S) hl.2 hg hc hC.2.1 z)) gX7_begin_X2_begin rfl rfl rfl (by decide +kernel) ⟨Nat.le_of_ble_eq_true rfl, Nat.le_of_ble_eq_true rfl⟩ hl.1.1 rfl rfl rfl dX7_begin_9 rfl (Nat.le_of_ble_eq_true rfl) ⟨by dsimp only; omega, by dsimp only; omega⟩ (fun v h1 hp => ?_)
  obtain ⟨rfl, A3, P3, y, hW1, hx1, hbg⟩ := hp
  have f1 : frO ow [5, 6, 14] h h1 := frO.of hx1 (fun q hq => by rcases hq with rfl | rfl | hq <;> first | (rw [hO.1 5 (by decide)]; decide) | (rw [hO.1 6 (by decide)]; decide) | (rw [hO.2.2.2.2.1 q hq]; decide))
  have hB1 := hB.fr hO f1 (by decide)
  have hR1 := hR.fr hO f1 (by decide) (by decide) (fun i hi => by intro z; simp at z <;> omega)
  have hC1 := hC.fr hO f1 (by decide) (fun i hi => by intro z; simp at z <;> omega)
  have hp1 := hp.fr hO f1 (by decide)
  have hr1 := hr.fr f1 (hO.1 7 (by decide)) (hO.1 8 (by decide)) hO.2.2.2.2.2 (by decide) (by decide) (by decide)
  have hw1 := hw.fr hO f1 (by decide) (by decide) (by decide) (by decide)
  have hI1 := hI.fr hO f1 (by decide) (by decide)
  have hl1 : liW G ad A3 P3 (va_up c1 y (some (ad (100 + 4 * c)), nI (s_t S), -1)) (gBeg c (s_t S) (s_G S)) h1 := ⟨hW1, beg_map hO hl.2 hg hc hl.1.2.2.2.1 hbg⟩
  have hE1 := hC1.2.2 c hc
  have hO1 := oW.lists hO (bgR.mem hbg) (fun x hx => hx)
  refine x_aload_n hE dX7_begin_12 rfl rfl ?_
  refine x_get hE hinX7 hB1 rfl 6 (by decide) (List.mem_of_getElem? (i := 3) rfl) rfl dX7_begin_13 ?_
  refine x_aload_n hE dX7_begin_16 rfl rfl ?_
  refine x_get hE hinX7 hB1 rfl 8 (by decide) (List.mem_of_getElem? (i := 2) rfl) rfl dX7_begin_17 ?_
  refine x_aload_n hE dX7_begin_20 rfl rfl ?_
  refine x_get hE hinX0 hE1.1 rfl 0 (by decide) (List.mem_of_getElem? (i := 4) rfl) rfl dX7_begin_21 ?_
  refine x_callV (ci := 3) (st := []) hE 2 (c_X3_writeGoing G hI1 (t := nI (s_t S)) (c := nI c) hlen hcap) gX7_begin_X3_writeGoing rfl rfl rfl (by decide +kernel) ⟨Nat.le_of_ble_eq_true rfl, Nat.le_of_ble_eq_true rfl⟩ hI1.1 rfl rfl rfl dX7_begin_24 rfl (Nat.le_of_ble_eq_true rfl) ⟨by dsimp only; omega, by dsimp only; omega⟩ (fun v h2 hp => ?_)
  obtain ⟨rfl, eA2, hI2, hx2, hor⟩ := hp
  have f2 : frO ow [13, 16] h1 h2 := frO.of hx2 (fun q hq => by rcases hq with rfl | rfl; rw [hO.1 13 (by decide)]; decide; rw [hO.2.2.2.1]; decide)
  have hB2 := hB1.fr hO1 f2 (by decide)
  have hR2 := hR1.fr hO1 f2 (by decide) (by decide) (fun i hi => by intro z; simp at z <;> omega)
  have hC2 := hC1.fr hO1 f2 (by decide) (fun i hi => by intro z; simp at z <;> omega)
  have hp2 := hp1.fr hO1 f2 (by decide)
  have hl2 := hl1.fr hO1 f2 (by decide) (by decide) (by decide)
  have hr2 := hr1.fr f2 (hO1.1 7 (by decide)) (hO1.1 8 (by decide)) hO1.2.2.2.2.2 (by decide) (by decide) (by decide)
  have hw2 := hw1.fr hO1 f2 (by decide) (by decide) (by decide) (by decide)
  obtain ⟨ow2, hO2⟩ := hO1.newE (oX.of hB1 hR1 hC1 hp1 hl1 hr1 hw1 hI1) hor
  have hE2 := hC2.2.2 c hc
  refine x_aload_n hE dX7_begin_27 rfl rfl ?_
  refine x_get hE hinX0 hE2.1 rfl 7 (by decide) (List.mem_of_getElem? (i := 5) rfl) rfl dX7_begin_28 ?_
  rcases hcu c hc with hno | ⟨j, d, hjC, hd1, hd2, h15, h16⟩
  · have e0 : foO ad (s_ar S 15 c) = none := by unfold foO; rw [if_pos hno]
    refine x_qnull (e0) ?_
    refine x_ifnullN (tgt := 54) hE dX7_begin_31 (by decide) ?_
    have en : nxP (s_ar S) c (s_t S) (s_N S) = s_N S := by unfold nxP; rw [if_pos hno]
    refine x_widen (k := s_n (begP c S) - s_n S) (n := 3 * (s_n (begP c S) - s_n S)) (by omega) (by omega) ?_
    exact x_vret hE dX7_begin_54 ⟨rfl, ow2, eA2, A3, P3, _, hB2, hR2, hC2, hp2, hl2, hr2, by show waW G ad (nxP (s_ar S) c (s_t S) (s_N S)) RY _; rw [en]; exact hw2, hI2, hO2⟩
  · have nm : ¬ nI j = -1 := by intro z; have := congrArg Int32.toInt z; rw [nI_toInt (by have := hC.2.1; omega)] at this; simp at this <;> omega
    have e0 : foO ad (s_ar S 15 c) = some (ad (100 + 4 * j)) := by unfold foO; rw [h15, if_neg nm, nI_clamp (by have := hC.2.1; omega)]
    refine x_qref (q := (ad (100 + 4 * j))) (e0) ?_
    refine x_ifnull hE dX7_begin_31 ?_
    refine x_aload_n hE dX7_begin_34 rfl rfl ?_
    refine x_get hE hinX7 hB2 rfl 5 (by decide) (List.mem_of_getElem? (i := 6) rfl) rfl dX7_begin_35 ?_
    refine x_aload_n hE dX7_begin_38 rfl rfl ?_
    refine x_get hE hinX0 hE2.1 rfl 7 (by decide) (List.mem_of_getElem? (i := 5) rfl) rfl dX7_begin_39 ?_
    refine x_qref (q := (ad (100 + 4 * j))) (e0) ?_
    refine x_aload_n hE dX7_begin_42 rfl rfl ?_
    refine x_get hE hinX7 hB2 rfl 8 (by decide) (List.mem_of_getElem? (i := 2) rfl) rfl dX7_begin_43 ?_
    refine x_aload_n hE dX7_begin_46 rfl rfl ?_
    refine x_get hE hinX0 hE2.1 rfl 8 (by decide) (List.mem_of_getElem? (i := 7) rfl) rfl dX7_begin_47 ?_
    refine x_iadd hE dX7_begin_50 ?_
    refine x_ieq (y := nI (s_t S + d)) (by rw [h16, nI_add]) ?_
    have hEj := hC2.2.2 j hjC
    refine x_callV (ci := 6) (st := []) hE 2 (c_X6_note G hw2 hEj.1 (by rw [List.length_map]; exact hNL) (fun z => by have z1 := congrArg ow z; rw [hO.1 12 (by decide), hO.1 10 (by decide)] at z1; omega)) gX7_begin_X6_note rfl rfl rfl (by decide +kernel) ⟨Nat.le_of_ble_eq_true rfl, Nat.le_of_ble_eq_true rfl⟩ hw2.1 rfl rfl rfl dX7_begin_51 rfl (Nat.le_of_ble_eq_true rfl) ⟨by dsimp only; omega, by dsimp only; omega⟩ (fun v h3 hp => ?_)
    obtain ⟨rfl, hw3, hx3⟩ := hp
    have f3 : frO ow2 [9, 10, 11] h2 h3 := frO.of hx3 (fun q hq => by rcases hq with rfl | rfl | rfl <;> first | (rw [hO2.1 9 (by decide)]; decide) | (rw [hO2.1 10 (by decide)]; decide) | (rw [hO2.1 11 (by decide)]; decide))
    have hB3 := hB2.fr hO2 f3 (by decide)
    have hR3 := hR2.fr hO2 f3 (by decide) (by decide) (fun i hi => by intro z; simp at z <;> omega)
    have hC3 := hC2.fr hO2 f3 (by decide) (fun i hi => by intro z; simp at z <;> omega)
    have hp3 := hp2.fr hO2 f3 (by decide)
    have hl3 := hl2.fr hO2 f3 (by decide) (by decide) (by decide)
    have hr3 := hr2.fr f3 (hO2.1 7 (by decide)) (hO2.1 8 (by decide)) hO2.2.2.2.2.2 (by decide) (by decide) (by decide)
    have hI3 := hI2.fr hO2 f3 (by decide) (by decide)
    have en : nxP (s_ar S) c (s_t S) (s_N S) = s_N S ++ [(j, s_t S + d)] := by unfold nxP; rw [h15, if_neg nm, h16, nI_clamp (by have := hC.2.1; omega), nI_clamp (by omega)]
    refine x_widen (k := s_n (begP c S) - s_n S) (n := 3 * (s_n (begP c S) - s_n S)) (by omega) (by omega) ?_
    exact x_vret hE dX7_begin_54 ⟨rfl, ow2, eA2, A3, P3, _, hB3, hR3, hC3, hp3, hl3, hr3, by show waW G ad (nxP (s_ar S) c (s_t S) (s_N S)) RY _; rw [en]; unfold waW; rw [List.map_append]; exact hw3, hI3, hO2⟩
