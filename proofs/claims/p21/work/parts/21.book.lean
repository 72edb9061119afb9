set_option maxHeartbeats 4000000 in
set_option maxRecDepth 100000 in
theorem c_X7_wattsAsked (G : XG) {ad : Nat → Nat} {C t b : Nat} {h : HM} (hB : cB ad C t b h) {ow : Nat → Nat} {eA : Nat} {A1 P1 A2 P2 : List Nat} {ar : Nat → Nat → Int32} {L : Nat} {B : Int32} (hO : oW ad ow eA (A1 ++ P1) (A2 ++ P2) L C) (hR : riW G ad ar L B h) (hC : cuW G ad ar L B C h) {c1 : Nat → GC} {GL : List GG} (hl : liW G ad A1 P1 c1 GL h) (hG : ∀ g, g ∈ GL → g.1 < C) {c : Nat} (hc : c < C) (ph : Int32) : x_M G yX7_wattsAsked wsX7_wattsAsked ({ frames := 3, cells := 0, slots := 0, locals := 66 } : Room) [.ref (ad 0), .ref (ad (100 + 4 * c)), .int ph] h (x_is (some (.int (askP ar L B GL c ph))) h) 0 0 := by
  refine x_M.of (cc := cX7_wattsAsked) (maxL := 6) (ret := (some .int)) (ent := [some (.ref (ad 0)), some (.ref (ad (100 + 4 * c))), some (.int ph), none, none, none]) (by decide +kernel) rfl (Nat.le_of_ble_eq_true rfl) rfl rfl ?_
  intro F hE hname
  have hinX4 : ∀ w ∈ wsX40, w ∈ wsX7_wattsAsked := by decide +kernel
  have hinX7 : ∀ w ∈ wsX70, w ∈ wsX7_wattsAsked := by decide +kernel
  have hE0 := hC.2.2 c hc
  have hK := goK_of (ar := ar) (L := L) (B := B) hO hC hl.2 hG
  have hL := hR.2.2.1
  refine x_iconst (v := nI 0) hE dX7_wattsAsked_0 (by decide) ?_
  refine x_istore_n (L' := [some (.ref (ad 0)), some (.ref (ad (100 + 4 * c))), some (.int ph), some (.int (nI 0)), none, none]) hE dX7_wattsAsked_1 rfl (Nat.le_of_ble_eq_true rfl) rfl ?_
  refine x_iconst (v := nI 0) hE dX7_wattsAsked_2 (by decide) ?_
  refine x_istore (L' := [some (.ref (ad 0)), some (.ref (ad (100 + 4 * c))), some (.int ph), some (.int (nI 0)), some (.int (nI 0)), none]) hE dX7_wattsAsked_3 (Nat.le_of_ble_eq_true rfl) rfl ?_
  refine x_down (N := 16) (P := fun i => x_W G F (x_Q G F (x_is (some (.int (askP ar L B GL c ph))) h) 0 0) 0 0 h 5 [some (.ref (ad 0)), some (.ref (ad (100 + 4 * c))), some (.int ph), some (.int (askN ar L B GL c ph i)), some (.int (nI i)), none] []) (fun i hiN ih => ?_) 0 (by omega) 
  refine x_iload hE dX7_wattsAsked_5 rfl ?_
  refine x_bipush (v := nI 16) hE dX7_wattsAsked_7 (by decide) ?_
  refine x_icmp_ge (tgt := 70) hE dX7_wattsAsked_9 (by decide) (fun c9 => ?_) (fun c9 => ?_)
  · replace c9 := x_nIle c9 (by omega) (by omega)
    obtain rfl : i = 16 := by omega
    refine x_iload_n hE dX7_wattsAsked_70 rfl ?_
    refine x_bipush (v := nI 99) hE dX7_wattsAsked_71 (by decide) ?_
    refine x_iadd hE dX7_wattsAsked_73 ?_
    refine x_bipush (v := nI 100) hE dX7_wattsAsked_74 (by decide) ?_
    refine x_idiv hE dX7_wattsAsked_76 (by decide) ?_
    exact x_iret hE dX7_wattsAsked_77 (⟨rfl, rfl⟩)
  · replace c9 := x_nInle c9 (by omega) (by omega)
    refine x_aload_n hE dX7_wattsAsked_12 rfl rfl ?_
    refine x_get hE hinX7 hB rfl 0 (by decide) (List.mem_of_getElem? (i := 1) rfl) rfl dX7_wattsAsked_13 ?_
    refine x_iload hE dX7_wattsAsked_16 rfl ?_
    refine x_callV (ci := 5) (st := []) hE 1 (c_X5_lampAt G hR.1 hR.2.1 (nI i)) gX7_wattsAsked_X5_lampAt rfl rfl rfl (by decide +kernel) ⟨Nat.le_of_ble_eq_true rfl, Nat.le_of_ble_eq_true rfl⟩ hR.1 rfl rfl rfl dX7_wattsAsked_18 rfl (Nat.le_of_ble_eq_true rfl) ⟨Nat.le_of_ble_eq_true rfl, Nat.le_of_ble_eq_true rfl⟩ (fun v h9 hp => ?_)
    obtain ⟨rfl, rfl⟩ := hp
    rcases Nat.lt_or_ge i L with hi2 | hi2
    · refine x_qref (q := (ad (20 + i))) ((lampF_sel (by omega) (by decide)).trans (lampF_in hi2)) ?_
      refine x_astore (L' := [some (.ref (ad 0)), some (.ref (ad (100 + 4 * c))), some (.int ph), some (.int (askN ar L B GL c ph i)), some (.int (nI i)), some (.ref (ad (20 + i)))]) hE dX7_wattsAsked_21 (Nat.le_of_ble_eq_true rfl) rfl rfl ?_
      refine x_aload hE dX7_wattsAsked_23 rfl rfl ?_
      refine x_ifnull hE dX7_wattsAsked_25 ?_
      refine x_aload hE dX7_wattsAsked_28 rfl rfl ?_
      refine x_get hE hinX4 (hR.2.2.2 i hi2) rfl 4 (by decide) (List.mem_of_getElem? (i := 2) rfl) rfl dX7_wattsAsked_30 ?_
      refine x_iload_n hE dX7_wattsAsked_33 rfl ?_
      refine x_icmp_ne (tgt := 64) hE dX7_wattsAsked_34 (by decide) (fun c34 => ?_) (fun c34 => ?_)
      · have e1 : askN ar L B GL c ph (i + 1) = askN ar L B GL c ph i := askN_n (fun z => c34 z.2)
        refine x_iinc (v := nI (i + 1)) (L' := [some (.ref (ad 0)), some (.ref (ad (100 + 4 * c))), some (.int ph), some (.int (askN ar L B GL c ph i)), some (.int (nI (i + 1))), some (.ref (ad (20 + i)))]) hE dX7_wattsAsked_64 rfl (nI_1 _) rfl ?_
        refine x_goto (tgt := 5) hE dX7_wattsAsked_67 (by decide) ?_
        have e2 := ih (i + 1) (by omega) (by omega)
        rw [e1] at e2
        refine x_forget (L' := [some (.ref (ad 0)), some (.ref (ad (100 + 4 * c))), some (.int ph), some (.int (askN ar L B GL c ph i)), some (.int (nI (i + 1))), none]) (And.intro rfl (And.intro rfl (And.intro rfl (And.intro rfl (And.intro rfl trivial))))) ?_
        exact e2
      · refine x_iload_n hE dX7_wattsAsked_37 rfl ?_
        refine x_aload hE dX7_wattsAsked_38 rfl rfl ?_
        refine x_get hE hinX4 (hR.2.2.2 i hi2) rfl 3 (by decide) (List.mem_of_getElem? (i := 3) rfl) rfl dX7_wattsAsked_40 ?_
        refine x_aload_n hE dX7_wattsAsked_43 rfl rfl ?_
        refine x_iload hE dX7_wattsAsked_44 rfl ?_
        refine x_callV (ci := 0) (st := [.int (ar 5 i), .int (askN ar L B GL c ph i)]) hE 1 (c_X0_levelFor G hE0.1 hE0.2.2.2 (by omega : i < 16)) gX7_wattsAsked_X0_levelFor rfl rfl rfl (by decide +kernel) ⟨Nat.le_of_ble_eq_true rfl, Nat.le_of_ble_eq_true rfl⟩ hE0.1 rfl rfl rfl dX7_wattsAsked_46 rfl (Nat.le_of_ble_eq_true rfl) ⟨Nat.le_of_ble_eq_true rfl, Nat.le_of_ble_eq_true rfl⟩ (fun v h9 hp => ?_)
        obtain ⟨rfl, rfl⟩ := hp
        refine x_aload_n hE dX7_wattsAsked_49 rfl rfl ?_
        refine x_get hE hinX7 hB rfl 3 (by decide) (List.mem_of_getElem? (i := 4) rfl) rfl dX7_wattsAsked_50 ?_
        refine x_iload hE dX7_wattsAsked_53 rfl ?_
        refine x_callV (ci := 2) (st := [.int (levP ar L B c i), .int (ar 5 i), .int (askN ar L B GL c ph i)]) hE 1 (c_X2_greatestUnreleased G hl.1 hK (by omega : i < 16)) gX7_wattsAsked_X2_greatestUnreleased rfl rfl rfl (by decide +kernel) ⟨Nat.le_of_ble_eq_true rfl, Nat.le_of_ble_eq_true rfl⟩ hl.1.1 rfl rfl rfl dX7_wattsAsked_55 rfl (Nat.le_of_ble_eq_true rfl) ⟨Nat.le_of_ble_eq_true rfl, Nat.le_of_ble_eq_true rfl⟩ (fun v h9 hp => ?_)
        obtain ⟨rfl, rfl⟩ := hp
        refine x_ieq (y := (GL.foldl (grtG ar L B i) (nI 0))) (grtG_of hO hl.2 hG i) ?_
        refine x_max hE (List.mem_of_getElem? (i := 5) rfl) (List.mem_of_getElem? (i := 6) rfl) (List.mem_of_getElem? (i := 7) rfl) (List.mem_of_getElem? (i := 8) rfl) rfl (Nat.le_of_ble_eq_true rfl) (Nat.le_of_ble_eq_true rfl) ⟨Nat.le_refl _, Nat.le_refl _⟩ dX7_wattsAsked_58 ?_
        refine x_ieq (y := maxI (levP ar L B c i) (GL.foldl (grtG ar L B i) (nI 0))) (rfl) ?_
        refine x_imul hE dX7_wattsAsked_61 ?_
        refine x_iadd hE dX7_wattsAsked_62 ?_
        refine x_istore_n (L' := [some (.ref (ad 0)), some (.ref (ad (100 + 4 * c))), some (.int ph), some (.int ((askN ar L B GL c ph i) + ((ar 5 i) * (maxI (levP ar L B c i) (GL.foldl (grtG ar L B i) (nI 0)))))), some (.int (nI i)), some (.ref (ad (20 + i)))]) hE dX7_wattsAsked_63 rfl (Nat.le_of_ble_eq_true rfl) rfl ?_
        refine x_iinc (v := nI (i + 1)) (L' := [some (.ref (ad 0)), some (.ref (ad (100 + 4 * c))), some (.int ph), some (.int ((askN ar L B GL c ph i) + ((ar 5 i) * (maxI (levP ar L B c i) (GL.foldl (grtG ar L B i) (nI 0)))))), some (.int (nI (i + 1))), some (.ref (ad (20 + i)))]) hE dX7_wattsAsked_64 rfl (nI_1 _) rfl ?_
        refine x_goto (tgt := 5) hE dX7_wattsAsked_67 (by decide) ?_
        have e2 := ih (i + 1) (by omega) (by omega)
        rw [askN_y ⟨hi2, c34⟩] at e2
        refine x_forget (L' := [some (.ref (ad 0)), some (.ref (ad (100 + 4 * c))), some (.int ph), some (.int ((askN ar L B GL c ph i) + ((ar 5 i) * (maxI (levP ar L B c i) (GL.foldl (grtG ar L B i) (nI 0)))))), some (.int (nI (i + 1))), none]) (And.intro rfl (And.intro rfl (And.intro rfl (And.intro rfl (And.intro rfl trivial))))) ?_
        exact e2
    · refine x_qnull ((lampF_sel (by omega) (by decide)).trans (lampF_out hi2)) ?_
      refine x_astore (L' := [some (.ref (ad 0)), some (.ref (ad (100 + 4 * c))), some (.int ph), some (.int (askN ar L B GL c ph i)), some (.int (nI i)), some (.null)]) hE dX7_wattsAsked_21 (Nat.le_of_ble_eq_true rfl) rfl rfl ?_
      refine x_aload hE dX7_wattsAsked_23 rfl rfl ?_
      refine x_ifnullN (tgt := 64) hE dX7_wattsAsked_25 (by decide) ?_
      have e1 : askN ar L B GL c ph (i + 1) = askN ar L B GL c ph i := askN_n (fun z => absurd z.1 (by omega))
      refine x_iinc (v := nI (i + 1)) (L' := [some (.ref (ad 0)), some (.ref (ad (100 + 4 * c))), some (.int ph), some (.int (askN ar L B GL c ph i)), some (.int (nI (i + 1))), some (.null)]) hE dX7_wattsAsked_64 rfl (nI_1 _) rfl ?_
      refine x_goto (tgt := 5) hE dX7_wattsAsked_67 (by decide) ?_
      have e2 := ih (i + 1) (by omega) (by omega)
      rw [e1] at e2
      refine x_forget (L' := [some (.ref (ad 0)), some (.ref (ad (100 + 4 * c))), some (.int ph), some (.int (askN ar L B GL c ph i)), some (.int (nI (i + 1))), none]) (And.intro rfl (And.intro rfl (And.intro rfl (And.intro rfl (And.intro rfl trivial))))) ?_
      exact e2

set_option maxHeartbeats 4000000 in
set_option maxRecDepth 100000 in
theorem c_X7_canGo (G : XG) {ad : Nat → Nat} {C t b : Nat} {h : HM} (hB : cB ad C t b h) {ow : Nat → Nat} {eA : Nat} {A1 P1 A2 P2 : List Nat} {ar : Nat → Nat → Int32} {L : Nat} {B : Int32} (hO : oW ad ow eA (A1 ++ P1) (A2 ++ P2) L C) (hR : riW G ad ar L B h) (hC : cuW G ad ar L B C h) {c1 : Nat → GC} {GL : List GG} (hl : liW G ad A1 P1 c1 GL h) (hG : ∀ g, g ∈ GL → g.1 < C) (hp : poW G ad ar h) {c : Nat} (hc : c < C) : x_M G yX7_canGo wsX7_canGo ({ frames := 4, cells := 0, slots := 0, locals := 91 } : Room) [.ref (ad 0), .ref (ad (100 + 4 * c))] h (x_is (some (.int (b2i (canP ar L B GL c)))) h) 0 0 := by
  refine x_M.of (cc := cX7_canGo) (maxL := 3) (ret := (some .boolean)) (ent := [some (.ref (ad 0)), some (.ref (ad (100 + 4 * c))), none]) (by decide +kernel) rfl (Nat.le_of_ble_eq_true rfl) rfl rfl ?_
  intro F hE hname
  have hinX7 : ∀ w ∈ wsX70, w ∈ wsX7_canGo := by decide +kernel
  have hE0 := hC.2.2 c hc
  refine x_iconst (v := nI 0) hE dX7_canGo_0 (by decide) ?_
  refine x_istore_n (L' := [some (.ref (ad 0)), some (.ref (ad (100 + 4 * c))), some (.int (nI 0))]) hE dX7_canGo_1 rfl (Nat.le_of_ble_eq_true rfl) rfl ?_
  refine x_down (N := 3) (P := fun i => (∀ j, j < i → askP ar L B GL c (nI j) ≤ ar 9 j) → x_W G F (x_Q G F (x_is (some (.int (b2i (canP ar L B GL c)))) h) 0 0) 0 0 h 2 [some (.ref (ad 0)), some (.ref (ad (100 + 4 * c))), some (.int (nI i))] []) (fun i hiN ih => ?_) 0 (by omega) (fun j hj => absurd hj (by omega))
  intro hy
  refine x_iload_n hE dX7_canGo_2 rfl ?_
  refine x_aload_n hE dX7_canGo_3 rfl rfl ?_
  refine x_get hE hinX7 hB rfl 2 (by decide) (List.mem_of_getElem? (i := 1) rfl) rfl dX7_canGo_4 ?_
  refine x_alen (t0 := 0) hE hp rfl dX7_canGo_7 ?_
  refine x_icmp_ge (tgt := 34) hE dX7_canGo_8 (by decide) (fun c8 => ?_) (fun c8 => ?_)
  · replace c8 := x_nIle c8 (by omega) (by omega)
    obtain rfl : i = 3 := by omega
    refine x_iconst (v := nI 1) hE dX7_canGo_34 (by decide) ?_
    exact x_zret hE (Or.inr rfl) dX7_canGo_35 (⟨x_zt (by have h0 := hy 0 (by omega); have h1 := hy 1 (by omega); have h2 := hy 2 (by omega); simp [canP, h0, h1, h2]), rfl⟩)
  · replace c8 := x_nInle c8 (by omega) (by omega)
    refine x_aload_n hE dX7_canGo_11 rfl rfl ?_
    refine x_aload_n hE dX7_canGo_12 rfl rfl ?_
    refine x_iload_n hE dX7_canGo_13 rfl ?_
    refine x_callV (ci := 7) (st := []) hE 2 (c_X7_wattsAsked G hB hO hR hC hl hG hc (nI i)) gX7_canGo_X7_wattsAsked rfl rfl rfl (by decide +kernel) ⟨Nat.le_of_ble_eq_true rfl, Nat.le_of_ble_eq_true rfl⟩ hB rfl rfl rfl dX7_canGo_14 rfl (Nat.le_of_ble_eq_true rfl) ⟨Nat.le_of_ble_eq_true rfl, Nat.le_of_ble_eq_true rfl⟩ (fun v h9 hp => ?_)
    obtain ⟨rfl, rfl⟩ := hp
    refine x_aload_n hE dX7_canGo_17 rfl rfl ?_
    refine x_get hE hinX7 hB rfl 2 (by decide) (List.mem_of_getElem? (i := 1) rfl) rfl dX7_canGo_18 ?_
    refine x_iload_n hE dX7_canGo_21 rfl ?_
    refine x_iald (v := ar 9 i) hE hp (vp_in_nI (by omega) (by decide)) ((x_atN _ (by omega)).trans (if_pos (by omega))) dX7_canGo_22 ?_
    refine x_icmp_le (tgt := 28) hE dX7_canGo_23 (by decide) (fun c23 => ?_) (fun c23 => ?_)
    · refine x_iinc (v := nI (i + 1)) (L' := [some (.ref (ad 0)), some (.ref (ad (100 + 4 * c))), some (.int (nI (i + 1)))]) hE dX7_canGo_28 rfl (nI_1 _) rfl ?_
      refine x_goto (tgt := 2) hE dX7_canGo_31 (by decide) ?_
      exact ih (i + 1) (by omega) (by omega) (fun j hj => (Nat.lt_or_ge j i).elim (fun z => hy j z) (fun z => by obtain rfl : j = i := (by omega); exact c23))
    · refine x_iconst (v := nI 0) hE dX7_canGo_26 (by decide) ?_
      exact x_zret hE (Or.inl rfl) dX7_canGo_27 (⟨x_zf (by rcases (show i = 0 ∨ i = 1 ∨ i = 2 by omega) with rfl | rfl | rfl <;> simp [canP, c23]), rfl⟩)
