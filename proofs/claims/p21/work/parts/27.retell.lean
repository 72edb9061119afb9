set_option maxHeartbeats 4000000 in
set_option maxRecDepth 100000 in
theorem c_X7_retell (G : XG) {ad ow : Nat → Nat} {eA : Nat} {A1 P1 : List Nat} {c1 : Nat → GC} {A2 P2 : List Nat} {c2 : Nat → GC} {RY : List Nat} {S : PS} {h : HM} (hW : cW G ad ow eA A1 P1 c1 A2 P2 c2 RY S h) (heI : eI (s_C S) (s_H S)) : x_M G yX7_retell wsX7_retell ({ frames := 4, cells := 0, slots := 0, locals := 88 } : Room) [.ref (ad 0)] h (fun v h' => v = none ∧ ∃ (A2' P2' : List Nat) (c2' : Nat → GC), cW G ad ow eA A1 P1 c1 A2' P2' c2' RY S h' ∧ A2'.map c2' = ((rtP (s_H S)).filter (fun g => !ovP (s_ar S) (s_t S) g)).map (embG ad)) 0 0 := by
  refine x_M.of (cc := cX7_retell) (maxL := 4) (ret := none) (ent := [some (.ref (ad 0)), none, none, none]) (by decide +kernel) rfl (Nat.le_of_ble_eq_true rfl) rfl rfl ?_
  intro F hE hname
  have hinX3 : ∀ w ∈ wsX30, w ∈ wsX7_retell := by decide +kernel
  have hinX7 : ∀ w ∈ wsX70, w ∈ wsX7_retell := by decide +kernel
  obtain ⟨hB, hR, hC, hp, hl, hr, hw, hI, hO⟩ := hW
  have hHl : (s_H S).length ≤ 122880 := Nat.le_trans hI.2.1 hI.2.2.2.1
  refine x_aload_n hE dX7_retell_0 rfl rfl ?_
  refine x_get hE hinX7 hB rfl 4 (by decide) (List.mem_of_getElem? (i := 1) rfl) rfl dX7_retell_1 ?_
  refine x_callV (ci := 2) (st := []) hE 0 (c_X2_clear G hr) gX7_retell_X2_clear rfl rfl rfl (by decide +kernel) ⟨Nat.le_of_ble_eq_true rfl, Nat.le_of_ble_eq_true rfl⟩ hr.1 rfl rfl rfl dX7_retell_4 rfl (Nat.le_of_ble_eq_true rfl) ⟨Nat.le_of_ble_eq_true rfl, Nat.le_of_ble_eq_true rfl⟩ (fun v h9 hp => ?_)
  obtain ⟨rfl, rfl⟩ := hp
  have f1 : frO ow [7, 8, 15] h (x_up h (ad 7) (.inr (2, [.ref (ad 8), .int (nI 0)]))) := (x_fr.refl h).up (by show ow (ad 7) ∈ _; rw [hO.1 7 (by decide)]; decide)
  refine x_iconst (v := nI 0) hE dX7_retell_7 (by decide) ?_
  refine x_istore_n (L' := [some (.ref (ad 0)), some (.int (nI 0)), none, none]) hE dX7_retell_8 rfl (Nat.le_of_ble_eq_true rfl) rfl ?_
  refine x_down (N := (s_H S).length) (P := fun i => ∀ (hi : HM) (A P : List Nat) (ct : Nat → GC), goW G (ad 7) (ad 8) A P ct hi → A.map ct = (((s_H S).take i).foldl rtStep []).map (embG ad) → (∀ z, z ∈ A ++ P → z ∈ A2 ++ P2) → gI (s_C S) (((s_H S).take i).foldl rtStep []) → frO ow [7, 8, 15] h hi → x_W G F (x_Q G F (fun v h' => v = none ∧ ∃ (A2' P2' : List Nat) (c2' : Nat → GC), cW G ad ow eA A1 P1 c1 A2' P2' c2' RY S h' ∧ A2'.map c2' = ((rtP (s_H S)).filter (fun g => !ovP (s_ar S) (s_t S) g)).map (embG ad)) 0 0) 0 0 hi 9 [some (.ref (ad 0)), some (.int (nI i)), none, none] []) (fun i hiN ih => ?_) 0 (by omega) _ [] (A2 ++ P2) c2 hr.clear rfl (fun z hz => hz) (gI_nil _) f1
  intro hi A P ct hri hAi hmi hgi fi
  have hBi := hB.fr hO fi (by decide)
  have hRi := hR.fr hO fi (by decide) (by decide) (fun i hi => by intro z; simp at z <;> omega)
  have hCi := hC.fr hO fi (by decide) (fun i hi => by intro z; simp at z <;> omega)
  have hpi := hp.fr hO fi (by decide)
  have hli := hl.fr hO fi (by decide) (by decide) (by decide)
  have hwi := hw.fr hO fi (by decide) (by decide) (by decide) (by decide)
  have hIi := hI.fr hO fi (by decide) (by decide)
  refine x_iload_n hE dX7_retell_9 rfl ?_
  refine x_aload_n hE dX7_retell_10 rfl rfl ?_
  refine x_get hE hinX7 hBi rfl 6 (by decide) (List.mem_of_getElem? (i := 2) rfl) rfl dX7_retell_11 ?_
  refine x_get hE hinX3 hIi.1 rfl 1 (by decide) (List.mem_of_getElem? (i := 3) rfl) rfl dX7_retell_14 ?_
  refine x_icmp_ge (tgt := 85) hE dX7_retell_17 (by decide) (fun c17 => ?_) (fun c17 => ?_)
  · replace c17 := x_nIle c17 (by omega) (by omega)
    obtain rfl : i = (s_H S).length := by omega
    rw [List.take_length] at hAi hgi
    have hK := goK_of (ar := s_ar S) (L := s_L S) (B := s_B S) hO hCi hAi hgi.2
    refine x_aload_n hE dX7_retell_85 rfl rfl ?_
    refine x_get hE hinX7 hBi rfl 4 (by decide) (List.mem_of_getElem? (i := 1) rfl) rfl dX7_retell_86 ?_
    refine x_aload_n hE dX7_retell_89 rfl rfl ?_
    refine x_get hE hinX7 hBi rfl 8 (by decide) (List.mem_of_getElem? (i := 4) rfl) rfl dX7_retell_90 ?_
    refine x_callV (ci := 2) (st := []) hE 1 (c_X2_dropOver G hri (now := nI (s_t S)) hK) gX7_retell_X2_dropOver rfl rfl rfl (by decide +kernel) ⟨Nat.le_of_ble_eq_true rfl, Nat.le_of_ble_eq_true rfl⟩ hri.1 rfl rfl rfl dX7_retell_93 rfl (Nat.le_of_ble_eq_true rfl) ⟨Nat.le_of_ble_eq_true rfl, Nat.le_of_ble_eq_true rfl⟩ (fun v h3 hp => ?_)
    obtain ⟨rfl, P3, hG3, hx3, hP3⟩ := hp
    have f3 : frO ow [7, 8] hi h3 := frO.of hx3 (fun q hq => by rcases hq with rfl | rfl <;> first | (rw [hO.1 7 (by decide)]; decide) | (rw [hO.1 8 (by decide)]; decide))
    have hB3 := hBi.fr hO f3 (by decide)
    have hR3 := hRi.fr hO f3 (by decide) (by decide) (fun i hi => by intro z; simp at z <;> omega)
    have hC3 := hCi.fr hO f3 (by decide) (fun i hi => by intro z; simp at z <;> omega)
    have hp3 := hpi.fr hO f3 (by decide)
    have hl3 := hli.fr hO f3 (by decide) (by decide) (by decide)
    have hw3 := hwi.fr hO f3 (by decide) (by decide) (by decide) (by decide)
    have hI3 := hIi.fr hO f3 (by decide) (by decide)
    have hO3 := oW.lists hO (fun x (hx : x ∈ A1 ++ P1) => hx) (fun x (hx : x ∈ (A.filter (fun x => !ovr ct (cuK ow (s_ar S) (s_L S) (s_B S)) (nI (s_t S)) x)) ++ P3) => hmi x ((List.mem_append.mp hx).elim (fun z => List.mem_append_left _ (List.mem_filter.mp z).1) (fun z => hP3 x z)))
    exact x_vret hE dX7_retell_96 ⟨rfl, _, P3, ct, ⟨hB3, hR3, hC3, hp3, hl3, hG3, hw3, hI3, hO3⟩, ovP_of hO hAi hgi.2 _⟩
  · replace c17 := x_nInle c17 (by omega) (by omega)
    obtain ⟨x, hx⟩ : ∃ x, (s_H S)[i]? = some x := ⟨_, List.getElem?_eq_getElem c17⟩
    have hxm := List.mem_of_getElem? hx
    obtain ⟨hxc, hxC, hxT⟩ := heI x hxm
    have hC12 := hC.2.1
    refine x_aload_n hE dX7_retell_20 rfl rfl ?_
    refine x_get hE hinX7 hBi rfl 6 (by decide) (List.mem_of_getElem? (i := 2) rfl) rfl dX7_retell_21 ?_
    refine x_iload_n hE dX7_retell_24 rfl ?_
    refine x_callV (ci := 3) (st := []) hE 1 (c_X3_entryAt G hIi hx) gX7_retell_X3_entryAt rfl rfl rfl (by decide +kernel) ⟨Nat.le_of_ble_eq_true rfl, Nat.le_of_ble_eq_true rfl⟩ hIi.1 rfl rfl rfl dX7_retell_25 rfl (Nat.le_of_ble_eq_true rfl) ⟨Nat.le_of_ble_eq_true rfl, Nat.le_of_ble_eq_true rfl⟩ (fun v h9 hp => ?_)
    obtain ⟨rfl, rfl⟩ := hp
    refine x_istore_n (L' := [some (.ref (ad 0)), some (.int (nI i)), some (.int x), none]) hE dX7_retell_28 rfl (Nat.le_of_ble_eq_true rfl) rfl ?_
    refine x_aload_n hE dX7_retell_29 rfl rfl ?_
    refine x_iload_n hE dX7_retell_30 rfl ?_
    refine x_callS (st := [.ref (ad 0)]) hE 1 (c_X3_cueOf G x) gX7_retell_X3_cueOf rfl rfl rfl (by decide +kernel) ⟨Nat.le_of_ble_eq_true rfl, Nat.le_of_ble_eq_true rfl⟩ rfl rfl dX7_retell_31 rfl (Nat.le_of_ble_eq_true rfl) ⟨Nat.le_of_ble_eq_true rfl, Nat.le_of_ble_eq_true rfl⟩ (fun v h9 hp => ?_)
    obtain ⟨rfl, rfl⟩ := hp
    refine x_callV (ci := 7) (st := []) hE 1 (c_X7_cueAt G hBi hCi.1 (eCue x)) gX7_retell_X7_cueAt rfl rfl rfl (by decide +kernel) ⟨Nat.le_of_ble_eq_true rfl, Nat.le_of_ble_eq_true rfl⟩ hBi rfl rfl rfl dX7_retell_34 rfl (Nat.le_of_ble_eq_true rfl) ⟨Nat.le_of_ble_eq_true rfl, Nat.le_of_ble_eq_true rfl⟩ (fun v h9 hp => ?_)
    obtain ⟨rfl, rfl⟩ := hp
    refine x_qref (q := (ad (100 + 4 * eC x))) (by rw [hxC, x_selN (by omega) (by decide)]; exact lampF_in hxc) ?_
    refine x_astore_n (L' := [some (.ref (ad 0)), some (.int (nI i)), some (.int x), some (.ref (ad (100 + 4 * eC x)))]) hE dX7_retell_37 rfl (Nat.le_of_ble_eq_true rfl) rfl rfl ?_
    refine x_aload_n hE dX7_retell_38 rfl rfl ?_
    refine x_ifnonnull (tgt := 45) hE dX7_retell_39 (by decide) ?_
    refine x_iload_n hE dX7_retell_45 rfl ?_
    refine x_callS (st := []) hE 1 (c_X3_isRelease G x) gX7_retell_X3_isRelease rfl rfl rfl (by decide +kernel) ⟨Nat.le_of_ble_eq_true rfl, Nat.le_of_ble_eq_true rfl⟩ rfl rfl dX7_retell_46 rfl (Nat.le_of_ble_eq_true rfl) ⟨Nat.le_of_ble_eq_true rfl, Nat.le_of_ble_eq_true rfl⟩ (fun v h9 hp => ?_)
    obtain ⟨rfl, rfl⟩ := hp
    refine x_if_eq (tgt := 67) hE dX7_retell_49 (by decide) (fun c49 => ?_) (fun c49 => ?_)
    · have e1 : rtStep (((s_H S).take i).foldl rtStep []) x = gBeg (eC x) (eT x) (((s_H S).take i).foldl rtStep []) := by unfold rtStep; rw [if_neg (by rw [b2i_0.mp c49]; decide)]
      refine x_aload_n hE dX7_retell_67 rfl rfl ?_
      refine x_get hE hinX7 hBi rfl 4 (by decide) (List.mem_of_getElem? (i := 1) rfl) rfl dX7_retell_68 ?_
      refine x_aload_n hE dX7_retell_71 rfl rfl ?_
      refine x_iload_n hE dX7_retell_72 rfl ?_
      refine x_callS (st := [.ref (ad (100 + 4 * eC x)), .ref (ad 7)]) hE 1 (c_X3_tickOf G x) gX7_retell_X3_tickOf rfl rfl rfl (by decide +kernel) ⟨Nat.le_of_ble_eq_true rfl, Nat.le_of_ble_eq_true rfl⟩ rfl rfl dX7_retell_73 rfl (Nat.le_of_ble_eq_true rfl) ⟨Nat.le_of_ble_eq_true rfl, Nat.le_of_ble_eq_true rfl⟩ (fun v h9 hp => ?_)
      obtain ⟨rfl, rfl⟩ := hp
      refine x_ieq (y := nI (eT x)) (hxT) ?_
      refine x_callV (ci := 2) (st := []) hE 2 (c_X2_begin G hri (now := nI (eT x)) (fun z => beg_cap (ow := ow) (Q1 := A1 ++ P1) (Q2 := A2 ++ P2) (eA := eA) (L := s_L S) hAi hgi hxc hC12 z)) gX7_retell_X2_begin rfl rfl rfl (by decide +kernel) ⟨Nat.le_of_ble_eq_true rfl, Nat.le_of_ble_eq_true rfl⟩ hri.1 rfl rfl rfl dX7_retell_76 rfl (Nat.le_of_ble_eq_true rfl) ⟨Nat.le_of_ble_eq_true rfl, Nat.le_of_ble_eq_true rfl⟩ (fun v h3 hp => ?_)
      obtain ⟨rfl, A3, P3, y, hW3, hx3, hbg⟩ := hp
      have f3 : frO ow [7, 8, 15] hi h3 := frO.of hx3 (fun q hq => by rcases hq with rfl | rfl | hq <;> first | (rw [hO.1 7 (by decide)]; decide) | (rw [hO.1 8 (by decide)]; decide) | (rw [hO.2.2.2.2.2 q (hmi q hq)]; decide))
      have es : rtStep (((s_H S).take i).foldl rtStep []) x = ((s_H S).take (i + 1)).foldl rtStep [] := (take_s rtStep [] hx).symm
      refine x_iinc (v := nI (i + 1)) (L' := [some (.ref (ad 0)), some (.int (nI (i + 1))), some (.int x), some (.ref (ad (100 + 4 * eC x)))]) hE dX7_retell_79 rfl (nI_1 _) rfl ?_
      refine x_goto (tgt := 9) hE dX7_retell_82 (by decide) ?_
      refine x_forget (L' := [some (.ref (ad 0)), some (.int (nI (i + 1))), none, none]) (And.intro rfl (And.intro rfl trivial)) ?_
      exact ih (i + 1) (by omega) (by omega) _ A3 P3 _ hW3 (by rw [← es]; exact (by rw [e1]; exact beg_map hO hAi hgi hxc hri.2.2.2.1 hbg)) (fun z hz => hmi z (hbg.mem z hz)) (by rw [← es]; exact rtStep_I hgi hxc) (fi.trans f3)
    · have e1 : rtStep (((s_H S).take i).foldl rtStep []) x = fallG (eC x) (eT x) (((s_H S).take i).foldl rtStep []) := by unfold rtStep; rw [if_pos (b2i_n0.mp c49)]
      refine x_aload_n hE dX7_retell_52 rfl rfl ?_
      refine x_get hE hinX7 hBi rfl 4 (by decide) (List.mem_of_getElem? (i := 1) rfl) rfl dX7_retell_53 ?_
      refine x_aload_n hE dX7_retell_56 rfl rfl ?_
      refine x_iload_n hE dX7_retell_57 rfl ?_
      refine x_callS (st := [.ref (ad (100 + 4 * eC x)), .ref (ad 7)]) hE 1 (c_X3_tickOf G x) gX7_retell_X3_tickOf rfl rfl rfl (by decide +kernel) ⟨Nat.le_of_ble_eq_true rfl, Nat.le_of_ble_eq_true rfl⟩ rfl rfl dX7_retell_58 rfl (Nat.le_of_ble_eq_true rfl) ⟨Nat.le_of_ble_eq_true rfl, Nat.le_of_ble_eq_true rfl⟩ (fun v h9 hp => ?_)
      obtain ⟨rfl, rfl⟩ := hp
      refine x_ieq (y := nI (eT x)) (hxT) ?_
      refine x_callV (ci := 2) (st := []) hE 2 (c_X2_fall G hri (now := nI (eT x))) gX7_retell_X2_fall rfl rfl rfl (by decide +kernel) ⟨Nat.le_of_ble_eq_true rfl, Nat.le_of_ble_eq_true rfl⟩ hri.1 rfl rfl rfl dX7_retell_61 rfl (Nat.le_of_ble_eq_true rfl) ⟨Nat.le_of_ble_eq_true rfl, Nat.le_of_ble_eq_true rfl⟩ (fun v h3 hp => ?_)
      obtain ⟨rfl, hor⟩ := hp
      rcases hor with ⟨hno, hz⟩ | ⟨k, y, hk, hy, hz⟩
      · subst hz
        have es : rtStep (((s_H S).take i).foldl rtStep []) x = ((s_H S).take (i + 1)).foldl rtStep [] := (take_s rtStep [] hx).symm
        refine x_goto (tgt := 79) hE dX7_retell_64 (by decide) ?_
        refine x_iinc (v := nI (i + 1)) (L' := [some (.ref (ad 0)), some (.int (nI (i + 1))), some (.int x), some (.ref (ad (100 + 4 * eC x)))]) hE dX7_retell_79 rfl (nI_1 _) rfl ?_
        refine x_goto (tgt := 9) hE dX7_retell_82 (by decide) ?_
        refine x_forget (L' := [some (.ref (ad 0)), some (.int (nI (i + 1))), none, none]) (And.intro rfl (And.intro rfl trivial)) ?_
        exact ih (i + 1) (by omega) (by omega) _ A P ct hri (by rw [← es]; exact (by rw [e1, fall_none hAi hno]; exact hAi)) hmi (by rw [← es]; exact rtStep_I hgi hxc) fi
      · subst hz
        have hyA := List.mem_append_left P (List.mem_of_getElem? hk)
        have f3 : frO ow [7, 8, 15] hi (x_up hi y (goE ((ct y).1, (ct y).2.1, nI (eT x)))) := (x_fr.refl hi).up (by show ow y ∈ _; rw [hO.2.2.2.2.2 y (hmi y hyA)]; decide)
        have es : rtStep (((s_H S).take i).foldl rtStep []) x = ((s_H S).take (i + 1)).foldl rtStep [] := (take_s rtStep [] hx).symm
        refine x_goto (tgt := 79) hE dX7_retell_64 (by decide) ?_
        refine x_iinc (v := nI (i + 1)) (L' := [some (.ref (ad 0)), some (.int (nI (i + 1))), some (.int x), some (.ref (ad (100 + 4 * eC x)))]) hE dX7_retell_79 rfl (nI_1 _) rfl ?_
        refine x_goto (tgt := 9) hE dX7_retell_82 (by decide) ?_
        refine x_forget (L' := [some (.ref (ad 0)), some (.int (nI (i + 1))), none, none]) (And.intro rfl (And.intro rfl trivial)) ?_
        exact ih (i + 1) (by omega) (by omega) _ A P _ (hri.put hyA _) (by rw [← es]; exact (by rw [e1]; exact fall_map hO hAi hgi hxc (List.nodup_append.mp hri.2.2.2.1).1 hk hy)) hmi (by rw [← es]; exact rtStep_I hgi hxc) (fi.trans f3)
