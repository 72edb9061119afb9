set_option maxHeartbeats 4000000 in
set_option maxRecDepth 100000 in
theorem c_L_go (G : XG) {xa oa : Nat} {S : PS} {hC : HM} {u : Nat → Int64} (hb : bW G xa S hC) (hd : dj hC (oM G oa u)) {k : Nat} (hI : iI S k) (hk : k ≤ 511) (c : Int32) : y_M G yL_go wsL_go ({ frames := 7, cells := s_n (iff0 (fGo S c) (begP c.toNatClampNeg S) S) - s_n S + 4, slots := 3 * (s_n (iff0 (fGo S c) (begP c.toNatClampNeg S) S) - s_n S) + 57, locals := 135 } : Room) [.ref xa, .int c, .ref oa] (jn hC (oM G oa u)) (wP G xa oa (fGo S c) ((nI (s_G (begP c.toNatClampNeg S)).length).toInt64) (iff0 (fGo S c) (begP c.toNatClampNeg S) S)) (fun _ => False) (s_n (iff0 (fGo S c) (begP c.toNatClampNeg S) S) - s_n S + 4) (3 * (s_n (iff0 (fGo S c) (begP c.toNatClampNeg S) S) - s_n S) + 57) := by
  refine y_M.ofH (cc := cL_go) (maxL := 4) (ret := (some .int)) (hh := [(0, 9, 12, 21), (0, 9, 15, 15)]) (ent := [some (.ref xa), some (.int c), some (.ref oa), none]) (by decide +kernel) rfl (Nat.le_of_ble_eq_true rfl) rfl rfl ?_
  intro F hE hname hT hX
  obtain ⟨ad, ow, eA, A1, P1, c1, A2, P2, c2, RY, rfl, hW⟩ := hb
  refine x_aload_n hE dL_go_0 rfl rfl ?_
  refine x_iconst (v := nI 0) hE dL_go_1 (by decide) ?_
  refine x_aload_n hE dL_go_2 rfl rfl ?_
  refine x_iload_n hE dL_go_3 rfl ?_
  have hB := hW.1
  have hcm : ∀ A : Nat → Prop, y_M (reG G A) yX7_go wsX7_go ({ frames := 6, cells := s_n (goS c S) - s_n S + 1, slots := 3 * (s_n (goS c S) - s_n S) + 6, locals := 113 } : Room) ([.ref (ad 0), .int c]) hC (fun v h' => fGo S c = 0 ∧ v = some (.int (nI (s_G (goS c S)).length)) ∧ ∃ (ow' : Nat → Nat) (eA' : Nat) (A1' P1' : List Nat) (c1' : Nat → GC), cW G ad ow' eA' A1' P1' c1' A2 P2 c2 RY (goS c S) h') (fun E => (fGo S c = 1 ∧ E = xIO) ∨ (fGo S c = 2 ∧ E = xIS)) (s_n (goS c S) - s_n S + 1) (3 * (s_n (goS c S) - s_n S) + 6) := fun A => c_X7_go (reG G A) hW (hI.bI hk) c
  have hs1 : ((s_n (goS c S) - s_n S + 1)) ≤ s_n (iff0 (fGo S c) (begP c.toNatClampNeg S) S) - s_n S + 4 := by rw [show iff0 (fGo S c) (begP c.toNatClampNeg S) S = goS c S from rfl]; omega
  have hs2 : ((3 * (s_n (goS c S) - s_n S) + 6)) ≤ 3 * (s_n (iff0 (fGo S c) (begP c.toNatClampNeg S) S) - s_n S) + 57 := by rw [show iff0 (fGo S c) (begP c.toNatClampNeg S) S = goS c S from rfl]; omega
  refine z_callY (ci := 7) (st := [.int (nI 0), .ref oa]) hE hT 1 hcm hd gL_go_X7_go rfl rfl rfl (by decide +kernel) ⟨(Nat.le_of_ble_eq_true rfl), (Nat.le_of_ble_eq_true rfl)⟩ hB rfl rfl rfl dL_go_4 rfl (Nat.le_of_ble_eq_true rfl) ⟨by show 0 + ((s_n (goS c S) - s_n S + 1)) ≤ s_n (iff0 (fGo S c) (begP c.toNatClampNeg S) S) - s_n S + 4; omega, by show 0 + ((3 * (s_n (goS c S) - s_n S) + 6)) ≤ 3 * (s_n (iff0 (fGo S c) (begP c.toNatClampNeg S) S) - s_n S) + 57; omega⟩ (fun v h9 hp d9 => ?_) (fun E hE9 => ?_)
  · obtain ⟨hf, rfl, ow9, eA9, A19, P19, c19, hW9⟩ := hp
    refine x_widen (k := s_n (iff0 (fGo S c) (begP c.toNatClampNeg S) S) - s_n S + 4) (n := 3 * (s_n (iff0 (fGo S c) (begP c.toNatClampNeg S) S) - s_n S) + 57) (by omega) (by omega) ?_
    have eg : goS c S = begP c.toNatClampNeg S := if_pos hf
    refine x_ieq (y := nI (s_G (begP c.toNatClampNeg S)).length) (by rw [eg]) ?_
    refine x_i2l hE dL_go_7 ?_
    refine x_last (f' := vp_updL u 0 ((nI (s_G (begP c.toNatClampNeg S)).length).toInt64)) hE (jn_r d9 oM_at) zin0 (by rw [zcl0]) dL_go_8 ?_
    refine x_heq (oM_up d9) ?_
    refine x_goto (tgt := 18) hE dL_go_9 (by decide) ?_
    refine x_iconst (v := nI 0) hE dL_go_18 (by decide) ?_
    exact y_ret (x_iret hE dL_go_19 (⟨by rw [hf], h9, _, rfl, oM_dj d9, by rw [iff0_p hf]; exact ⟨ad, ow9, eA9, A19, P19, c19, A2, P2, c2, RY, rfl, (by rw [eg] at hW9; exact hW9)⟩, fun _ => if_pos rfl⟩))
  · rcases hE9 with ⟨hf, rfl⟩ | ⟨hf, rfl⟩
    · refine z_catch hE [] ⟨0, 9, 12, 21⟩ [⟨0, 9, 15, 15⟩] (hX.trans rfl) (fun z hz => absurd hz (by simp)) (by decide +kernel) (by decide) (List.mem_of_getElem? (i := 1) rfl) hT.2.1.1 (fun q9 => ?_)
      refine x_widen (k := s_n (iff0 (fGo S c) (begP c.toNatClampNeg S) S) - s_n S + 4) (n := 3 * (s_n (iff0 (fGo S c) (begP c.toNatClampNeg S) S) - s_n S) + 57) (by omega) (by omega) ?_
      refine x_astore_n (L' := [some (.ref (ad 0)), some (.int c), some (.ref oa), some (.ref q9)]) hE dL_go_12 rfl (Nat.le_of_ble_eq_true rfl) rfl rfl ?_
      refine x_iconst (v := nI 1) hE dL_go_13 (by decide) ?_
      exact y_ret (x_iret hE dL_go_14 (⟨by rw [hf], hC, u, rfl, hd, by rw [iff0_n (by rw [hf]; decide)]; exact ⟨ad, ow, eA, A1, P1, c1, A2, P2, c2, RY, rfl, hW⟩, fun z => absurd (hf.symm.trans z) (by decide)⟩))
    · refine z_catch hE [(⟨0, 9, 12, 21⟩ : ExceptionTableEntry)] ⟨0, 9, 15, 15⟩ [] (hX.trans rfl) (fun z hz => by rw [List.mem_singleton.mp hz]; exact Or.inr ⟨(by decide : 21 ≠ 0), _, (List.mem_of_getElem? (i := 1) rfl), hT.2.2.1.2.2.2.1⟩) (by decide +kernel) (by decide) (List.mem_of_getElem? (i := 2) rfl) hT.2.1.2.2 (fun q9 => ?_)
      refine x_widen (k := s_n (iff0 (fGo S c) (begP c.toNatClampNeg S) S) - s_n S + 4) (n := 3 * (s_n (iff0 (fGo S c) (begP c.toNatClampNeg S) S) - s_n S) + 57) (by omega) (by omega) ?_
      refine x_astore_n (L' := [some (.ref (ad 0)), some (.int c), some (.ref oa), some (.ref q9)]) hE dL_go_15 rfl (Nat.le_of_ble_eq_true rfl) rfl rfl ?_
      refine x_iconst (v := nI 2) hE dL_go_16 (by decide) ?_
      exact y_ret (x_iret hE dL_go_17 (⟨by rw [hf], hC, u, rfl, hd, by rw [iff0_n (by rw [hf]; decide)]; exact ⟨ad, ow, eA, A1, P1, c1, A2, P2, c2, RY, rfl, hW⟩, fun z => absurd (hf.symm.trans z) (by decide)⟩))
set_option maxHeartbeats 4000000 in
set_option maxRecDepth 100000 in
theorem c_L_release (G : XG) {xa oa : Nat} {S : PS} {hC : HM} {u : Nat → Int64} (hb : bW G xa S hC) (hd : dj hC (oM G oa u)) {k : Nat} (hI : iI S k) (hk : k ≤ 511) (c : Int32) : y_M G yL_release wsL_release ({ frames := 7, cells := s_n (iff0 (fRel S c) (relP c.toNatClampNeg S) S) - s_n S + 4, slots := 3 * (s_n (iff0 (fRel S c) (relP c.toNatClampNeg S) S) - s_n S) + 57, locals := 113 } : Room) [.ref xa, .int c, .ref oa] (jn hC (oM G oa u)) (wP G xa oa (fRel S c) (bL (b2i (goF (s_G (relP c.toNatClampNeg S)) c.toNatClampNeg).isSome)) (iff0 (fRel S c) (relP c.toNatClampNeg S) S)) (fun _ => False) (s_n (iff0 (fRel S c) (relP c.toNatClampNeg S) S) - s_n S + 4) (3 * (s_n (iff0 (fRel S c) (relP c.toNatClampNeg S) S) - s_n S) + 57) := by
  refine y_M.ofH (cc := cL_release) (maxL := 4) (ret := (some .int)) (hh := [(0, 16, 19, 21), (0, 16, 22, 15)]) (ent := [some (.ref xa), some (.int c), some (.ref oa), none]) (by decide +kernel) rfl (Nat.le_of_ble_eq_true rfl) rfl rfl ?_
  intro F hE hname hT hX
  obtain ⟨ad, ow, eA, A1, P1, c1, A2, P2, c2, RY, rfl, hW⟩ := hb
  refine x_aload_n hE dL_release_0 rfl rfl ?_
  refine x_iconst (v := nI 0) hE dL_release_1 (by decide) ?_
  refine x_aload_n hE dL_release_2 rfl rfl ?_
  refine x_iload_n hE dL_release_3 rfl ?_
  have hB := hW.1
  have hcm : ∀ A : Nat → Prop, y_M (reG G A) yX7_release wsX7_release ({ frames := 6, cells := s_n (relS c S) - s_n S + 1, slots := 3 * (s_n (relS c S) - s_n S) + 6, locals := 90 } : Room) ([.ref (ad 0), .int c]) hC (fun v h' => fRel S c = 0 ∧ v = some (.int (b2i (goF (s_G (relS c S)) c.toNatClampNeg).isSome)) ∧ ∃ (ow' : Nat → Nat) (eA' : Nat) (A1' P1' : List Nat) (c1' : Nat → GC), cW G ad ow' eA' A1' P1' c1' A2 P2 c2 RY (relS c S) h') (fun E => (fRel S c = 1 ∧ E = xIO) ∨ (fRel S c = 2 ∧ E = xIS)) (s_n (relS c S) - s_n S + 1) (3 * (s_n (relS c S) - s_n S) + 6) := fun A => c_X7_release (reG G A) hW hI.1.1.2.2.2.1 (by have := hI.2.2.2; omega) hI.1.2.2.2.2.2.2.1 c
  have hs1 : ((s_n (relS c S) - s_n S + 1)) ≤ s_n (iff0 (fRel S c) (relP c.toNatClampNeg S) S) - s_n S + 4 := by rw [show iff0 (fRel S c) (relP c.toNatClampNeg S) S = relS c S from rfl]; omega
  have hs2 : ((3 * (s_n (relS c S) - s_n S) + 6)) ≤ 3 * (s_n (iff0 (fRel S c) (relP c.toNatClampNeg S) S) - s_n S) + 57 := by rw [show iff0 (fRel S c) (relP c.toNatClampNeg S) S = relS c S from rfl]; omega
  refine z_callY (ci := 7) (st := [.int (nI 0), .ref oa]) hE hT 1 hcm hd gL_release_X7_release rfl rfl rfl (by decide +kernel) ⟨(Nat.le_of_ble_eq_true rfl), (Nat.le_of_ble_eq_true rfl)⟩ hB rfl rfl rfl dL_release_4 rfl (Nat.le_of_ble_eq_true rfl) ⟨by show 0 + ((s_n (relS c S) - s_n S + 1)) ≤ s_n (iff0 (fRel S c) (relP c.toNatClampNeg S) S) - s_n S + 4; omega, by show 0 + ((3 * (s_n (relS c S) - s_n S) + 6)) ≤ 3 * (s_n (iff0 (fRel S c) (relP c.toNatClampNeg S) S) - s_n S) + 57; omega⟩ (fun v h9 hp d9 => ?_) (fun E hE9 => ?_)
  · obtain ⟨hf, rfl, ow9, eA9, A19, P19, c19, hW9⟩ := hp
    refine x_widen (k := s_n (iff0 (fRel S c) (relP c.toNatClampNeg S) S) - s_n S + 4) (n := 3 * (s_n (iff0 (fRel S c) (relP c.toNatClampNeg S) S) - s_n S) + 57) (by omega) (by omega) ?_
    have eg : relS c S = relP c.toNatClampNeg S := if_pos hf
    refine x_ieq (y := b2i (goF (s_G (relP c.toNatClampNeg S)) c.toNatClampNeg).isSome) (by rw [eg]) ?_
    refine x_if_eq (tgt := 14) hE dL_release_7 (by decide) (fun c7 => ?_) (fun c7 => ?_)
    · have ez : (b2i (goF (s_G (relP c.toNatClampNeg S)) c.toNatClampNeg).isSome) = 0 := c7
      refine x_lconst (v := 0) hE dL_release_14 (by decide) ?_
      refine x_last (f' := vp_updL u 0 (0)) hE (jn_r d9 oM_at) zin0 (by rw [zcl0]) dL_release_15 ?_
      refine x_heq (oM_up d9) ?_
      refine x_goto (tgt := 25) hE dL_release_16 (by decide) ?_
      refine x_iconst (v := nI 0) hE dL_release_25 (by decide) ?_
      exact y_ret (x_iret hE dL_release_26 (⟨by rw [hf], h9, _, rfl, oM_dj d9, by rw [iff0_p hf]; exact ⟨ad, ow9, eA9, A19, P19, c19, A2, P2, c2, RY, rfl, (by rw [eg] at hW9; exact hW9)⟩, fun _ => (show (0 : Int64) = _ by unfold bL; rw [if_pos ez])⟩))
    · have ez : ¬ (b2i (goF (s_G (relP c.toNatClampNeg S)) c.toNatClampNeg).isSome) = 0 := c7
      refine x_lconst (v := 1) hE dL_release_10 (by decide) ?_
      refine x_goto (tgt := 15) hE dL_release_11 (by decide) ?_
      refine x_last (f' := vp_updL u 0 (1)) hE (jn_r d9 oM_at) zin0 (by rw [zcl0]) dL_release_15 ?_
      refine x_heq (oM_up d9) ?_
      refine x_goto (tgt := 25) hE dL_release_16 (by decide) ?_
      refine x_iconst (v := nI 0) hE dL_release_25 (by decide) ?_
      exact y_ret (x_iret hE dL_release_26 (⟨by rw [hf], h9, _, rfl, oM_dj d9, by rw [iff0_p hf]; exact ⟨ad, ow9, eA9, A19, P19, c19, A2, P2, c2, RY, rfl, (by rw [eg] at hW9; exact hW9)⟩, fun _ => (show (1 : Int64) = _ by unfold bL; rw [if_neg ez])⟩))
  · rcases hE9 with ⟨hf, rfl⟩ | ⟨hf, rfl⟩
    · refine z_catch hE [] ⟨0, 16, 19, 21⟩ [⟨0, 16, 22, 15⟩] (hX.trans rfl) (fun z hz => absurd hz (by simp)) (by decide +kernel) (by decide) (List.mem_of_getElem? (i := 1) rfl) hT.2.1.1 (fun q9 => ?_)
      refine x_widen (k := s_n (iff0 (fRel S c) (relP c.toNatClampNeg S) S) - s_n S + 4) (n := 3 * (s_n (iff0 (fRel S c) (relP c.toNatClampNeg S) S) - s_n S) + 57) (by omega) (by omega) ?_
      refine x_astore_n (L' := [some (.ref (ad 0)), some (.int c), some (.ref oa), some (.ref q9)]) hE dL_release_19 rfl (Nat.le_of_ble_eq_true rfl) rfl rfl ?_
      refine x_iconst (v := nI 1) hE dL_release_20 (by decide) ?_
      exact y_ret (x_iret hE dL_release_21 (⟨by rw [hf], hC, u, rfl, hd, by rw [iff0_n (by rw [hf]; decide)]; exact ⟨ad, ow, eA, A1, P1, c1, A2, P2, c2, RY, rfl, hW⟩, fun z => absurd (hf.symm.trans z) (by decide)⟩))
    · refine z_catch hE [(⟨0, 16, 19, 21⟩ : ExceptionTableEntry)] ⟨0, 16, 22, 15⟩ [] (hX.trans rfl) (fun z hz => by rw [List.mem_singleton.mp hz]; exact Or.inr ⟨(by decide : 21 ≠ 0), _, (List.mem_of_getElem? (i := 1) rfl), hT.2.2.1.2.2.2.1⟩) (by decide +kernel) (by decide) (List.mem_of_getElem? (i := 2) rfl) hT.2.1.2.2 (fun q9 => ?_)
      refine x_widen (k := s_n (iff0 (fRel S c) (relP c.toNatClampNeg S) S) - s_n S + 4) (n := 3 * (s_n (iff0 (fRel S c) (relP c.toNatClampNeg S) S) - s_n S) + 57) (by omega) (by omega) ?_
      refine x_astore_n (L' := [some (.ref (ad 0)), some (.int c), some (.ref oa), some (.ref q9)]) hE dL_release_22 rfl (Nat.le_of_ble_eq_true rfl) rfl rfl ?_
      refine x_iconst (v := nI 2) hE dL_release_23 (by decide) ?_
      exact y_ret (x_iret hE dL_release_24 (⟨by rw [hf], hC, u, rfl, hd, by rw [iff0_n (by rw [hf]; decide)]; exact ⟨ad, ow, eA, A1, P1, c1, A2, P2, c2, RY, rfl, hW⟩, fun z => absurd (hf.symm.trans z) (by decide)⟩))
set_option maxHeartbeats 4000000 in
set_option maxRecDepth 100000 in
theorem c_L_pass (G : XG) {xa oa : Nat} {S : PS} {hC : HM} {u : Nat → Int64} (hb : bW G xa S hC) (hd : dj hC (oM G oa u)) {k : Nat} (hI : iI S k) (hk : k ≤ 511) (x : Int32) : y_M G yL_pass wsL_pass ({ frames := 7, cells := s_n (iff0 (fPass x) (passK S x.toNatClampNeg) S) - s_n S + 4, slots := 3 * (s_n (iff0 (fPass x) (passK S x.toNatClampNeg) S) - s_n S) + 57, locals := 157 } : Room) [.ref xa, .int x, .ref oa] (jn hC (oM G oa u)) (wP G xa oa (fPass x) ((nI (s_t (passK S x.toNatClampNeg))).toInt64) (iff0 (fPass x) (passK S x.toNatClampNeg) S)) (fun _ => False) (s_n (iff0 (fPass x) (passK S x.toNatClampNeg) S) - s_n S + 4) (3 * (s_n (iff0 (fPass x) (passK S x.toNatClampNeg) S) - s_n S) + 57) := by
  refine y_M.ofH (cc := cL_pass) (maxL := 4) (ret := (some .int)) (hh := [(0, 9, 12, 13)]) (ent := [some (.ref xa), some (.int x), some (.ref oa), none]) (by decide +kernel) rfl (Nat.le_of_ble_eq_true rfl) rfl rfl ?_
  intro F hE hname hT hX
  obtain ⟨ad, ow, eA, A1, P1, c1, A2, P2, c2, RY, rfl, hW⟩ := hb
  refine x_aload_n hE dL_pass_0 rfl rfl ?_
  refine x_iconst (v := nI 0) hE dL_pass_1 (by decide) ?_
  refine x_aload_n hE dL_pass_2 rfl rfl ?_
  refine x_iload_n hE dL_pass_3 rfl ?_
  have hB := hW.1
  have hcm : ∀ A : Nat → Prop, y_M (reG G A) yX7_pass wsX7_pass ({ frames := 6, cells := s_n (passS x S) - s_n S + 1, slots := 3 * (s_n (passS x S) - s_n S) + 6, locals := 135 } : Room) ([.ref (ad 0), .int x]) hC (fun v h' => fPass x = 0 ∧ v = some (.int (nI (s_t (passS x S)))) ∧ ∃ (ow' : Nat → Nat) (eA' : Nat) (A1' P1' : List Nat) (c1' : Nat → GC) (RY' : List Nat), cW G ad ow' eA' A1' P1' c1' A2 P2 c2 RY' (passS x S) h') (fun E => fPass x = 1 ∧ E = xIA) (s_n (passS x S) - s_n S + 1) (3 * (s_n (passS x S) - s_n S) + 6) := fun A => c_X7_pass (reG G A) hW (fun j hj => (iI_pI hI hk j hj).1) x
  have hs1 : ((s_n (passS x S) - s_n S + 1)) ≤ s_n (iff0 (fPass x) (passK S x.toNatClampNeg) S) - s_n S + 4 := by rw [show iff0 (fPass x) (passK S x.toNatClampNeg) S = passS x S from rfl]; omega
  have hs2 : ((3 * (s_n (passS x S) - s_n S) + 6)) ≤ 3 * (s_n (iff0 (fPass x) (passK S x.toNatClampNeg) S) - s_n S) + 57 := by rw [show iff0 (fPass x) (passK S x.toNatClampNeg) S = passS x S from rfl]; omega
  refine z_callY (ci := 7) (st := [.int (nI 0), .ref oa]) hE hT 1 hcm hd gL_pass_X7_pass rfl rfl rfl (by decide +kernel) ⟨(Nat.le_of_ble_eq_true rfl), (Nat.le_of_ble_eq_true rfl)⟩ hB rfl rfl rfl dL_pass_4 rfl (Nat.le_of_ble_eq_true rfl) ⟨by show 0 + ((s_n (passS x S) - s_n S + 1)) ≤ s_n (iff0 (fPass x) (passK S x.toNatClampNeg) S) - s_n S + 4; omega, by show 0 + ((3 * (s_n (passS x S) - s_n S) + 6)) ≤ 3 * (s_n (iff0 (fPass x) (passK S x.toNatClampNeg) S) - s_n S) + 57; omega⟩ (fun v h9 hp d9 => ?_) (fun E hE9 => ?_)
  · obtain ⟨hf, rfl, ow9, eA9, A19, P19, c19, RY9, hW9⟩ := hp
    refine x_widen (k := s_n (iff0 (fPass x) (passK S x.toNatClampNeg) S) - s_n S + 4) (n := 3 * (s_n (iff0 (fPass x) (passK S x.toNatClampNeg) S) - s_n S) + 57) (by omega) (by omega) ?_
    have eg : passS x S = passK S x.toNatClampNeg := if_pos hf
    refine x_ieq (y := nI (s_t (passK S x.toNatClampNeg))) (by rw [eg]) ?_
    refine x_i2l hE dL_pass_7 ?_
    refine x_last (f' := vp_updL u 0 ((nI (s_t (passK S x.toNatClampNeg))).toInt64)) hE (jn_r d9 oM_at) zin0 (by rw [zcl0]) dL_pass_8 ?_
    refine x_heq (oM_up d9) ?_
    refine x_goto (tgt := 15) hE dL_pass_9 (by decide) ?_
    refine x_iconst (v := nI 0) hE dL_pass_15 (by decide) ?_
    exact y_ret (x_iret hE dL_pass_16 (⟨by rw [hf], h9, _, rfl, oM_dj d9, by rw [iff0_p hf]; exact ⟨ad, ow9, eA9, A19, P19, c19, A2, P2, c2, RY9, rfl, (by rw [eg] at hW9; exact hW9)⟩, fun _ => if_pos rfl⟩))
  · obtain ⟨hf, rfl⟩ := hE9
    refine z_catch hE [] ⟨0, 9, 12, 13⟩ [] (hX.trans rfl) (fun z hz => absurd hz (by simp)) (by decide +kernel) (by decide) (List.mem_of_getElem? (i := 1) rfl) hT.2.1.2.1 (fun q9 => ?_)
    refine x_widen (k := s_n (iff0 (fPass x) (passK S x.toNatClampNeg) S) - s_n S + 4) (n := 3 * (s_n (iff0 (fPass x) (passK S x.toNatClampNeg) S) - s_n S) + 57) (by omega) (by omega) ?_
    refine x_astore_n (L' := [some (.ref (ad 0)), some (.int x), some (.ref oa), some (.ref q9)]) hE dL_pass_12 rfl (Nat.le_of_ble_eq_true rfl) rfl rfl ?_
    refine x_iconst (v := nI 1) hE dL_pass_13 (by decide) ?_
    exact y_ret (x_iret hE dL_pass_14 (⟨by rw [hf], hC, u, rfl, hd, by rw [iff0_n (by rw [hf]; decide)]; exact ⟨ad, ow, eA, A1, P1, c1, A2, P2, c2, RY, rfl, hW⟩, fun z => absurd (hf.symm.trans z) (by decide)⟩))
set_option maxHeartbeats 4000000 in
set_option maxRecDepth 100000 in
theorem c_L_levelOf (G : XG) {xa oa : Nat} {S : PS} {hC : HM} {u : Nat → Int64} (hb : bW G xa S hC) (hd : dj hC (oM G oa u)) {k : Nat} (hI : iI S k) (hk : k ≤ 511) (i : Int32) : y_M G yL_levelOf wsL_levelOf ({ frames := 7, cells := s_n (iff0 (fLamp S i) (S) S) - s_n S + 4, slots := 3 * (s_n (iff0 (fLamp S i) (S) S) - s_n S) + 57, locals := 111 } : Room) [.ref xa, .int i, .ref oa] (jn hC (oM G oa u)) (wP G xa oa (fLamp S i) ((nI (levS S (s_G S) i.toNatClampNeg).toNat).toInt64) (iff0 (fLamp S i) (S) S)) (fun _ => False) (s_n (iff0 (fLamp S i) (S) S) - s_n S + 4) (3 * (s_n (iff0 (fLamp S i) (S) S) - s_n S) + 57) := by
  refine y_M.ofH (cc := cL_levelOf) (maxL := 4) (ret := (some .int)) (hh := [(0, 9, 12, 21)]) (ent := [some (.ref xa), some (.int i), some (.ref oa), none]) (by decide +kernel) rfl (Nat.le_of_ble_eq_true rfl) rfl rfl ?_
  intro F hE hname hT hX
  obtain ⟨ad, ow, eA, A1, P1, c1, A2, P2, c2, RY, rfl, hW⟩ := hb
  refine x_aload_n hE dL_levelOf_0 rfl rfl ?_
  refine x_iconst (v := nI 0) hE dL_levelOf_1 (by decide) ?_
  refine x_aload_n hE dL_levelOf_2 rfl rfl ?_
  refine x_iload_n hE dL_levelOf_3 rfl ?_
  have hB := hW.1
  have hcm : ∀ A : Nat → Prop, y_M (reG G A) yX7_levelOf wsX7_levelOf ({ frames := 6, cells := 1, slots := 6, locals := 90 } : Room) ([.ref (ad 0), .int i]) hC (fun v h' => fLamp S i = 0 ∧ v = some (.int (nI (levS S (s_G S) i.toNatClampNeg).toNat)) ∧ cW G ad ow eA A1 P1 c1 A2 P2 c2 RY S h') (fun E => fLamp S i = 1 ∧ E = xIO) 1 6 := fun A => c_X7_levelOf (reG G A) hW hI.1.1 i
  have hs1 : (1) ≤ s_n (iff0 (fLamp S i) (S) S) - s_n S + 4 := by omega
  have hs2 : (6) ≤ 3 * (s_n (iff0 (fLamp S i) (S) S) - s_n S) + 57 := by omega
  refine z_callY (ci := 7) (st := [.int (nI 0), .ref oa]) hE hT 1 hcm hd gL_levelOf_X7_levelOf rfl rfl rfl (by decide +kernel) ⟨(Nat.le_of_ble_eq_true rfl), (Nat.le_of_ble_eq_true rfl)⟩ hB rfl rfl rfl dL_levelOf_4 rfl (Nat.le_of_ble_eq_true rfl) ⟨by show 0 + (1) ≤ s_n (iff0 (fLamp S i) (S) S) - s_n S + 4; omega, by show 0 + (6) ≤ 3 * (s_n (iff0 (fLamp S i) (S) S) - s_n S) + 57; omega⟩ (fun v h9 hp d9 => ?_) (fun E hE9 => ?_)
  · obtain ⟨hf, rfl, hW9⟩ := hp
    refine x_widen (k := s_n (iff0 (fLamp S i) (S) S) - s_n S + 4) (n := 3 * (s_n (iff0 (fLamp S i) (S) S) - s_n S) + 57) (by omega) (by omega) ?_
    refine x_i2l hE dL_levelOf_7 ?_
    refine x_last (f' := vp_updL u 0 ((nI (levS S (s_G S) i.toNatClampNeg).toNat).toInt64)) hE (jn_r d9 oM_at) zin0 (by rw [zcl0]) dL_levelOf_8 ?_
    refine x_heq (oM_up d9) ?_
    refine x_goto (tgt := 15) hE dL_levelOf_9 (by decide) ?_
    refine x_iconst (v := nI 0) hE dL_levelOf_15 (by decide) ?_
    exact y_ret (x_iret hE dL_levelOf_16 (⟨by rw [hf], h9, _, rfl, oM_dj d9, by rw [iff0_p hf]; exact ⟨ad, ow, eA, A1, P1, c1, A2, P2, c2, RY, rfl, hW9⟩, fun _ => if_pos rfl⟩))
  · obtain ⟨hf, rfl⟩ := hE9
    refine z_catch hE [] ⟨0, 9, 12, 21⟩ [] (hX.trans rfl) (fun z hz => absurd hz (by simp)) (by decide +kernel) (by decide) (List.mem_of_getElem? (i := 1) rfl) hT.2.1.1 (fun q9 => ?_)
    refine x_widen (k := s_n (iff0 (fLamp S i) (S) S) - s_n S + 4) (n := 3 * (s_n (iff0 (fLamp S i) (S) S) - s_n S) + 57) (by omega) (by omega) ?_
    refine x_astore_n (L' := [some (.ref (ad 0)), some (.int i), some (.ref oa), some (.ref q9)]) hE dL_levelOf_12 rfl (Nat.le_of_ble_eq_true rfl) rfl rfl ?_
    refine x_iconst (v := nI 1) hE dL_levelOf_13 (by decide) ?_
    exact y_ret (x_iret hE dL_levelOf_14 (⟨by rw [hf], hC, u, rfl, hd, by rw [iff0_n (by rw [hf]; decide)]; exact ⟨ad, ow, eA, A1, P1, c1, A2, P2, c2, RY, rfl, hW⟩, fun z => absurd (hf.symm.trans z) (by decide)⟩))
set_option maxHeartbeats 4000000 in
set_option maxRecDepth 100000 in
theorem c_L_levelAnew (G : XG) {xa oa : Nat} {S : PS} {hC : HM} {u : Nat → Int64} (hb : bW G xa S hC) (hd : dj hC (oM G oa u)) {k : Nat} (hI : iI S k) (hk : k ≤ 511) (i : Int32) : y_M G yL_levelAnew wsL_levelAnew ({ frames := 7, cells := s_n (iff0 (fLamp S i) (S) S) - s_n S + 4, slots := 3 * (s_n (iff0 (fLamp S i) (S) S) - s_n S) + 57, locals := 132 } : Room) [.ref xa, .int i, .ref oa] (jn hC (oM G oa u)) (wP G xa oa (fLamp S i) ((nI (levS S (s_G S) i.toNatClampNeg).toNat).toInt64) (iff0 (fLamp S i) (S) S)) (fun _ => False) (s_n (iff0 (fLamp S i) (S) S) - s_n S + 4) (3 * (s_n (iff0 (fLamp S i) (S) S) - s_n S) + 57) := by
  refine y_M.ofH (cc := cL_levelAnew) (maxL := 4) (ret := (some .int)) (hh := [(0, 9, 12, 21)]) (ent := [some (.ref xa), some (.int i), some (.ref oa), none]) (by decide +kernel) rfl (Nat.le_of_ble_eq_true rfl) rfl rfl ?_
  intro F hE hname hT hX
  obtain ⟨ad, ow, eA, A1, P1, c1, A2, P2, c2, RY, rfl, hW⟩ := hb
  have hrp : (rtP (s_H S)).filter (fun g => !ovP (s_ar S) (s_t S) g) = s_G S := hI.1.2.2.2.2.2.2.2.2.2.1
  refine x_aload_n hE dL_levelAnew_0 rfl rfl ?_
  refine x_iconst (v := nI 0) hE dL_levelAnew_1 (by decide) ?_
  refine x_aload_n hE dL_levelAnew_2 rfl rfl ?_
  refine x_iload_n hE dL_levelAnew_3 rfl ?_
  have hB := hW.1
  have hcm : ∀ A : Nat → Prop, y_M (reG G A) yX7_levelAnew wsX7_levelAnew ({ frames := 6, cells := 1, slots := 6, locals := 111 } : Room) ([.ref (ad 0), .int i]) hC (fun v h' => fLamp S i = 0 ∧ v = some (.int (nI (levS S ((rtP (s_H S)).filter (fun g => !ovP (s_ar S) (s_t S) g)) i.toNatClampNeg).toNat)) ∧ ∃ (A2' P2' : List Nat) (c2' : Nat → GC), cW G ad ow eA A1 P1 c1 A2' P2' c2' RY S h') (fun E => fLamp S i = 1 ∧ E = xIO) 1 6 := fun A => c_X7_levelAnew (reG G A) hW (by rw [hrp]; exact hI.1.1) (hI.1.eI (by have := hI.2.1; omega)) i
  have hs1 : (1) ≤ s_n (iff0 (fLamp S i) (S) S) - s_n S + 4 := by omega
  have hs2 : (6) ≤ 3 * (s_n (iff0 (fLamp S i) (S) S) - s_n S) + 57 := by omega
  refine z_callY (ci := 7) (st := [.int (nI 0), .ref oa]) hE hT 1 hcm hd gL_levelAnew_X7_levelAnew rfl rfl rfl (by decide +kernel) ⟨(Nat.le_of_ble_eq_true rfl), (Nat.le_of_ble_eq_true rfl)⟩ hB rfl rfl rfl dL_levelAnew_4 rfl (Nat.le_of_ble_eq_true rfl) ⟨by show 0 + (1) ≤ s_n (iff0 (fLamp S i) (S) S) - s_n S + 4; omega, by show 0 + (6) ≤ 3 * (s_n (iff0 (fLamp S i) (S) S) - s_n S) + 57; omega⟩ (fun v h9 hp d9 => ?_) (fun E hE9 => ?_)
  · obtain ⟨hf, rfl, A29, P29, c29, hW9⟩ := hp
    refine x_widen (k := s_n (iff0 (fLamp S i) (S) S) - s_n S + 4) (n := 3 * (s_n (iff0 (fLamp S i) (S) S) - s_n S) + 57) (by omega) (by omega) ?_
    refine x_ieq (y := nI (levS S (s_G S) i.toNatClampNeg).toNat) (by rw [hrp]) ?_
    refine x_i2l hE dL_levelAnew_7 ?_
    refine x_last (f' := vp_updL u 0 ((nI (levS S (s_G S) i.toNatClampNeg).toNat).toInt64)) hE (jn_r d9 oM_at) zin0 (by rw [zcl0]) dL_levelAnew_8 ?_
    refine x_heq (oM_up d9) ?_
    refine x_goto (tgt := 15) hE dL_levelAnew_9 (by decide) ?_
    refine x_iconst (v := nI 0) hE dL_levelAnew_15 (by decide) ?_
    exact y_ret (x_iret hE dL_levelAnew_16 (⟨by rw [hf], h9, _, rfl, oM_dj d9, by rw [iff0_p hf]; exact ⟨ad, ow, eA, A1, P1, c1, A29, P29, c29, RY, rfl, hW9⟩, fun _ => if_pos rfl⟩))
  · obtain ⟨hf, rfl⟩ := hE9
    refine z_catch hE [] ⟨0, 9, 12, 21⟩ [] (hX.trans rfl) (fun z hz => absurd hz (by simp)) (by decide +kernel) (by decide) (List.mem_of_getElem? (i := 1) rfl) hT.2.1.1 (fun q9 => ?_)
    refine x_widen (k := s_n (iff0 (fLamp S i) (S) S) - s_n S + 4) (n := 3 * (s_n (iff0 (fLamp S i) (S) S) - s_n S) + 57) (by omega) (by omega) ?_
    refine x_astore_n (L' := [some (.ref (ad 0)), some (.int i), some (.ref oa), some (.ref q9)]) hE dL_levelAnew_12 rfl (Nat.le_of_ble_eq_true rfl) rfl rfl ?_
    refine x_iconst (v := nI 1) hE dL_levelAnew_13 (by decide) ?_
    exact y_ret (x_iret hE dL_levelAnew_14 (⟨by rw [hf], hC, u, rfl, hd, by rw [iff0_n (by rw [hf]; decide)]; exact ⟨ad, ow, eA, A1, P1, c1, A2, P2, c2, RY, rfl, hW⟩, fun z => absurd (hf.symm.trans z) (by decide)⟩))
set_option maxHeartbeats 4000000 in
set_option maxRecDepth 100000 in
theorem c_L_loadOf (G : XG) {xa oa : Nat} {S : PS} {hC : HM} {u : Nat → Int64} (hb : bW G xa S hC) (hd : dj hC (oM G oa u)) {k : Nat} (hI : iI S k) (hk : k ≤ 511) (ph : Int32) : y_M G yL_loadOf wsL_loadOf ({ frames := 7, cells := s_n (iff0 (fPhase ph) (S) S) - s_n S + 4, slots := 3 * (s_n (iff0 (fPhase ph) (S) S) - s_n S) + 57, locals := 114 } : Room) [.ref xa, .int ph, .ref oa] (jn hC (oM G oa u)) (wP G xa oa (fPhase ph) ((nI (ldN (s_ar S) (s_L S) (s_B S) (s_t S) (s_G S) ph 16).toNat).toInt64) (iff0 (fPhase ph) (S) S)) (fun _ => False) (s_n (iff0 (fPhase ph) (S) S) - s_n S + 4) (3 * (s_n (iff0 (fPhase ph) (S) S) - s_n S) + 57) := by
  refine y_M.ofH (cc := cL_loadOf) (maxL := 4) (ret := (some .int)) (hh := [(0, 9, 12, 21)]) (ent := [some (.ref xa), some (.int ph), some (.ref oa), none]) (by decide +kernel) rfl (Nat.le_of_ble_eq_true rfl) rfl rfl ?_
  intro F hE hname hT hX
  obtain ⟨ad, ow, eA, A1, P1, c1, A2, P2, c2, RY, rfl, hW⟩ := hb
  refine x_aload_n hE dL_loadOf_0 rfl rfl ?_
  refine x_iconst (v := nI 0) hE dL_loadOf_1 (by decide) ?_
  refine x_aload_n hE dL_loadOf_2 rfl rfl ?_
  refine x_iload_n hE dL_loadOf_3 rfl ?_
  have hB := hW.1
  have hcm : ∀ A : Nat → Prop, y_M (reG G A) yX7_loadOf wsX7_loadOf ({ frames := 6, cells := 1, slots := 6, locals := 93 } : Room) ([.ref (ad 0), .int ph]) hC (fun v h' => fPhase ph = 0 ∧ v = some (.int (nI (ldN (s_ar S) (s_L S) (s_B S) (s_t S) (s_G S) ph 16).toNat)) ∧ cW G ad ow eA A1 P1 c1 A2 P2 c2 RY S h') (fun E => fPhase ph = 1 ∧ E = xIO) 1 6 := fun A => c_X7_loadOf (reG G A) hW hI.1.1 ph
  have hs1 : (1) ≤ s_n (iff0 (fPhase ph) (S) S) - s_n S + 4 := by omega
  have hs2 : (6) ≤ 3 * (s_n (iff0 (fPhase ph) (S) S) - s_n S) + 57 := by omega
  refine z_callY (ci := 7) (st := [.int (nI 0), .ref oa]) hE hT 1 hcm hd gL_loadOf_X7_loadOf rfl rfl rfl (by decide +kernel) ⟨(Nat.le_of_ble_eq_true rfl), (Nat.le_of_ble_eq_true rfl)⟩ hB rfl rfl rfl dL_loadOf_4 rfl (Nat.le_of_ble_eq_true rfl) ⟨by show 0 + (1) ≤ s_n (iff0 (fPhase ph) (S) S) - s_n S + 4; omega, by show 0 + (6) ≤ 3 * (s_n (iff0 (fPhase ph) (S) S) - s_n S) + 57; omega⟩ (fun v h9 hp d9 => ?_) (fun E hE9 => ?_)
  · obtain ⟨hf, rfl, hW9⟩ := hp
    refine x_widen (k := s_n (iff0 (fPhase ph) (S) S) - s_n S + 4) (n := 3 * (s_n (iff0 (fPhase ph) (S) S) - s_n S) + 57) (by omega) (by omega) ?_
    refine x_i2l hE dL_loadOf_7 ?_
    refine x_last (f' := vp_updL u 0 ((nI (ldN (s_ar S) (s_L S) (s_B S) (s_t S) (s_G S) ph 16).toNat).toInt64)) hE (jn_r d9 oM_at) zin0 (by rw [zcl0]) dL_loadOf_8 ?_
    refine x_heq (oM_up d9) ?_
    refine x_goto (tgt := 15) hE dL_loadOf_9 (by decide) ?_
    refine x_iconst (v := nI 0) hE dL_loadOf_15 (by decide) ?_
    exact y_ret (x_iret hE dL_loadOf_16 (⟨by rw [hf], h9, _, rfl, oM_dj d9, by rw [iff0_p hf]; exact ⟨ad, ow, eA, A1, P1, c1, A2, P2, c2, RY, rfl, hW9⟩, fun _ => if_pos rfl⟩))
  · obtain ⟨hf, rfl⟩ := hE9
    refine z_catch hE [] ⟨0, 9, 12, 21⟩ [] (hX.trans rfl) (fun z hz => absurd hz (by simp)) (by decide +kernel) (by decide) (List.mem_of_getElem? (i := 1) rfl) hT.2.1.1 (fun q9 => ?_)
    refine x_widen (k := s_n (iff0 (fPhase ph) (S) S) - s_n S + 4) (n := 3 * (s_n (iff0 (fPhase ph) (S) S) - s_n S) + 57) (by omega) (by omega) ?_
    refine x_astore_n (L' := [some (.ref (ad 0)), some (.int ph), some (.ref oa), some (.ref q9)]) hE dL_loadOf_12 rfl (Nat.le_of_ble_eq_true rfl) rfl rfl ?_
    refine x_iconst (v := nI 1) hE dL_loadOf_13 (by decide) ?_
    exact y_ret (x_iret hE dL_loadOf_14 (⟨by rw [hf], hC, u, rfl, hd, by rw [iff0_n (by rw [hf]; decide)]; exact ⟨ad, ow, eA, A1, P1, c1, A2, P2, c2, RY, rfl, hW⟩, fun z => absurd (hf.symm.trans z) (by decide)⟩))
set_option maxHeartbeats 4000000 in
set_option maxRecDepth 100000 in
theorem c_L_watts (G : XG) {xa oa : Nat} {S : PS} {hC : HM} {u : Nat → Int64} (hb : bW G xa S hC) (hd : dj hC (oM G oa u)) {k : Nat} (hI : iI S k) (hk : k ≤ 511) (ph : Int32) : y_M G yL_watts wsL_watts ({ frames := 7, cells := s_n (iff0 (fPhase ph) (S) S) - s_n S + 4, slots := 3 * (s_n (iff0 (fPhase ph) (S) S) - s_n S) + 57, locals := 114 } : Room) [.ref xa, .int ph, .ref oa] (jn hC (oM G oa u)) (wP G xa oa (fPhase ph) ((FP.f2i (ldN (s_ar S) (s_L S) (s_B S) (s_t S) (s_G S) ph 16)).toInt64) (iff0 (fPhase ph) (S) S)) (fun _ => False) (s_n (iff0 (fPhase ph) (S) S) - s_n S + 4) (3 * (s_n (iff0 (fPhase ph) (S) S) - s_n S) + 57) := by
  refine y_M.ofH (cc := cL_watts) (maxL := 4) (ret := (some .int)) (hh := [(0, 9, 12, 21)]) (ent := [some (.ref xa), some (.int ph), some (.ref oa), none]) (by decide +kernel) rfl (Nat.le_of_ble_eq_true rfl) rfl rfl ?_
  intro F hE hname hT hX
  obtain ⟨ad, ow, eA, A1, P1, c1, A2, P2, c2, RY, rfl, hW⟩ := hb
  refine x_aload_n hE dL_watts_0 rfl rfl ?_
  refine x_iconst (v := nI 0) hE dL_watts_1 (by decide) ?_
  refine x_aload_n hE dL_watts_2 rfl rfl ?_
  refine x_iload_n hE dL_watts_3 rfl ?_
  have hB := hW.1
  have hcm : ∀ A : Nat → Prop, y_M (reG G A) yX7_watts wsX7_watts ({ frames := 6, cells := 1, slots := 6, locals := 93 } : Room) ([.ref (ad 0), .int ph]) hC (fun v h' => fPhase ph = 0 ∧ v = some (.int (FP.f2i (ldN (s_ar S) (s_L S) (s_B S) (s_t S) (s_G S) ph 16))) ∧ cW G ad ow eA A1 P1 c1 A2 P2 c2 RY S h') (fun E => fPhase ph = 1 ∧ E = xIO) 1 6 := fun A => c_X7_watts (reG G A) hW hI.1.1 ph
  have hs1 : (1) ≤ s_n (iff0 (fPhase ph) (S) S) - s_n S + 4 := by omega
  have hs2 : (6) ≤ 3 * (s_n (iff0 (fPhase ph) (S) S) - s_n S) + 57 := by omega
  refine z_callY (ci := 7) (st := [.int (nI 0), .ref oa]) hE hT 1 hcm hd gL_watts_X7_watts rfl rfl rfl (by decide +kernel) ⟨(Nat.le_of_ble_eq_true rfl), (Nat.le_of_ble_eq_true rfl)⟩ hB rfl rfl rfl dL_watts_4 rfl (Nat.le_of_ble_eq_true rfl) ⟨by show 0 + (1) ≤ s_n (iff0 (fPhase ph) (S) S) - s_n S + 4; omega, by show 0 + (6) ≤ 3 * (s_n (iff0 (fPhase ph) (S) S) - s_n S) + 57; omega⟩ (fun v h9 hp d9 => ?_) (fun E hE9 => ?_)
  · obtain ⟨hf, rfl, hW9⟩ := hp
    refine x_widen (k := s_n (iff0 (fPhase ph) (S) S) - s_n S + 4) (n := 3 * (s_n (iff0 (fPhase ph) (S) S) - s_n S) + 57) (by omega) (by omega) ?_
    refine x_i2l hE dL_watts_7 ?_
    refine x_last (f' := vp_updL u 0 ((FP.f2i (ldN (s_ar S) (s_L S) (s_B S) (s_t S) (s_G S) ph 16)).toInt64)) hE (jn_r d9 oM_at) zin0 (by rw [zcl0]) dL_watts_8 ?_
    refine x_heq (oM_up d9) ?_
    refine x_goto (tgt := 15) hE dL_watts_9 (by decide) ?_
    refine x_iconst (v := nI 0) hE dL_watts_15 (by decide) ?_
    exact y_ret (x_iret hE dL_watts_16 (⟨by rw [hf], h9, _, rfl, oM_dj d9, by rw [iff0_p hf]; exact ⟨ad, ow, eA, A1, P1, c1, A2, P2, c2, RY, rfl, hW9⟩, fun _ => if_pos rfl⟩))
  · obtain ⟨hf, rfl⟩ := hE9
    refine z_catch hE [] ⟨0, 9, 12, 21⟩ [] (hX.trans rfl) (fun z hz => absurd hz (by simp)) (by decide +kernel) (by decide) (List.mem_of_getElem? (i := 1) rfl) hT.2.1.1 (fun q9 => ?_)
    refine x_widen (k := s_n (iff0 (fPhase ph) (S) S) - s_n S + 4) (n := 3 * (s_n (iff0 (fPhase ph) (S) S) - s_n S) + 57) (by omega) (by omega) ?_
    refine x_astore_n (L' := [some (.ref (ad 0)), some (.int ph), some (.ref oa), some (.ref q9)]) hE dL_watts_12 rfl (Nat.le_of_ble_eq_true rfl) rfl rfl ?_
    refine x_iconst (v := nI 1) hE dL_watts_13 (by decide) ?_
    exact y_ret (x_iret hE dL_watts_14 (⟨by rw [hf], hC, u, rfl, hd, by rw [iff0_n (by rw [hf]; decide)]; exact ⟨ad, ow, eA, A1, P1, c1, A2, P2, c2, RY, rfl, hW⟩, fun z => absurd (hf.symm.trans z) (by decide)⟩))
set_option maxHeartbeats 4000000 in
set_option maxRecDepth 100000 in
theorem c_L_asks (G : XG) {xa oa : Nat} {S : PS} {hC : HM} {u : Nat → Int64} (hb : bW G xa S hC) (hd : dj hC (oM G oa u)) {k : Nat} (hI : iI S k) (hk : k ≤ 511) (c ph : Int32) : y_M G yL_asks wsL_asks ({ frames := 7, cells := s_n (iff0 (fAsks S c ph) (S) S) - s_n S + 4, slots := 3 * (s_n (iff0 (fAsks S c ph) (S) S) - s_n S) + 57, locals := 114 } : Room) [.ref xa, .int c, .int ph, .ref oa] (jn hC (oM G oa u)) (wP G xa oa (fAsks S c ph) ((askP (s_ar S) (s_L S) (s_B S) (s_G S) c.toNatClampNeg ph).toInt64) (iff0 (fAsks S c ph) (S) S)) (fun _ => False) (s_n (iff0 (fAsks S c ph) (S) S) - s_n S + 4) (3 * (s_n (iff0 (fAsks S c ph) (S) S) - s_n S) + 57) := by
  refine y_M.ofH (cc := cL_asks) (maxL := 5) (ret := (some .int)) (hh := [(0, 10, 13, 21)]) (ent := [some (.ref xa), some (.int c), some (.int ph), some (.ref oa), none]) (by decide +kernel) rfl (Nat.le_of_ble_eq_true rfl) rfl rfl ?_
  intro F hE hname hT hX
  obtain ⟨ad, ow, eA, A1, P1, c1, A2, P2, c2, RY, rfl, hW⟩ := hb
  refine x_aload_n hE dL_asks_0 rfl rfl ?_
  refine x_iconst (v := nI 0) hE dL_asks_1 (by decide) ?_
  refine x_aload_n hE dL_asks_2 rfl rfl ?_
  refine x_iload_n hE dL_asks_3 rfl ?_
  refine x_iload_n hE dL_asks_4 rfl ?_
  have hB := hW.1
  have hcm : ∀ A : Nat → Prop, y_M (reG G A) yX7_asks wsX7_asks ({ frames := 6, cells := 1, slots := 6, locals := 91 } : Room) ([.ref (ad 0), .int c, .int ph]) hC (fun v h' => fAsks S c ph = 0 ∧ v = some (.int (askP (s_ar S) (s_L S) (s_B S) (s_G S) c.toNatClampNeg ph)) ∧ cW G ad ow eA A1 P1 c1 A2 P2 c2 RY S h') (fun E => fAsks S c ph = 1 ∧ E = xIO) 1 6 := fun A => c_X7_asks (reG G A) hW hI.1.1.2.2.2.1 c ph
  have hs1 : (1) ≤ s_n (iff0 (fAsks S c ph) (S) S) - s_n S + 4 := by omega
  have hs2 : (6) ≤ 3 * (s_n (iff0 (fAsks S c ph) (S) S) - s_n S) + 57 := by omega
  refine z_callY (ci := 7) (st := [.int (nI 0), .ref oa]) hE hT 2 hcm hd gL_asks_X7_asks rfl rfl rfl (by decide +kernel) ⟨(Nat.le_of_ble_eq_true rfl), (Nat.le_of_ble_eq_true rfl)⟩ hB rfl rfl rfl dL_asks_5 rfl (Nat.le_of_ble_eq_true rfl) ⟨by show 0 + (1) ≤ s_n (iff0 (fAsks S c ph) (S) S) - s_n S + 4; omega, by show 0 + (6) ≤ 3 * (s_n (iff0 (fAsks S c ph) (S) S) - s_n S) + 57; omega⟩ (fun v h9 hp d9 => ?_) (fun E hE9 => ?_)
  · obtain ⟨hf, rfl, hW9⟩ := hp
    refine x_widen (k := s_n (iff0 (fAsks S c ph) (S) S) - s_n S + 4) (n := 3 * (s_n (iff0 (fAsks S c ph) (S) S) - s_n S) + 57) (by omega) (by omega) ?_
    refine x_i2l hE dL_asks_8 ?_
    refine x_last (f' := vp_updL u 0 ((askP (s_ar S) (s_L S) (s_B S) (s_G S) c.toNatClampNeg ph).toInt64)) hE (jn_r d9 oM_at) zin0 (by rw [zcl0]) dL_asks_9 ?_
    refine x_heq (oM_up d9) ?_
    refine x_goto (tgt := 17) hE dL_asks_10 (by decide) ?_
    refine x_iconst (v := nI 0) hE dL_asks_17 (by decide) ?_
    exact y_ret (x_iret hE dL_asks_18 (⟨by rw [hf], h9, _, rfl, oM_dj d9, by rw [iff0_p hf]; exact ⟨ad, ow, eA, A1, P1, c1, A2, P2, c2, RY, rfl, hW9⟩, fun _ => if_pos rfl⟩))
  · obtain ⟨hf, rfl⟩ := hE9
    refine z_catch hE [] ⟨0, 10, 13, 21⟩ [] (hX.trans rfl) (fun z hz => absurd hz (by simp)) (by decide +kernel) (by decide) (List.mem_of_getElem? (i := 1) rfl) hT.2.1.1 (fun q9 => ?_)
    refine x_widen (k := s_n (iff0 (fAsks S c ph) (S) S) - s_n S + 4) (n := 3 * (s_n (iff0 (fAsks S c ph) (S) S) - s_n S) + 57) (by omega) (by omega) ?_
    refine x_astore (L' := [some (.ref (ad 0)), some (.int c), some (.int ph), some (.ref oa), some (.ref q9)]) hE dL_asks_13 (Nat.le_of_ble_eq_true rfl) rfl rfl ?_
    refine x_iconst (v := nI 1) hE dL_asks_15 (by decide) ?_
    exact y_ret (x_iret hE dL_asks_16 (⟨by rw [hf], hC, u, rfl, hd, by rw [iff0_n (by rw [hf]; decide)]; exact ⟨ad, ow, eA, A1, P1, c1, A2, P2, c2, RY, rfl, hW⟩, fun z => absurd (hf.symm.trans z) (by decide)⟩))
set_option maxHeartbeats 4000000 in
set_option maxRecDepth 100000 in
theorem c_L_shines (G : XG) {xa oa : Nat} {S : PS} {hC : HM} {u : Nat → Int64} (hb : bW G xa S hC) (hd : dj hC (oM G oa u)) {k : Nat} (hI : iI S k) (hk : k ≤ 511) (c i : Int32) : y_M G yL_shines wsL_shines ({ frames := 7, cells := s_n (iff0 (fShines S c i) (S) S) - s_n S + 4, slots := 3 * (s_n (iff0 (fShines S c i) (S) S) - s_n S) + 57, locals := 113 } : Room) [.ref xa, .int c, .int i, .ref oa] (jn hC (oM G oa u)) (wP G xa oa (fShines S c i) ((shiP S c.toNatClampNeg i.toNatClampNeg).toInt64) (iff0 (fShines S c i) (S) S)) (fun _ => False) (s_n (iff0 (fShines S c i) (S) S) - s_n S + 4) (3 * (s_n (iff0 (fShines S c i) (S) S) - s_n S) + 57) := by
  refine y_M.ofH (cc := cL_shines) (maxL := 5) (ret := (some .int)) (hh := [(0, 10, 13, 21)]) (ent := [some (.ref xa), some (.int c), some (.int i), some (.ref oa), none]) (by decide +kernel) rfl (Nat.le_of_ble_eq_true rfl) rfl rfl ?_
  intro F hE hname hT hX
  obtain ⟨ad, ow, eA, A1, P1, c1, A2, P2, c2, RY, rfl, hW⟩ := hb
  refine x_aload_n hE dL_shines_0 rfl rfl ?_
  refine x_iconst (v := nI 0) hE dL_shines_1 (by decide) ?_
  refine x_aload_n hE dL_shines_2 rfl rfl ?_
  refine x_iload_n hE dL_shines_3 rfl ?_
  refine x_iload_n hE dL_shines_4 rfl ?_
  have hB := hW.1
  have hcm : ∀ A : Nat → Prop, y_M (reG G A) yX7_shines wsX7_shines ({ frames := 6, cells := 1, slots := 6, locals := 90 } : Room) ([.ref (ad 0), .int c, .int i]) hC (fun v h' => fShines S c i = 0 ∧ v = some (.int (shiP S c.toNatClampNeg i.toNatClampNeg)) ∧ cW G ad ow eA A1 P1 c1 A2 P2 c2 RY S h') (fun E => fShines S c i = 1 ∧ E = xIO) 1 6 := fun A => c_X7_shines (reG G A) hW c i
  have hs1 : (1) ≤ s_n (iff0 (fShines S c i) (S) S) - s_n S + 4 := by omega
  have hs2 : (6) ≤ 3 * (s_n (iff0 (fShines S c i) (S) S) - s_n S) + 57 := by omega
  refine z_callY (ci := 7) (st := [.int (nI 0), .ref oa]) hE hT 2 hcm hd gL_shines_X7_shines rfl rfl rfl (by decide +kernel) ⟨(Nat.le_of_ble_eq_true rfl), (Nat.le_of_ble_eq_true rfl)⟩ hB rfl rfl rfl dL_shines_5 rfl (Nat.le_of_ble_eq_true rfl) ⟨by show 0 + (1) ≤ s_n (iff0 (fShines S c i) (S) S) - s_n S + 4; omega, by show 0 + (6) ≤ 3 * (s_n (iff0 (fShines S c i) (S) S) - s_n S) + 57; omega⟩ (fun v h9 hp d9 => ?_) (fun E hE9 => ?_)
  · obtain ⟨hf, rfl, hW9⟩ := hp
    refine x_widen (k := s_n (iff0 (fShines S c i) (S) S) - s_n S + 4) (n := 3 * (s_n (iff0 (fShines S c i) (S) S) - s_n S) + 57) (by omega) (by omega) ?_
    refine x_i2l hE dL_shines_8 ?_
    refine x_last (f' := vp_updL u 0 ((shiP S c.toNatClampNeg i.toNatClampNeg).toInt64)) hE (jn_r d9 oM_at) zin0 (by rw [zcl0]) dL_shines_9 ?_
    refine x_heq (oM_up d9) ?_
    refine x_goto (tgt := 17) hE dL_shines_10 (by decide) ?_
    refine x_iconst (v := nI 0) hE dL_shines_17 (by decide) ?_
    exact y_ret (x_iret hE dL_shines_18 (⟨by rw [hf], h9, _, rfl, oM_dj d9, by rw [iff0_p hf]; exact ⟨ad, ow, eA, A1, P1, c1, A2, P2, c2, RY, rfl, hW9⟩, fun _ => if_pos rfl⟩))
  · obtain ⟨hf, rfl⟩ := hE9
    refine z_catch hE [] ⟨0, 10, 13, 21⟩ [] (hX.trans rfl) (fun z hz => absurd hz (by simp)) (by decide +kernel) (by decide) (List.mem_of_getElem? (i := 1) rfl) hT.2.1.1 (fun q9 => ?_)
    refine x_widen (k := s_n (iff0 (fShines S c i) (S) S) - s_n S + 4) (n := 3 * (s_n (iff0 (fShines S c i) (S) S) - s_n S) + 57) (by omega) (by omega) ?_
    refine x_astore (L' := [some (.ref (ad 0)), some (.int c), some (.int i), some (.ref oa), some (.ref q9)]) hE dL_shines_13 (Nat.le_of_ble_eq_true rfl) rfl rfl ?_
    refine x_iconst (v := nI 1) hE dL_shines_15 (by decide) ?_
    exact y_ret (x_iret hE dL_shines_16 (⟨by rw [hf], hC, u, rfl, hd, by rw [iff0_n (by rw [hf]; decide)]; exact ⟨ad, ow, eA, A1, P1, c1, A2, P2, c2, RY, rfl, hW⟩, fun z => absurd (hf.symm.trans z) (by decide)⟩))
set_option maxHeartbeats 4000000 in
set_option maxRecDepth 100000 in
theorem c_L_playing (G : XG) {xa oa : Nat} {S : PS} {hC : HM} {u : Nat → Int64} (hb : bW G xa S hC) (hd : dj hC (oM G oa u)) {k : Nat} (hI : iI S k) (hk : k ≤ 511) (c wh : Int32) : y_M G yL_playing wsL_playing ({ frames := 7, cells := s_n (iff0 (fPlay S c wh) (S) S) - s_n S + 4, slots := 3 * (s_n (iff0 (fPlay S c wh) (S) S) - s_n S) + 57, locals := 114 } : Room) [.ref xa, .int c, .int wh, .ref oa] (jn hC (oM G oa u)) (wP G xa oa (fPlay S c wh) ((playP S c.toNatClampNeg wh.toNatClampNeg).toInt64) (iff0 (fPlay S c wh) (S) S)) (fun _ => False) (s_n (iff0 (fPlay S c wh) (S) S) - s_n S + 4) (3 * (s_n (iff0 (fPlay S c wh) (S) S) - s_n S) + 57) := by
  refine y_M.ofH (cc := cL_playing) (maxL := 5) (ret := (some .int)) (hh := [(0, 10, 13, 21), (0, 10, 17, 13)]) (ent := [some (.ref xa), some (.int c), some (.int wh), some (.ref oa), none]) (by decide +kernel) rfl (Nat.le_of_ble_eq_true rfl) rfl rfl ?_
  intro F hE hname hT hX
  obtain ⟨ad, ow, eA, A1, P1, c1, A2, P2, c2, RY, rfl, hW⟩ := hb
  refine x_aload_n hE dL_playing_0 rfl rfl ?_
  refine x_iconst (v := nI 0) hE dL_playing_1 (by decide) ?_
  refine x_aload_n hE dL_playing_2 rfl rfl ?_
  refine x_iload_n hE dL_playing_3 rfl ?_
  refine x_iload_n hE dL_playing_4 rfl ?_
  have hB := hW.1
  have hcm : ∀ A : Nat → Prop, y_M (reG G A) yX7_playing wsX7_playing ({ frames := 6, cells := 1, slots := 6, locals := 90 } : Room) ([.ref (ad 0), .int c, .int wh]) hC (fun v h' => fPlay S c wh = 0 ∧ v = some (.int (playP S c.toNatClampNeg wh.toNatClampNeg)) ∧ cW G ad ow eA A1 P1 c1 A2 P2 c2 RY S h') (fun E => (fPlay S c wh = 1 ∧ E = xIO) ∨ (fPlay S c wh = 2 ∧ E = xIA)) 1 6 := fun A => c_X7_playing (reG G A) hW hI.1.1 c wh
  have hs1 : (1) ≤ s_n (iff0 (fPlay S c wh) (S) S) - s_n S + 4 := by omega
  have hs2 : (6) ≤ 3 * (s_n (iff0 (fPlay S c wh) (S) S) - s_n S) + 57 := by omega
  refine z_callY (ci := 7) (st := [.int (nI 0), .ref oa]) hE hT 2 hcm hd gL_playing_X7_playing rfl rfl rfl (by decide +kernel) ⟨(Nat.le_of_ble_eq_true rfl), (Nat.le_of_ble_eq_true rfl)⟩ hB rfl rfl rfl dL_playing_5 rfl (Nat.le_of_ble_eq_true rfl) ⟨by show 0 + (1) ≤ s_n (iff0 (fPlay S c wh) (S) S) - s_n S + 4; omega, by show 0 + (6) ≤ 3 * (s_n (iff0 (fPlay S c wh) (S) S) - s_n S) + 57; omega⟩ (fun v h9 hp d9 => ?_) (fun E hE9 => ?_)
  · obtain ⟨hf, rfl, hW9⟩ := hp
    refine x_widen (k := s_n (iff0 (fPlay S c wh) (S) S) - s_n S + 4) (n := 3 * (s_n (iff0 (fPlay S c wh) (S) S) - s_n S) + 57) (by omega) (by omega) ?_
    refine x_i2l hE dL_playing_8 ?_
    refine x_last (f' := vp_updL u 0 ((playP S c.toNatClampNeg wh.toNatClampNeg).toInt64)) hE (jn_r d9 oM_at) zin0 (by rw [zcl0]) dL_playing_9 ?_
    refine x_heq (oM_up d9) ?_
    refine x_goto (tgt := 21) hE dL_playing_10 (by decide) ?_
    refine x_iconst (v := nI 0) hE dL_playing_21 (by decide) ?_
    exact y_ret (x_iret hE dL_playing_22 (⟨by rw [hf], h9, _, rfl, oM_dj d9, by rw [iff0_p hf]; exact ⟨ad, ow, eA, A1, P1, c1, A2, P2, c2, RY, rfl, hW9⟩, fun _ => if_pos rfl⟩))
  · rcases hE9 with ⟨hf, rfl⟩ | ⟨hf, rfl⟩
    · refine z_catch hE [] ⟨0, 10, 13, 21⟩ [⟨0, 10, 17, 13⟩] (hX.trans rfl) (fun z hz => absurd hz (by simp)) (by decide +kernel) (by decide) (List.mem_of_getElem? (i := 1) rfl) hT.2.1.1 (fun q9 => ?_)
      refine x_widen (k := s_n (iff0 (fPlay S c wh) (S) S) - s_n S + 4) (n := 3 * (s_n (iff0 (fPlay S c wh) (S) S) - s_n S) + 57) (by omega) (by omega) ?_
      refine x_astore (L' := [some (.ref (ad 0)), some (.int c), some (.int wh), some (.ref oa), some (.ref q9)]) hE dL_playing_13 (Nat.le_of_ble_eq_true rfl) rfl rfl ?_
      refine x_iconst (v := nI 1) hE dL_playing_15 (by decide) ?_
      exact y_ret (x_iret hE dL_playing_16 (⟨by rw [hf], hC, u, rfl, hd, by rw [iff0_n (by rw [hf]; decide)]; exact ⟨ad, ow, eA, A1, P1, c1, A2, P2, c2, RY, rfl, hW⟩, fun z => absurd (hf.symm.trans z) (by decide)⟩))
    · refine z_catch hE [(⟨0, 10, 13, 21⟩ : ExceptionTableEntry)] ⟨0, 10, 17, 13⟩ [] (hX.trans rfl) (fun z hz => by rw [List.mem_singleton.mp hz]; exact Or.inr ⟨(by decide : 21 ≠ 0), _, (List.mem_of_getElem? (i := 1) rfl), hT.2.2.1.2.1⟩) (by decide +kernel) (by decide) (List.mem_of_getElem? (i := 2) rfl) hT.2.1.2.1 (fun q9 => ?_)
      refine x_widen (k := s_n (iff0 (fPlay S c wh) (S) S) - s_n S + 4) (n := 3 * (s_n (iff0 (fPlay S c wh) (S) S) - s_n S) + 57) (by omega) (by omega) ?_
      refine x_astore (L' := [some (.ref (ad 0)), some (.int c), some (.int wh), some (.ref oa), some (.ref q9)]) hE dL_playing_17 (Nat.le_of_ble_eq_true rfl) rfl rfl ?_
      refine x_iconst (v := nI 2) hE dL_playing_19 (by decide) ?_
      exact y_ret (x_iret hE dL_playing_20 (⟨by rw [hf], hC, u, rfl, hd, by rw [iff0_n (by rw [hf]; decide)]; exact ⟨ad, ow, eA, A1, P1, c1, A2, P2, c2, RY, rfl, hW⟩, fun z => absurd (hf.symm.trans z) (by decide)⟩))