/-! asks: a call of the class, its answer or its fault -/
set_option maxHeartbeats 4000000 in
set_option maxRecDepth 100000 in
theorem a_go_y (G : XG) {xa : Nat} {S : PS} {hA h : HM} (hh : lH G xa S hA h) {c : Nat} (hb9 : bI S) (hc : c < s_C S) (hcan : canP (s_ar S) (s_L S) (s_B S) (s_G S) c = true) : y_M G yL_asks wsL_asks ({ frames := 7, cells := s_n (begP c S) - s_n S + 1, slots := 3 * (s_n (begP c S) - s_n S) + 6, locals := 135 } : Room) [.ref xa, .int (nI 0), .int (nI c), .int (nI 0)] h (fun v h' => v = some (.int (nI (s_G (begP c S)).length)) ∧ lH G xa (begP c S) hA h') (fun _ => False) (s_n (begP c S) - s_n S + 1) (3 * (s_n (begP c S) - s_n S) + 6) := by
  refine y_M.ofH (cc := cL_asks) (maxL := 5) (ret := (some .int)) (hh := [(0, 67, 68, 31), (0, 67, 73, 34), (0, 67, 78, 37)]) (ent := [some (.ref xa), some (.int (nI 0)), some (.int (nI c)), some (.int (nI 0)), none]) (by decide +kernel) rfl (Nat.le_of_ble_eq_true rfl) rfl rfl ?_
  intro F hE hname hT hX
  refine x_iload_n hE dL_asks_0 rfl ?_
  refine x_if_ne (tgt := 12) hE dL_asks_1 (by decide) (fun c1 => absurd rfl c1) (fun c1 => ?_)
  refine x_aload_n hE dL_asks_4 rfl rfl ?_
  refine x_iload_n hE dL_asks_5 rfl ?_
  refine k_call (st := []) hE hT 1 (m_go_y G hb9 hc hcan) hh gL_asks_X7_go rfl rfl rfl (by decide +kernel) ⟨Nat.le_of_ble_eq_true rfl, Nat.le_of_ble_eq_true rfl⟩ rfl rfl dL_asks_6 rfl (Nat.le_of_ble_eq_true rfl) ⟨by show 0 + (s_n (begP c S) - s_n S + 1) ≤ s_n (begP c S) - s_n S + 1; omega, by show 0 + (3 * (s_n (begP c S) - s_n S) + 6) ≤ 3 * (s_n (begP c S) - s_n S) + 6; omega⟩ (fun h9 hh9 => ?_) (fun E hE9 => ?_)
  · refine x_goto (tgt := 67) hE dL_asks_9 (by decide) ?_
    refine x_widen (k := s_n (begP c S) - s_n S + 1) (n := 3 * (s_n (begP c S) - s_n S) + 6) (by omega) (by omega) ?_
    exact y_ret (x_iret hE dL_asks_67 ⟨rfl, hh9⟩)
  · exact hE9.elim
theorem A_go_y (G : XG) {xa : Nat} {S : PS} {hA h : HM} (hh : lH G xa S hA h) {c : Nat} (hb9 : bI S) (hc : c < s_C S) (hcan : canP (s_ar S) (s_L S) (s_B S) (s_G S) c = true) : ∀ A : Nat → Prop, y_M (reG G A) yL_asks wsL_asks ({ frames := 7, cells := s_n (begP c S) - s_n S + 1, slots := 3 * (s_n (begP c S) - s_n S) + 6, locals := 135 } : Room) [.ref xa, .int (nI 0), .int (nI c), .int (nI 0)] h (fun v h' => v = some (.int (nI (s_G (begP c S)).length)) ∧ lH G xa (begP c S) hA h') (fun _ => False) (s_n (begP c S) - s_n S + 1) (3 * (s_n (begP c S) - s_n S) + 6) := fun A => a_go_y (reG G A) hh hb9 hc hcan
set_option maxHeartbeats 4000000 in
set_option maxRecDepth 100000 in
theorem a_go_n (G : XG) {xa : Nat} {S : PS} {hA h : HM} (hh : lH G xa S hA h) {c : Nat} (hb9 : bI S) (hc : c < s_C S) (hcan : ¬ canP (s_ar S) (s_L S) (s_B S) (s_G S) c = true) : y_M G yL_asks wsL_asks ({ frames := 7, cells := 1, slots := 6, locals := 135 } : Room) [.ref xa, .int (nI 0), .int (nI c), .int (nI 0)] h (fun v h' => v = some (.int (-70008)) ∧ lH G xa S hA h') (fun _ => False) (1) (6) := by
  refine y_M.ofH (cc := cL_asks) (maxL := 5) (ret := (some .int)) (hh := [(0, 67, 68, 31), (0, 67, 73, 34), (0, 67, 78, 37)]) (ent := [some (.ref xa), some (.int (nI 0)), some (.int (nI c)), some (.int (nI 0)), none]) (by decide +kernel) rfl (Nat.le_of_ble_eq_true rfl) rfl rfl ?_
  intro F hE hname hT hX
  refine x_iload_n hE dL_asks_0 rfl ?_
  refine x_if_ne (tgt := 12) hE dL_asks_1 (by decide) (fun c1 => absurd rfl c1) (fun c1 => ?_)
  refine x_aload_n hE dL_asks_4 rfl rfl ?_
  refine x_iload_n hE dL_asks_5 rfl ?_
  refine k_callN (st := []) hE hT 1 (m_go_n G hb9 hc hcan) hh gL_asks_X7_go rfl rfl rfl (by decide +kernel) ⟨Nat.le_of_ble_eq_true rfl, Nat.le_of_ble_eq_true rfl⟩ rfl rfl dL_asks_6 rfl (Nat.le_of_ble_eq_true rfl) ⟨by show 0 + (1) ≤ 1; omega, by show 0 + (6) ≤ 6; omega⟩ (fun E hE9 => ?_)
  subst hE9
  refine z_catch hE [(⟨0, 67, 68, 31⟩ : ExceptionTableEntry), (⟨0, 67, 73, 34⟩ : ExceptionTableEntry)] ⟨0, 67, 78, 37⟩ [] (hX.trans rfl) (fun z hz => by
      rcases List.mem_cons.mp hz with e | hz
      · rw [e]; exact Or.inr ⟨(by decide : 31 ≠ 0), _, (List.mem_of_getElem? (i := 1) rfl), hT.2.2.1.2.2.2.1⟩
      · rw [List.mem_singleton.mp hz]; exact Or.inr ⟨(by decide : 34 ≠ 0), _, (List.mem_of_getElem? (i := 2) rfl), hT.2.2.1.2.2.2.2.2⟩) (by decide +kernel) (by decide) (List.mem_of_getElem? (i := 3) rfl) hT.2.1.2.2 (fun q9 => ?_)
  refine x_astore (L' := [some (.ref xa), some (.int (nI 0)), some (.int (nI c)), some (.int (nI 0)), some (.ref q9)]) hE dL_asks_78 (Nat.le_of_ble_eq_true rfl) rfl rfl ?_
  refine x_ldc (v := -70008) hE (List.mem_of_getElem? (i := 6) rfl) dL_asks_80 ?_
  refine x_widen (k := 1) (n := 6) (by omega) (by omega) ?_
  exact y_ret (x_iret hE dL_asks_82 ⟨rfl, hh⟩)
theorem A_go_n (G : XG) {xa : Nat} {S : PS} {hA h : HM} (hh : lH G xa S hA h) {c : Nat} (hb9 : bI S) (hc : c < s_C S) (hcan : ¬ canP (s_ar S) (s_L S) (s_B S) (s_G S) c = true) : ∀ A : Nat → Prop, y_M (reG G A) yL_asks wsL_asks ({ frames := 7, cells := 1, slots := 6, locals := 135 } : Room) [.ref xa, .int (nI 0), .int (nI c), .int (nI 0)] h (fun v h' => v = some (.int (-70008)) ∧ lH G xa S hA h') (fun _ => False) (1) (6) := fun A => a_go_n (reG G A) hh hb9 hc hcan
set_option maxHeartbeats 4000000 in
set_option maxRecDepth 100000 in
theorem a_rel_y (G : XG) {xa : Nat} {S : PS} {hA h : HM} (hh : lH G xa S hA h) {c : Nat} {g : GG} (hg : gI (s_C S) (s_G S)) (hlen : (s_H S).length < 122880) (hcap : capP (s_n S)) (hc : c < s_C S) (hgo : goF (s_G S) c = some g) (hr : relI g.2.2 = -1) : y_M G yL_asks wsL_asks ({ frames := 7, cells := s_n (relP c S) - s_n S + 1, slots := 3 * (s_n (relP c S) - s_n S) + 6, locals := 135 } : Room) [.ref xa, .int (nI 1), .int (nI c), .int (nI 0)] h (fun v h' => v = some (.int (b2i (goF (s_G (relP c S)) c).isSome)) ∧ lH G xa (relP c S) hA h') (fun _ => False) (s_n (relP c S) - s_n S + 1) (3 * (s_n (relP c S) - s_n S) + 6) := by
  refine y_M.ofH (cc := cL_asks) (maxL := 5) (ret := (some .int)) (hh := [(0, 67, 68, 31), (0, 67, 73, 34), (0, 67, 78, 37)]) (ent := [some (.ref xa), some (.int (nI 1)), some (.int (nI c)), some (.int (nI 0)), none]) (by decide +kernel) rfl (Nat.le_of_ble_eq_true rfl) rfl rfl ?_
  intro F hE hname hT hX
  refine x_iload_n hE dL_asks_0 rfl ?_
  refine x_if_ne (tgt := 12) hE dL_asks_1 (by decide) (fun c1 => ?_) (fun c1 => absurd c1 (by decide))
  refine x_iload_n hE dL_asks_12 rfl ?_
  refine x_iconst (v := nI 1) hE dL_asks_13 (by decide) ?_
  refine x_icmp_ne (tgt := 33) hE dL_asks_14 (by decide) (fun c14 => absurd rfl c14) (fun c14 => ?_)
  refine x_aload_n hE dL_asks_17 rfl rfl ?_
  refine x_iload_n hE dL_asks_18 rfl ?_
  refine k_call (st := []) hE hT 1 (m_release_y G hg hlen hcap hc hgo hr) hh gL_asks_X7_release rfl rfl rfl (by decide +kernel) ⟨Nat.le_of_ble_eq_true rfl, Nat.le_of_ble_eq_true rfl⟩ rfl rfl dL_asks_19 rfl (Nat.le_of_ble_eq_true rfl) ⟨by show 0 + (s_n (relP c S) - s_n S + 1) ≤ s_n (relP c S) - s_n S + 1; omega, by show 0 + (3 * (s_n (relP c S) - s_n S) + 6) ≤ 3 * (s_n (relP c S) - s_n S) + 6; omega⟩ (fun h9 hh9 => ?_) (fun E hE9 => ?_)
  · refine x_if_eq (tgt := 29) hE dL_asks_22 (by decide) (fun c22 => ?_) (fun c22 => ?_)
    · refine x_iconst (v := nI 0) hE dL_asks_29 (by decide) ?_
      refine x_goto (tgt := 67) hE dL_asks_30 (by decide) ?_
      refine x_widen (k := s_n (relP c S) - s_n S + 1) (n := 3 * (s_n (relP c S) - s_n S) + 6) (by omega) (by omega) ?_
      exact y_ret (x_iret hE dL_asks_67 ⟨by rw [b2i_f (b2i_0.mp c22)], hh9⟩)
    · refine x_iconst (v := nI 1) hE dL_asks_25 (by decide) ?_
      refine x_goto (tgt := 67) hE dL_asks_26 (by decide) ?_
      refine x_widen (k := s_n (relP c S) - s_n S + 1) (n := 3 * (s_n (relP c S) - s_n S) + 6) (by omega) (by omega) ?_
      exact y_ret (x_iret hE dL_asks_67 ⟨by rw [b2i_t (b2i_n0.mp c22)], hh9⟩)
  · exact hE9.elim
theorem A_rel_y (G : XG) {xa : Nat} {S : PS} {hA h : HM} (hh : lH G xa S hA h) {c : Nat} {g : GG} (hg : gI (s_C S) (s_G S)) (hlen : (s_H S).length < 122880) (hcap : capP (s_n S)) (hc : c < s_C S) (hgo : goF (s_G S) c = some g) (hr : relI g.2.2 = -1) : ∀ A : Nat → Prop, y_M (reG G A) yL_asks wsL_asks ({ frames := 7, cells := s_n (relP c S) - s_n S + 1, slots := 3 * (s_n (relP c S) - s_n S) + 6, locals := 135 } : Room) [.ref xa, .int (nI 1), .int (nI c), .int (nI 0)] h (fun v h' => v = some (.int (b2i (goF (s_G (relP c S)) c).isSome)) ∧ lH G xa (relP c S) hA h') (fun _ => False) (s_n (relP c S) - s_n S + 1) (3 * (s_n (relP c S) - s_n S) + 6) := fun A => a_rel_y (reG G A) hh hg hlen hcap hc hgo hr
set_option maxHeartbeats 4000000 in
set_option maxRecDepth 100000 in
theorem a_rel_n (G : XG) {xa : Nat} {S : PS} {hA h : HM} (hh : lH G xa S hA h) {c : Nat} (hg : gI (s_C S) (s_G S)) (hlen : (s_H S).length < 122880) (hcap : capP (s_n S)) (hc : c < s_C S) (hno : ∀ g, goF (s_G S) c = some g → ¬ relI g.2.2 = -1) : y_M G yL_asks wsL_asks ({ frames := 7, cells := 1, slots := 6, locals := 135 } : Room) [.ref xa, .int (nI 1), .int (nI c), .int (nI 0)] h (fun v h' => v = some (.int (-70008)) ∧ lH G xa S hA h') (fun _ => False) (1) (6) := by
  refine y_M.ofH (cc := cL_asks) (maxL := 5) (ret := (some .int)) (hh := [(0, 67, 68, 31), (0, 67, 73, 34), (0, 67, 78, 37)]) (ent := [some (.ref xa), some (.int (nI 1)), some (.int (nI c)), some (.int (nI 0)), none]) (by decide +kernel) rfl (Nat.le_of_ble_eq_true rfl) rfl rfl ?_
  intro F hE hname hT hX
  refine x_iload_n hE dL_asks_0 rfl ?_
  refine x_if_ne (tgt := 12) hE dL_asks_1 (by decide) (fun c1 => ?_) (fun c1 => absurd c1 (by decide))
  refine x_iload_n hE dL_asks_12 rfl ?_
  refine x_iconst (v := nI 1) hE dL_asks_13 (by decide) ?_
  refine x_icmp_ne (tgt := 33) hE dL_asks_14 (by decide) (fun c14 => absurd rfl c14) (fun c14 => ?_)
  refine x_aload_n hE dL_asks_17 rfl rfl ?_
  refine x_iload_n hE dL_asks_18 rfl ?_
  refine k_callN (st := []) hE hT 1 (m_release_n G hg hlen hcap hc hno) hh gL_asks_X7_release rfl rfl rfl (by decide +kernel) ⟨Nat.le_of_ble_eq_true rfl, Nat.le_of_ble_eq_true rfl⟩ rfl rfl dL_asks_19 rfl (Nat.le_of_ble_eq_true rfl) ⟨by show 0 + (1) ≤ 1; omega, by show 0 + (6) ≤ 6; omega⟩ (fun E hE9 => ?_)
  subst hE9
  refine z_catch hE [(⟨0, 67, 68, 31⟩ : ExceptionTableEntry), (⟨0, 67, 73, 34⟩ : ExceptionTableEntry)] ⟨0, 67, 78, 37⟩ [] (hX.trans rfl) (fun z hz => by
      rcases List.mem_cons.mp hz with e | hz
      · rw [e]; exact Or.inr ⟨(by decide : 31 ≠ 0), _, (List.mem_of_getElem? (i := 1) rfl), hT.2.2.1.2.2.2.1⟩
      · rw [List.mem_singleton.mp hz]; exact Or.inr ⟨(by decide : 34 ≠ 0), _, (List.mem_of_getElem? (i := 2) rfl), hT.2.2.1.2.2.2.2.2⟩) (by decide +kernel) (by decide) (List.mem_of_getElem? (i := 3) rfl) hT.2.1.2.2 (fun q9 => ?_)
  refine x_astore (L' := [some (.ref xa), some (.int (nI 1)), some (.int (nI c)), some (.int (nI 0)), some (.ref q9)]) hE dL_asks_78 (Nat.le_of_ble_eq_true rfl) rfl rfl ?_
  refine x_ldc (v := -70008) hE (List.mem_of_getElem? (i := 6) rfl) dL_asks_80 ?_
  refine x_widen (k := 1) (n := 6) (by omega) (by omega) ?_
  exact y_ret (x_iret hE dL_asks_82 ⟨rfl, hh⟩)
theorem A_rel_n (G : XG) {xa : Nat} {S : PS} {hA h : HM} (hh : lH G xa S hA h) {c : Nat} (hg : gI (s_C S) (s_G S)) (hlen : (s_H S).length < 122880) (hcap : capP (s_n S)) (hc : c < s_C S) (hno : ∀ g, goF (s_G S) c = some g → ¬ relI g.2.2 = -1) : ∀ A : Nat → Prop, y_M (reG G A) yL_asks wsL_asks ({ frames := 7, cells := 1, slots := 6, locals := 135 } : Room) [.ref xa, .int (nI 1), .int (nI c), .int (nI 0)] h (fun v h' => v = some (.int (-70008)) ∧ lH G xa S hA h') (fun _ => False) (1) (6) := fun A => a_rel_n (reG G A) hh hg hlen hcap hc hno
set_option maxHeartbeats 4000000 in
set_option maxRecDepth 100000 in
theorem a_play (G : XG) {xa : Nat} {S : PS} {hA h : HM} (hh : lH G xa S hA h) (hf : fI (s_ar S) (s_L S) (s_C S) (s_t S) (s_G S)) : y_M G yL_asks wsL_asks ({ frames := 7, cells := 1, slots := 6, locals := 135 } : Room) [.ref xa, .int (nI 2), .int (nI (s_C S)), .int (nI 0)] h (fun v h' => v = some (.int (-70007)) ∧ lH G xa S hA h') (fun _ => False) (1) (6) := by
  refine y_M.ofH (cc := cL_asks) (maxL := 5) (ret := (some .int)) (hh := [(0, 67, 68, 31), (0, 67, 73, 34), (0, 67, 78, 37)]) (ent := [some (.ref xa), some (.int (nI 2)), some (.int (nI (s_C S))), some (.int (nI 0)), none]) (by decide +kernel) rfl (Nat.le_of_ble_eq_true rfl) rfl rfl ?_
  intro F hE hname hT hX
  refine x_iload_n hE dL_asks_0 rfl ?_
  refine x_if_ne (tgt := 12) hE dL_asks_1 (by decide) (fun c1 => ?_) (fun c1 => absurd c1 (by decide))
  refine x_iload_n hE dL_asks_12 rfl ?_
  refine x_iconst (v := nI 1) hE dL_asks_13 (by decide) ?_
  refine x_icmp_ne (tgt := 33) hE dL_asks_14 (by decide) (fun c14 => ?_) (fun c14 => absurd c14 (by decide))
  refine x_iload_n hE dL_asks_33 rfl ?_
  refine x_iconst (v := nI 2) hE dL_asks_34 (by decide) ?_
  refine x_icmp_ne (tgt := 47) hE dL_asks_35 (by decide) (fun c35 => absurd rfl c35) (fun c35 => ?_)
  refine x_aload_n hE dL_asks_38 rfl rfl ?_
  refine x_iload_n hE dL_asks_39 rfl ?_
  refine x_iload_n hE dL_asks_40 rfl ?_
  refine k_callN (st := []) hE hT 2 (m_playing_n G hf) hh gL_asks_X7_playing rfl rfl rfl (by decide +kernel) ⟨Nat.le_of_ble_eq_true rfl, Nat.le_of_ble_eq_true rfl⟩ rfl rfl dL_asks_41 rfl (Nat.le_of_ble_eq_true rfl) ⟨by show 0 + (1) ≤ 1; omega, by show 0 + (6) ≤ 6; omega⟩ (fun E hE9 => ?_)
  subst hE9
  refine z_catch hE [] ⟨0, 67, 68, 31⟩ [⟨0, 67, 73, 34⟩, ⟨0, 67, 78, 37⟩] (hX.trans rfl) (fun z hz => absurd hz (by simp)) (by decide +kernel) (by decide) (List.mem_of_getElem? (i := 1) rfl) hT.2.1.1 (fun q9 => ?_)
  refine x_astore (L' := [some (.ref xa), some (.int (nI 2)), some (.int (nI (s_C S))), some (.int (nI 0)), some (.ref q9)]) hE dL_asks_68 (Nat.le_of_ble_eq_true rfl) rfl rfl ?_
  refine x_ldc (v := -70007) hE (List.mem_of_getElem? (i := 4) rfl) dL_asks_70 ?_
  refine x_widen (k := 1) (n := 6) (by omega) (by omega) ?_
  exact y_ret (x_iret hE dL_asks_72 ⟨rfl, hh⟩)
theorem A_play (G : XG) {xa : Nat} {S : PS} {hA h : HM} (hh : lH G xa S hA h) (hf : fI (s_ar S) (s_L S) (s_C S) (s_t S) (s_G S)) : ∀ A : Nat → Prop, y_M (reG G A) yL_asks wsL_asks ({ frames := 7, cells := 1, slots := 6, locals := 135 } : Room) [.ref xa, .int (nI 2), .int (nI (s_C S)), .int (nI 0)] h (fun v h' => v = some (.int (-70007)) ∧ lH G xa S hA h') (fun _ => False) (1) (6) := fun A => a_play (reG G A) hh hf
set_option maxHeartbeats 4000000 in
set_option maxRecDepth 100000 in
theorem a_level (G : XG) {xa : Nat} {S : PS} {hA h : HM} (hh : lH G xa S hA h) (hf : fI (s_ar S) (s_L S) (s_C S) (s_t S) (s_G S)) : y_M G yL_asks wsL_asks ({ frames := 7, cells := 1, slots := 6, locals := 135 } : Room) [.ref xa, .int (nI 3), .int (nI (s_L S)), .int (nI 0)] h (fun v h' => v = some (.int (-70007)) ∧ lH G xa S hA h') (fun _ => False) (1) (6) := by
  refine y_M.ofH (cc := cL_asks) (maxL := 5) (ret := (some .int)) (hh := [(0, 67, 68, 31), (0, 67, 73, 34), (0, 67, 78, 37)]) (ent := [some (.ref xa), some (.int (nI 3)), some (.int (nI (s_L S))), some (.int (nI 0)), none]) (by decide +kernel) rfl (Nat.le_of_ble_eq_true rfl) rfl rfl ?_
  intro F hE hname hT hX
  refine x_iload_n hE dL_asks_0 rfl ?_
  refine x_if_ne (tgt := 12) hE dL_asks_1 (by decide) (fun c1 => ?_) (fun c1 => absurd c1 (by decide))
  refine x_iload_n hE dL_asks_12 rfl ?_
  refine x_iconst (v := nI 1) hE dL_asks_13 (by decide) ?_
  refine x_icmp_ne (tgt := 33) hE dL_asks_14 (by decide) (fun c14 => ?_) (fun c14 => absurd c14 (by decide))
  refine x_iload_n hE dL_asks_33 rfl ?_
  refine x_iconst (v := nI 2) hE dL_asks_34 (by decide) ?_
  refine x_icmp_ne (tgt := 47) hE dL_asks_35 (by decide) (fun c35 => ?_) (fun c35 => absurd c35 (by decide))
  refine x_iload_n hE dL_asks_47 rfl ?_
  refine x_iconst (v := nI 3) hE dL_asks_48 (by decide) ?_
  refine x_icmp_ne (tgt := 60) hE dL_asks_49 (by decide) (fun c49 => absurd rfl c49) (fun c49 => ?_)
  refine x_aload_n hE dL_asks_52 rfl rfl ?_
  refine x_iload_n hE dL_asks_53 rfl ?_
  refine k_callN (st := []) hE hT 1 (m_levelOf_n G hf) hh gL_asks_X7_levelOf rfl rfl rfl (by decide +kernel) ⟨Nat.le_of_ble_eq_true rfl, Nat.le_of_ble_eq_true rfl⟩ rfl rfl dL_asks_54 rfl (Nat.le_of_ble_eq_true rfl) ⟨by show 0 + (1) ≤ 1; omega, by show 0 + (6) ≤ 6; omega⟩ (fun E hE9 => ?_)
  subst hE9
  refine z_catch hE [] ⟨0, 67, 68, 31⟩ [⟨0, 67, 73, 34⟩, ⟨0, 67, 78, 37⟩] (hX.trans rfl) (fun z hz => absurd hz (by simp)) (by decide +kernel) (by decide) (List.mem_of_getElem? (i := 1) rfl) hT.2.1.1 (fun q9 => ?_)
  refine x_astore (L' := [some (.ref xa), some (.int (nI 3)), some (.int (nI (s_L S))), some (.int (nI 0)), some (.ref q9)]) hE dL_asks_68 (Nat.le_of_ble_eq_true rfl) rfl rfl ?_
  refine x_ldc (v := -70007) hE (List.mem_of_getElem? (i := 4) rfl) dL_asks_70 ?_
  refine x_widen (k := 1) (n := 6) (by omega) (by omega) ?_
  exact y_ret (x_iret hE dL_asks_72 ⟨rfl, hh⟩)
theorem A_level (G : XG) {xa : Nat} {S : PS} {hA h : HM} (hh : lH G xa S hA h) (hf : fI (s_ar S) (s_L S) (s_C S) (s_t S) (s_G S)) : ∀ A : Nat → Prop, y_M (reG G A) yL_asks wsL_asks ({ frames := 7, cells := 1, slots := 6, locals := 135 } : Room) [.ref xa, .int (nI 3), .int (nI (s_L S)), .int (nI 0)] h (fun v h' => v = some (.int (-70007)) ∧ lH G xa S hA h') (fun _ => False) (1) (6) := fun A => a_level (reG G A) hh hf
