/-! the law's wrappers: a call of the class, its answer or its fault -/
def oM (G : XG) (o : Nat) (u : Nat → Int64) : HM := x_up emp o (.inl (g_c G 2, 1, .inr (.inl u)))
theorem oM_at {G : XG} {o : Nat} {u : Nat → Int64} : oM G o u o = some (.inl (g_c G 2, 1, .inr (.inl u))) := x_up_eq _ _ _
def bW (G : XG) (x : Nat) (S : PS) (h : HM) : Prop := ∃ (ad ow : Nat → Nat) (eA : Nat) (A1 P1 : List Nat) (c1 : Nat → GC) (A2 P2 : List Nat) (c2 : Nat → GC) (RY : List Nat), ad 0 = x ∧ cW G ad ow eA A1 P1 c1 A2 P2 c2 RY S h
def wP (G : XG) (x o f : Nat) (w9 : Int64) (S' : PS) : Option Value → HM → Prop := fun v h' => v = some (.int (nI f)) ∧ ∃ (hC : HM) (u : Nat → Int64), h' = jn hC (oM G o u) ∧ dj hC (oM G o u) ∧ bW G x S' hC ∧ (f = 0 → u 0 = w9)
theorem oM_dj {G : XG} {o : Nat} {u u' : Nat → Int64} {hC : HM} (d : dj hC (oM G o u)) : dj hC (oM G o u') := fun q e hq => by
  have := d q e hq
  unfold oM at this ⊢
  by_cases c : q = o
  · subst c; rw [x_up_eq] at this; cases this
  · rw [x_up_ne c]; rfl
theorem oM_up {G : XG} {o : Nat} {u u' : Nat → Int64} {hC : HM} (d : dj hC (oM G o u)) : x_up (jn hC (oM G o u)) o (.inl (g_c G 2, 1, .inr (.inl u'))) = jn hC (oM G o u') := by
  have hn : hC o = none := d.n oM_at
  funext q
  by_cases c : q = o
  · subst c
    rw [x_up_eq, jn_n hn, oM_at]
  · rw [x_up_ne c]
    cases z : hC q with
    | none =>
      rw [jn_n z, jn_n z]
      unfold oM
      rw [x_up_ne c, x_up_ne c]
    | some e => rw [jn_l z, jn_l z]
theorem iff0_p {f : Nat} {S S' : PS} (h : f = 0) : iff0 f S' S = S' := if_pos h
theorem iff0_n {f : Nat} {S S' : PS} (h : f ≠ 0) : iff0 f S' S = S := if_neg h
def bL (x : Int32) : Int64 := if x = 0 then 0 else 1
theorem zin0 : vp_in (nI 0) 1 := vp_in_nI (by decide) (by decide)
theorem zcl0 : (nI 0).toNatClampNeg = 0 := nI_clamp (by decide)
theorem iI.hNC {S : PS} {k : Nat} (h : iI S k) : ∀ x, x ∈ s_N S → x.1 < s_C S := fun x hx => (h.1.2.2.2.2.2.1 x hx).1
set_option maxHeartbeats 4000000 in
set_option maxRecDepth 100000 in
theorem c_L_lamp (G : XG) {xa oa : Nat} {S : PS} {hC : HM} {u : Nat → Int64} (hb : bW G xa S hC) (hd : dj hC (oM G oa u)) {k : Nat} (hI : iI S k) (hk : k ≤ 511) (b p g wa ph : Int32) : y_M G yL_lamp wsL_lamp ({ frames := 7, cells := s_n (iff0 (fHang S b p g wa ph) (hangP b p g wa ph S) S) - s_n S + 4, slots := 3 * (s_n (iff0 (fHang S b p g wa ph) (hangP b p g wa ph S) S) - s_n S) + 57, locals := 141 } : Room) [.ref xa, .int b, .int p, .int g, .int wa, .int ph, .ref oa] (jn hC (oM G oa u)) (wP G xa oa (fHang S b p g wa ph) ((nI (s_L S)).toInt64) (iff0 (fHang S b p g wa ph) (hangP b p g wa ph S) S)) (fun _ => False) (s_n (iff0 (fHang S b p g wa ph) (hangP b p g wa ph S) S) - s_n S + 4) (3 * (s_n (iff0 (fHang S b p g wa ph) (hangP b p g wa ph S) S) - s_n S) + 57) := by
  refine y_M.ofH (cc := cL_lamp) (maxL := 8) (ret := (some .int)) (hh := [(0, 16, 19, 13), (0, 16, 23, 15)]) (ent := [some (.ref xa), some (.int b), some (.int p), some (.int g), some (.int wa), some (.int ph), some (.ref oa), none]) (by decide +kernel) rfl (Nat.le_of_ble_eq_true rfl) rfl rfl ?_
  intro F hE hname hT hX
  obtain ⟨ad, ow, eA, A1, P1, c1, A2, P2, c2, RY, rfl, hW⟩ := hb
  refine x_aload hE dL_lamp_0 rfl rfl ?_
  refine x_iconst (v := nI 0) hE dL_lamp_2 (by decide) ?_
  refine x_aload_n hE dL_lamp_3 rfl rfl ?_
  refine x_iload_n hE dL_lamp_4 rfl ?_
  refine x_iload_n hE dL_lamp_5 rfl ?_
  refine x_iload_n hE dL_lamp_6 rfl ?_
  refine x_iload hE dL_lamp_7 rfl ?_
  refine x_iload hE dL_lamp_9 rfl ?_
  have hB := hW.1
  have hcm : ∀ A : Nat → Prop, y_M (reG G A) yX7_lamp wsX7_lamp ({ frames := 6, cells := 1, slots := 6, locals := 115 } : Room) ([.ref (ad 0), .int b, .int p, .int g, .int wa, .int ph]) hC (fun v h' => fHang S b p g wa ph = 0 ∧ v = some (.int (nI (s_L S))) ∧ ∃ ad' ow' : Nat → Nat, ad' 0 = ad 0 ∧ cW G ad' ow' eA A1 P1 c1 A2 P2 c2 RY (hangP b p g wa ph S) h') (fun E => (fHang S b p g wa ph = 1 ∧ E = xIA) ∨ (fHang S b p g wa ph = 2 ∧ E = xIS)) 1 6 := fun A => c_X7_lamp (reG G A) hW hI.1.1.2.2.2.1 hI.1.2.2.1 hI.hNC hI.1.2.2.2.1 b p g wa ph
  have hs1 : (1) ≤ s_n (iff0 (fHang S b p g wa ph) (hangP b p g wa ph S) S) - s_n S + 4 := by omega
  have hs2 : (6) ≤ 3 * (s_n (iff0 (fHang S b p g wa ph) (hangP b p g wa ph S) S) - s_n S) + 57 := by omega
  refine z_callY (ci := 7) (st := [.int (nI 0), .ref oa]) hE hT 5 hcm hd gL_lamp_X7_lamp rfl rfl rfl (by decide +kernel) ⟨(Nat.le_of_ble_eq_true rfl), (Nat.le_of_ble_eq_true rfl)⟩ hB rfl rfl rfl dL_lamp_11 rfl (Nat.le_of_ble_eq_true rfl) ⟨by show 0 + (1) ≤ s_n (iff0 (fHang S b p g wa ph) (hangP b p g wa ph S) S) - s_n S + 4; omega, by show 0 + (6) ≤ 3 * (s_n (iff0 (fHang S b p g wa ph) (hangP b p g wa ph S) S) - s_n S) + 57; omega⟩ (fun v h9 hp d9 => ?_) (fun E hE9 => ?_)
  · obtain ⟨hf, rfl, ad9, ow9, had, hW9⟩ := hp
    refine x_widen (k := s_n (iff0 (fHang S b p g wa ph) (hangP b p g wa ph S) S) - s_n S + 4) (n := 3 * (s_n (iff0 (fHang S b p g wa ph) (hangP b p g wa ph S) S) - s_n S) + 57) (by omega) (by omega) ?_
    refine x_i2l hE dL_lamp_14 ?_
    refine x_last (f' := vp_updL u 0 ((nI (s_L S)).toInt64)) hE (jn_r d9 oM_at) zin0 (by rw [zcl0]) dL_lamp_15 ?_
    refine x_heq (oM_up d9) ?_
    refine x_goto (tgt := 27) hE dL_lamp_16 (by decide) ?_
    refine x_iconst (v := nI 0) hE dL_lamp_27 (by decide) ?_
    exact y_ret (x_iret hE dL_lamp_28 (⟨by rw [hf], h9, _, rfl, oM_dj d9, by rw [iff0_p hf]; exact ⟨ad9, ow9, eA, A1, P1, c1, A2, P2, c2, RY, had, hW9⟩, fun _ => if_pos rfl⟩))
  · rcases hE9 with ⟨hf, rfl⟩ | ⟨hf, rfl⟩
    · refine z_catch hE [] ⟨0, 16, 19, 13⟩ [⟨0, 16, 23, 15⟩] (hX.trans rfl) (fun z hz => absurd hz (by simp)) (by decide +kernel) (by decide) (List.mem_of_getElem? (i := 1) rfl) hT.2.1.2.1 (fun q9 => ?_)
      refine x_widen (k := s_n (iff0 (fHang S b p g wa ph) (hangP b p g wa ph S) S) - s_n S + 4) (n := 3 * (s_n (iff0 (fHang S b p g wa ph) (hangP b p g wa ph S) S) - s_n S) + 57) (by omega) (by omega) ?_
      refine x_astore (L' := [some (.ref (ad 0)), some (.int b), some (.int p), some (.int g), some (.int wa), some (.int ph), some (.ref oa), some (.ref q9)]) hE dL_lamp_19 (Nat.le_of_ble_eq_true rfl) rfl rfl ?_
      refine x_iconst (v := nI 1) hE dL_lamp_21 (by decide) ?_
      exact y_ret (x_iret hE dL_lamp_22 (⟨by rw [hf], hC, u, rfl, hd, by rw [iff0_n (by rw [hf]; decide)]; exact ⟨ad, ow, eA, A1, P1, c1, A2, P2, c2, RY, rfl, hW⟩, fun z => absurd (hf.symm.trans z) (by decide)⟩))
    · refine z_catch hE [(⟨0, 16, 19, 13⟩ : ExceptionTableEntry)] ⟨0, 16, 23, 15⟩ [] (hX.trans rfl) (fun z hz => by rw [List.mem_singleton.mp hz]; exact Or.inr ⟨(by decide : 13 ≠ 0), _, (List.mem_of_getElem? (i := 1) rfl), hT.2.2.1.2.2.2.2.2⟩) (by decide +kernel) (by decide) (List.mem_of_getElem? (i := 2) rfl) hT.2.1.2.2 (fun q9 => ?_)
      refine x_widen (k := s_n (iff0 (fHang S b p g wa ph) (hangP b p g wa ph S) S) - s_n S + 4) (n := 3 * (s_n (iff0 (fHang S b p g wa ph) (hangP b p g wa ph S) S) - s_n S) + 57) (by omega) (by omega) ?_
      refine x_astore (L' := [some (.ref (ad 0)), some (.int b), some (.int p), some (.int g), some (.int wa), some (.int ph), some (.ref oa), some (.ref q9)]) hE dL_lamp_23 (Nat.le_of_ble_eq_true rfl) rfl rfl ?_
      refine x_iconst (v := nI 2) hE dL_lamp_25 (by decide) ?_
      exact y_ret (x_iret hE dL_lamp_26 (⟨by rw [hf], hC, u, rfl, hd, by rw [iff0_n (by rw [hf]; decide)]; exact ⟨ad, ow, eA, A1, P1, c1, A2, P2, c2, RY, rfl, hW⟩, fun z => absurd (hf.symm.trans z) (by decide)⟩))
set_option maxHeartbeats 4000000 in
set_option maxRecDepth 100000 in
theorem c_L_die (G : XG) {xa oa : Nat} {S : PS} {hC : HM} {u : Nat → Int64} (hb : bW G xa S hC) (hd : dj hC (oM G oa u)) {k : Nat} (hI : iI S k) (hk : k ≤ 511) (i : Int32) : y_M G yL_die wsL_die ({ frames := 7, cells := s_n (iff0 (fLamp S i) (dieP i.toNatClampNeg S) S) - s_n S + 4, slots := 3 * (s_n (iff0 (fLamp S i) (dieP i.toNatClampNeg S) S) - s_n S) + 57, locals := 137 } : Room) [.ref xa, .int i, .ref oa] (jn hC (oM G oa u)) (wP G xa oa (fLamp S i) (bL (s_ar (dieP i.toNatClampNeg S) 7 i.toNatClampNeg)) (iff0 (fLamp S i) (dieP i.toNatClampNeg S) S)) (fun _ => False) (s_n (iff0 (fLamp S i) (dieP i.toNatClampNeg S) S) - s_n S + 4) (3 * (s_n (iff0 (fLamp S i) (dieP i.toNatClampNeg S) S) - s_n S) + 57) := by
  refine y_M.ofH (cc := cL_die) (maxL := 4) (ret := (some .int)) (hh := [(0, 16, 19, 21)]) (ent := [some (.ref xa), some (.int i), some (.ref oa), none]) (by decide +kernel) rfl (Nat.le_of_ble_eq_true rfl) rfl rfl ?_
  intro F hE hname hT hX
  obtain ⟨ad, ow, eA, A1, P1, c1, A2, P2, c2, RY, rfl, hW⟩ := hb
  refine x_aload_n hE dL_die_0 rfl rfl ?_
  refine x_iconst (v := nI 0) hE dL_die_1 (by decide) ?_
  refine x_aload_n hE dL_die_2 rfl rfl ?_
  refine x_iload_n hE dL_die_3 rfl ?_
  have hB := hW.1
  have hcm : ∀ A : Nat → Prop, y_M (reG G A) yX7_die wsX7_die ({ frames := 6, cells := 1, slots := 6, locals := 115 } : Room) ([.ref (ad 0), .int i]) hC (fun v h' => fLamp S i = 0 ∧ v = some (.int (s_ar (dieP i.toNatClampNeg S) 7 i.toNatClampNeg)) ∧ cW G ad ow eA A1 P1 c1 A2 P2 c2 RY (dieP i.toNatClampNeg S) h') (fun E => fLamp S i = 1 ∧ E = xIO) 1 6 := fun A => c_X7_die (reG G A) hW i
  have hs1 : (1) ≤ s_n (iff0 (fLamp S i) (dieP i.toNatClampNeg S) S) - s_n S + 4 := by omega
  have hs2 : (6) ≤ 3 * (s_n (iff0 (fLamp S i) (dieP i.toNatClampNeg S) S) - s_n S) + 57 := by omega
  refine z_callY (ci := 7) (st := [.int (nI 0), .ref oa]) hE hT 1 hcm hd gL_die_X7_die rfl rfl rfl (by decide +kernel) ⟨(Nat.le_of_ble_eq_true rfl), (Nat.le_of_ble_eq_true rfl)⟩ hB rfl rfl rfl dL_die_4 rfl (Nat.le_of_ble_eq_true rfl) ⟨by show 0 + (1) ≤ s_n (iff0 (fLamp S i) (dieP i.toNatClampNeg S) S) - s_n S + 4; omega, by show 0 + (6) ≤ 3 * (s_n (iff0 (fLamp S i) (dieP i.toNatClampNeg S) S) - s_n S) + 57; omega⟩ (fun v h9 hp d9 => ?_) (fun E hE9 => ?_)
  · obtain ⟨hf, rfl, hW9⟩ := hp
    refine x_widen (k := s_n (iff0 (fLamp S i) (dieP i.toNatClampNeg S) S) - s_n S + 4) (n := 3 * (s_n (iff0 (fLamp S i) (dieP i.toNatClampNeg S) S) - s_n S) + 57) (by omega) (by omega) ?_
    refine x_if_eq (tgt := 14) hE dL_die_7 (by decide) (fun c7 => ?_) (fun c7 => ?_)
    · have ez : (s_ar (dieP i.toNatClampNeg S) 7 i.toNatClampNeg) = 0 := c7
      refine x_lconst (v := 0) hE dL_die_14 (by decide) ?_
      refine x_last (f' := vp_updL u 0 (0)) hE (jn_r d9 oM_at) zin0 (by rw [zcl0]) dL_die_15 ?_
      refine x_heq (oM_up d9) ?_
      refine x_goto (tgt := 22) hE dL_die_16 (by decide) ?_
      refine x_iconst (v := nI 0) hE dL_die_22 (by decide) ?_
      exact y_ret (x_iret hE dL_die_23 (⟨by rw [hf], h9, _, rfl, oM_dj d9, by rw [iff0_p hf]; exact ⟨ad, ow, eA, A1, P1, c1, A2, P2, c2, RY, rfl, hW9⟩, fun _ => (show (0 : Int64) = _ by unfold bL; rw [if_pos ez])⟩))
    · have ez : ¬ (s_ar (dieP i.toNatClampNeg S) 7 i.toNatClampNeg) = 0 := c7
      refine x_lconst (v := 1) hE dL_die_10 (by decide) ?_
      refine x_goto (tgt := 15) hE dL_die_11 (by decide) ?_
      refine x_last (f' := vp_updL u 0 (1)) hE (jn_r d9 oM_at) zin0 (by rw [zcl0]) dL_die_15 ?_
      refine x_heq (oM_up d9) ?_
      refine x_goto (tgt := 22) hE dL_die_16 (by decide) ?_
      refine x_iconst (v := nI 0) hE dL_die_22 (by decide) ?_
      exact y_ret (x_iret hE dL_die_23 (⟨by rw [hf], h9, _, rfl, oM_dj d9, by rw [iff0_p hf]; exact ⟨ad, ow, eA, A1, P1, c1, A2, P2, c2, RY, rfl, hW9⟩, fun _ => (show (1 : Int64) = _ by unfold bL; rw [if_neg ez])⟩))
  · obtain ⟨hf, rfl⟩ := hE9
    refine z_catch hE [] ⟨0, 16, 19, 21⟩ [] (hX.trans rfl) (fun z hz => absurd hz (by simp)) (by decide +kernel) (by decide) (List.mem_of_getElem? (i := 1) rfl) hT.2.1.1 (fun q9 => ?_)
    refine x_widen (k := s_n (iff0 (fLamp S i) (dieP i.toNatClampNeg S) S) - s_n S + 4) (n := 3 * (s_n (iff0 (fLamp S i) (dieP i.toNatClampNeg S) S) - s_n S) + 57) (by omega) (by omega) ?_
    refine x_astore_n (L' := [some (.ref (ad 0)), some (.int i), some (.ref oa), some (.ref q9)]) hE dL_die_19 rfl (Nat.le_of_ble_eq_true rfl) rfl rfl ?_
    refine x_iconst (v := nI 1) hE dL_die_20 (by decide) ?_
    exact y_ret (x_iret hE dL_die_21 (⟨by rw [hf], hC, u, rfl, hd, by rw [iff0_n (by rw [hf]; decide)]; exact ⟨ad, ow, eA, A1, P1, c1, A2, P2, c2, RY, rfl, hW⟩, fun z => absurd (hf.symm.trans z) (by decide)⟩))
set_option maxHeartbeats 4000000 in
set_option maxRecDepth 100000 in
theorem c_L_house (G : XG) {xa oa : Nat} {S : PS} {hC : HM} {u : Nat → Int64} (hb : bW G xa S hC) (hd : dj hC (oM G oa u)) {k : Nat} (hI : iI S k) (hk : k ≤ 511) (x : Int32) : y_M G yL_house wsL_house ({ frames := 7, cells := s_n (iff0 (fHouse x) (houseP x S) S) - s_n S + 4, slots := 3 * (s_n (iff0 (fHouse x) (houseP x S) S) - s_n S) + 57, locals := 136 } : Room) [.ref xa, .int x, .ref oa] (jn hC (oM G oa u)) (wP G xa oa (fHouse x) ((nI (cnt_ (usL (s_L S) (s_ar S) x) 16)).toInt64) (iff0 (fHouse x) (houseP x S) S)) (fun _ => False) (s_n (iff0 (fHouse x) (houseP x S) S) - s_n S + 4) (3 * (s_n (iff0 (fHouse x) (houseP x S) S) - s_n S) + 57) := by
  refine y_M.ofH (cc := cL_house) (maxL := 4) (ret := (some .int)) (hh := [(0, 9, 12, 13)]) (ent := [some (.ref xa), some (.int x), some (.ref oa), none]) (by decide +kernel) rfl (Nat.le_of_ble_eq_true rfl) rfl rfl ?_
  intro F hE hname hT hX
  obtain ⟨ad, ow, eA, A1, P1, c1, A2, P2, c2, RY, rfl, hW⟩ := hb
  refine x_aload_n hE dL_house_0 rfl rfl ?_
  refine x_iconst (v := nI 0) hE dL_house_1 (by decide) ?_
  refine x_aload_n hE dL_house_2 rfl rfl ?_
  refine x_iload_n hE dL_house_3 rfl ?_
  have hB := hW.1
  have hcm : ∀ A : Nat → Prop, y_M (reG G A) yX7_house wsX7_house ({ frames := 6, cells := 1, slots := 6, locals := 115 } : Room) ([.ref (ad 0), .int x]) hC (fun v h' => fHouse x = 0 ∧ v = some (.int (nI (cnt_ (usL (s_L S) (s_ar S) x) 16))) ∧ cW G ad ow eA A1 P1 c1 A2 P2 c2 RY (houseP x S) h') (fun E => fHouse x = 1 ∧ E = xIA) 1 6 := fun A => c_X7_house (reG G A) hW x
  have hs1 : (1) ≤ s_n (iff0 (fHouse x) (houseP x S) S) - s_n S + 4 := by omega
  have hs2 : (6) ≤ 3 * (s_n (iff0 (fHouse x) (houseP x S) S) - s_n S) + 57 := by omega
  refine z_callY (ci := 7) (st := [.int (nI 0), .ref oa]) hE hT 1 hcm hd gL_house_X7_house rfl rfl rfl (by decide +kernel) ⟨(Nat.le_of_ble_eq_true rfl), (Nat.le_of_ble_eq_true rfl)⟩ hB rfl rfl rfl dL_house_4 rfl (Nat.le_of_ble_eq_true rfl) ⟨by show 0 + (1) ≤ s_n (iff0 (fHouse x) (houseP x S) S) - s_n S + 4; omega, by show 0 + (6) ≤ 3 * (s_n (iff0 (fHouse x) (houseP x S) S) - s_n S) + 57; omega⟩ (fun v h9 hp d9 => ?_) (fun E hE9 => ?_)
  · obtain ⟨hf, rfl, hW9⟩ := hp
    refine x_widen (k := s_n (iff0 (fHouse x) (houseP x S) S) - s_n S + 4) (n := 3 * (s_n (iff0 (fHouse x) (houseP x S) S) - s_n S) + 57) (by omega) (by omega) ?_
    refine x_i2l hE dL_house_7 ?_
    refine x_last (f' := vp_updL u 0 ((nI (cnt_ (usL (s_L S) (s_ar S) x) 16)).toInt64)) hE (jn_r d9 oM_at) zin0 (by rw [zcl0]) dL_house_8 ?_
    refine x_heq (oM_up d9) ?_
    refine x_goto (tgt := 15) hE dL_house_9 (by decide) ?_
    refine x_iconst (v := nI 0) hE dL_house_15 (by decide) ?_
    exact y_ret (x_iret hE dL_house_16 (⟨by rw [hf], h9, _, rfl, oM_dj d9, by rw [iff0_p hf]; exact ⟨ad, ow, eA, A1, P1, c1, A2, P2, c2, RY, rfl, hW9⟩, fun _ => if_pos rfl⟩))
  · obtain ⟨hf, rfl⟩ := hE9
    refine z_catch hE [] ⟨0, 9, 12, 13⟩ [] (hX.trans rfl) (fun z hz => absurd hz (by simp)) (by decide +kernel) (by decide) (List.mem_of_getElem? (i := 1) rfl) hT.2.1.2.1 (fun q9 => ?_)
    refine x_widen (k := s_n (iff0 (fHouse x) (houseP x S) S) - s_n S + 4) (n := 3 * (s_n (iff0 (fHouse x) (houseP x S) S) - s_n S) + 57) (by omega) (by omega) ?_
    refine x_astore_n (L' := [some (.ref (ad 0)), some (.int x), some (.ref oa), some (.ref q9)]) hE dL_house_12 rfl (Nat.le_of_ble_eq_true rfl) rfl rfl ?_
    refine x_iconst (v := nI 1) hE dL_house_13 (by decide) ?_
    exact y_ret (x_iret hE dL_house_14 (⟨by rw [hf], hC, u, rfl, hd, by rw [iff0_n (by rw [hf]; decide)]; exact ⟨ad, ow, eA, A1, P1, c1, A2, P2, c2, RY, rfl, hW⟩, fun z => absurd (hf.symm.trans z) (by decide)⟩))
set_option maxHeartbeats 4000000 in
set_option maxRecDepth 100000 in
theorem c_L_power (G : XG) {xa oa : Nat} {S : PS} {hC : HM} {u : Nat → Int64} (hb : bW G xa S hC) (hd : dj hC (oM G oa u)) {k : Nat} (hI : iI S k) (hk : k ≤ 511) (ph wa : Int32) : y_M G yL_power wsL_power ({ frames := 7, cells := s_n (iff0 (fPower ph wa) (powerP ph wa S) S) - s_n S + 4, slots := 3 * (s_n (iff0 (fPower ph wa) (powerP ph wa S) S) - s_n S) + 57, locals := 113 } : Room) [.ref xa, .int ph, .int wa, .ref oa] (jn hC (oM G oa u)) (wP G xa oa (fPower ph wa) ((s_ar S 9 ph.toNatClampNeg).toInt64) (iff0 (fPower ph wa) (powerP ph wa S) S)) (fun _ => False) (s_n (iff0 (fPower ph wa) (powerP ph wa S) S) - s_n S + 4) (3 * (s_n (iff0 (fPower ph wa) (powerP ph wa S) S) - s_n S) + 57) := by
  refine y_M.ofH (cc := cL_power) (maxL := 5) (ret := (some .int)) (hh := [(0, 10, 13, 21), (0, 10, 17, 13)]) (ent := [some (.ref xa), some (.int ph), some (.int wa), some (.ref oa), none]) (by decide +kernel) rfl (Nat.le_of_ble_eq_true rfl) rfl rfl ?_
  intro F hE hname hT hX
  obtain ⟨ad, ow, eA, A1, P1, c1, A2, P2, c2, RY, rfl, hW⟩ := hb
  refine x_aload_n hE dL_power_0 rfl rfl ?_
  refine x_iconst (v := nI 0) hE dL_power_1 (by decide) ?_
  refine x_aload_n hE dL_power_2 rfl rfl ?_
  refine x_iload_n hE dL_power_3 rfl ?_
  refine x_iload_n hE dL_power_4 rfl ?_
  have hB := hW.1
  have hcm : ∀ A : Nat → Prop, y_M (reG G A) yX7_power wsX7_power ({ frames := 6, cells := 1, slots := 6, locals := 90 } : Room) ([.ref (ad 0), .int ph, .int wa]) hC (fun v h' => fPower ph wa = 0 ∧ v = some (.int (s_ar S 9 ph.toNatClampNeg)) ∧ cW G ad ow eA A1 P1 c1 A2 P2 c2 RY (powerP ph wa S) h') (fun E => (fPower ph wa = 1 ∧ E = xIO) ∨ (fPower ph wa = 2 ∧ E = xIA)) 1 6 := fun A => c_X7_power (reG G A) hW ph wa
  have hs1 : (1) ≤ s_n (iff0 (fPower ph wa) (powerP ph wa S) S) - s_n S + 4 := by omega
  have hs2 : (6) ≤ 3 * (s_n (iff0 (fPower ph wa) (powerP ph wa S) S) - s_n S) + 57 := by omega
  refine z_callY (ci := 7) (st := [.int (nI 0), .ref oa]) hE hT 2 hcm hd gL_power_X7_power rfl rfl rfl (by decide +kernel) ⟨(Nat.le_of_ble_eq_true rfl), (Nat.le_of_ble_eq_true rfl)⟩ hB rfl rfl rfl dL_power_5 rfl (Nat.le_of_ble_eq_true rfl) ⟨by show 0 + (1) ≤ s_n (iff0 (fPower ph wa) (powerP ph wa S) S) - s_n S + 4; omega, by show 0 + (6) ≤ 3 * (s_n (iff0 (fPower ph wa) (powerP ph wa S) S) - s_n S) + 57; omega⟩ (fun v h9 hp d9 => ?_) (fun E hE9 => ?_)
  · obtain ⟨hf, rfl, hW9⟩ := hp
    refine x_widen (k := s_n (iff0 (fPower ph wa) (powerP ph wa S) S) - s_n S + 4) (n := 3 * (s_n (iff0 (fPower ph wa) (powerP ph wa S) S) - s_n S) + 57) (by omega) (by omega) ?_
    refine x_i2l hE dL_power_8 ?_
    refine x_last (f' := vp_updL u 0 ((s_ar S 9 ph.toNatClampNeg).toInt64)) hE (jn_r d9 oM_at) zin0 (by rw [zcl0]) dL_power_9 ?_
    refine x_heq (oM_up d9) ?_
    refine x_goto (tgt := 21) hE dL_power_10 (by decide) ?_
    refine x_iconst (v := nI 0) hE dL_power_21 (by decide) ?_
    exact y_ret (x_iret hE dL_power_22 (⟨by rw [hf], h9, _, rfl, oM_dj d9, by rw [iff0_p hf]; exact ⟨ad, ow, eA, A1, P1, c1, A2, P2, c2, RY, rfl, hW9⟩, fun _ => if_pos rfl⟩))
  · rcases hE9 with ⟨hf, rfl⟩ | ⟨hf, rfl⟩
    · refine z_catch hE [] ⟨0, 10, 13, 21⟩ [⟨0, 10, 17, 13⟩] (hX.trans rfl) (fun z hz => absurd hz (by simp)) (by decide +kernel) (by decide) (List.mem_of_getElem? (i := 1) rfl) hT.2.1.1 (fun q9 => ?_)
      refine x_widen (k := s_n (iff0 (fPower ph wa) (powerP ph wa S) S) - s_n S + 4) (n := 3 * (s_n (iff0 (fPower ph wa) (powerP ph wa S) S) - s_n S) + 57) (by omega) (by omega) ?_
      refine x_astore (L' := [some (.ref (ad 0)), some (.int ph), some (.int wa), some (.ref oa), some (.ref q9)]) hE dL_power_13 (Nat.le_of_ble_eq_true rfl) rfl rfl ?_
      refine x_iconst (v := nI 1) hE dL_power_15 (by decide) ?_
      exact y_ret (x_iret hE dL_power_16 (⟨by rw [hf], hC, u, rfl, hd, by rw [iff0_n (by rw [hf]; decide)]; exact ⟨ad, ow, eA, A1, P1, c1, A2, P2, c2, RY, rfl, hW⟩, fun z => absurd (hf.symm.trans z) (by decide)⟩))
    · refine z_catch hE [(⟨0, 10, 13, 21⟩ : ExceptionTableEntry)] ⟨0, 10, 17, 13⟩ [] (hX.trans rfl) (fun z hz => by rw [List.mem_singleton.mp hz]; exact Or.inr ⟨(by decide : 21 ≠ 0), _, (List.mem_of_getElem? (i := 1) rfl), hT.2.2.1.2.1⟩) (by decide +kernel) (by decide) (List.mem_of_getElem? (i := 2) rfl) hT.2.1.2.1 (fun q9 => ?_)
      refine x_widen (k := s_n (iff0 (fPower ph wa) (powerP ph wa S) S) - s_n S + 4) (n := 3 * (s_n (iff0 (fPower ph wa) (powerP ph wa S) S) - s_n S) + 57) (by omega) (by omega) ?_
      refine x_astore (L' := [some (.ref (ad 0)), some (.int ph), some (.int wa), some (.ref oa), some (.ref q9)]) hE dL_power_17 (Nat.le_of_ble_eq_true rfl) rfl rfl ?_
      refine x_iconst (v := nI 2) hE dL_power_19 (by decide) ?_
      exact y_ret (x_iret hE dL_power_20 (⟨by rw [hf], hC, u, rfl, hd, by rw [iff0_n (by rw [hf]; decide)]; exact ⟨ad, ow, eA, A1, P1, c1, A2, P2, c2, RY, rfl, hW⟩, fun z => absurd (hf.symm.trans z) (by decide)⟩))
set_option maxHeartbeats 4000000 in
set_option maxRecDepth 100000 in
theorem c_L_cue (G : XG) {xa oa : Nat} {S : PS} {hC : HM} {u : Nat → Int64} (hb : bW G xa S hC) (hd : dj hC (oM G oa u)) {k : Nat} (hI : iI S k) (hk : k ≤ 511) (so up dn : Int32) : y_M G yL_cue wsL_cue ({ frames := 7, cells := s_n (iff0 (fCue S so up dn) (cueP so up dn S) S) - s_n S + 4, slots := 3 * (s_n (iff0 (fCue S so up dn) (cueP so up dn S) S) - s_n S) + 57, locals := 114 } : Room) [.ref xa, .int so, .int up, .int dn, .ref oa] (jn hC (oM G oa u)) (wP G xa oa (fCue S so up dn) ((nI (s_C S)).toInt64) (iff0 (fCue S so up dn) (cueP so up dn S) S)) (fun _ => False) (s_n (iff0 (fCue S so up dn) (cueP so up dn S) S) - s_n S + 4) (3 * (s_n (iff0 (fCue S so up dn) (cueP so up dn S) S) - s_n S) + 57) := by
  refine y_M.ofH (cc := cL_cue) (maxL := 6) (ret := (some .int)) (hh := [(0, 12, 15, 13), (0, 12, 19, 15)]) (ent := [some (.ref xa), some (.int so), some (.int up), some (.int dn), some (.ref oa), none]) (by decide +kernel) rfl (Nat.le_of_ble_eq_true rfl) rfl rfl ?_
  intro F hE hname hT hX
  obtain ⟨ad, ow, eA, A1, P1, c1, A2, P2, c2, RY, rfl, hW⟩ := hb
  refine x_aload hE dL_cue_0 rfl rfl ?_
  refine x_iconst (v := nI 0) hE dL_cue_2 (by decide) ?_
  refine x_aload_n hE dL_cue_3 rfl rfl ?_
  refine x_iload_n hE dL_cue_4 rfl ?_
  refine x_iload_n hE dL_cue_5 rfl ?_
  refine x_iload_n hE dL_cue_6 rfl ?_
  have hB := hW.1
  have hcm : ∀ A : Nat → Prop, y_M (reG G A) yX7_cue wsX7_cue ({ frames := 6, cells := 4, slots := 57, locals := 90 } : Room) ([.ref (ad 0), .int so, .int up, .int dn]) hC (fun v h' => fCue S so up dn = 0 ∧ v = some (.int (nI (s_C S))) ∧ ∃ ad' ow' : Nat → Nat, ad' 0 = ad 0 ∧ cW G ad' ow' eA A1 P1 c1 A2 P2 c2 RY (cueP so up dn S) h') (fun E => (fCue S so up dn = 1 ∧ E = xIA) ∨ (fCue S so up dn = 2 ∧ E = xIS)) 4 57 := fun A => c_X7_cue (reG G A) hW hI.1.1.2.2.2.1 hI.1.2.2.1 hI.hNC hI.1.2.2.2.1 so up dn
  have hs1 : (4) ≤ s_n (iff0 (fCue S so up dn) (cueP so up dn S) S) - s_n S + 4 := by omega
  have hs2 : (57) ≤ 3 * (s_n (iff0 (fCue S so up dn) (cueP so up dn S) S) - s_n S) + 57 := by omega
  refine z_callY (ci := 7) (st := [.int (nI 0), .ref oa]) hE hT 3 hcm hd gL_cue_X7_cue rfl rfl rfl (by decide +kernel) ⟨(Nat.le_of_ble_eq_true rfl), (Nat.le_of_ble_eq_true rfl)⟩ hB rfl rfl rfl dL_cue_7 rfl (Nat.le_of_ble_eq_true rfl) ⟨by show 0 + (4) ≤ s_n (iff0 (fCue S so up dn) (cueP so up dn S) S) - s_n S + 4; omega, by show 0 + (57) ≤ 3 * (s_n (iff0 (fCue S so up dn) (cueP so up dn S) S) - s_n S) + 57; omega⟩ (fun v h9 hp d9 => ?_) (fun E hE9 => ?_)
  · obtain ⟨hf, rfl, ad9, ow9, had, hW9⟩ := hp
    refine x_widen (k := s_n (iff0 (fCue S so up dn) (cueP so up dn S) S) - s_n S + 4) (n := 3 * (s_n (iff0 (fCue S so up dn) (cueP so up dn S) S) - s_n S) + 57) (by omega) (by omega) ?_
    refine x_i2l hE dL_cue_10 ?_
    refine x_last (f' := vp_updL u 0 ((nI (s_C S)).toInt64)) hE (jn_r d9 oM_at) zin0 (by rw [zcl0]) dL_cue_11 ?_
    refine x_heq (oM_up d9) ?_
    refine x_goto (tgt := 23) hE dL_cue_12 (by decide) ?_
    refine x_iconst (v := nI 0) hE dL_cue_23 (by decide) ?_
    exact y_ret (x_iret hE dL_cue_24 (⟨by rw [hf], h9, _, rfl, oM_dj d9, by rw [iff0_p hf]; exact ⟨ad9, ow9, eA, A1, P1, c1, A2, P2, c2, RY, had, hW9⟩, fun _ => if_pos rfl⟩))
  · rcases hE9 with ⟨hf, rfl⟩ | ⟨hf, rfl⟩
    · refine z_catch hE [] ⟨0, 12, 15, 13⟩ [⟨0, 12, 19, 15⟩] (hX.trans rfl) (fun z hz => absurd hz (by simp)) (by decide +kernel) (by decide) (List.mem_of_getElem? (i := 1) rfl) hT.2.1.2.1 (fun q9 => ?_)
      refine x_widen (k := s_n (iff0 (fCue S so up dn) (cueP so up dn S) S) - s_n S + 4) (n := 3 * (s_n (iff0 (fCue S so up dn) (cueP so up dn S) S) - s_n S) + 57) (by omega) (by omega) ?_
      refine x_astore (L' := [some (.ref (ad 0)), some (.int so), some (.int up), some (.int dn), some (.ref oa), some (.ref q9)]) hE dL_cue_15 (Nat.le_of_ble_eq_true rfl) rfl rfl ?_
      refine x_iconst (v := nI 1) hE dL_cue_17 (by decide) ?_
      exact y_ret (x_iret hE dL_cue_18 (⟨by rw [hf], hC, u, rfl, hd, by rw [iff0_n (by rw [hf]; decide)]; exact ⟨ad, ow, eA, A1, P1, c1, A2, P2, c2, RY, rfl, hW⟩, fun z => absurd (hf.symm.trans z) (by decide)⟩))
    · refine z_catch hE [(⟨0, 12, 15, 13⟩ : ExceptionTableEntry)] ⟨0, 12, 19, 15⟩ [] (hX.trans rfl) (fun z hz => by rw [List.mem_singleton.mp hz]; exact Or.inr ⟨(by decide : 13 ≠ 0), _, (List.mem_of_getElem? (i := 1) rfl), hT.2.2.1.2.2.2.2.2⟩) (by decide +kernel) (by decide) (List.mem_of_getElem? (i := 2) rfl) hT.2.1.2.2 (fun q9 => ?_)
      refine x_widen (k := s_n (iff0 (fCue S so up dn) (cueP so up dn S) S) - s_n S + 4) (n := 3 * (s_n (iff0 (fCue S so up dn) (cueP so up dn S) S) - s_n S) + 57) (by omega) (by omega) ?_
      refine x_astore (L' := [some (.ref (ad 0)), some (.int so), some (.int up), some (.int dn), some (.ref oa), some (.ref q9)]) hE dL_cue_19 (Nat.le_of_ble_eq_true rfl) rfl rfl ?_
      refine x_iconst (v := nI 2) hE dL_cue_21 (by decide) ?_
      exact y_ret (x_iret hE dL_cue_22 (⟨by rw [hf], hC, u, rfl, hd, by rw [iff0_n (by rw [hf]; decide)]; exact ⟨ad, ow, eA, A1, P1, c1, A2, P2, c2, RY, rfl, hW⟩, fun z => absurd (hf.symm.trans z) (by decide)⟩))
set_option maxHeartbeats 4000000 in
set_option maxRecDepth 100000 in
theorem c_L_level (G : XG) {xa oa : Nat} {S : PS} {hC : HM} {u : Nat → Int64} (hb : bW G xa S hC) (hd : dj hC (oM G oa u)) {k : Nat} (hI : iI S k) (hk : k ≤ 511) (c i x : Int32) : y_M G yL_level wsL_level ({ frames := 7, cells := s_n (iff0 (fLevel S c i x) (levelP c.toNatClampNeg i.toNatClampNeg x S) S) - s_n S + 4, slots := 3 * (s_n (iff0 (fLevel S c i x) (levelP c.toNatClampNeg i.toNatClampNeg x S) S) - s_n S) + 57, locals := 118 } : Room) [.ref xa, .int c, .int i, .int x, .ref oa] (jn hC (oM G oa u)) (wP G xa oa (fLevel S c i x) ((s_ar S 14 (16 * c.toNatClampNeg + i.toNatClampNeg)).toInt64) (iff0 (fLevel S c i x) (levelP c.toNatClampNeg i.toNatClampNeg x S) S)) (fun _ => False) (s_n (iff0 (fLevel S c i x) (levelP c.toNatClampNeg i.toNatClampNeg x S) S) - s_n S + 4) (3 * (s_n (iff0 (fLevel S c i x) (levelP c.toNatClampNeg i.toNatClampNeg x S) S) - s_n S) + 57) := by
  refine y_M.ofH (cc := cL_level) (maxL := 6) (ret := (some .int)) (hh := [(0, 12, 15, 21), (0, 12, 19, 13)]) (ent := [some (.ref xa), some (.int c), some (.int i), some (.int x), some (.ref oa), none]) (by decide +kernel) rfl (Nat.le_of_ble_eq_true rfl) rfl rfl ?_
  intro F hE hname hT hX
  obtain ⟨ad, ow, eA, A1, P1, c1, A2, P2, c2, RY, rfl, hW⟩ := hb
  refine x_aload hE dL_level_0 rfl rfl ?_
  refine x_iconst (v := nI 0) hE dL_level_2 (by decide) ?_
  refine x_aload_n hE dL_level_3 rfl rfl ?_
  refine x_iload_n hE dL_level_4 rfl ?_
  refine x_iload_n hE dL_level_5 rfl ?_
  refine x_iload_n hE dL_level_6 rfl ?_
  have hB := hW.1
  have hcm : ∀ A : Nat → Prop, y_M (reG G A) yX7_level wsX7_level ({ frames := 6, cells := 1, slots := 6, locals := 93 } : Room) ([.ref (ad 0), .int c, .int i, .int x]) hC (fun v h' => fLevel S c i x = 0 ∧ v = some (.int (s_ar S 14 (16 * c.toNatClampNeg + i.toNatClampNeg))) ∧ cW G ad ow eA A1 P1 c1 A2 P2 c2 RY (levelP c.toNatClampNeg i.toNatClampNeg x S) h') (fun E => (fLevel S c i x = 1 ∧ E = xIO) ∨ (fLevel S c i x = 2 ∧ E = xIA)) 1 6 := fun A => c_X7_level (reG G A) hW c i x
  have hs1 : (1) ≤ s_n (iff0 (fLevel S c i x) (levelP c.toNatClampNeg i.toNatClampNeg x S) S) - s_n S + 4 := by omega
  have hs2 : (6) ≤ 3 * (s_n (iff0 (fLevel S c i x) (levelP c.toNatClampNeg i.toNatClampNeg x S) S) - s_n S) + 57 := by omega
  refine z_callY (ci := 7) (st := [.int (nI 0), .ref oa]) hE hT 3 hcm hd gL_level_X7_level rfl rfl rfl (by decide +kernel) ⟨(Nat.le_of_ble_eq_true rfl), (Nat.le_of_ble_eq_true rfl)⟩ hB rfl rfl rfl dL_level_7 rfl (Nat.le_of_ble_eq_true rfl) ⟨by show 0 + (1) ≤ s_n (iff0 (fLevel S c i x) (levelP c.toNatClampNeg i.toNatClampNeg x S) S) - s_n S + 4; omega, by show 0 + (6) ≤ 3 * (s_n (iff0 (fLevel S c i x) (levelP c.toNatClampNeg i.toNatClampNeg x S) S) - s_n S) + 57; omega⟩ (fun v h9 hp d9 => ?_) (fun E hE9 => ?_)
  · obtain ⟨hf, rfl, hW9⟩ := hp
    refine x_widen (k := s_n (iff0 (fLevel S c i x) (levelP c.toNatClampNeg i.toNatClampNeg x S) S) - s_n S + 4) (n := 3 * (s_n (iff0 (fLevel S c i x) (levelP c.toNatClampNeg i.toNatClampNeg x S) S) - s_n S) + 57) (by omega) (by omega) ?_
    refine x_i2l hE dL_level_10 ?_
    refine x_last (f' := vp_updL u 0 ((s_ar S 14 (16 * c.toNatClampNeg + i.toNatClampNeg)).toInt64)) hE (jn_r d9 oM_at) zin0 (by rw [zcl0]) dL_level_11 ?_
    refine x_heq (oM_up d9) ?_
    refine x_goto (tgt := 23) hE dL_level_12 (by decide) ?_
    refine x_iconst (v := nI 0) hE dL_level_23 (by decide) ?_
    exact y_ret (x_iret hE dL_level_24 (⟨by rw [hf], h9, _, rfl, oM_dj d9, by rw [iff0_p hf]; exact ⟨ad, ow, eA, A1, P1, c1, A2, P2, c2, RY, rfl, hW9⟩, fun _ => if_pos rfl⟩))
  · rcases hE9 with ⟨hf, rfl⟩ | ⟨hf, rfl⟩
    · refine z_catch hE [] ⟨0, 12, 15, 21⟩ [⟨0, 12, 19, 13⟩] (hX.trans rfl) (fun z hz => absurd hz (by simp)) (by decide +kernel) (by decide) (List.mem_of_getElem? (i := 1) rfl) hT.2.1.1 (fun q9 => ?_)
      refine x_widen (k := s_n (iff0 (fLevel S c i x) (levelP c.toNatClampNeg i.toNatClampNeg x S) S) - s_n S + 4) (n := 3 * (s_n (iff0 (fLevel S c i x) (levelP c.toNatClampNeg i.toNatClampNeg x S) S) - s_n S) + 57) (by omega) (by omega) ?_
      refine x_astore (L' := [some (.ref (ad 0)), some (.int c), some (.int i), some (.int x), some (.ref oa), some (.ref q9)]) hE dL_level_15 (Nat.le_of_ble_eq_true rfl) rfl rfl ?_
      refine x_iconst (v := nI 1) hE dL_level_17 (by decide) ?_
      exact y_ret (x_iret hE dL_level_18 (⟨by rw [hf], hC, u, rfl, hd, by rw [iff0_n (by rw [hf]; decide)]; exact ⟨ad, ow, eA, A1, P1, c1, A2, P2, c2, RY, rfl, hW⟩, fun z => absurd (hf.symm.trans z) (by decide)⟩))
    · refine z_catch hE [(⟨0, 12, 15, 21⟩ : ExceptionTableEntry)] ⟨0, 12, 19, 13⟩ [] (hX.trans rfl) (fun z hz => by rw [List.mem_singleton.mp hz]; exact Or.inr ⟨(by decide : 21 ≠ 0), _, (List.mem_of_getElem? (i := 1) rfl), hT.2.2.1.2.1⟩) (by decide +kernel) (by decide) (List.mem_of_getElem? (i := 2) rfl) hT.2.1.2.1 (fun q9 => ?_)
      refine x_widen (k := s_n (iff0 (fLevel S c i x) (levelP c.toNatClampNeg i.toNatClampNeg x S) S) - s_n S + 4) (n := 3 * (s_n (iff0 (fLevel S c i x) (levelP c.toNatClampNeg i.toNatClampNeg x S) S) - s_n S) + 57) (by omega) (by omega) ?_
      refine x_astore (L' := [some (.ref (ad 0)), some (.int c), some (.int i), some (.int x), some (.ref oa), some (.ref q9)]) hE dL_level_19 (Nat.le_of_ble_eq_true rfl) rfl rfl ?_
      refine x_iconst (v := nI 2) hE dL_level_21 (by decide) ?_
      exact y_ret (x_iret hE dL_level_22 (⟨by rw [hf], hC, u, rfl, hd, by rw [iff0_n (by rw [hf]; decide)]; exact ⟨ad, ow, eA, A1, P1, c1, A2, P2, c2, RY, rfl, hW⟩, fun z => absurd (hf.symm.trans z) (by decide)⟩))
set_option maxHeartbeats 4000000 in
set_option maxRecDepth 100000 in
theorem c_L_follow (G : XG) {xa oa : Nat} {S : PS} {hC : HM} {u : Nat → Int64} (hb : bW G xa S hC) (hd : dj hC (oM G oa u)) {k : Nat} (hI : iI S k) (hk : k ≤ 511) (c o t : Int32) : y_M G yL_follow wsL_follow ({ frames := 7, cells := s_n (iff0 (fFollow S c o t) (followP c.toNatClampNeg o t S) S) - s_n S + 4, slots := 3 * (s_n (iff0 (fFollow S c o t) (followP c.toNatClampNeg o t S) S) - s_n S) + 57, locals := 116 } : Room) [.ref xa, .int c, .int o, .int t, .ref oa] (jn hC (oM G oa u)) (wP G xa oa (fFollow S c o t) ((s_ar S 15 c.toNatClampNeg).toInt64) (iff0 (fFollow S c o t) (followP c.toNatClampNeg o t S) S)) (fun _ => False) (s_n (iff0 (fFollow S c o t) (followP c.toNatClampNeg o t S) S) - s_n S + 4) (3 * (s_n (iff0 (fFollow S c o t) (followP c.toNatClampNeg o t S) S) - s_n S) + 57) := by
  refine y_M.ofH (cc := cL_follow) (maxL := 6) (ret := (some .int)) (hh := [(0, 12, 15, 21), (0, 12, 19, 13)]) (ent := [some (.ref xa), some (.int c), some (.int o), some (.int t), some (.ref oa), none]) (by decide +kernel) rfl (Nat.le_of_ble_eq_true rfl) rfl rfl ?_
  intro F hE hname hT hX
  obtain ⟨ad, ow, eA, A1, P1, c1, A2, P2, c2, RY, rfl, hW⟩ := hb
  refine x_aload hE dL_follow_0 rfl rfl ?_
  refine x_iconst (v := nI 0) hE dL_follow_2 (by decide) ?_
  refine x_aload_n hE dL_follow_3 rfl rfl ?_
  refine x_iload_n hE dL_follow_4 rfl ?_
  refine x_iload_n hE dL_follow_5 rfl ?_
  refine x_iload_n hE dL_follow_6 rfl ?_
  have hB := hW.1
  have hcm : ∀ A : Nat → Prop, y_M (reG G A) yX7_follow wsX7_follow ({ frames := 6, cells := 1, slots := 6, locals := 90 } : Room) ([.ref (ad 0), .int c, .int o, .int t]) hC (fun v h' => fFollow S c o t = 0 ∧ v = some (.int (s_ar S 15 c.toNatClampNeg)) ∧ cW G ad ow eA A1 P1 c1 A2 P2 c2 RY (followP c.toNatClampNeg o t S) h') (fun E => (fFollow S c o t = 1 ∧ E = xIO) ∨ (fFollow S c o t = 2 ∧ E = xIA)) 1 6 := fun A => c_X7_follow (reG G A) hW hI.1.2.2.1 c o t
  have hs1 : (1) ≤ s_n (iff0 (fFollow S c o t) (followP c.toNatClampNeg o t S) S) - s_n S + 4 := by omega
  have hs2 : (6) ≤ 3 * (s_n (iff0 (fFollow S c o t) (followP c.toNatClampNeg o t S) S) - s_n S) + 57 := by omega
  refine z_callY (ci := 7) (st := [.int (nI 0), .ref oa]) hE hT 3 hcm hd gL_follow_X7_follow rfl rfl rfl (by decide +kernel) ⟨(Nat.le_of_ble_eq_true rfl), (Nat.le_of_ble_eq_true rfl)⟩ hB rfl rfl rfl dL_follow_7 rfl (Nat.le_of_ble_eq_true rfl) ⟨by show 0 + (1) ≤ s_n (iff0 (fFollow S c o t) (followP c.toNatClampNeg o t S) S) - s_n S + 4; omega, by show 0 + (6) ≤ 3 * (s_n (iff0 (fFollow S c o t) (followP c.toNatClampNeg o t S) S) - s_n S) + 57; omega⟩ (fun v h9 hp d9 => ?_) (fun E hE9 => ?_)
  · obtain ⟨hf, rfl, hW9⟩ := hp
    refine x_widen (k := s_n (iff0 (fFollow S c o t) (followP c.toNatClampNeg o t S) S) - s_n S + 4) (n := 3 * (s_n (iff0 (fFollow S c o t) (followP c.toNatClampNeg o t S) S) - s_n S) + 57) (by omega) (by omega) ?_
    refine x_i2l hE dL_follow_10 ?_
    refine x_last (f' := vp_updL u 0 ((s_ar S 15 c.toNatClampNeg).toInt64)) hE (jn_r d9 oM_at) zin0 (by rw [zcl0]) dL_follow_11 ?_
    refine x_heq (oM_up d9) ?_
    refine x_goto (tgt := 23) hE dL_follow_12 (by decide) ?_
    refine x_iconst (v := nI 0) hE dL_follow_23 (by decide) ?_
    exact y_ret (x_iret hE dL_follow_24 (⟨by rw [hf], h9, _, rfl, oM_dj d9, by rw [iff0_p hf]; exact ⟨ad, ow, eA, A1, P1, c1, A2, P2, c2, RY, rfl, hW9⟩, fun _ => if_pos rfl⟩))
  · rcases hE9 with ⟨hf, rfl⟩ | ⟨hf, rfl⟩
    · refine z_catch hE [] ⟨0, 12, 15, 21⟩ [⟨0, 12, 19, 13⟩] (hX.trans rfl) (fun z hz => absurd hz (by simp)) (by decide +kernel) (by decide) (List.mem_of_getElem? (i := 1) rfl) hT.2.1.1 (fun q9 => ?_)
      refine x_widen (k := s_n (iff0 (fFollow S c o t) (followP c.toNatClampNeg o t S) S) - s_n S + 4) (n := 3 * (s_n (iff0 (fFollow S c o t) (followP c.toNatClampNeg o t S) S) - s_n S) + 57) (by omega) (by omega) ?_
      refine x_astore (L' := [some (.ref (ad 0)), some (.int c), some (.int o), some (.int t), some (.ref oa), some (.ref q9)]) hE dL_follow_15 (Nat.le_of_ble_eq_true rfl) rfl rfl ?_
      refine x_iconst (v := nI 1) hE dL_follow_17 (by decide) ?_
      exact y_ret (x_iret hE dL_follow_18 (⟨by rw [hf], hC, u, rfl, hd, by rw [iff0_n (by rw [hf]; decide)]; exact ⟨ad, ow, eA, A1, P1, c1, A2, P2, c2, RY, rfl, hW⟩, fun z => absurd (hf.symm.trans z) (by decide)⟩))
    · refine z_catch hE [(⟨0, 12, 15, 21⟩ : ExceptionTableEntry)] ⟨0, 12, 19, 13⟩ [] (hX.trans rfl) (fun z hz => by rw [List.mem_singleton.mp hz]; exact Or.inr ⟨(by decide : 21 ≠ 0), _, (List.mem_of_getElem? (i := 1) rfl), hT.2.2.1.2.1⟩) (by decide +kernel) (by decide) (List.mem_of_getElem? (i := 2) rfl) hT.2.1.2.1 (fun q9 => ?_)
      refine x_widen (k := s_n (iff0 (fFollow S c o t) (followP c.toNatClampNeg o t S) S) - s_n S + 4) (n := 3 * (s_n (iff0 (fFollow S c o t) (followP c.toNatClampNeg o t S) S) - s_n S) + 57) (by omega) (by omega) ?_
      refine x_astore (L' := [some (.ref (ad 0)), some (.int c), some (.int o), some (.int t), some (.ref oa), some (.ref q9)]) hE dL_follow_19 (Nat.le_of_ble_eq_true rfl) rfl rfl ?_
      refine x_iconst (v := nI 2) hE dL_follow_21 (by decide) ?_
      exact y_ret (x_iret hE dL_follow_22 (⟨by rw [hf], hC, u, rfl, hd, by rw [iff0_n (by rw [hf]; decide)]; exact ⟨ad, ow, eA, A1, P1, c1, A2, P2, c2, RY, rfl, hW⟩, fun z => absurd (hf.symm.trans z) (by decide)⟩))