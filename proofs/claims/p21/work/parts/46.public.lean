def fGo (S : PS) (c : Int32) : Nat := if isN c (s_C S) = true then (if canP (s_ar S) (s_L S) (s_B S) (s_G S) c.toNatClampNeg = true then 0 else 2) else 1
def goS (c : Int32) (S : PS) : PS := if fGo S c = 0 then begP c.toNatClampNeg S else S
set_option maxHeartbeats 4000000 in
set_option maxRecDepth 100000 in
theorem c_X7_go (G : XG) {ad ow : Nat → Nat} {eA : Nat} {A1 P1 : List Nat} {c1 : Nat → GC} {A2 P2 : List Nat} {c2 : Nat → GC} {RY : List Nat} {S : PS} {h : HM} (hW : cW G ad ow eA A1 P1 c1 A2 P2 c2 RY S h) (hb : bI S) (c : Int32) : y_M G yX7_go wsX7_go ({ frames := 6, cells := s_n (goS c S) - s_n S + 1, slots := 3 * (s_n (goS c S) - s_n S) + 6, locals := 113 } : Room) [.ref (ad 0), .int c] h (fun v h' => fGo S c = 0 ∧ v = some (.int (nI (s_G (goS c S)).length)) ∧ ∃ (ow' : Nat → Nat) (eA' : Nat) (A1' P1' : List Nat) (c1' : Nat → GC), cW G ad ow' eA' A1' P1' c1' A2 P2 c2 RY (goS c S) h') (fun E => (fGo S c = 1 ∧ E = xIO) ∨ (fGo S c = 2 ∧ E = xIS)) (s_n (goS c S) - s_n S + 1) (3 * (s_n (goS c S) - s_n S) + 6) := by
  refine y_M.of (cc := cX7_go) (maxL := 3) (ret := (some .int)) (ent := [some (.ref (ad 0)), some (.int c), none]) (by decide +kernel) rfl (Nat.le_of_ble_eq_true rfl) rfl rfl ?_
  intro F hE hname hT hX
  have hinX2 : ∀ w ∈ wsX20, w ∈ wsX7_go := by decide +kernel
  have hinX7 : ∀ w ∈ wsX70, w ∈ wsX7_go := by decide +kernel
  have hW0 := hW
  obtain ⟨hB, hR, hC, hp, hl, hr, hw, hI, hO⟩ := hW0
  obtain ⟨bg, bcu, bcap, bN, blen⟩ := hb
  refine x_aload_n hE dX7_go_0 rfl rfl ?_
  refine x_iload_n hE dX7_go_1 rfl ?_
  refine x_callV (ci := 7) (st := []) hE 1 (c_X7_cueAt G hB hC.1 c) gX7_go_X7_cueAt rfl rfl rfl (by decide +kernel) ⟨Nat.le_of_ble_eq_true rfl, Nat.le_of_ble_eq_true rfl⟩ hB rfl rfl rfl dX7_go_2 rfl (Nat.le_of_ble_eq_true rfl) ⟨by dsimp only; omega, by dsimp only; omega⟩ (fun v h9 hp => ?_)
  obtain ⟨rfl, rfl⟩ := hp
  rcases sel_n (x := c) (f := fun i => ad (100 + 4 * i)) hC.2.1 (by decide : 12 < 2 ^ 31) with ⟨hq, k, hk1, hk, hz⟩ | ⟨hq, hz⟩
  · have hC12 := hC.2.1
    have ek : (nI k).toNatClampNeg = k := nI_clamp (by omega)
    subst hk
    refine x_qref (q := (ad (100 + 4 * k))) (hz) ?_
    refine x_astore_n (L' := [some (.ref (ad 0)), some (.int (nI k)), some (.ref (ad (100 + 4 * k)))]) hE dX7_go_5 rfl (Nat.le_of_ble_eq_true rfl) rfl rfl ?_
    refine x_aload_n hE dX7_go_6 rfl rfl ?_
    refine x_ifnonnull (tgt := 20) hE dX7_go_7 (by decide) ?_
    refine x_aload_n hE dX7_go_20 rfl rfl ?_
    refine x_aload_n hE dX7_go_21 rfl rfl ?_
    refine x_callV (ci := 7) (st := []) hE 1 (c_X7_canGo G hB hO hR hC hl bg.2 hp hk1) gX7_go_X7_canGo rfl rfl rfl (by decide +kernel) ⟨Nat.le_of_ble_eq_true rfl, Nat.le_of_ble_eq_true rfl⟩ hB rfl rfl rfl dX7_go_22 rfl (Nat.le_of_ble_eq_true rfl) ⟨by dsimp only; omega, by dsimp only; omega⟩ (fun v h9 hp => ?_)
    obtain ⟨rfl, rfl⟩ := hp
    refine x_if_ne (tgt := 38) hE dX7_go_25 (by decide) (fun c25 => ?_) (fun c25 => ?_)
    · have q1 := b2i_n0.mp c25
      have ef : fGo S (nI k) = 0 := by unfold fGo; rw [if_pos hq, ek, if_pos q1]
      have es : goS (nI k) S = begP k S := by unfold goS; rw [if_pos ef, ek]
      rw [es] at hE ⊢
      refine x_aload_n hE dX7_go_38 rfl rfl ?_
      refine x_aload_n hE dX7_go_39 rfl rfl ?_
      refine x_callV (ci := 7) (st := []) hE 1 (c_X7_begin G hW hk1 bg bcu (blen k hk1) bcap bN) gX7_go_X7_begin rfl rfl rfl (by decide +kernel) ⟨Nat.le_of_ble_eq_true rfl, Nat.le_of_ble_eq_true rfl⟩ hB rfl rfl rfl dX7_go_40 rfl (Nat.le_of_ble_eq_true rfl) ⟨by dsimp only; omega, by dsimp only; omega⟩ (fun v h3 hp => ?_)
      obtain ⟨rfl, ow3, eA3, A3, P3, c3, hW3⟩ := hp
      have hW3c := hW3
      obtain ⟨hB3, -, -, -, hl3, -, -, -, -⟩ := hW3
      refine x_aload_n hE dX7_go_43 rfl rfl ?_
      refine x_get hE hinX7 hB3 rfl 3 (by decide) (List.mem_of_getElem? (i := 5) rfl) rfl dX7_go_44 ?_
      refine x_get hE hinX2 hl3.1.1 rfl 1 (by decide) (List.mem_of_getElem? (i := 6) rfl) rfl dX7_go_47 ?_
      refine x_ieq (y := nI (s_G (begP k S)).length) (by have := congrArg List.length hl3.2; simp only [List.length_map] at this; rw [this]) ?_
      refine x_widen (k := s_n (begP k S) - s_n S + 1) (n := 3 * (s_n (begP k S) - s_n S) + 6) (by omega) (by omega) ?_
      exact y_ret (x_iret hE dX7_go_50 (⟨ef, rfl, ow3, eA3, A3, P3, c3, hW3c⟩))
    · exact y_IS hE hT hX (List.mem_of_getElem? (i := 10) rfl) (List.mem_of_getElem? (i := 3) rfl) (List.mem_of_getElem? (i := 4) rfl) (fun w hw => List.mem_cons_of_mem _ (List.mem_append_right _ hw)) rfl dX7_go_28 dX7_go_31 dX7_go_32 dX7_go_34 dX7_go_37 (Nat.le_of_ble_eq_true rfl) (Nat.le_of_ble_eq_true rfl) ⟨by dsimp only; omega, by dsimp only; omega⟩ ⟨by omega, by omega⟩ (Or.inr ⟨by unfold fGo; rw [if_pos hq, ek, if_neg (by rw [b2i_0.mp c25]; decide)], rfl⟩)
  · refine x_qnull (hz) ?_
    refine x_astore_n (L' := [some (.ref (ad 0)), some (.int c), some (.null)]) hE dX7_go_5 rfl (Nat.le_of_ble_eq_true rfl) rfl rfl ?_
    refine x_aload_n hE dX7_go_6 rfl rfl ?_
    refine x_ifnonnullN hE dX7_go_7 ?_
    exact y_IO hE hT hX (List.mem_of_getElem? (i := 8) rfl) (List.mem_of_getElem? (i := 1) rfl) (List.mem_of_getElem? (i := 2) rfl) (fun w hw => List.mem_cons_of_mem _ (List.mem_append_left _ (List.mem_append_right _ hw))) rfl dX7_go_10 dX7_go_13 dX7_go_14 dX7_go_16 dX7_go_19 (Nat.le_of_ble_eq_true rfl) (Nat.le_of_ble_eq_true rfl) ⟨by dsimp only; omega, by dsimp only; omega⟩ ⟨by omega, by omega⟩ (Or.inl ⟨by unfold fGo; rw [if_neg (by rw [hq]; decide)], rfl⟩)
