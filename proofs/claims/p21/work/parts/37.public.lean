def fPhase (ph : Int32) : Nat := if inI ph 0 2 = true then 0 else 1
set_option maxHeartbeats 4000000 in
set_option maxRecDepth 100000 in
theorem c_X7_loadOf (G : XG) {ad ow : Nat → Nat} {eA : Nat} {A1 P1 : List Nat} {c1 : Nat → GC} {A2 P2 : List Nat} {c2 : Nat → GC} {RY : List Nat} {S : PS} {h : HM} (hW : cW G ad ow eA A1 P1 c1 A2 P2 c2 RY S h) (hf : fI (s_ar S) (s_L S) (s_C S) (s_t S) (s_G S)) (ph : Int32) : y_M G yX7_loadOf wsX7_loadOf ({ frames := 6, cells := 1, slots := 6, locals := 93 } : Room) [.ref (ad 0), .int ph] h (fun v h' => fPhase ph = 0 ∧ v = some (.int (nI (ldN (s_ar S) (s_L S) (s_B S) (s_t S) (s_G S) ph 16).toNat)) ∧ cW G ad ow eA A1 P1 c1 A2 P2 c2 RY S h') (fun E => fPhase ph = 1 ∧ E = xIO) 1 6 := by
  refine y_M.of (cc := cX7_loadOf) (maxL := 2) (ret := (some .int)) (ent := [some (.ref (ad 0)), some (.int ph)]) (by decide +kernel) rfl (Nat.le_of_ble_eq_true rfl) rfl rfl ?_
  intro F hE hname hT hX
  have hW0 := hW
  obtain ⟨hB, hR, hC, hp, hl, hr, hw, hI, hO⟩ := hW0
  refine x_iload_n hE dX7_loadOf_0 rfl ?_
  refine x_callS (st := []) hE 1 (c_X7_isPhase G ph) gX7_loadOf_X7_isPhase rfl rfl rfl (by decide +kernel) ⟨Nat.le_of_ble_eq_true rfl, Nat.le_of_ble_eq_true rfl⟩ rfl rfl dX7_loadOf_1 rfl (Nat.le_of_ble_eq_true rfl) ⟨Nat.le_of_ble_eq_true rfl, Nat.le_of_ble_eq_true rfl⟩ (fun v h9 hp => ?_)
  obtain ⟨rfl, rfl⟩ := hp
  refine x_if_ne (tgt := 17) hE dX7_loadOf_4 (by decide) (fun c4 => ?_) (fun c4 => ?_)
  · have q1 : inI ph 0 2 = true := b2i_n0.mp c4
    refine x_aload_n hE dX7_loadOf_17 rfl rfl ?_
    refine x_iload_n hE dX7_loadOf_18 rfl ?_
    refine x_callV (ci := 7) (st := []) hE 1 (c_X7_loadNow G hW hf ph) gX7_loadOf_X7_loadNow rfl rfl rfl (by decide +kernel) ⟨Nat.le_of_ble_eq_true rfl, Nat.le_of_ble_eq_true rfl⟩ hB rfl rfl rfl dX7_loadOf_19 rfl (Nat.le_of_ble_eq_true rfl) ⟨Nat.le_of_ble_eq_true rfl, Nat.le_of_ble_eq_true rfl⟩ (fun v h9 hp => ?_)
    obtain ⟨rfl, rfl⟩ := hp
    have hb := (ldN_is (B := s_B S) (ph := ph) hf 16 (Nat.le_refl _)).bits (by decide)
    refine x_fq (y := (fB (ldN (s_ar S) (s_L S) (s_B S) (s_t S) (s_G S) ph 16).toNat)) ((fB_of _).symm) ?_
    refine x_callS (st := []) hE 1 (c_X7_bitsOf G (X := (ldN (s_ar S) (s_L S) (s_B S) (s_t S) (s_G S) ph 16).toNat) (hb.elim (fun z => Or.inl (by rw [z]; exact fB_nat (by decide))) Or.inr)) gX7_loadOf_X7_bitsOf rfl rfl rfl (by decide +kernel) ⟨Nat.le_of_ble_eq_true rfl, Nat.le_of_ble_eq_true rfl⟩ rfl rfl dX7_loadOf_22 rfl (Nat.le_of_ble_eq_true rfl) ⟨Nat.le_of_ble_eq_true rfl, Nat.le_of_ble_eq_true rfl⟩ (fun v h9 hp => ?_)
    obtain ⟨rfl, rfl⟩ := hp
    refine x_widen (k := 1) (n := 6) (Nat.le_of_ble_eq_true rfl) (Nat.le_of_ble_eq_true rfl) ?_
    exact y_ret (x_iret hE dX7_loadOf_25 (⟨by unfold fPhase; rw [if_pos q1], rfl, hW⟩))
  · exact y_IO hE hT hX (List.mem_of_getElem? (i := 2) rfl) (List.mem_of_getElem? (i := 1) rfl) (List.mem_of_getElem? (i := 2) rfl) (fun w hw => List.mem_cons_of_mem _ (List.mem_append_right _ hw)) rfl dX7_loadOf_7 dX7_loadOf_10 dX7_loadOf_11 dX7_loadOf_13 dX7_loadOf_16 (Nat.le_of_ble_eq_true rfl) (Nat.le_of_ble_eq_true rfl) ⟨by decide, by decide⟩ ⟨by decide, by decide⟩ (⟨by unfold fPhase; rw [if_neg (by rw [show inI ph 0 2 = false from b2i_0.mp c4]; decide)], rfl⟩)

set_option maxHeartbeats 4000000 in
set_option maxRecDepth 100000 in
theorem c_X7_watts (G : XG) {ad ow : Nat → Nat} {eA : Nat} {A1 P1 : List Nat} {c1 : Nat → GC} {A2 P2 : List Nat} {c2 : Nat → GC} {RY : List Nat} {S : PS} {h : HM} (hW : cW G ad ow eA A1 P1 c1 A2 P2 c2 RY S h) (hf : fI (s_ar S) (s_L S) (s_C S) (s_t S) (s_G S)) (ph : Int32) : y_M G yX7_watts wsX7_watts ({ frames := 6, cells := 1, slots := 6, locals := 93 } : Room) [.ref (ad 0), .int ph] h (fun v h' => fPhase ph = 0 ∧ v = some (.int (FP.f2i (ldN (s_ar S) (s_L S) (s_B S) (s_t S) (s_G S) ph 16))) ∧ cW G ad ow eA A1 P1 c1 A2 P2 c2 RY S h') (fun E => fPhase ph = 1 ∧ E = xIO) 1 6 := by
  refine y_M.of (cc := cX7_watts) (maxL := 2) (ret := (some .int)) (ent := [some (.ref (ad 0)), some (.int ph)]) (by decide +kernel) rfl (Nat.le_of_ble_eq_true rfl) rfl rfl ?_
  intro F hE hname hT hX
  have hW0 := hW
  obtain ⟨hB, hR, hC, hp, hl, hr, hw, hI, hO⟩ := hW0
  refine x_iload_n hE dX7_watts_0 rfl ?_
  refine x_callS (st := []) hE 1 (c_X7_isPhase G ph) gX7_watts_X7_isPhase rfl rfl rfl (by decide +kernel) ⟨Nat.le_of_ble_eq_true rfl, Nat.le_of_ble_eq_true rfl⟩ rfl rfl dX7_watts_1 rfl (Nat.le_of_ble_eq_true rfl) ⟨Nat.le_of_ble_eq_true rfl, Nat.le_of_ble_eq_true rfl⟩ (fun v h9 hp => ?_)
  obtain ⟨rfl, rfl⟩ := hp
  refine x_if_ne (tgt := 17) hE dX7_watts_4 (by decide) (fun c4 => ?_) (fun c4 => ?_)
  · have q1 : inI ph 0 2 = true := b2i_n0.mp c4
    refine x_aload_n hE dX7_watts_17 rfl rfl ?_
    refine x_iload_n hE dX7_watts_18 rfl ?_
    refine x_callV (ci := 7) (st := []) hE 1 (c_X7_loadNow G hW hf ph) gX7_watts_X7_loadNow rfl rfl rfl (by decide +kernel) ⟨Nat.le_of_ble_eq_true rfl, Nat.le_of_ble_eq_true rfl⟩ hB rfl rfl rfl dX7_watts_19 rfl (Nat.le_of_ble_eq_true rfl) ⟨Nat.le_of_ble_eq_true rfl, Nat.le_of_ble_eq_true rfl⟩ (fun v h9 hp => ?_)
    obtain ⟨rfl, rfl⟩ := hp
    refine x_f2i hE dX7_watts_22 ?_
    refine x_widen (k := 1) (n := 6) (Nat.le_of_ble_eq_true rfl) (Nat.le_of_ble_eq_true rfl) ?_
    exact y_ret (x_iret hE dX7_watts_23 (⟨by unfold fPhase; rw [if_pos q1], rfl, hW⟩))
  · exact y_IO hE hT hX (List.mem_of_getElem? (i := 2) rfl) (List.mem_of_getElem? (i := 1) rfl) (List.mem_of_getElem? (i := 2) rfl) (fun w hw => List.mem_cons_of_mem _ (List.mem_append_right _ hw)) rfl dX7_watts_7 dX7_watts_10 dX7_watts_11 dX7_watts_13 dX7_watts_16 (Nat.le_of_ble_eq_true rfl) (Nat.le_of_ble_eq_true rfl) ⟨by decide, by decide⟩ ⟨by decide, by decide⟩ (⟨by unfold fPhase; rw [if_neg (by rw [show inI ph 0 2 = false from b2i_0.mp c4]; decide)], rfl⟩)

def isN (x : Int32) (n : Nat) : Bool := decide (0 ≤ x) && !decide (nI n ≤ x)
theorem isN_t {x : Int32} {n : Nat} (hn : n < 2 ^ 31) (h : isN x n = true) : ∃ k, k < n ∧ x = nI k := by
  obtain ⟨h1, h2⟩ := Bool.and_eq_true_iff.mp h
  exact x_ixn hn (of_decide_eq_true h1) (by simpa using h2)
theorem isN_k {k n : Nat} (h : k < n) (hn : n < 2 ^ 31) : isN (nI k) n = true := by
  unfold isN
  rw [decide_eq_true (nI_pos' (by omega)), decide_eq_false (nI_ge h hn)]
  rfl
/-- a number's cell in a row that is filled up to n -/
theorem sel_n {x : Int32} {n N : Nat} {f : Nat → Nat} (hn : n ≤ N) (hN : N < 2 ^ 31) : (isN x n = true ∧ ∃ k, k < n ∧ x = nI k ∧ x_sel N (lampF n f) x none = some (f k)) ∨ (isN x n = false ∧ x_sel N (lampF n f) x none = none) := by
  cases h : isN x n with
  | true =>
    obtain ⟨k, hk, e⟩ := isN_t (by omega) h
    subst e
    exact Or.inl ⟨rfl, k, hk, rfl, (x_selN (by omega) hN).trans (lampF_in hk)⟩
  | false =>
    refine Or.inr ⟨rfl, ?_⟩
    by_cases h1 : 0 ≤ x
    · by_cases h2 : nI N ≤ x
      · exact x_sel_hi h2
      · obtain ⟨k, hk, e⟩ := x_ixn hN h1 h2
        subst e
        rw [x_selN hk hN]
        refine lampF_out (Nat.le_of_not_lt (fun z => ?_))
        rw [isN_k z (by omega)] at h
        cases h
    · exact x_sel_lo h1
def fLamp (S : PS) (i : Int32) : Nat := if isN i (s_L S) = true then 0 else 1
def levS (S : PS) (GL : List GG) (i : Nat) : UInt32 := mixG (s_ar S) (s_L S) (s_B S) (s_t S) GL i
set_option maxHeartbeats 4000000 in
set_option maxRecDepth 100000 in
theorem c_X7_levelOf (G : XG) {ad ow : Nat → Nat} {eA : Nat} {A1 P1 : List Nat} {c1 : Nat → GC} {A2 P2 : List Nat} {c2 : Nat → GC} {RY : List Nat} {S : PS} {h : HM} (hW : cW G ad ow eA A1 P1 c1 A2 P2 c2 RY S h) (hf : fI (s_ar S) (s_L S) (s_C S) (s_t S) (s_G S)) (i : Int32) : y_M G yX7_levelOf wsX7_levelOf ({ frames := 6, cells := 1, slots := 6, locals := 90 } : Room) [.ref (ad 0), .int i] h (fun v h' => fLamp S i = 0 ∧ v = some (.int (nI (levS S (s_G S) i.toNatClampNeg).toNat)) ∧ cW G ad ow eA A1 P1 c1 A2 P2 c2 RY S h') (fun E => fLamp S i = 1 ∧ E = xIO) 1 6 := by
  refine y_M.of (cc := cX7_levelOf) (maxL := 2) (ret := (some .int)) (ent := [some (.ref (ad 0)), some (.int i)]) (by decide +kernel) rfl (Nat.le_of_ble_eq_true rfl) rfl rfl ?_
  intro F hE hname hT hX
  have hinX7 : ∀ w ∈ wsX70, w ∈ wsX7_levelOf := by decide +kernel
  have hW0 := hW
  obtain ⟨hB, hR, hC, hp, hl, hr, hw, hI, hO⟩ := hW0
  refine x_aload_n hE dX7_levelOf_0 rfl rfl ?_
  refine x_get hE hinX7 hB rfl 0 (by decide) (List.mem_of_getElem? (i := 3) rfl) rfl dX7_levelOf_1 ?_
  refine x_iload_n hE dX7_levelOf_4 rfl ?_
  refine x_callV (ci := 5) (st := []) hE 1 (c_X5_lampAt G hR.1 hR.2.1 i) gX7_levelOf_X5_lampAt rfl rfl rfl (by decide +kernel) ⟨Nat.le_of_ble_eq_true rfl, Nat.le_of_ble_eq_true rfl⟩ hR.1 rfl rfl rfl dX7_levelOf_5 rfl (Nat.le_of_ble_eq_true rfl) ⟨Nat.le_of_ble_eq_true rfl, Nat.le_of_ble_eq_true rfl⟩ (fun v h9 hp => ?_)
  obtain ⟨rfl, rfl⟩ := hp
  rcases sel_n (x := i) (f := fun i => ad (20 + i)) hR.2.2.1 (by decide : 16 < 2 ^ 31) with ⟨hq, k, hk1, hk, hz⟩ | ⟨hq, hz⟩
  · subst hk
    refine x_qref (q := (ad (20 + k))) (hz) ?_
    refine x_ifnonnull (tgt := 21) hE dX7_levelOf_8 (by decide) ?_
    have hL16 := hR.2.2.1
    refine x_aload_n hE dX7_levelOf_21 rfl rfl ?_
    refine x_get hE hinX7 hB rfl 3 (by decide) (List.mem_of_getElem? (i := 4) rfl) rfl dX7_levelOf_22 ?_
    refine x_iload_n hE dX7_levelOf_25 rfl ?_
    refine x_aload_n hE dX7_levelOf_26 rfl rfl ?_
    refine x_get hE hinX7 hB rfl 8 (by decide) (List.mem_of_getElem? (i := 5) rfl) rfl dX7_levelOf_27 ?_
    have hK := goK_of (ar := s_ar S) (L := s_L S) (B := s_B S) hO hC hl.2 hf.2.2.2.1.2
    refine x_callV (ci := 2) (st := []) hE 2 (c_X2_mix G hl.1 (now := nI (s_t S)) hK (by omega : k < 16) (mas_mg hO hl.2 hf)) gX7_levelOf_X2_mix rfl rfl rfl (by decide +kernel) ⟨Nat.le_of_ble_eq_true rfl, Nat.le_of_ble_eq_true rfl⟩ hl.1.1 rfl rfl rfl dX7_levelOf_30 rfl (Nat.le_of_ble_eq_true rfl) ⟨Nat.le_of_ble_eq_true rfl, Nat.le_of_ble_eq_true rfl⟩ (fun v h9 hp => ?_)
    obtain ⟨rfl, rfl⟩ := hp
    refine x_fq (y := (levS S (s_G S) k)) (mixG_of hO hl.2 hf.2.2.2.1.2 _ _) ?_
    have hb := (mixG_lv (L := s_L S) (B := s_B S) (i := k) hf.2.1 hf.2.2.1 hf.2.2.2.1 hf.2.2.2.2).bits (by decide)
    refine x_fq (y := (fB (levS S (s_G S) k).toNat)) ((fB_of _).symm) ?_
    refine x_callS (st := []) hE 1 (c_X7_bitsOf G (X := (levS S (s_G S) k).toNat) (hb.elim (fun z => Or.inl (by unfold levS; rw [z]; exact fB_nat (by decide))) Or.inr)) gX7_levelOf_X7_bitsOf rfl rfl rfl (by decide +kernel) ⟨Nat.le_of_ble_eq_true rfl, Nat.le_of_ble_eq_true rfl⟩ rfl rfl dX7_levelOf_33 rfl (Nat.le_of_ble_eq_true rfl) ⟨Nat.le_of_ble_eq_true rfl, Nat.le_of_ble_eq_true rfl⟩ (fun v h9 hp => ?_)
    obtain ⟨rfl, rfl⟩ := hp
    refine x_widen (k := 1) (n := 6) (Nat.le_of_ble_eq_true rfl) (Nat.le_of_ble_eq_true rfl) ?_
    exact y_ret (x_iret hE dX7_levelOf_36 (⟨by unfold fLamp; rw [if_pos hq], by rw [nI_clamp (by omega)], hW⟩))
  · refine x_qnull (hz) ?_
    refine x_ifnonnullN hE dX7_levelOf_8 ?_
    exact y_IO hE hT hX (List.mem_of_getElem? (i := 0) rfl) (List.mem_of_getElem? (i := 1) rfl) (List.mem_of_getElem? (i := 2) rfl) (fun w hw => List.mem_cons_of_mem _ (List.mem_append_right _ hw)) rfl dX7_levelOf_11 dX7_levelOf_14 dX7_levelOf_15 dX7_levelOf_17 dX7_levelOf_20 (Nat.le_of_ble_eq_true rfl) (Nat.le_of_ble_eq_true rfl) ⟨by decide, by decide⟩ ⟨by decide, by decide⟩ (⟨by unfold fLamp; rw [if_neg (by rw [hq]; decide)], rfl⟩)

set_option maxHeartbeats 4000000 in
set_option maxRecDepth 100000 in
theorem c_X7_levelAnew (G : XG) {ad ow : Nat → Nat} {eA : Nat} {A1 P1 : List Nat} {c1 : Nat → GC} {A2 P2 : List Nat} {c2 : Nat → GC} {RY : List Nat} {S : PS} {h : HM} (hW : cW G ad ow eA A1 P1 c1 A2 P2 c2 RY S h) (hf : fI (s_ar S) (s_L S) (s_C S) (s_t S) ((rtP (s_H S)).filter (fun g => !ovP (s_ar S) (s_t S) g))) (heI : eI (s_C S) (s_H S)) (i : Int32) : y_M G yX7_levelAnew wsX7_levelAnew ({ frames := 6, cells := 1, slots := 6, locals := 111 } : Room) [.ref (ad 0), .int i] h (fun v h' => fLamp S i = 0 ∧ v = some (.int (nI (levS S ((rtP (s_H S)).filter (fun g => !ovP (s_ar S) (s_t S) g)) i.toNatClampNeg).toNat)) ∧ ∃ (A2' P2' : List Nat) (c2' : Nat → GC), cW G ad ow eA A1 P1 c1 A2' P2' c2' RY S h') (fun E => fLamp S i = 1 ∧ E = xIO) 1 6 := by
  refine y_M.of (cc := cX7_levelAnew) (maxL := 2) (ret := (some .int)) (ent := [some (.ref (ad 0)), some (.int i)]) (by decide +kernel) rfl (Nat.le_of_ble_eq_true rfl) rfl rfl ?_
  intro F hE hname hT hX
  have hinX7 : ∀ w ∈ wsX70, w ∈ wsX7_levelAnew := by decide +kernel
  have hW0 := hW
  obtain ⟨hB, hR, hC, hp, hl, hr, hw, hI, hO⟩ := hW0
  refine x_aload_n hE dX7_levelAnew_0 rfl rfl ?_
  refine x_get hE hinX7 hB rfl 0 (by decide) (List.mem_of_getElem? (i := 3) rfl) rfl dX7_levelAnew_1 ?_
  refine x_iload_n hE dX7_levelAnew_4 rfl ?_
  refine x_callV (ci := 5) (st := []) hE 1 (c_X5_lampAt G hR.1 hR.2.1 i) gX7_levelAnew_X5_lampAt rfl rfl rfl (by decide +kernel) ⟨Nat.le_of_ble_eq_true rfl, Nat.le_of_ble_eq_true rfl⟩ hR.1 rfl rfl rfl dX7_levelAnew_5 rfl (Nat.le_of_ble_eq_true rfl) ⟨Nat.le_of_ble_eq_true rfl, Nat.le_of_ble_eq_true rfl⟩ (fun v h9 hp => ?_)
  obtain ⟨rfl, rfl⟩ := hp
  rcases sel_n (x := i) (f := fun i => ad (20 + i)) hR.2.2.1 (by decide : 16 < 2 ^ 31) with ⟨hq, k, hk1, hk, hz⟩ | ⟨hq, hz⟩
  · subst hk
    refine x_qref (q := (ad (20 + k))) (hz) ?_
    refine x_ifnonnull (tgt := 21) hE dX7_levelAnew_8 (by decide) ?_
    have hL16 := hR.2.2.1
    refine x_aload_n hE dX7_levelAnew_21 rfl rfl ?_
    refine x_callV (ci := 7) (st := []) hE 0 (c_X7_retell G hW heI) gX7_levelAnew_X7_retell rfl rfl rfl (by decide +kernel) ⟨Nat.le_of_ble_eq_true rfl, Nat.le_of_ble_eq_true rfl⟩ hB rfl rfl rfl dX7_levelAnew_22 rfl (Nat.le_of_ble_eq_true rfl) ⟨Nat.le_of_ble_eq_true rfl, Nat.le_of_ble_eq_true rfl⟩ (fun v h3 hp => ?_)
    obtain ⟨rfl, A3, P3, c3, hW3, hA3⟩ := hp
    have hW3c := hW3
    obtain ⟨hB3, hR3, hC3, hp3, hl3, hr3, hw3, hI3, hO3⟩ := hW3
    have hK := goK_of (ar := s_ar S) (L := s_L S) (B := s_B S) hO3 hC3 hA3 hf.2.2.2.1.2
    refine x_aload_n hE dX7_levelAnew_25 rfl rfl ?_
    refine x_get hE hinX7 hB3 rfl 4 (by decide) (List.mem_of_getElem? (i := 4) rfl) rfl dX7_levelAnew_26 ?_
    refine x_iload_n hE dX7_levelAnew_29 rfl ?_
    refine x_aload_n hE dX7_levelAnew_30 rfl rfl ?_
    refine x_get hE hinX7 hB3 rfl 8 (by decide) (List.mem_of_getElem? (i := 5) rfl) rfl dX7_levelAnew_31 ?_
    refine x_callV (ci := 2) (st := []) hE 2 (c_X2_mix G hr3 (now := nI (s_t S)) hK (by omega : k < 16) (mas_mg hO3 hA3 hf)) gX7_levelAnew_X2_mix rfl rfl rfl (by decide +kernel) ⟨Nat.le_of_ble_eq_true rfl, Nat.le_of_ble_eq_true rfl⟩ hr3.1 rfl rfl rfl dX7_levelAnew_34 rfl (Nat.le_of_ble_eq_true rfl) ⟨Nat.le_of_ble_eq_true rfl, Nat.le_of_ble_eq_true rfl⟩ (fun v h9 hp => ?_)
    obtain ⟨rfl, rfl⟩ := hp
    refine x_fq (y := (levS S ((rtP (s_H S)).filter (fun g => !ovP (s_ar S) (s_t S) g)) k)) (mixG_of hO3 hA3 hf.2.2.2.1.2 _ _) ?_
    have hb := (mixG_lv (L := s_L S) (B := s_B S) (i := k) hf.2.1 hf.2.2.1 hf.2.2.2.1 hf.2.2.2.2).bits (by decide)
    refine x_fq (y := (fB (levS S ((rtP (s_H S)).filter (fun g => !ovP (s_ar S) (s_t S) g)) k).toNat)) ((fB_of _).symm) ?_
    refine x_callS (st := []) hE 1 (c_X7_bitsOf G (X := (levS S ((rtP (s_H S)).filter (fun g => !ovP (s_ar S) (s_t S) g)) k).toNat) (hb.elim (fun z => Or.inl (by unfold levS; rw [z]; exact fB_nat (by decide))) Or.inr)) gX7_levelAnew_X7_bitsOf rfl rfl rfl (by decide +kernel) ⟨Nat.le_of_ble_eq_true rfl, Nat.le_of_ble_eq_true rfl⟩ rfl rfl dX7_levelAnew_37 rfl (Nat.le_of_ble_eq_true rfl) ⟨Nat.le_of_ble_eq_true rfl, Nat.le_of_ble_eq_true rfl⟩ (fun v h9 hp => ?_)
    obtain ⟨rfl, rfl⟩ := hp
    refine x_widen (k := 1) (n := 6) (Nat.le_of_ble_eq_true rfl) (Nat.le_of_ble_eq_true rfl) ?_
    exact y_ret (x_iret hE dX7_levelAnew_40 (⟨by unfold fLamp; rw [if_pos hq], by rw [nI_clamp (by omega)], A3, P3, c3, hW3c⟩))
  · refine x_qnull (hz) ?_
    refine x_ifnonnullN hE dX7_levelAnew_8 ?_
    exact y_IO hE hT hX (List.mem_of_getElem? (i := 0) rfl) (List.mem_of_getElem? (i := 1) rfl) (List.mem_of_getElem? (i := 2) rfl) (fun w hw => List.mem_cons_of_mem _ (List.mem_append_right _ hw)) rfl dX7_levelAnew_11 dX7_levelAnew_14 dX7_levelAnew_15 dX7_levelAnew_17 dX7_levelAnew_20 (Nat.le_of_ble_eq_true rfl) (Nat.le_of_ble_eq_true rfl) ⟨by decide, by decide⟩ ⟨by decide, by decide⟩ (⟨by unfold fLamp; rw [if_neg (by rw [hq]; decide)], rfl⟩)

def fAsks (S : PS) (c ph : Int32) : Nat := if isN c (s_C S) = true ∧ inI ph 0 2 = true then 0 else 1
def fShines (S : PS) (c i : Int32) : Nat := if isN c (s_C S) = true ∧ isN i (s_L S) = true then 0 else 1
def shiP (S : PS) (c i : Nat) : Int32 := (arrF (s_L S) (s_ar S) (s_B S) (toldF (s_ar S) c) 16).1 i
set_option maxHeartbeats 4000000 in
set_option maxRecDepth 100000 in
theorem c_X7_asks (G : XG) {ad ow : Nat → Nat} {eA : Nat} {A1 P1 : List Nat} {c1 : Nat → GC} {A2 P2 : List Nat} {c2 : Nat → GC} {RY : List Nat} {S : PS} {h : HM} (hW : cW G ad ow eA A1 P1 c1 A2 P2 c2 RY S h) (hg : gI (s_C S) (s_G S)) (c ph : Int32) : y_M G yX7_asks wsX7_asks ({ frames := 6, cells := 1, slots := 6, locals := 91 } : Room) [.ref (ad 0), .int c, .int ph] h (fun v h' => fAsks S c ph = 0 ∧ v = some (.int (askP (s_ar S) (s_L S) (s_B S) (s_G S) c.toNatClampNeg ph)) ∧ cW G ad ow eA A1 P1 c1 A2 P2 c2 RY S h') (fun E => fAsks S c ph = 1 ∧ E = xIO) 1 6 := by
  refine y_M.of (cc := cX7_asks) (maxL := 4) (ret := (some .int)) (ent := [some (.ref (ad 0)), some (.int c), some (.int ph), none]) (by decide +kernel) rfl (Nat.le_of_ble_eq_true rfl) rfl rfl ?_
  intro F hE hname hT hX
  have hW0 := hW
  obtain ⟨hB, hR, hC, hp, hl, hr, hw, hI, hO⟩ := hW0
  refine x_aload_n hE dX7_asks_0 rfl rfl ?_
  refine x_iload_n hE dX7_asks_1 rfl ?_
  refine x_callV (ci := 7) (st := []) hE 1 (c_X7_cueAt G hB hC.1 c) gX7_asks_X7_cueAt rfl rfl rfl (by decide +kernel) ⟨Nat.le_of_ble_eq_true rfl, Nat.le_of_ble_eq_true rfl⟩ hB rfl rfl rfl dX7_asks_2 rfl (Nat.le_of_ble_eq_true rfl) ⟨Nat.le_of_ble_eq_true rfl, Nat.le_of_ble_eq_true rfl⟩ (fun v h9 hp => ?_)
  obtain ⟨rfl, rfl⟩ := hp
  rcases sel_n (x := c) (f := fun i => ad (100 + 4 * i)) hC.2.1 (by decide : 12 < 2 ^ 31) with ⟨hq, k, hk1, hk, hz⟩ | ⟨hq, hz⟩
  · subst hk
    refine x_qref (q := (ad (100 + 4 * k))) (hz) ?_
    refine x_astore_n (L' := [some (.ref (ad 0)), some (.int (nI k)), some (.int ph), some (.ref (ad (100 + 4 * k)))]) hE dX7_asks_5 rfl (Nat.le_of_ble_eq_true rfl) rfl rfl ?_
    refine x_aload_n hE dX7_asks_6 rfl rfl ?_
    refine x_ifnull hE dX7_asks_7 ?_
    have hC12 := hC.2.1
    refine x_iload_n hE dX7_asks_10 rfl ?_
    refine x_callS (st := []) hE 1 (c_X7_isPhase G ph) gX7_asks_X7_isPhase rfl rfl rfl (by decide +kernel) ⟨Nat.le_of_ble_eq_true rfl, Nat.le_of_ble_eq_true rfl⟩ rfl rfl dX7_asks_11 rfl (Nat.le_of_ble_eq_true rfl) ⟨Nat.le_of_ble_eq_true rfl, Nat.le_of_ble_eq_true rfl⟩ (fun v h9 hp => ?_)
    obtain ⟨rfl, rfl⟩ := hp
    refine x_if_ne (tgt := 27) hE dX7_asks_14 (by decide) (fun cc => ?_) (fun cc => ?_)
    · have q1 : inI ph 0 2 = true := b2i_n0.mp cc
      refine x_aload_n hE dX7_asks_27 rfl rfl ?_
      refine x_aload_n hE dX7_asks_28 rfl rfl ?_
      refine x_iload_n hE dX7_asks_29 rfl ?_
      refine x_callV (ci := 7) (st := []) hE 2 (c_X7_wattsAsked G hB hO hR hC hl hg.2 hk1 ph) gX7_asks_X7_wattsAsked rfl rfl rfl (by decide +kernel) ⟨Nat.le_of_ble_eq_true rfl, Nat.le_of_ble_eq_true rfl⟩ hB rfl rfl rfl dX7_asks_30 rfl (Nat.le_of_ble_eq_true rfl) ⟨Nat.le_of_ble_eq_true rfl, Nat.le_of_ble_eq_true rfl⟩ (fun v h9 hp => ?_)
      obtain ⟨rfl, rfl⟩ := hp
      refine x_widen (k := 1) (n := 6) (Nat.le_of_ble_eq_true rfl) (Nat.le_of_ble_eq_true rfl) ?_
      exact y_ret (x_iret hE dX7_asks_33 (⟨by unfold fAsks; rw [if_pos ⟨hq, q1⟩], by rw [nI_clamp (by omega)], hW⟩))
    · exact y_IO hE hT hX (List.mem_of_getElem? (i := 12) rfl) (List.mem_of_getElem? (i := 1) rfl) (List.mem_of_getElem? (i := 2) rfl) (fun w hw => List.mem_cons_of_mem _ (List.mem_append_right _ hw)) rfl dX7_asks_17 dX7_asks_20 dX7_asks_21 dX7_asks_23 dX7_asks_26 (Nat.le_of_ble_eq_true rfl) (Nat.le_of_ble_eq_true rfl) ⟨by decide, by decide⟩ ⟨by decide, by decide⟩ (⟨by unfold fAsks; rw [if_neg (by rw [show inI ph 0 2 = false from b2i_0.mp cc]; simp)], rfl⟩)
  · refine x_qnull (hz) ?_
    refine x_astore_n (L' := [some (.ref (ad 0)), some (.int c), some (.int ph), some (.null)]) hE dX7_asks_5 rfl (Nat.le_of_ble_eq_true rfl) rfl rfl ?_
    refine x_aload_n hE dX7_asks_6 rfl rfl ?_
    refine x_ifnullN (tgt := 17) hE dX7_asks_7 (by decide) ?_
    exact y_IO hE hT hX (List.mem_of_getElem? (i := 12) rfl) (List.mem_of_getElem? (i := 1) rfl) (List.mem_of_getElem? (i := 2) rfl) (fun w hw => List.mem_cons_of_mem _ (List.mem_append_right _ hw)) rfl dX7_asks_17 dX7_asks_20 dX7_asks_21 dX7_asks_23 dX7_asks_26 (Nat.le_of_ble_eq_true rfl) (Nat.le_of_ble_eq_true rfl) ⟨by decide, by decide⟩ ⟨by decide, by decide⟩ (⟨by unfold fAsks; rw [if_neg (by rw [hq]; simp)], rfl⟩)
