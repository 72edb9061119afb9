set_option maxHeartbeats 4000000 in
set_option maxRecDepth 100000 in
theorem c_X8_isIn (G : XG) {h : HM} (i lo hi : Int32) : x_M G yX8_isIn wsX8_isIn ({ frames := 0, cells := 0, slots := 0, locals := 0 } : Room) [.int i, .int lo, .int hi] h (x_is (some (.int (b2i (decide (lo ≤ i) && decide (i ≤ hi))))) h) 0 0 := by
  refine x_M.of (cc := cX8_isIn) (maxL := 3) (ret := (some .boolean)) (ent := [some (.int i), some (.int lo), some (.int hi)]) (by decide +kernel) rfl (Nat.le_of_ble_eq_true rfl) rfl rfl ?_
  intro F hE hname
  refine x_iload_n hE dX8_isIn_0 rfl ?_
  refine x_iload_n hE dX8_isIn_1 rfl ?_
  refine x_icmp_lt (tgt := 14) hE dX8_isIn_2 (by decide) (fun c2 => ?_) (fun c2 => ?_)
  · refine x_iconst (v := nI 0) hE dX8_isIn_14 (by decide) ?_
    exact x_zret hE (Or.inl rfl) dX8_isIn_15 (⟨x_zf (by simp only [x_lei] at *; simp [*]), rfl⟩)
  · refine x_iload_n hE dX8_isIn_5 rfl ?_
    refine x_iload_n hE dX8_isIn_6 rfl ?_
    refine x_icmp_gt (tgt := 14) hE dX8_isIn_7 (by decide) (fun c7 => ?_) (fun c7 => ?_)
    · refine x_iconst (v := nI 0) hE dX8_isIn_14 (by decide) ?_
      exact x_zret hE (Or.inl rfl) dX8_isIn_15 (⟨x_zf (by simp only [x_lei] at *; simp [*]), rfl⟩)
    · refine x_iconst (v := nI 1) hE dX8_isIn_10 (by decide) ?_
      refine x_goto (tgt := 15) hE dX8_isIn_11 (by decide) ?_
      exact x_zret hE (Or.inr rfl) dX8_isIn_15 (⟨x_zt (by simp only [x_lei, Decidable.not_not] at *; simp [*]), rfl⟩)

set_option maxHeartbeats 4000000 in
set_option maxRecDepth 100000 in
theorem c_X8_isPhase (G : XG) {h : HM} (i : Int32) : x_M G yX8_isPhase wsX8_isPhase ({ frames := 1, cells := 0, slots := 0, locals := 22 } : Room) [.int i] h (x_is (some (.int (b2i (inI i 0 2)))) h) 0 0 := by
  refine x_M.of (cc := cX8_isPhase) (maxL := 1) (ret := (some .boolean)) (ent := [some (.int i)]) (by decide +kernel) rfl (Nat.le_of_ble_eq_true rfl) rfl rfl ?_
  intro F hE hname
  refine x_iload_n hE dX8_isPhase_0 rfl ?_
  refine x_iconst (v := nI 0) hE dX8_isPhase_1 (by decide) ?_
  refine x_iconst (v := nI 2) hE dX8_isPhase_2 (by decide) ?_
  refine x_callS (st := []) hE 3 (c_X8_isIn G i (nI 0) (nI 2)) gX8_isPhase_X8_isIn rfl rfl rfl (by decide +kernel) ⟨Nat.le_of_ble_eq_true rfl, Nat.le_of_ble_eq_true rfl⟩ rfl rfl dX8_isPhase_3 rfl (Nat.le_of_ble_eq_true rfl) ⟨Nat.le_of_ble_eq_true rfl, Nat.le_of_ble_eq_true rfl⟩ (fun v h9 hp => ?_)
  obtain ⟨rfl, rfl⟩ := hp
  exact x_zret hE (b2i_01 _) dX8_isPhase_6 (⟨rfl, rfl⟩)

theorem isN_m {x : Int32} {n : Nat} (hn : n < 2 ^ 31) : (decide (nI 0 ≤ x) && decide (x ≤ nI n - nI 1)) = isN x n := by
  unfold isN
  by_cases h0 : 0 ≤ x
  · rw [decide_eq_true (show nI 0 ≤ x from h0), decide_eq_true h0, Bool.true_and, Bool.true_and]
    rcases Nat.eq_zero_or_pos n with z | z
    · subst z
      rw [decide_eq_false (show ¬ x ≤ nI 0 - nI 1 from fun q => by
        have a1 := Int32.le_iff_toInt_le.mp q
        have a2 := Int32.le_iff_toInt_le.mp h0
        have a3 : (nI 0 - nI 1).toInt = -1 := by decide
        have a4 : (0 : Int32).toInt = 0 := by decide
        omega), decide_eq_true (show nI 0 ≤ x from h0)]
      rfl
    · rw [sub1 z]
      by_cases c : nI n ≤ x
      · rw [decide_eq_true c, decide_eq_false (fun q => by
          have a1 := Int32.le_iff_toInt_le.mp q
          have a2 := Int32.le_iff_toInt_le.mp c
          rw [nI_toInt (by omega)] at a1 a2
          omega)]
        rfl
      · obtain ⟨k, hk, e⟩ := x_ixn hn h0 c
        subst e
        rw [decide_eq_false c, decide_eq_true (nI_le (by omega) (by omega))]
        rfl
  · rw [decide_eq_false (show ¬ nI 0 ≤ x from h0), decide_eq_false h0]
    rfl
theorem absI_m (x : Int32) : (if x < 0 then -x else x) = absI x := by
  unfold absI
  by_cases h : 0 ≤ x
  · rw [if_pos h, if_neg (fun z => x_lt0 z h)]
  · rw [if_neg h, if_pos (x_lt0i.mpr h)]
    simp
set_option maxHeartbeats 4000000 in
set_option maxRecDepth 100000 in
theorem c_X8_size (G : XG) {h : HM} (i : Int32) : x_M G yX8_size wsX8_size ({ frames := 0, cells := 0, slots := 0, locals := 0 } : Room) [.int i] h (x_is (some (.int (absI i))) h) 0 0 := by
  refine x_M.of (cc := cX8_size) (maxL := 1) (ret := (some .int)) (ent := [some (.int i)]) (by decide +kernel) rfl (Nat.le_of_ble_eq_true rfl) rfl rfl ?_
  intro F hE hname
  refine x_iload_n hE dX8_size_0 rfl ?_
  refine x_if_ge (tgt := 9) hE dX8_size_1 (by decide) (fun c1 => ?_) (fun c1 => ?_)
  · refine x_iload_n hE dX8_size_9 rfl ?_
    exact x_iret hE dX8_size_10 (⟨congrArg (fun z => some (Value.int z)) (by rw [← absI_m, if_neg (by first | exact c1 | (intro z; exact absurd c1 (x_lt0 z)))]), rfl⟩)
  · refine x_iload_n hE dX8_size_4 rfl ?_
    refine x_ineg hE dX8_size_5 ?_
    refine x_goto (tgt := 10) hE dX8_size_6 (by decide) ?_
    exact x_iret hE dX8_size_10 (⟨congrArg (fun z => some (Value.int z)) (by rw [← absI_m, if_pos (by first | exact c1 | exact x_lt0i.mpr c1)]), rfl⟩)

set_option maxHeartbeats 4000000 in
set_option maxRecDepth 100000 in
theorem c_X8_thrown (G : XG) {ma ow : Nat → Nat} {sc : Nat → Int32} {R : Nat → Nat → Int32} {h : HM} (hM : mM G ma ow sc R h) : x_M G yX8_thrown wsX8_thrown ({ frames := 0, cells := 0, slots := 0, locals := 0 } : Room) [.ref (ma 30)] h (x_is (some (.int (sc 28))) h) 0 0 := by
  refine x_M.of (cc := cX8_thrown) (maxL := 1) (ret := (some .int)) (ent := [some (.ref (ma 30))]) (by decide +kernel) rfl (Nat.le_of_ble_eq_true rfl) rfl rfl ?_
  intro F hE hname
  have hinX8 : ∀ w ∈ wsX80, w ∈ wsX8_thrown := by decide +kernel
  refine x_aload_n hE dX8_thrown_0 rfl rfl ?_
  refine x_get hE hinX8 hM.o rfl 28 (by decide) (List.mem_of_getElem? (i := 1) rfl) rfl dX8_thrown_1 ?_
  exact x_iret hE dX8_thrown_4 (⟨rfl, rfl⟩)

set_option maxHeartbeats 4000000 in
set_option maxRecDepth 100000 in
theorem c_X8_isLamp (G : XG) {ma ow : Nat → Nat} {sc : Nat → Int32} {R : Nat → Nat → Int32} {h : HM} (hM : mM G ma ow sc R h) {L : Nat} (hn : sc 1 = nI L) (hb : L < 2 ^ 31) (i : Int32) : x_M G yX8_isLamp wsX8_isLamp ({ frames := 1, cells := 0, slots := 0, locals := 22 } : Room) [.ref (ma 30), .int i] h (x_is (some (.int (b2i (isN i L)))) h) 0 0 := by
  refine x_M.of (cc := cX8_isLamp) (maxL := 2) (ret := (some .boolean)) (ent := [some (.ref (ma 30)), some (.int i)]) (by decide +kernel) rfl (Nat.le_of_ble_eq_true rfl) rfl rfl ?_
  intro F hE hname
  have hinX8 : ∀ w ∈ wsX80, w ∈ wsX8_isLamp := by decide +kernel
  refine x_iload_n hE dX8_isLamp_0 rfl ?_
  refine x_iconst (v := nI 0) hE dX8_isLamp_1 (by decide) ?_
  refine x_aload_n hE dX8_isLamp_2 rfl rfl ?_
  refine x_get hE hinX8 hM.o rfl 1 (by decide) (List.mem_of_getElem? (i := 1) rfl) rfl dX8_isLamp_3 ?_
  refine x_iconst (v := nI 1) hE dX8_isLamp_6 (by decide) ?_
  refine x_isub hE dX8_isLamp_7 ?_
  refine x_ieq (y := nI L - nI 1) (by rw [hn]) ?_
  refine x_callS (st := []) hE 3 (c_X8_isIn G i (nI 0) (nI L - nI 1)) gX8_isLamp_X8_isIn rfl rfl rfl (by decide +kernel) ⟨Nat.le_of_ble_eq_true rfl, Nat.le_of_ble_eq_true rfl⟩ rfl rfl dX8_isLamp_8 rfl (Nat.le_of_ble_eq_true rfl) ⟨Nat.le_of_ble_eq_true rfl, Nat.le_of_ble_eq_true rfl⟩ (fun v h9 hp => ?_)
  obtain ⟨rfl, rfl⟩ := hp
  refine x_ieq (y := b2i (isN i L)) (by rw [isN_m hb]) ?_
  exact x_zret hE (b2i_01 _) dX8_isLamp_11 (⟨rfl, rfl⟩)

set_option maxHeartbeats 4000000 in
set_option maxRecDepth 100000 in
theorem c_X8_isCue (G : XG) {ma ow : Nat → Nat} {sc : Nat → Int32} {R : Nat → Nat → Int32} {h : HM} (hM : mM G ma ow sc R h) {C : Nat} (hn : sc 10 = nI C) (hb : C < 2 ^ 31) (i : Int32) : x_M G yX8_isCue wsX8_isCue ({ frames := 1, cells := 0, slots := 0, locals := 22 } : Room) [.ref (ma 30), .int i] h (x_is (some (.int (b2i (isN i C)))) h) 0 0 := by
  refine x_M.of (cc := cX8_isCue) (maxL := 2) (ret := (some .boolean)) (ent := [some (.ref (ma 30)), some (.int i)]) (by decide +kernel) rfl (Nat.le_of_ble_eq_true rfl) rfl rfl ?_
  intro F hE hname
  have hinX8 : ∀ w ∈ wsX80, w ∈ wsX8_isCue := by decide +kernel
  refine x_iload_n hE dX8_isCue_0 rfl ?_
  refine x_iconst (v := nI 0) hE dX8_isCue_1 (by decide) ?_
  refine x_aload_n hE dX8_isCue_2 rfl rfl ?_
  refine x_get hE hinX8 hM.o rfl 10 (by decide) (List.mem_of_getElem? (i := 1) rfl) rfl dX8_isCue_3 ?_
  refine x_iconst (v := nI 1) hE dX8_isCue_6 (by decide) ?_
  refine x_isub hE dX8_isCue_7 ?_
  refine x_ieq (y := nI C - nI 1) (by rw [hn]) ?_
  refine x_callS (st := []) hE 3 (c_X8_isIn G i (nI 0) (nI C - nI 1)) gX8_isCue_X8_isIn rfl rfl rfl (by decide +kernel) ⟨Nat.le_of_ble_eq_true rfl, Nat.le_of_ble_eq_true rfl⟩ rfl rfl dX8_isCue_8 rfl (Nat.le_of_ble_eq_true rfl) ⟨Nat.le_of_ble_eq_true rfl, Nat.le_of_ble_eq_true rfl⟩ (fun v h9 hp => ?_)
  obtain ⟨rfl, rfl⟩ := hp
  refine x_ieq (y := b2i (isN i C)) (by rw [isN_m hb]) ?_
  exact x_zret hE (b2i_01 _) dX8_isCue_11 (⟨rfl, rfl⟩)

set_option maxHeartbeats 4000000 in
set_option maxRecDepth 100000 in
theorem c_X8_isUsable (G : XG) {ma ow : Nat → Nat} {sc : Nat → Int32} {R : Nat → Nat → Int32} {h : HM} (hM : mM G ma ow sc R h) {k : Nat} (hk : k < 16) : x_M G yX8_isUsable wsX8_isUsable ({ frames := 0, cells := 0, slots := 0, locals := 0 } : Room) [.ref (ma 30), .int (nI k)] h (x_is (some (.int (b2i (usV (sc 8) (R 2 k) (R 7 k))))) h) 0 0 := by
  refine x_M.of (cc := cX8_isUsable) (maxL := 2) (ret := (some .boolean)) (ent := [some (.ref (ma 30)), some (.int (nI k))]) (by decide +kernel) rfl (Nat.le_of_ble_eq_true rfl) rfl rfl ?_
  intro F hE hname
  have hinX8 : ∀ w ∈ wsX80, w ∈ wsX8_isUsable := by decide +kernel
  refine x_aload_n hE dX8_isUsable_0 rfl rfl ?_
  refine x_get hE hinX8 hM.o rfl 7 (by decide) (List.mem_of_getElem? (i := 1) rfl) rfl dX8_isUsable_1 ?_
  refine x_iload_n hE dX8_isUsable_4 rfl ?_
  refine x_zald (v := (R 7) k) hE hM.a7 (vp_in_nI (by omega) (by decide)) (x_atN _ (by omega)) dX8_isUsable_5 ?_
  refine x_if_ne (tgt := 30) hE dX8_isUsable_6 (by decide) (fun c6 => ?_) (fun c6 => ?_)
  · refine x_iconst (v := nI 0) hE dX8_isUsable_30 (by decide) ?_
    exact x_zret hE (Or.inl rfl) dX8_isUsable_31 (⟨x_zf (by simp [usV, *]), rfl⟩)
  · refine x_aload_n hE dX8_isUsable_9 rfl rfl ?_
    refine x_get hE hinX8 hM.o rfl 8 (by decide) (List.mem_of_getElem? (i := 2) rfl) rfl dX8_isUsable_10 ?_
    refine x_aload_n hE dX8_isUsable_13 rfl rfl ?_
    refine x_get hE hinX8 hM.o rfl 2 (by decide) (List.mem_of_getElem? (i := 3) rfl) rfl dX8_isUsable_14 ?_
    refine x_iload_n hE dX8_isUsable_17 rfl ?_
    refine x_iald (v := (R 2) k) hE hM.a2 (vp_in_nI (by omega) (by decide)) (x_atN _ (by omega)) dX8_isUsable_18 ?_
    refine x_ishr hE dX8_isUsable_19 ?_
    refine x_iconst (v := nI 1) hE dX8_isUsable_20 (by decide) ?_
    refine x_iand hE dX8_isUsable_21 ?_
    refine x_iconst (v := nI 1) hE dX8_isUsable_22 (by decide) ?_
    refine x_icmp_ne (tgt := 30) hE dX8_isUsable_23 (by decide) (fun c23 => ?_) (fun c23 => ?_)
    · refine x_iconst (v := nI 0) hE dX8_isUsable_30 (by decide) ?_
      exact x_zret hE (Or.inl rfl) dX8_isUsable_31 (⟨x_zf (by simp [usV, *]), rfl⟩)
    · refine x_iconst (v := nI 1) hE dX8_isUsable_26 (by decide) ?_
      refine x_goto (tgt := 31) hE dX8_isUsable_27 (by decide) ?_
      exact x_zret hE (Or.inr rfl) dX8_isUsable_31 (⟨x_zt (by simp [usV, *]), rfl⟩)
