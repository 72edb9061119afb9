/-! the law's arithmetic, walked -/
theorem st_and {A : Nat} (h : A < 2 ^ 31) : nI A &&& 8388607 = nI (A % 2 ^ 23) := pk_andN (by omega) 23 (by decide)
theorem st_or (A : Nat) : nI (A % 2 ^ 23) ||| 8388608 = nI (2 ^ 23 + A % 2 ^ 23) := by
  have h := fa_or_sum (a := A % 2 ^ 23) (k := 23) 1 (Nat.mod_lt _ (by decide))
  rw [Nat.mul_one] at h
  rw [show (8388608 : Int32) = nI (2 ^ 23) from rfl, fa_or, Nat.or_comm, ← fa_or]
  exact h
theorem st_shl {A : Nat} (h : A < 2 ^ 31) : nI A <<< (nI 1 &&& 31) = nI (A * 2) := pk_shlN (nI 1 &&& 31) 1 (by decide) (by omega)
theorem st_eq0 {A : Nat} (h : A < 2 ^ 31) : nI (A * 2) = 0 ↔ A = 0 := by
  refine ⟨fun z => ?_, fun z => by subst z; rfl⟩
  have := congrArg (fun x : Int32 => x.toBitVec.toNat) z
  have e : (nI (A * 2)).toBitVec.toNat = A * 2 := pk_tn (by omega)
  have e0 : (0 : Int32).toBitVec.toNat = 0 := by decide
  simp only [e, e0] at this
  omega
theorem po_is {A : Nat} (h : A < 2 ^ 31) : (nI A >>> (nI 23 &&& 31)) &&& nI 255 = nI (A / 2 ^ 23) := by
  rw [pk_shrN h (nI 23 &&& 31) 23 (by decide), pk_andN (by omega) 8 (by decide), Nat.mod_eq_of_lt (by omega)]
theorem po_sub (A : Nat) : nI (A / 2 ^ 23) - nI 150 = Int32.ofInt (poF A) := by
  unfold poF
  rw [Int32.ofInt_sub]
  rfl
theorem o_sub (a b : Int) : Int32.ofInt a - Int32.ofInt b = Int32.ofInt (a - b) := (Int32.ofInt_sub a b).symm
theorem o_toInt {a : Int} (h1 : -2 ^ 31 ≤ a) (h2 : a < 2 ^ 31) : (Int32.ofInt a).toInt = a := Int32.toInt_ofInt_of_le h1 h2
theorem o_le {a b : Int} (a1 : -2 ^ 31 ≤ a) (a2 : a < 2 ^ 31) (b1 : -2 ^ 31 ≤ b) (b2 : b < 2 ^ 31) : Int32.ofInt a ≤ Int32.ofInt b ↔ a ≤ b := by
  rw [Int32.le_iff_toInt_le, o_toInt a1 a2, o_toInt b1 b2]
theorem po_b {A : Nat} (h : A < 2 ^ 31) : -150 ≤ poF A ∧ poF A ≤ 105 := by
  unfold poF
  omega
set_option maxHeartbeats 4000000 in
set_option maxRecDepth 100000 in
theorem c_L_steps (G : XG) {h : HM} {A : Nat} (hA : A < 2 ^ 31) : x_M G yL_steps wsL_steps ({ frames := 0, cells := 0, slots := 0, locals := 0 } : Room) [.int (nI A)] h (x_is (some (.long (lN (stF A)))) h) 0 0 := by
  refine g_M.of (cc := cL_steps) (maxL := 1) (ret := (some .long)) (ent := [(0, .int (nI A))]) (by decide +kernel) rfl (Nat.le_of_ble_eq_true rfl) rfl ?_
  intro F hE
  refine g_iload_n hE 0 dL_steps_0 rfl ?_
  refine g_iconst (v := nI 1) hE dL_steps_1 (by decide) ?_
  refine g_ishl hE dL_steps_2 ?_
  refine g_ieq (y := nI (A * 2)) (st_shl hA) ?_
  refine g_if_ne (tgt := 10) hE dL_steps_3 (by decide) (fun c3 => ?_) (fun c3 => ?_)
  · have h0 : A ≠ 0 := fun z => c3 ((st_eq0 hA).mpr z)
    refine g_iload_n hE 0 dL_steps_10 rfl ?_
    refine g_ldc (v := (8388607)) hE (List.mem_of_getElem? (i := 1) rfl) dL_steps_11 ?_
    refine g_iand hE dL_steps_13 ?_
    refine g_ieq (y := nI (A % 2 ^ 23)) (st_and hA) ?_
    refine g_ldc (v := (8388608)) hE (List.mem_of_getElem? (i := 2) rfl) dL_steps_14 ?_
    refine g_ior hE dL_steps_16 ?_
    refine g_ieq (y := nI (2 ^ 23 + A % 2 ^ 23)) (st_or A) ?_
    refine g_i2l hE dL_steps_17 ?_
    refine g_leq (y := lN (2 ^ 23 + A % 2 ^ 23)) (nI_l (by omega)) ?_
    exact g_lret hE dL_steps_18 (⟨by unfold stF; rw [if_neg h0], rfl⟩)
  · have h0 : A = 0 := (st_eq0 hA).mp (by simpa using c3)
    refine g_lconst (v := lN 0) hE dL_steps_6 rfl ?_
    refine g_goto (tgt := 18) hE dL_steps_7 (by decide) ?_
    exact g_lret hE dL_steps_18 (⟨by unfold stF; rw [if_pos h0], rfl⟩)

set_option maxHeartbeats 4000000 in
set_option maxRecDepth 100000 in
theorem c_L_power (G : XG) {h : HM} {A : Nat} (hA : A < 2 ^ 31) : x_M G yL_power wsL_power ({ frames := 0, cells := 0, slots := 0, locals := 0 } : Room) [.int (nI A)] h (x_is (some (.int (Int32.ofInt (poF A)))) h) 0 0 := by
  refine g_M.of (cc := cL_power) (maxL := 1) (ret := (some .int)) (ent := [(0, .int (nI A))]) (by decide +kernel) rfl (Nat.le_of_ble_eq_true rfl) rfl ?_
  intro F hE
  refine g_iload_n hE 0 dL_power_0 rfl ?_
  refine g_bipush (v := nI 23) hE dL_power_1 (by decide) ?_
  refine g_ishr hE dL_power_3 ?_
  refine g_sipush (v := nI 255) hE dL_power_4 (by decide) ?_
  refine g_iand hE dL_power_7 ?_
  refine g_ieq (y := nI (A / 2 ^ 23)) (po_is hA) ?_
  refine g_sipush (v := nI 150) hE dL_power_8 (by decide) ?_
  refine g_isub hE dL_power_11 ?_
  refine g_ieq (y := Int32.ofInt (poF A)) (po_sub A) ?_
  exact g_iret hE dL_power_12 (⟨rfl, rfl⟩)

set_option maxHeartbeats 4000000 in
set_option maxRecDepth 100000 in
theorem c_L_whole (G : XG) {h : HM} {n : Nat} (hn : n < 2 ^ 24) : x_M G yL_whole wsL_whole ({ frames := 1, cells := 0, slots := 0, locals := 30 } : Room) [.int (nI n)] h (x_is (some (.int (nI (FP.i2f (nI n)).toNat))) h) 0 0 := by
  refine g_M.of (cc := cL_whole) (maxL := 1) (ret := (some .int)) (ent := [(0, .int (nI n))]) (by decide +kernel) rfl (Nat.le_of_ble_eq_true rfl) rfl ?_
  intro F hE
  refine g_iconst (v := nI 0) hE dL_whole_0 (by decide) ?_
  refine g_iload_n hE 0 dL_whole_1 rfl ?_
  refine g_i2l hE dL_whole_2 ?_
  refine g_leq (y := lN n) (nI_l (by omega)) ?_
  refine g_iconst (v := nI 0) hE dL_whole_3 (by decide) ?_
  refine g_ieq (y := Int32.ofInt 0) (rfl) ?_
  have hl : n ≠ 0 → n.log2 < 24 := fun z => (log2_lt z).mp hn
  refine g_callS (st := []) hE (fun ls hl => hl.1) 3 (c_L_packed G (n := n) (p := 0) (by omega) (fun z => by omega) (fun z => by have := hl z; omega)) gL_whole_L_packed rfl rfl rfl (by decide +kernel) ⟨Nat.le_of_ble_eq_true rfl, Nat.le_of_ble_eq_true rfl⟩ rfl dL_whole_4 rfl (Nat.le_of_ble_eq_true rfl) ⟨Nat.le_of_ble_eq_true rfl, Nat.le_of_ble_eq_true rfl⟩ (fun v h9 hp => ?_)
  obtain ⟨rfl, rfl⟩ := hp
  exact g_iret hE dL_whole_7 (⟨by rw [whole_is hn], rfl⟩)

set_option maxHeartbeats 4000000 in
set_option maxRecDepth 100000 in
theorem c_L_times (G : XG) {h : HM} {A B : Nat} (hA : bN A) (hB : bN B) (hr : A ≠ 0 → B ≠ 0 → 128 ≤ A / 2 ^ 23 + B / 2 ^ 23 ∧ A / 2 ^ 23 + B / 2 ^ 23 ≤ 379) : x_M G yL_times wsL_times ({ frames := 1, cells := 0, slots := 0, locals := 30 } : Room) [.int (nI A), .int (nI B)] h (x_is (some (.int (nI (FP.fmul (fB A) (fB B)).toNat))) h) 0 0 := by
  refine g_M.of (cc := cL_times) (maxL := 2) (ret := (some .int)) (ent := [(0, .int (nI A)), (1, .int (nI B))]) (by decide +kernel) rfl (Nat.le_of_ble_eq_true rfl) rfl ?_
  intro F hE
  have lA := hA.lt
  have lB := hB.lt
  obtain ⟨t1, t2, t3, t4⟩ := times_is hA hB hr
  refine g_iload_n hE 0 dL_times_0 rfl ?_
  refine g_if_ge (tgt := 8) hE dL_times_1 (by decide) (fun c1 => ?_) (fun c1 => absurd (nI_pos' (by omega)) c1)
  refine g_iconst (v := nI 0) hE dL_times_8 (by decide) ?_
  refine g_iload_n hE 1 dL_times_9 rfl ?_
  refine g_if_ge (tgt := 17) hE dL_times_10 (by decide) (fun c10 => ?_) (fun c10 => absurd (nI_pos' (by omega)) c10)
  refine g_iconst (v := nI 0) hE dL_times_17 (by decide) ?_
  refine g_icmp_ne (tgt := 25) hE dL_times_18 (by decide) (fun c18 => absurd rfl c18) (fun c18 => ?_)
  refine g_iconst (v := nI 0) hE dL_times_21 (by decide) ?_
  refine g_goto (tgt := 26) hE dL_times_22 (by decide) ?_
  refine g_iload_n hE 0 dL_times_26 rfl ?_
  refine g_callS (st := [.int (nI 0)]) hE (fun ls hl => hl.1) 1 (c_L_steps G (A := A) (by omega)) gL_times_L_steps rfl rfl rfl (by decide +kernel) ⟨Nat.le_of_ble_eq_true rfl, Nat.le_of_ble_eq_true rfl⟩ rfl dL_times_27 rfl (Nat.le_of_ble_eq_true rfl) ⟨Nat.le_of_ble_eq_true rfl, Nat.le_of_ble_eq_true rfl⟩ (fun v h9 hp => ?_)
  obtain ⟨rfl, rfl⟩ := hp
  refine g_iload_n hE 1 dL_times_30 rfl ?_
  refine g_callS (st := [.long (lN (stF A)), .int (nI 0)]) hE (fun ls hl => hl.1) 1 (c_L_steps G (A := B) (by omega)) gL_times_L_steps rfl rfl rfl (by decide +kernel) ⟨Nat.le_of_ble_eq_true rfl, Nat.le_of_ble_eq_true rfl⟩ rfl dL_times_31 rfl (Nat.le_of_ble_eq_true rfl) ⟨Nat.le_of_ble_eq_true rfl, Nat.le_of_ble_eq_true rfl⟩ (fun v h9 hp => ?_)
  obtain ⟨rfl, rfl⟩ := hp
  refine g_lmul hE dL_times_34 ?_
  refine g_leq (y := lN (stF A * stF B)) (lN_mul _ _) ?_
  refine g_iload_n hE 0 dL_times_35 rfl ?_
  refine g_callS (st := [.long (lN (stF A * stF B)), .int (nI 0)]) hE (fun ls hl => hl.1) 1 (c_L_power G (A := A) (by omega)) gL_times_L_power rfl rfl rfl (by decide +kernel) ⟨Nat.le_of_ble_eq_true rfl, Nat.le_of_ble_eq_true rfl⟩ rfl dL_times_36 rfl (Nat.le_of_ble_eq_true rfl) ⟨Nat.le_of_ble_eq_true rfl, Nat.le_of_ble_eq_true rfl⟩ (fun v h9 hp => ?_)
  obtain ⟨rfl, rfl⟩ := hp
  refine g_iload_n hE 1 dL_times_39 rfl ?_
  refine g_callS (st := [.int (Int32.ofInt (poF A)), .long (lN (stF A * stF B)), .int (nI 0)]) hE (fun ls hl => hl.1) 1 (c_L_power G (A := B) (by omega)) gL_times_L_power rfl rfl rfl (by decide +kernel) ⟨Nat.le_of_ble_eq_true rfl, Nat.le_of_ble_eq_true rfl⟩ rfl dL_times_40 rfl (Nat.le_of_ble_eq_true rfl) ⟨Nat.le_of_ble_eq_true rfl, Nat.le_of_ble_eq_true rfl⟩ (fun v h9 hp => ?_)
  obtain ⟨rfl, rfl⟩ := hp
  refine g_iadd hE dL_times_43 ?_
  refine g_ieq (y := Int32.ofInt (poF A + poF B)) (o_add _ _) ?_
  refine g_callS (st := []) hE (fun ls hl => hl.1) 3 (c_L_packed G (n := stF A * stF B) (p := poF A + poF B) (by omega) t3 t4) gL_times_L_packed rfl rfl rfl (by decide +kernel) ⟨Nat.le_of_ble_eq_true rfl, Nat.le_of_ble_eq_true rfl⟩ rfl dL_times_44 rfl (Nat.le_of_ble_eq_true rfl) ⟨Nat.le_of_ble_eq_true rfl, Nat.le_of_ble_eq_true rfl⟩ (fun v h9 hp => ?_)
  obtain ⟨rfl, rfl⟩ := hp
  exact g_iret hE dL_times_47 (⟨by rw [t1], rfl⟩)

set_option maxHeartbeats 4000000 in
set_option maxRecDepth 100000 in
theorem c_L_over (G : XG) {h : HM} {A B : Nat} (hA : bN A) (hB : bN B) (hB0 : B ≠ 0) (hr : A ≠ 0 → -99 ≤ poF A - poF B ∧ poF A - poF B ≤ 100) : x_M G yL_over wsL_over ({ frames := 1, cells := 0, slots := 0, locals := 30 } : Room) [.int (nI A), .int (nI B)] h (x_is (some (.int (nI (FP.fdiv (fB A) (fB B)).toNat))) h) 0 0 := by
  refine g_M.of (cc := cL_over) (maxL := 6) (ret := (some .int)) (ent := [(0, .int (nI A)), (1, .int (nI B))]) (by decide +kernel) rfl (Nat.le_of_ble_eq_true rfl) rfl ?_
  intro F hE
  have lA := hA.lt
  have lB := hB.lt
  obtain ⟨t1, t2, t3, t4⟩ := over_is hA hB hB0 hr
  have sB := stF_b hB0
  have sA : stF A < 2 ^ 24 := by
    by_cases z : A = 0
    · unfold stF; rw [if_pos z]; decide
    · exact (stF_b z).2
  have hne : ¬ lN (stF B) = 0 := fun z => by have := (pk_lEQ (a := stF B) (b := 0) (by omega) (by decide)).mp z; omega
  refine g_iload_n hE 0 dL_over_0 rfl ?_
  refine g_callS (st := []) hE (fun ls hl => hl.1) 1 (c_L_steps G (A := A) (by omega)) gL_over_L_steps rfl rfl rfl (by decide +kernel) ⟨Nat.le_of_ble_eq_true rfl, Nat.le_of_ble_eq_true rfl⟩ rfl dL_over_1 rfl (Nat.le_of_ble_eq_true rfl) ⟨Nat.le_of_ble_eq_true rfl, Nat.le_of_ble_eq_true rfl⟩ (fun v h9 hp => ?_)
  obtain ⟨rfl, rfl⟩ := hp
  refine g_bipush (v := nI 30) hE dL_over_4 (by decide) ?_
  refine g_lshl (v := lN (stF A * 2 ^ 30)) hE dL_over_6 (wb_shl _ (k := 30) (by decide)) ?_
  refine g_iload_n hE 1 dL_over_7 rfl ?_
  refine g_callS (st := [.long (lN (stF A * 2 ^ 30))]) hE (fun ls hl => hl.1) 1 (c_L_steps G (A := B) (by omega)) gL_over_L_steps rfl rfl rfl (by decide +kernel) ⟨Nat.le_of_ble_eq_true rfl, Nat.le_of_ble_eq_true rfl⟩ rfl dL_over_8 rfl (Nat.le_of_ble_eq_true rfl) ⟨Nat.le_of_ble_eq_true rfl, Nat.le_of_ble_eq_true rfl⟩ (fun v h9 hp => ?_)
  obtain ⟨rfl, rfl⟩ := hp
  refine g_ldiv hE dL_over_11 (hne) ?_
  refine g_leq (y := lN (stF A * 2 ^ 30 / stF B)) (pk_lDiv (by omega) (by omega) (by omega)) ?_
  refine g_lstore_n (lv' := [(2, .long (lN (stF A * 2 ^ 30 / stF B))), (0, .int (nI A)), (1, .int (nI B))]) hE dL_over_12 rfl (Nat.le_of_ble_eq_true rfl) rfl ?_
  refine g_iload_n hE 1 dL_over_13 rfl ?_
  refine g_callS (st := []) hE (fun ls hl => hl.1) 1 (c_L_steps G (A := A) (by omega)) gL_over_L_steps rfl rfl rfl (by decide +kernel) ⟨Nat.le_of_ble_eq_true rfl, Nat.le_of_ble_eq_true rfl⟩ rfl dL_over_14 rfl (Nat.le_of_ble_eq_true rfl) ⟨Nat.le_of_ble_eq_true rfl, Nat.le_of_ble_eq_true rfl⟩ (fun v h9 hp => ?_)
  obtain ⟨rfl, rfl⟩ := hp
  refine g_bipush (v := nI 30) hE dL_over_17 (by decide) ?_
  refine g_lshl (v := lN (stF A * 2 ^ 30)) hE dL_over_19 (wb_shl _ (k := 30) (by decide)) ?_
  refine g_iload_n hE 2 dL_over_20 rfl ?_
  refine g_callS (st := [.long (lN (stF A * 2 ^ 30))]) hE (fun ls hl => hl.1) 1 (c_L_steps G (A := B) (by omega)) gL_over_L_steps rfl rfl rfl (by decide +kernel) ⟨Nat.le_of_ble_eq_true rfl, Nat.le_of_ble_eq_true rfl⟩ rfl dL_over_21 rfl (Nat.le_of_ble_eq_true rfl) ⟨Nat.le_of_ble_eq_true rfl, Nat.le_of_ble_eq_true rfl⟩ (fun v h9 hp => ?_)
  obtain ⟨rfl, rfl⟩ := hp
  refine g_lrem hE dL_over_24 (hne) ?_
  refine g_leq (y := lN (stF A * 2 ^ 30 % stF B)) (pk_lRem (by omega) (by omega) (by omega)) ?_
  refine g_lconst (v := lN 0) hE dL_over_25 rfl ?_
  refine g_lcmp hE dL_over_26 ?_
  have hml : stF A * 2 ^ 30 % stF B < 2 ^ 24 := by have := Nat.mod_lt (stF A * 2 ^ 30) (show 0 < stF B by omega); omega
  refine g_if_ne (tgt := 34) hE dL_over_27 (by decide) (fun c27 => ?_) (fun c27 => ?_)
  · have es : (if stF A * 2 ^ 30 % stF B = 0 then 0 else 1) = 1 := if_neg (fun z => c27 ((l_cmp0 (by omega) (by decide)).1.mpr z))
    refine g_lconst (v := lN 1) hE dL_over_34 rfl ?_
    refine g_lstore (lv' := [(4, .long (lN 1)), (2, .long (lN (stF A * 2 ^ 30 / stF B))), (0, .int (nI A)), (1, .int (nI B))]) hE dL_over_35 (Nat.le_of_ble_eq_true rfl) rfl ?_
    refine g_iconst (v := nI 0) hE dL_over_37 (by decide) ?_
    refine g_ldc2 (v := lN 2) hE (List.mem_of_getElem? (i := 1) rfl) dL_over_38 ?_
    refine g_lload_n hE 1 dL_over_41 rfl ?_
    refine g_lmul hE dL_over_42 ?_
    refine g_leq (y := lN (2 * (stF A * 2 ^ 30 / stF B))) (lN_mul _ _) ?_
    refine g_lload hE 0 dL_over_43 rfl ?_
    refine g_ladd hE dL_over_45 ?_
    refine g_leq (y := lN (ovN (stF A) (stF B))) (by rw [lN_add]; unfold ovN; rw [es]) ?_
    refine g_iload_n hE 2 dL_over_46 rfl ?_
    refine g_callS (st := [.long (lN (ovN (stF A) (stF B))), .int (nI 0)]) hE (fun ls hl => hl.1) 1 (c_L_power G (A := A) (by omega)) gL_over_L_power rfl rfl rfl (by decide +kernel) ⟨Nat.le_of_ble_eq_true rfl, Nat.le_of_ble_eq_true rfl⟩ rfl dL_over_47 rfl (Nat.le_of_ble_eq_true rfl) ⟨Nat.le_of_ble_eq_true rfl, Nat.le_of_ble_eq_true rfl⟩ (fun v h9 hp => ?_)
    obtain ⟨rfl, rfl⟩ := hp
    refine g_iload_n hE 3 dL_over_50 rfl ?_
    refine g_callS (st := [.int (Int32.ofInt (poF A)), .long (lN (ovN (stF A) (stF B))), .int (nI 0)]) hE (fun ls hl => hl.1) 1 (c_L_power G (A := B) (by omega)) gL_over_L_power rfl rfl rfl (by decide +kernel) ⟨Nat.le_of_ble_eq_true rfl, Nat.le_of_ble_eq_true rfl⟩ rfl dL_over_51 rfl (Nat.le_of_ble_eq_true rfl) ⟨Nat.le_of_ble_eq_true rfl, Nat.le_of_ble_eq_true rfl⟩ (fun v h9 hp => ?_)
    obtain ⟨rfl, rfl⟩ := hp
    refine g_isub hE dL_over_54 ?_
    refine g_ieq (y := Int32.ofInt (poF A - poF B)) (o_sub _ _) ?_
    refine g_bipush (v := nI 31) hE dL_over_55 (by decide) ?_
    refine g_isub hE dL_over_57 ?_
    refine g_ieq (y := Int32.ofInt (poF A - poF B - 31)) (o_sub _ 31) ?_
    refine g_callS (st := []) hE (fun ls hl => hl.1) 3 (c_L_packed G (n := ovN (stF A) (stF B)) (p := poF A - poF B - 31) (by omega) t3 t4) gL_over_L_packed rfl rfl rfl (by decide +kernel) ⟨Nat.le_of_ble_eq_true rfl, Nat.le_of_ble_eq_true rfl⟩ rfl dL_over_58 rfl (Nat.le_of_ble_eq_true rfl) ⟨Nat.le_of_ble_eq_true rfl, Nat.le_of_ble_eq_true rfl⟩ (fun v h9 hp => ?_)
    obtain ⟨rfl, rfl⟩ := hp
    exact g_iret hE dL_over_61 (⟨by rw [t1], rfl⟩)
  · have es : (if stF A * 2 ^ 30 % stF B = 0 then 0 else 1) = 0 := if_pos ((l_cmp0 (by omega) (by decide)).1.mp (by simpa using c27))
    refine g_lconst (v := lN 0) hE dL_over_30 rfl ?_
    refine g_goto (tgt := 35) hE dL_over_31 (by decide) ?_
    refine g_lstore (lv' := [(4, .long (lN 0)), (2, .long (lN (stF A * 2 ^ 30 / stF B))), (0, .int (nI A)), (1, .int (nI B))]) hE dL_over_35 (Nat.le_of_ble_eq_true rfl) rfl ?_
    refine g_iconst (v := nI 0) hE dL_over_37 (by decide) ?_
    refine g_ldc2 (v := lN 2) hE (List.mem_of_getElem? (i := 1) rfl) dL_over_38 ?_
    refine g_lload_n hE 1 dL_over_41 rfl ?_
    refine g_lmul hE dL_over_42 ?_
    refine g_leq (y := lN (2 * (stF A * 2 ^ 30 / stF B))) (lN_mul _ _) ?_
    refine g_lload hE 0 dL_over_43 rfl ?_
    refine g_ladd hE dL_over_45 ?_
    refine g_leq (y := lN (ovN (stF A) (stF B))) (by rw [lN_add]; unfold ovN; rw [es]) ?_
    refine g_iload_n hE 2 dL_over_46 rfl ?_
    refine g_callS (st := [.long (lN (ovN (stF A) (stF B))), .int (nI 0)]) hE (fun ls hl => hl.1) 1 (c_L_power G (A := A) (by omega)) gL_over_L_power rfl rfl rfl (by decide +kernel) ⟨Nat.le_of_ble_eq_true rfl, Nat.le_of_ble_eq_true rfl⟩ rfl dL_over_47 rfl (Nat.le_of_ble_eq_true rfl) ⟨Nat.le_of_ble_eq_true rfl, Nat.le_of_ble_eq_true rfl⟩ (fun v h9 hp => ?_)
    obtain ⟨rfl, rfl⟩ := hp
    refine g_iload_n hE 3 dL_over_50 rfl ?_
    refine g_callS (st := [.int (Int32.ofInt (poF A)), .long (lN (ovN (stF A) (stF B))), .int (nI 0)]) hE (fun ls hl => hl.1) 1 (c_L_power G (A := B) (by omega)) gL_over_L_power rfl rfl rfl (by decide +kernel) ⟨Nat.le_of_ble_eq_true rfl, Nat.le_of_ble_eq_true rfl⟩ rfl dL_over_51 rfl (Nat.le_of_ble_eq_true rfl) ⟨Nat.le_of_ble_eq_true rfl, Nat.le_of_ble_eq_true rfl⟩ (fun v h9 hp => ?_)
    obtain ⟨rfl, rfl⟩ := hp
    refine g_isub hE dL_over_54 ?_
    refine g_ieq (y := Int32.ofInt (poF A - poF B)) (o_sub _ _) ?_
    refine g_bipush (v := nI 31) hE dL_over_55 (by decide) ?_
    refine g_isub hE dL_over_57 ?_
    refine g_ieq (y := Int32.ofInt (poF A - poF B - 31)) (o_sub _ 31) ?_
    refine g_callS (st := []) hE (fun ls hl => hl.1) 3 (c_L_packed G (n := ovN (stF A) (stF B)) (p := poF A - poF B - 31) (by omega) t3 t4) gL_over_L_packed rfl rfl rfl (by decide +kernel) ⟨Nat.le_of_ble_eq_true rfl, Nat.le_of_ble_eq_true rfl⟩ rfl dL_over_58 rfl (Nat.le_of_ble_eq_true rfl) ⟨Nat.le_of_ble_eq_true rfl, Nat.le_of_ble_eq_true rfl⟩ (fun v h9 hp => ?_)
    obtain ⟨rfl, rfl⟩ := hp
    exact g_iret hE dL_over_61 (⟨by rw [t1], rfl⟩)

set_option maxHeartbeats 4000000 in
set_option maxRecDepth 100000 in
theorem c_L_plus (G : XG) {h : HM} {A B : Nat} (hA : bN A) (hB : bN B) (hr : A ≠ 0 → B ≠ 0 → poF A - poF B ≤ 35 ∧ poF B - poF A ≤ 35 ∧ poF A ≤ 90 ∧ poF B ≤ 90) : x_M G yL_plus wsL_plus ({ frames := 1, cells := 0, slots := 0, locals := 30 } : Room) [.int (nI A), .int (nI B)] h (x_is (some (.int (nI (FP.fadd (fB A) (fB B)).toNat))) h) 0 0 := by
  refine g_M.of (cc := cL_plus) (maxL := 11) (ret := (some .int)) (ent := [(0, .int (nI A)), (1, .int (nI B))]) (by decide +kernel) rfl (Nat.le_of_ble_eq_true rfl) rfl ?_
  intro F hE
  have lA := hA.lt
  have lB := hB.lt
  have pA := po_b (A := A) (by omega)
  have pB := po_b (A := B) (by omega)
  have sA0 : ∀ X : Nat, stF X < 2 ^ 24 ∧ (stF X = 0 ↔ X = 0) := fun X => by
    by_cases z : X = 0
    · unfold stF; rw [if_pos z]; exact ⟨by decide, fun _ => z, fun _ => rfl⟩
    · have := stF_b z
      exact ⟨this.2, fun y => by omega, fun y => absurd y z⟩
  have bA := sA0 A
  have bB := sA0 B
  refine g_iload_n hE 0 dL_plus_0 rfl ?_
  refine g_callS (st := []) hE (fun ls hl => hl.1) 1 (c_L_steps G (A := A) (by omega)) gL_plus_L_steps rfl rfl rfl (by decide +kernel) ⟨Nat.le_of_ble_eq_true rfl, Nat.le_of_ble_eq_true rfl⟩ rfl dL_plus_1 rfl (Nat.le_of_ble_eq_true rfl) ⟨Nat.le_of_ble_eq_true rfl, Nat.le_of_ble_eq_true rfl⟩ (fun v h9 hp => ?_)
  obtain ⟨rfl, rfl⟩ := hp
  refine g_lconst (v := lN 0) hE dL_plus_4 rfl ?_
  refine g_lcmp hE dL_plus_5 ?_
  refine g_if_eq (tgt := 18) hE dL_plus_6 (by decide) (fun c6 => ?_) (fun c6 => ?_)
  · have h0 : A = 0 := bA.2.mp ((l_cmp0 (by omega) (by decide)).1.mp c6)
    refine g_iload_n hE 0 dL_plus_18 rfl ?_
    refine g_callS (st := []) hE (fun ls hl => hl.1) 1 (c_L_steps G (A := A) (by omega)) gL_plus_L_steps rfl rfl rfl (by decide +kernel) ⟨Nat.le_of_ble_eq_true rfl, Nat.le_of_ble_eq_true rfl⟩ rfl dL_plus_19 rfl (Nat.le_of_ble_eq_true rfl) ⟨Nat.le_of_ble_eq_true rfl, Nat.le_of_ble_eq_true rfl⟩ (fun v h9 hp => ?_)
    obtain ⟨rfl, rfl⟩ := hp
    refine g_lconst (v := lN 0) hE dL_plus_22 rfl ?_
    refine g_lcmp hE dL_plus_23 ?_
    refine g_if_ne (tgt := 31) hE dL_plus_24 (by decide) (fun c24 => absurd c6 c24) (fun c24 => ?_)
    refine g_iload_n hE 1 dL_plus_27 rfl ?_
    refine g_goto (tgt := 32) hE dL_plus_28 (by decide) ?_
    exact g_iret hE dL_plus_32 (⟨by rw [(add_zero hB h0).1], rfl⟩)
  · have hA0 : A ≠ 0 := fun z => c6 ((l_cmp0 (by omega) (by decide)).1.mpr (bA.2.mpr z))
    refine g_iload_n hE 1 dL_plus_9 rfl ?_
    refine g_callS (st := []) hE (fun ls hl => hl.1) 1 (c_L_steps G (A := B) (by omega)) gL_plus_L_steps rfl rfl rfl (by decide +kernel) ⟨Nat.le_of_ble_eq_true rfl, Nat.le_of_ble_eq_true rfl⟩ rfl dL_plus_10 rfl (Nat.le_of_ble_eq_true rfl) ⟨Nat.le_of_ble_eq_true rfl, Nat.le_of_ble_eq_true rfl⟩ (fun v h9 hp => ?_)
    obtain ⟨rfl, rfl⟩ := hp
    refine g_lconst (v := lN 0) hE dL_plus_13 rfl ?_
    refine g_lcmp hE dL_plus_14 ?_
    refine g_if_ne (tgt := 33) hE dL_plus_15 (by decide) (fun c15 => ?_) (fun c15 => ?_)
    · have hB0 : B ≠ 0 := fun z => c15 ((l_cmp0 (by omega) (by decide)).1.mpr (bB.2.mpr z))
      obtain ⟨r1, r2, r3, r4⟩ := hr hA0 hB0
      have gA : -149 ≤ poF A := by
        rcases hA with z | z
        · exact absurd z hA0
        · unfold poF; omega
      have gB : -149 ≤ poF B := by
        rcases hB with z | z
        · exact absurd z hB0
        · unfold poF; omega
      refine g_iload_n hE 0 dL_plus_33 rfl ?_
      refine g_callS (st := []) hE (fun ls hl => hl.1) 1 (c_L_power G (A := A) (by omega)) gL_plus_L_power rfl rfl rfl (by decide +kernel) ⟨Nat.le_of_ble_eq_true rfl, Nat.le_of_ble_eq_true rfl⟩ rfl dL_plus_34 rfl (Nat.le_of_ble_eq_true rfl) ⟨Nat.le_of_ble_eq_true rfl, Nat.le_of_ble_eq_true rfl⟩ (fun v h9 hp => ?_)
      obtain ⟨rfl, rfl⟩ := hp
      refine g_iload_n hE 1 dL_plus_37 rfl ?_
      refine g_callS (st := [.int (Int32.ofInt (poF A))]) hE (fun ls hl => hl.1) 1 (c_L_power G (A := B) (by omega)) gL_plus_L_power rfl rfl rfl (by decide +kernel) ⟨Nat.le_of_ble_eq_true rfl, Nat.le_of_ble_eq_true rfl⟩ rfl dL_plus_38 rfl (Nat.le_of_ble_eq_true rfl) ⟨Nat.le_of_ble_eq_true rfl, Nat.le_of_ble_eq_true rfl⟩ (fun v h9 hp => ?_)
      obtain ⟨rfl, rfl⟩ := hp
      refine g_icmp_le (tgt := 48) hE dL_plus_41 (by decide) (fun c41 => ?_) (fun c41 => ?_)
      · have hle : poF A ≤ poF B := (o_le (by omega) (by omega) (by omega) (by omega)).mp c41
        refine g_iload_n hE 1 dL_plus_48 rfl ?_
        refine g_istore_n (lv' := [(2, .int (nI B)), (0, .int (nI A)), (1, .int (nI B))]) hE dL_plus_49 rfl (Nat.le_of_ble_eq_true rfl) rfl ?_
        refine g_iload_n hE 1 dL_plus_50 rfl ?_
        refine g_callS (st := []) hE (fun ls hl => hl.1) 1 (c_L_power G (A := A) (by omega)) gL_plus_L_power rfl rfl rfl (by decide +kernel) ⟨Nat.le_of_ble_eq_true rfl, Nat.le_of_ble_eq_true rfl⟩ rfl dL_plus_51 rfl (Nat.le_of_ble_eq_true rfl) ⟨Nat.le_of_ble_eq_true rfl, Nat.le_of_ble_eq_true rfl⟩ (fun v h9 hp => ?_)
        obtain ⟨rfl, rfl⟩ := hp
        refine g_iload_n hE 2 dL_plus_54 rfl ?_
        refine g_callS (st := [.int (Int32.ofInt (poF A))]) hE (fun ls hl => hl.1) 1 (c_L_power G (A := B) (by omega)) gL_plus_L_power rfl rfl rfl (by decide +kernel) ⟨Nat.le_of_ble_eq_true rfl, Nat.le_of_ble_eq_true rfl⟩ rfl dL_plus_55 rfl (Nat.le_of_ble_eq_true rfl) ⟨Nat.le_of_ble_eq_true rfl, Nat.le_of_ble_eq_true rfl⟩ (fun v h9 hp => ?_)
        obtain ⟨rfl, rfl⟩ := hp
        refine g_icmp_le (tgt := 65) hE dL_plus_58 (by decide) (fun c58 => ?_) (fun c58 => absurd c41 c58)
        obtain ⟨⟨s1, s1b⟩, s2, s3, s4⟩ := plus_is hB hA hB0 hA0 hle (by omega) (by omega) (by omega)
        refine g_iload_n hE 1 dL_plus_65 rfl ?_
        refine g_istore_n (lv' := [(3, .int (nI A)), (2, .int (nI B)), (0, .int (nI A)), (1, .int (nI B))]) hE dL_plus_66 rfl (Nat.le_of_ble_eq_true rfl) rfl ?_
        refine g_iload_n hE 1 dL_plus_67 rfl ?_
        refine g_callS (st := []) hE (fun ls hl => hl.1) 1 (c_L_power G (A := B) (by omega)) gL_plus_L_power rfl rfl rfl (by decide +kernel) ⟨Nat.le_of_ble_eq_true rfl, Nat.le_of_ble_eq_true rfl⟩ rfl dL_plus_68 rfl (Nat.le_of_ble_eq_true rfl) ⟨Nat.le_of_ble_eq_true rfl, Nat.le_of_ble_eq_true rfl⟩ (fun v h9 hp => ?_)
        obtain ⟨rfl, rfl⟩ := hp
        refine g_iload_n hE 0 dL_plus_71 rfl ?_
        refine g_callS (st := [.int (Int32.ofInt (poF B))]) hE (fun ls hl => hl.1) 1 (c_L_power G (A := A) (by omega)) gL_plus_L_power rfl rfl rfl (by decide +kernel) ⟨Nat.le_of_ble_eq_true rfl, Nat.le_of_ble_eq_true rfl⟩ rfl dL_plus_72 rfl (Nat.le_of_ble_eq_true rfl) ⟨Nat.le_of_ble_eq_true rfl, Nat.le_of_ble_eq_true rfl⟩ (fun v h9 hp => ?_)
        obtain ⟨rfl, rfl⟩ := hp
        refine g_isub hE dL_plus_75 ?_
        refine g_ieq (y := Int32.ofInt (poF B - poF A)) (o_sub _ _) ?_
        obtain ⟨k, hk⟩ : ∃ k : Nat, poF B - poF A = (k : Int) := ⟨(poF B - poF A).toNat, by omega⟩
        refine g_ieq (y := nI k) (o_nI hk) ?_
        rw [show (poF B - poF A).toNat = k by omega] at s1 s1b s2 s3 s4
        refine g_istore (lv' := [(4, .int (nI k)), (3, .int (nI A)), (2, .int (nI B)), (0, .int (nI A)), (1, .int (nI B))]) hE dL_plus_76 (Nat.le_of_ble_eq_true rfl) rfl ?_
        refine g_iload_n hE 2 dL_plus_78 rfl ?_
        refine g_if_ge (tgt := 88) hE dL_plus_79 (by decide) (fun c79 => ?_) (fun c79 => absurd (nI_pos' (by omega)) c79)
        refine g_lconst (v := lN 1) hE dL_plus_88 rfl ?_
        refine g_iload_n hE 2 dL_plus_89 rfl ?_
        refine g_callS (st := [.long (lN 1)]) hE (fun ls hl => hl.1) 1 (c_L_steps G (A := B) (by omega)) gL_plus_L_steps rfl rfl rfl (by decide +kernel) ⟨Nat.le_of_ble_eq_true rfl, Nat.le_of_ble_eq_true rfl⟩ rfl dL_plus_90 rfl (Nat.le_of_ble_eq_true rfl) ⟨Nat.le_of_ble_eq_true rfl, Nat.le_of_ble_eq_true rfl⟩ (fun v h9 hp => ?_)
        obtain ⟨rfl, rfl⟩ := hp
        refine g_iload hE 0 dL_plus_93 rfl ?_
        refine g_bipush (v := nI 36) hE dL_plus_95 (by decide) ?_
        refine g_icmp_ge (tgt := 105) hE dL_plus_97 (by decide) (fun c97 => absurd (x_nIle c97 (by decide) (by omega)) (by omega)) (fun c97 => ?_)
        refine g_iload hE 0 dL_plus_100 rfl ?_
        refine g_goto (tgt := 107) hE dL_plus_102 (by decide) ?_
        refine g_lshl (v := lN (stF B * 2 ^ k)) hE dL_plus_107 (wb_shl _ (by omega)) ?_
        have hb1 : stF B * 2 ^ k < 2 ^ 60 := by omega
        refine g_lmul hE dL_plus_108 ?_
        refine g_leq (y := lN (stF B * 2 ^ k)) (by rw [lN_mul, Nat.one_mul]) ?_
        refine g_lstore (lv' := [(5, .long (lN (stF B * 2 ^ k))), (4, .int (nI k)), (3, .int (nI A)), (2, .int (nI B)), (0, .int (nI A)), (1, .int (nI B))]) hE dL_plus_109 (Nat.le_of_ble_eq_true rfl) rfl ?_
        refine g_iload_n hE 2 dL_plus_111 rfl ?_
        refine g_if_ge (tgt := 121) hE dL_plus_112 (by decide) (fun c112 => ?_) (fun c112 => absurd (nI_pos' (by omega)) c112)
        refine g_lconst (v := lN 1) hE dL_plus_121 rfl ?_
        refine g_iload hE 1 dL_plus_122 rfl ?_
        refine g_bipush (v := nI 36) hE dL_plus_124 (by decide) ?_
        refine g_icmp_ge (tgt := 136) hE dL_plus_126 (by decide) (fun c126 => absurd (x_nIle c126 (by decide) (by omega)) (by omega)) (fun c126 => ?_)
        refine g_iload_n hE 2 dL_plus_129 rfl ?_
        refine g_callS (st := [.long (lN 1)]) hE (fun ls hl => hl.1) 1 (c_L_steps G (A := A) (by omega)) gL_plus_L_steps rfl rfl rfl (by decide +kernel) ⟨Nat.le_of_ble_eq_true rfl, Nat.le_of_ble_eq_true rfl⟩ rfl dL_plus_130 rfl (Nat.le_of_ble_eq_true rfl) ⟨Nat.le_of_ble_eq_true rfl, Nat.le_of_ble_eq_true rfl⟩ (fun v h9 hp => ?_)
        obtain ⟨rfl, rfl⟩ := hp
        refine g_goto (tgt := 137) hE dL_plus_133 (by decide) ?_
        refine g_lmul hE dL_plus_137 ?_
        refine g_leq (y := lN (stF A)) (by rw [lN_mul, Nat.one_mul]) ?_
        refine g_lstore (lv' := [(7, .long (lN (stF A))), (5, .long (lN (stF B * 2 ^ k))), (4, .int (nI k)), (3, .int (nI A)), (2, .int (nI B)), (0, .int (nI A)), (1, .int (nI B))]) hE dL_plus_138 (Nat.le_of_ble_eq_true rfl) rfl ?_
        refine g_lload hE 1 dL_plus_140 rfl ?_
        refine g_lload hE 0 dL_plus_142 rfl ?_
        refine g_ladd hE dL_plus_144 ?_
        refine g_leq (y := lN (stF B * 2 ^ k + stF A)) (lN_add _ _) ?_
        refine g_lstore (lv' := [(9, .long (lN (stF B * 2 ^ k + stF A))), (7, .long (lN (stF A))), (5, .long (lN (stF B * 2 ^ k))), (4, .int (nI k)), (3, .int (nI A)), (2, .int (nI B)), (0, .int (nI A)), (1, .int (nI B))]) hE dL_plus_145 (Nat.le_of_ble_eq_true rfl) rfl ?_
        refine g_lload hE 0 dL_plus_147 rfl ?_
        refine g_lconst (v := lN 0) hE dL_plus_149 rfl ?_
        refine g_lcmp hE dL_plus_150 ?_
        refine g_if_ge (tgt := 158) hE dL_plus_151 (by decide) (fun c151 => ?_) (fun c151 => absurd ((l_cmp0 (by omega) (by decide)).2.2.mpr (Nat.zero_le _)) c151)
        refine g_iconst (v := nI 0) hE dL_plus_158 (by decide) ?_
        refine g_lload hE 0 dL_plus_159 rfl ?_
        refine g_lconst (v := lN 0) hE dL_plus_161 rfl ?_
        refine g_lcmp hE dL_plus_162 ?_
        refine g_if_ge (tgt := 172) hE dL_plus_163 (by decide) (fun c163 => ?_) (fun c163 => absurd ((l_cmp0 (by omega) (by decide)).2.2.mpr (Nat.zero_le _)) c163)
        refine g_lload hE 0 dL_plus_172 rfl ?_
        refine g_iload_n hE 5 dL_plus_174 rfl ?_
        refine g_callS (st := [.long (lN (stF B * 2 ^ k + stF A)), .int (nI 0)]) hE (fun ls hl => hl.1) 1 (c_L_power G (A := B) (by omega)) gL_plus_L_power rfl rfl rfl (by decide +kernel) ⟨Nat.le_of_ble_eq_true rfl, Nat.le_of_ble_eq_true rfl⟩ rfl dL_plus_175 rfl (Nat.le_of_ble_eq_true rfl) ⟨Nat.le_of_ble_eq_true rfl, Nat.le_of_ble_eq_true rfl⟩ (fun v h9 hp => ?_)
        obtain ⟨rfl, rfl⟩ := hp
        refine g_iload hE 3 dL_plus_178 rfl ?_
        refine g_bipush (v := nI 36) hE dL_plus_180 (by decide) ?_
        refine g_icmp_ge (tgt := 190) hE dL_plus_182 (by decide) (fun c182 => absurd (x_nIle c182 (by decide) (by omega)) (by omega)) (fun c182 => ?_)
        refine g_iload hE 3 dL_plus_185 rfl ?_
        refine g_goto (tgt := 192) hE dL_plus_187 (by decide) ?_
        refine g_isub hE dL_plus_192 ?_
        refine g_ieq (y := Int32.ofInt (poF A)) (by rw [show nI k = Int32.ofInt (k : Int) from rfl, o_sub]; congr 1; omega) ?_
        refine g_callS (st := []) hE (fun ls hl => hl.1) 3 (c_L_packed G (n := stF B * 2 ^ k + stF A) (p := poF A) (by omega) (fun _ => s3) (fun _ => s4)) gL_plus_L_packed rfl rfl rfl (by decide +kernel) ⟨Nat.le_of_ble_eq_true rfl, Nat.le_of_ble_eq_true rfl⟩ rfl dL_plus_193 rfl (Nat.le_of_ble_eq_true rfl) ⟨Nat.le_of_ble_eq_true rfl, Nat.le_of_ble_eq_true rfl⟩ (fun v h9 hp => ?_)
        obtain ⟨rfl, rfl⟩ := hp
        exact g_iret hE dL_plus_196 (⟨by rw [s1b], rfl⟩)
      · have hle : poF B ≤ poF A := by have := (not_congr (o_le (a := poF A) (b := poF B) (by omega) (by omega) (by omega) (by omega))).mp c41; omega
        refine g_iload_n hE 0 dL_plus_44 rfl ?_
        refine g_goto (tgt := 49) hE dL_plus_45 (by decide) ?_
        refine g_istore_n (lv' := [(2, .int (nI A)), (0, .int (nI A)), (1, .int (nI B))]) hE dL_plus_49 rfl (Nat.le_of_ble_eq_true rfl) rfl ?_
        refine g_iload_n hE 1 dL_plus_50 rfl ?_
        refine g_callS (st := []) hE (fun ls hl => hl.1) 1 (c_L_power G (A := A) (by omega)) gL_plus_L_power rfl rfl rfl (by decide +kernel) ⟨Nat.le_of_ble_eq_true rfl, Nat.le_of_ble_eq_true rfl⟩ rfl dL_plus_51 rfl (Nat.le_of_ble_eq_true rfl) ⟨Nat.le_of_ble_eq_true rfl, Nat.le_of_ble_eq_true rfl⟩ (fun v h9 hp => ?_)
        obtain ⟨rfl, rfl⟩ := hp
        refine g_iload_n hE 2 dL_plus_54 rfl ?_
        refine g_callS (st := [.int (Int32.ofInt (poF A))]) hE (fun ls hl => hl.1) 1 (c_L_power G (A := B) (by omega)) gL_plus_L_power rfl rfl rfl (by decide +kernel) ⟨Nat.le_of_ble_eq_true rfl, Nat.le_of_ble_eq_true rfl⟩ rfl dL_plus_55 rfl (Nat.le_of_ble_eq_true rfl) ⟨Nat.le_of_ble_eq_true rfl, Nat.le_of_ble_eq_true rfl⟩ (fun v h9 hp => ?_)
        obtain ⟨rfl, rfl⟩ := hp
        refine g_icmp_le (tgt := 65) hE dL_plus_58 (by decide) (fun c58 => absurd c58 c41) (fun c58 => ?_)
        obtain ⟨⟨s1, s1b⟩, s2, s3, s4⟩ := plus_is hA hB hA0 hB0 hle (by omega) (by omega) (by omega)
        refine g_iload_n hE 2 dL_plus_61 rfl ?_
        refine g_goto (tgt := 66) hE dL_plus_62 (by decide) ?_
        refine g_istore_n (lv' := [(3, .int (nI B)), (2, .int (nI A)), (0, .int (nI A)), (1, .int (nI B))]) hE dL_plus_66 rfl (Nat.le_of_ble_eq_true rfl) rfl ?_
        refine g_iload_n hE 1 dL_plus_67 rfl ?_
        refine g_callS (st := []) hE (fun ls hl => hl.1) 1 (c_L_power G (A := A) (by omega)) gL_plus_L_power rfl rfl rfl (by decide +kernel) ⟨Nat.le_of_ble_eq_true rfl, Nat.le_of_ble_eq_true rfl⟩ rfl dL_plus_68 rfl (Nat.le_of_ble_eq_true rfl) ⟨Nat.le_of_ble_eq_true rfl, Nat.le_of_ble_eq_true rfl⟩ (fun v h9 hp => ?_)
        obtain ⟨rfl, rfl⟩ := hp
        refine g_iload_n hE 0 dL_plus_71 rfl ?_
        refine g_callS (st := [.int (Int32.ofInt (poF A))]) hE (fun ls hl => hl.1) 1 (c_L_power G (A := B) (by omega)) gL_plus_L_power rfl rfl rfl (by decide +kernel) ⟨Nat.le_of_ble_eq_true rfl, Nat.le_of_ble_eq_true rfl⟩ rfl dL_plus_72 rfl (Nat.le_of_ble_eq_true rfl) ⟨Nat.le_of_ble_eq_true rfl, Nat.le_of_ble_eq_true rfl⟩ (fun v h9 hp => ?_)
        obtain ⟨rfl, rfl⟩ := hp
        refine g_isub hE dL_plus_75 ?_
        refine g_ieq (y := Int32.ofInt (poF A - poF B)) (o_sub _ _) ?_
        obtain ⟨k, hk⟩ : ∃ k : Nat, poF A - poF B = (k : Int) := ⟨(poF A - poF B).toNat, by omega⟩
        refine g_ieq (y := nI k) (o_nI hk) ?_
        rw [show (poF A - poF B).toNat = k by omega] at s1 s1b s2 s3 s4
        refine g_istore (lv' := [(4, .int (nI k)), (3, .int (nI B)), (2, .int (nI A)), (0, .int (nI A)), (1, .int (nI B))]) hE dL_plus_76 (Nat.le_of_ble_eq_true rfl) rfl ?_
        refine g_iload_n hE 2 dL_plus_78 rfl ?_
        refine g_if_ge (tgt := 88) hE dL_plus_79 (by decide) (fun c79 => ?_) (fun c79 => absurd (nI_pos' (by omega)) c79)
        refine g_lconst (v := lN 1) hE dL_plus_88 rfl ?_
        refine g_iload_n hE 2 dL_plus_89 rfl ?_
        refine g_callS (st := [.long (lN 1)]) hE (fun ls hl => hl.1) 1 (c_L_steps G (A := A) (by omega)) gL_plus_L_steps rfl rfl rfl (by decide +kernel) ⟨Nat.le_of_ble_eq_true rfl, Nat.le_of_ble_eq_true rfl⟩ rfl dL_plus_90 rfl (Nat.le_of_ble_eq_true rfl) ⟨Nat.le_of_ble_eq_true rfl, Nat.le_of_ble_eq_true rfl⟩ (fun v h9 hp => ?_)
        obtain ⟨rfl, rfl⟩ := hp
        refine g_iload hE 0 dL_plus_93 rfl ?_
        refine g_bipush (v := nI 36) hE dL_plus_95 (by decide) ?_
        refine g_icmp_ge (tgt := 105) hE dL_plus_97 (by decide) (fun c97 => absurd (x_nIle c97 (by decide) (by omega)) (by omega)) (fun c97 => ?_)
        refine g_iload hE 0 dL_plus_100 rfl ?_
        refine g_goto (tgt := 107) hE dL_plus_102 (by decide) ?_
        refine g_lshl (v := lN (stF A * 2 ^ k)) hE dL_plus_107 (wb_shl _ (by omega)) ?_
        have hb1 : stF A * 2 ^ k < 2 ^ 60 := by omega
        refine g_lmul hE dL_plus_108 ?_
        refine g_leq (y := lN (stF A * 2 ^ k)) (by rw [lN_mul, Nat.one_mul]) ?_
        refine g_lstore (lv' := [(5, .long (lN (stF A * 2 ^ k))), (4, .int (nI k)), (3, .int (nI B)), (2, .int (nI A)), (0, .int (nI A)), (1, .int (nI B))]) hE dL_plus_109 (Nat.le_of_ble_eq_true rfl) rfl ?_
        refine g_iload_n hE 2 dL_plus_111 rfl ?_
        refine g_if_ge (tgt := 121) hE dL_plus_112 (by decide) (fun c112 => ?_) (fun c112 => absurd (nI_pos' (by omega)) c112)
        refine g_lconst (v := lN 1) hE dL_plus_121 rfl ?_
        refine g_iload hE 1 dL_plus_122 rfl ?_
        refine g_bipush (v := nI 36) hE dL_plus_124 (by decide) ?_
        refine g_icmp_ge (tgt := 136) hE dL_plus_126 (by decide) (fun c126 => absurd (x_nIle c126 (by decide) (by omega)) (by omega)) (fun c126 => ?_)
        refine g_iload_n hE 2 dL_plus_129 rfl ?_
        refine g_callS (st := [.long (lN 1)]) hE (fun ls hl => hl.1) 1 (c_L_steps G (A := B) (by omega)) gL_plus_L_steps rfl rfl rfl (by decide +kernel) ⟨Nat.le_of_ble_eq_true rfl, Nat.le_of_ble_eq_true rfl⟩ rfl dL_plus_130 rfl (Nat.le_of_ble_eq_true rfl) ⟨Nat.le_of_ble_eq_true rfl, Nat.le_of_ble_eq_true rfl⟩ (fun v h9 hp => ?_)
        obtain ⟨rfl, rfl⟩ := hp
        refine g_goto (tgt := 137) hE dL_plus_133 (by decide) ?_
        refine g_lmul hE dL_plus_137 ?_
        refine g_leq (y := lN (stF B)) (by rw [lN_mul, Nat.one_mul]) ?_
        refine g_lstore (lv' := [(7, .long (lN (stF B))), (5, .long (lN (stF A * 2 ^ k))), (4, .int (nI k)), (3, .int (nI B)), (2, .int (nI A)), (0, .int (nI A)), (1, .int (nI B))]) hE dL_plus_138 (Nat.le_of_ble_eq_true rfl) rfl ?_
        refine g_lload hE 1 dL_plus_140 rfl ?_
        refine g_lload hE 0 dL_plus_142 rfl ?_
        refine g_ladd hE dL_plus_144 ?_
        refine g_leq (y := lN (stF A * 2 ^ k + stF B)) (lN_add _ _) ?_
        refine g_lstore (lv' := [(9, .long (lN (stF A * 2 ^ k + stF B))), (7, .long (lN (stF B))), (5, .long (lN (stF A * 2 ^ k))), (4, .int (nI k)), (3, .int (nI B)), (2, .int (nI A)), (0, .int (nI A)), (1, .int (nI B))]) hE dL_plus_145 (Nat.le_of_ble_eq_true rfl) rfl ?_
        refine g_lload hE 0 dL_plus_147 rfl ?_
        refine g_lconst (v := lN 0) hE dL_plus_149 rfl ?_
        refine g_lcmp hE dL_plus_150 ?_
        refine g_if_ge (tgt := 158) hE dL_plus_151 (by decide) (fun c151 => ?_) (fun c151 => absurd ((l_cmp0 (by omega) (by decide)).2.2.mpr (Nat.zero_le _)) c151)
        refine g_iconst (v := nI 0) hE dL_plus_158 (by decide) ?_
        refine g_lload hE 0 dL_plus_159 rfl ?_
        refine g_lconst (v := lN 0) hE dL_plus_161 rfl ?_
        refine g_lcmp hE dL_plus_162 ?_
        refine g_if_ge (tgt := 172) hE dL_plus_163 (by decide) (fun c163 => ?_) (fun c163 => absurd ((l_cmp0 (by omega) (by decide)).2.2.mpr (Nat.zero_le _)) c163)
        refine g_lload hE 0 dL_plus_172 rfl ?_
        refine g_iload_n hE 5 dL_plus_174 rfl ?_
        refine g_callS (st := [.long (lN (stF A * 2 ^ k + stF B)), .int (nI 0)]) hE (fun ls hl => hl.1) 1 (c_L_power G (A := A) (by omega)) gL_plus_L_power rfl rfl rfl (by decide +kernel) ⟨Nat.le_of_ble_eq_true rfl, Nat.le_of_ble_eq_true rfl⟩ rfl dL_plus_175 rfl (Nat.le_of_ble_eq_true rfl) ⟨Nat.le_of_ble_eq_true rfl, Nat.le_of_ble_eq_true rfl⟩ (fun v h9 hp => ?_)
        obtain ⟨rfl, rfl⟩ := hp
        refine g_iload hE 3 dL_plus_178 rfl ?_
        refine g_bipush (v := nI 36) hE dL_plus_180 (by decide) ?_
        refine g_icmp_ge (tgt := 190) hE dL_plus_182 (by decide) (fun c182 => absurd (x_nIle c182 (by decide) (by omega)) (by omega)) (fun c182 => ?_)
        refine g_iload hE 3 dL_plus_185 rfl ?_
        refine g_goto (tgt := 192) hE dL_plus_187 (by decide) ?_
        refine g_isub hE dL_plus_192 ?_
        refine g_ieq (y := Int32.ofInt (poF B)) (by rw [show nI k = Int32.ofInt (k : Int) from rfl, o_sub]; congr 1; omega) ?_
        refine g_callS (st := []) hE (fun ls hl => hl.1) 3 (c_L_packed G (n := stF A * 2 ^ k + stF B) (p := poF B) (by omega) (fun _ => s3) (fun _ => s4)) gL_plus_L_packed rfl rfl rfl (by decide +kernel) ⟨Nat.le_of_ble_eq_true rfl, Nat.le_of_ble_eq_true rfl⟩ rfl dL_plus_193 rfl (Nat.le_of_ble_eq_true rfl) ⟨Nat.le_of_ble_eq_true rfl, Nat.le_of_ble_eq_true rfl⟩ (fun v h9 hp => ?_)
        obtain ⟨rfl, rfl⟩ := hp
        exact g_iret hE dL_plus_196 (⟨by rw [s1], rfl⟩)
    · have h0 : B = 0 := bB.2.mp ((l_cmp0 (by omega) (by decide)).1.mp (by simpa using c15))
      refine g_iload_n hE 0 dL_plus_18 rfl ?_
      refine g_callS (st := []) hE (fun ls hl => hl.1) 1 (c_L_steps G (A := A) (by omega)) gL_plus_L_steps rfl rfl rfl (by decide +kernel) ⟨Nat.le_of_ble_eq_true rfl, Nat.le_of_ble_eq_true rfl⟩ rfl dL_plus_19 rfl (Nat.le_of_ble_eq_true rfl) ⟨Nat.le_of_ble_eq_true rfl, Nat.le_of_ble_eq_true rfl⟩ (fun v h9 hp => ?_)
      obtain ⟨rfl, rfl⟩ := hp
      refine g_lconst (v := lN 0) hE dL_plus_22 rfl ?_
      refine g_lcmp hE dL_plus_23 ?_
      refine g_if_ne (tgt := 31) hE dL_plus_24 (by decide) (fun c24 => ?_) (fun c24 => absurd (by simpa using c24) c6)
      refine g_iload_n hE 0 dL_plus_31 rfl ?_
      exact g_iret hE dL_plus_32 (⟨by rw [(add_zero hA h0).2], rfl⟩)

set_option maxHeartbeats 4000000 in
set_option maxRecDepth 100000 in
theorem c_L_cast (G : XG) {h : HM} {A : Nat} (hA : bN A) (h150 : A < 150 * 2 ^ 23) : x_M G yL_cast wsL_cast ({ frames := 1, cells := 0, slots := 0, locals := 20 } : Room) [.int (nI A)] h (x_is (some (.int (FP.f2i (fB A)))) h) 0 0 := by
  refine g_M.of (cc := cL_cast) (maxL := 1) (ret := (some .int)) (ent := [(0, .int (nI A))]) (by decide +kernel) rfl (Nat.le_of_ble_eq_true rfl) rfl ?_
  intro F hE
  have lA := hA.lt
  have pA := po_b (A := A) (by omega)
  have e := cast_is hA h150
  have sA : stF A < 2 ^ 24 := by
    by_cases z : A = 0
    · unfold stF; rw [if_pos z]; decide
    · exact (stF_b z).2
  have hp : poF A < 0 := by unfold poF; omega
  refine g_iload_n hE 0 dL_cast_0 rfl ?_
  refine g_callS (st := []) hE (fun ls hl => hl.1) 1 (c_L_power G (A := A) (by omega)) gL_cast_L_power rfl rfl rfl (by decide +kernel) ⟨Nat.le_of_ble_eq_true rfl, Nat.le_of_ble_eq_true rfl⟩ rfl dL_cast_1 rfl (Nat.le_of_ble_eq_true rfl) ⟨Nat.le_of_ble_eq_true rfl, Nat.le_of_ble_eq_true rfl⟩ (fun v h9 hp => ?_)
  obtain ⟨rfl, rfl⟩ := hp
  refine g_bipush (v := (-24 : Int32)) hE dL_cast_4 (by decide) ?_
  refine g_ieq (y := Int32.ofInt (-24)) (by decide) ?_
  refine g_icmp_ge (tgt := 13) hE dL_cast_6 (by decide) (fun c6 => ?_) (fun c6 => ?_)
  · have h24 : -24 ≤ poF A := (o_le (by omega) (by omega) (by omega) (by omega)).mp c6
    refine g_iload_n hE 0 dL_cast_13 rfl ?_
    refine g_callS (st := []) hE (fun ls hl => hl.1) 1 (c_L_power G (A := A) (by omega)) gL_cast_L_power rfl rfl rfl (by decide +kernel) ⟨Nat.le_of_ble_eq_true rfl, Nat.le_of_ble_eq_true rfl⟩ rfl dL_cast_14 rfl (Nat.le_of_ble_eq_true rfl) ⟨Nat.le_of_ble_eq_true rfl, Nat.le_of_ble_eq_true rfl⟩ (fun v h9 hp => ?_)
    obtain ⟨rfl, rfl⟩ := hp
    refine g_if_ge (tgt := 33) hE dL_cast_17 (by decide) (fun c17 => absurd ((o_le (a := 0) (by decide) (by decide) (by omega) (by omega)).mp c17) (by omega)) (fun c17 => ?_)
    refine g_iload_n hE 0 dL_cast_20 rfl ?_
    refine g_callS (st := []) hE (fun ls hl => hl.1) 1 (c_L_steps G (A := A) (by omega)) gL_cast_L_steps rfl rfl rfl (by decide +kernel) ⟨Nat.le_of_ble_eq_true rfl, Nat.le_of_ble_eq_true rfl⟩ rfl dL_cast_21 rfl (Nat.le_of_ble_eq_true rfl) ⟨Nat.le_of_ble_eq_true rfl, Nat.le_of_ble_eq_true rfl⟩ (fun v h9 hp => ?_)
    obtain ⟨rfl, rfl⟩ := hp
    refine g_iload_n hE 0 dL_cast_24 rfl ?_
    refine g_callS (st := [.long (lN (stF A))]) hE (fun ls hl => hl.1) 1 (c_L_power G (A := A) (by omega)) gL_cast_L_power rfl rfl rfl (by decide +kernel) ⟨Nat.le_of_ble_eq_true rfl, Nat.le_of_ble_eq_true rfl⟩ rfl dL_cast_25 rfl (Nat.le_of_ble_eq_true rfl) ⟨Nat.le_of_ble_eq_true rfl, Nat.le_of_ble_eq_true rfl⟩ (fun v h9 hp => ?_)
    obtain ⟨rfl, rfl⟩ := hp
    refine g_ineg hE dL_cast_28 ?_
    refine g_ieq (y := nI (-poF A).toNat) (by rw [← Int32.ofInt_neg]; exact o_nI (by omega)) ?_
    refine g_lshr (v := lN (stF A / 2 ^ (-poF A).toNat)) hE dL_cast_29 (l_shrK (by omega) (by omega)) ?_
    refine g_goto (tgt := 42) hE dL_cast_30 (by decide) ?_
    refine g_l2i (v := nI (stF A / 2 ^ (-poF A).toNat)) hE dL_cast_42 (lN_i _) ?_
    exact g_iret hE dL_cast_43 (⟨by rw [e], rfl⟩)
  · have h24 : poF A < -24 := by have := (not_congr (o_le (a := -24) (b := poF A) (by omega) (by omega) (by omega) (by omega))).mp c6; omega
    have hz : stF A / 2 ^ (-poF A).toNat = 0 := Nat.div_eq_of_lt (Nat.lt_of_lt_of_le sA (Nat.pow_le_pow_right (by decide) (by omega)))
    refine g_iconst (v := nI 0) hE dL_cast_9 (by decide) ?_
    refine g_goto (tgt := 43) hE dL_cast_10 (by decide) ?_
    exact g_iret hE dL_cast_43 (⟨by rw [e, hz], rfl⟩)
