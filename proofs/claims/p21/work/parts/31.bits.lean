theorem x_fq {G : XG} {F : XF} {Q : State → Prop} {a b : Nat} {h : HM} {pc : Nat} {L : List (Option Value)} {st : List Value} {x y : UInt32} (e : x = y) (kk : x_W G F Q a b h pc L (.float y :: st)) : x_W G F Q a b h pc L (.float x :: st) := by subst e; exact kk
theorem fz_fB {a b : Nat} (ha : a < 2139095040) (hb : b < 2139095040) : fz (fB a) < fz (fB b) ↔ a < b := by
  rw [fB_fz ha, fB_fz hb]
  exact ⟨fun h => FP.Core.unitsOf_lt_iff.mp (Int.ofNat_lt.mp h), fun h => Int.ofNat_lt.mpr (FP.Core.unitsOf_lt_iff.mpr h)⟩
theorem cB_lt {a b : Nat} (ha : a < 2139095040) (hb : b < 2139095040) {op : CmpOp} : Op.cmpValue (FP.fcmp (fB a) (fB b)) op < 0 ↔ a < b := (cmp_lt (fB_nn ha).ne (fB_nn hb).ne op).trans (fz_fB ha hb)
theorem cB_gt {a b : Nat} (ha : a < 2139095040) (hb : b < 2139095040) {op : CmpOp} : 0 < Op.cmpValue (FP.fcmp (fB a) (fB b)) op ↔ b < a := (cmp_gt (fB_nn ha).ne (fB_nn hb).ne op).trans (fz_fB hb ha)
theorem cB_ge {a b : Nat} (ha : a < 2139095040) (hb : b < 2139095040) {op : CmpOp} : 0 ≤ Op.cmpValue (FP.fcmp (fB a) (fB b)) op ↔ b ≤ a := by
  rw [cmp_ge (fB_nn ha).ne (fB_nn hb).ne op]
  have := fz_fB ha hb
  constructor
  · intro h; exact Nat.le_of_not_lt (fun z => by have := this.mpr z; omega)
  · intro h; exact Int.not_lt.mp (fun z => by have := this.mp z; omega)
theorem cB_eq {a b : Nat} (ha : a < 2139095040) (hb : b < 2139095040) {op : CmpOp} : Op.cmpValue (FP.fcmp (fB a) (fB b)) op = 0 ↔ a = b := by
  rw [cmp_eq (fB_nn ha).ne (fB_nn hb).ne op]
  have h1 := fz_fB ha hb
  have h2 := fz_fB hb ha
  constructor
  · intro h
    rcases Nat.lt_trichotomy a b with z | z | z
    · have := h1.mpr z; omega
    · exact z
    · have := h2.mpr z; omega
  · intro h; rw [h]
theorem halve' {n m : Nat} (hm : m = n + 2 ^ 23) (h : 2 ^ 23 ≤ n) (h2 : m < 2139095040) : FP.fdiv (fB m) FP.fconst2 = fB n := by subst hm; exact halve h h2
theorem double' {n m : Nat} (hm : m = n + 2 ^ 23) (h : 2 ^ 23 ≤ n) (h2 : m < 2139095040) : FP.fmul (fB n) FP.fconst2 = fB m := by subst hm; exact double h h2
theorem k0 : FP.fconst0 = fB 0 := by decide
theorem k1 : FP.fconst1 = fB (127 * 2 ^ 23) := by decide
theorem k2 : FP.fconst2 = fB (128 * 2 ^ 23) := by decide

set_option maxHeartbeats 4000000 in
set_option maxRecDepth 100000 in
theorem c_X7_bitsOf (G : XG) {h : HM} {X : Nat} (hX : X = 0 ∨ (115 * 2 ^ 23 ≤ X ∧ X ≤ 151 * 2 ^ 23)) : x_M G yX7_bitsOf wsX7_bitsOf ({ frames := 0, cells := 0, slots := 0, locals := 0 } : Room) [.float (fB X)] h (x_is (some (.int (nI X))) h) 0 0 := by
  refine x_M.of (cc := cX7_bitsOf) (maxL := 3) (ret := (some .int)) (ent := [some (.float (fB X)), none, none]) (by decide +kernel) rfl (Nat.le_of_ble_eq_true rfl) rfl rfl ?_
  intro F hE hname
  have hXm : X ≤ 151 * 2 ^ 23 := hX.elim (fun z => by omega) (fun z => z.2)
  refine x_fload_n hE dX7_bitsOf_0 rfl ?_
  refine x_fconst0 hE dX7_bitsOf_1 ?_
  refine x_fq (y := (fB 0)) (k0) ?_
  refine x_fcmp hE dX7_bitsOf_2 ?_
  refine x_if_gt (tgt := 8) hE dX7_bitsOf_3 (by decide) (fun c3 => ?_) (fun c3 => ?_)
  · have hX1 := (cB_gt (by omega) (by omega)).mp c3
    obtain ⟨hXa, hXb⟩ := hX.resolve_left (by omega)
    refine x_fload_n hE dX7_bitsOf_8 rfl ?_
    refine x_fstore_n (L' := [some (.float (fB X)), some (.float (fB X)), none]) hE dX7_bitsOf_9 rfl (Nat.le_of_ble_eq_true rfl) rfl ?_
    refine x_bipush (v := nI 127) hE dX7_bitsOf_10 (by decide) ?_
    refine x_istore_n (L' := [some (.float (fB X)), some (.float (fB X)), some (.int (nI 127))]) hE dX7_bitsOf_12 rfl (Nat.le_of_ble_eq_true rfl) rfl ?_
    refine x_Leq (L' := [some (.float (fB X)), some (.float (fB X)), some (.int (nI (127 + 0)))]) rfl ?_
    refine x_down (N := 25) (P := fun i => ∀ Z : Nat, Z + i * 2 ^ 23 = X → (i = 0 ∨ 127 * 2 ^ 23 ≤ Z) → x_W G F (x_Q G F (x_is (some (.int (nI X))) h) 0 0) 0 0 h 13 [some (.float (fB X)), some (.float (fB Z)), some (.int (nI (127 + i)))] []) (fun i hiN ih => ?_) 0 (by omega) X (by omega) (Or.inl rfl)
    intro Z hZ hi2
    refine x_fload_n hE dX7_bitsOf_13 rfl ?_
    refine x_fconst2 hE dX7_bitsOf_14 ?_
    refine x_fq (y := (fB (128 * 2 ^ 23))) (k2) ?_
    refine x_fcmp hE dX7_bitsOf_15 ?_
    refine x_if_lt (tgt := 36) hE dX7_bitsOf_16 (by decide) (fun c16 => ?_) (fun c16 => ?_)
    · have c16b := (cB_lt (by omega) (by omega)).mp c16
      clear c16 ih
      refine x_Leq (L' := [some (.float (fB X)), some (.float (fB Z)), some (.int (nI (127 + i - 0)))]) rfl ?_
      refine x_down (N := 13) (P := fun j => ∀ Y : Nat, Y = Z + j * 2 ^ 23 → (j = 0 ∨ Y < 128 * 2 ^ 23) → x_W G F (x_Q G F (x_is (some (.int (nI X))) h) 0 0) 0 0 h 36 [some (.float (fB X)), some (.float (fB Y)), some (.int (nI (127 + i - j)))] []) (fun j hjN ih2 => ?_) 0 (by omega) Z (by omega) (Or.inl rfl)
      intro Y hY hj2
      refine x_fload_n hE dX7_bitsOf_36 rfl ?_
      refine x_fconst1 hE dX7_bitsOf_37 ?_
      refine x_fq (y := (fB (127 * 2 ^ 23))) (k1) ?_
      refine x_fcmp hE dX7_bitsOf_38 ?_
      refine x_if_ge (tgt := 57) hE dX7_bitsOf_39 (by decide) (fun c39 => ?_) (fun c39 => ?_)
      · have c39b := (cB_ge (by omega) (by omega)).mp c39
        refine x_fload_n hE dX7_bitsOf_57 rfl ?_
        refine x_fconst1 hE dX7_bitsOf_58 ?_
        refine x_fq (y := (fB (127 * 2 ^ 23))) (k1) ?_
        refine x_fcmp hE dX7_bitsOf_59 ?_
        refine x_if_ge (tgt := 69) hE dX7_bitsOf_60 (by decide) (fun c60 => ?_) (fun c60 => ?_)
        · obtain ⟨t, ht⟩ : ∃ t, Y = 127 * 2 ^ 23 + t := ⟨Y - 127 * 2 ^ 23, by omega⟩
          have htl := tail_is (t := t) (by omega)
          rw [← ht] at htl
          obtain ⟨t1, t2, t3⟩ := htl
          refine x_iload_n hE dX7_bitsOf_69 rfl ?_
          refine x_bipush (v := nI 23) hE dX7_bitsOf_70 (by decide) ?_
          refine x_ishl hE dX7_bitsOf_72 ?_
          refine x_ieq (y := nI ((127 + i - j) * 2 ^ 23)) (shl23 (by omega)) ?_
          refine x_fload_n hE dX7_bitsOf_73 rfl ?_
          refine x_fconst1 hE dX7_bitsOf_74 ?_
          refine x_fsub hE dX7_bitsOf_75 (vf_of t1) ?_
          refine x_ldcf (v := (1258291200)) hE (List.mem_of_getElem? (i := 1) rfl) dX7_bitsOf_76 ?_
          refine x_fq (y := c8388608) (rfl) ?_
          refine x_fmul hE dX7_bitsOf_78 (vf_of t2) ?_
          refine x_f2i hE dX7_bitsOf_79 ?_
          refine x_ieq (y := nI t) (t3) ?_
          refine x_iadd hE dX7_bitsOf_80 ?_
          refine x_ieq (y := nI X) (by rw [nI_add]; congr 1; omega) ?_
          exact x_iret hE dX7_bitsOf_81 (⟨rfl, rfl⟩)
        · exact absurd c39 c60
      · have c39b : Y < 127 * 2 ^ 23 := Nat.lt_of_not_le (fun z => c39 ((cB_ge (by omega) (by omega)).mpr z))
        refine x_iload_n hE dX7_bitsOf_42 rfl ?_
        refine x_iconst (v := nI 1) hE dX7_bitsOf_43 (by decide) ?_
        refine x_ieq (y := nI 1) (rfl) ?_
        refine x_icmp_le (tgt := 57) hE dX7_bitsOf_44 (by decide) (fun c44 => ?_) (fun c44 => ?_)
        · exact absurd (x_nIle c44 (by omega) (by omega)) (by omega)
        · refine x_fload_n hE dX7_bitsOf_47 rfl ?_
          refine x_fconst2 hE dX7_bitsOf_48 ?_
          obtain ⟨W, hW⟩ : ∃ W, W = Y + 2 ^ 23 := ⟨_, rfl⟩
          have ed := double' hW (by omega) (by omega)
          refine x_fmul hE dX7_bitsOf_49 (vf_of (by rw [ed]; exact (fB_nn (by omega)).ne)) ?_
          refine x_fq (y := (fB W)) (ed) ?_
          refine x_fstore_n (L' := [some (.float (fB X)), some (.float (fB W)), some (.int (nI (127 + i - j)))]) hE dX7_bitsOf_50 rfl (Nat.le_of_ble_eq_true rfl) rfl ?_
          refine x_iinc (v := (nI (127 + i - j)) + (-1)) (L' := [some (.float (fB X)), some (.float (fB W)), some (.int ((nI (127 + i - j)) + (-1)))]) hE dX7_bitsOf_51 rfl rfl rfl ?_
          refine x_goto (tgt := 36) hE dX7_bitsOf_54 (by decide) ?_
          refine x_Leq (L' := [some (.float (fB X)), some (.float (fB W)), some (.int (nI (127 + i - (j + 1))))]) (by rw [dn2, sub1 (by omega)]; rfl) ?_
          exact ih2 (j + 1) (by omega) (by omega) W (by omega) (Or.inr (by omega))
    · have c16b : 128 * 2 ^ 23 ≤ Z := Nat.le_of_not_lt (fun z => c16 ((cB_lt (by omega) (by omega)).mpr z))
      refine x_iload_n hE dX7_bitsOf_19 rfl ?_
      refine x_sipush (v := nI 254) hE dX7_bitsOf_20 (by decide) ?_
      refine x_icmp_ge (tgt := 36) hE dX7_bitsOf_23 (by decide) (fun c23 => ?_) (fun c23 => ?_)
      · exact absurd (x_nIle c23 (by omega) (by omega)) (by omega)
      · refine x_fload_n hE dX7_bitsOf_26 rfl ?_
        refine x_fconst2 hE dX7_bitsOf_27 ?_
        obtain ⟨W, hW⟩ : ∃ W, Z = W + 2 ^ 23 := ⟨Z - 2 ^ 23, by omega⟩
        have ed := halve' hW (by omega) (by omega)
        refine x_fdiv hE dX7_bitsOf_28 (vf_of (by rw [ed]; exact (fB_nn (by omega)).ne)) ?_
        refine x_fq (y := (fB W)) (ed) ?_
        refine x_fstore_n (L' := [some (.float (fB X)), some (.float (fB W)), some (.int (nI (127 + i)))]) hE dX7_bitsOf_29 rfl (Nat.le_of_ble_eq_true rfl) rfl ?_
        refine x_iinc (v := nI ((127 + i) + 1)) (L' := [some (.float (fB X)), some (.float (fB W)), some (.int (nI ((127 + i) + 1)))]) hE dX7_bitsOf_30 rfl (nI_1 _) rfl ?_
        refine x_goto (tgt := 13) hE dX7_bitsOf_33 (by decide) ?_
        refine x_Leq (L' := [some (.float (fB X)), some (.float (fB W)), some (.int (nI (127 + (i + 1))))]) rfl ?_
        exact ih (i + 1) (by omega) (by omega) W (by omega) (Or.inr (by omega))
  · have hX0 : X = 0 := hX.elim (fun z => z) (fun z => absurd ((cB_gt (by omega) (by omega)).mpr (by omega)) c3)
    subst hX0
    refine x_iconst (v := nI 0) hE dX7_bitsOf_6 (by decide) ?_
    exact x_iret hE dX7_bitsOf_7 (⟨rfl, rfl⟩)
