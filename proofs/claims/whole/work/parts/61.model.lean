set_option maxHeartbeats 4000000 in
set_option maxRecDepth 100000 in
theorem c_X8_bitsOf (G : XG) {h : HM} {X : Nat} (hX : X = 0 ∨ (115 * 2 ^ 23 ≤ X ∧ X ≤ 151 * 2 ^ 23)) : x_M G yX8_bitsOf wsX8_bitsOf ({ frames := 0, cells := 0, slots := 0, locals := 0 } : Room) [.float (fB X)] h (x_is (some (.int (nI X))) h) 0 0 := by
  refine x_M.of (cc := cX8_bitsOf) (maxL := 3) (ret := (some .int)) (ent := [some (.float (fB X)), none, none]) (by decide +kernel) rfl (Nat.le_of_ble_eq_true rfl) rfl rfl ?_
  intro F hE hname
  have hXm : X ≤ 151 * 2 ^ 23 := hX.elim (fun z => by omega) (fun z => z.2)
  refine x_fload_n hE dX8_bitsOf_0 rfl ?_
  refine x_fconst0 hE dX8_bitsOf_1 ?_
  refine x_fq (y := (fB 0)) (k0) ?_
  refine x_fcmp hE dX8_bitsOf_2 ?_
  refine x_if_ne (tgt := 8) hE dX8_bitsOf_3 (by decide) (fun c3 => ?_) (fun c3 => ?_)
  · have hX1 : X ≠ 0 := fun z => c3 ((cB_eq (by omega) (by omega)).mpr z)
    obtain ⟨hXa, hXb⟩ := hX.resolve_left hX1
    refine x_bipush (v := nI 127) hE dX8_bitsOf_8 (by decide) ?_
    refine x_istore_n (L' := [some (.float (fB X)), some (.int (nI 127)), none]) hE dX8_bitsOf_10 rfl (Nat.le_of_ble_eq_true rfl) rfl ?_
    refine x_fload_n hE dX8_bitsOf_11 rfl ?_
    refine x_fstore_n (L' := [some (.float (fB X)), some (.int (nI 127)), some (.float (fB X))]) hE dX8_bitsOf_12 rfl (Nat.le_of_ble_eq_true rfl) rfl ?_
    refine x_Leq (L' := [some (.float (fB X)), some (.int (nI (127 - 0))), some (.float (fB X))]) rfl ?_
    refine x_down (N := 13) (P := fun i => ∀ Z : Nat, Z = X + i * 2 ^ 23 → (i = 0 ∨ Z < 128 * 2 ^ 23) → x_W G F (x_Q G F (x_is (some (.int (nI X))) h) 0 0) 0 0 h 13 [some (.float (fB X)), some (.int (nI (127 - i))), some (.float (fB Z))] []) (fun i hiN ih => ?_) 0 (by omega) X (by omega) (Or.inl rfl)
    intro Z hZ hi2
    refine x_fload_n hE dX8_bitsOf_13 rfl ?_
    refine x_fconst1 hE dX8_bitsOf_14 ?_
    refine x_fq (y := (fB (127 * 2 ^ 23))) (k1) ?_
    refine x_fcmp hE dX8_bitsOf_15 ?_
    refine x_if_ge (tgt := 29) hE dX8_bitsOf_16 (by decide) (fun c16 => ?_) (fun c16 => ?_)
    · have c16b := (cB_ge (by omega) (by omega)).mp c16
      clear c16 ih
      refine x_Leq (L' := [some (.float (fB X)), some (.int (nI (127 - i + 0))), some (.float (fB Z))]) rfl ?_
      refine x_down (N := 25) (P := fun j => ∀ Y : Nat, Y + j * 2 ^ 23 = Z → 127 * 2 ^ 23 ≤ Y → x_W G F (x_Q G F (x_is (some (.int (nI X))) h) 0 0) 0 0 h 29 [some (.float (fB X)), some (.int (nI (127 - i + j))), some (.float (fB Y))] []) (fun j hjN ih2 => ?_) 0 (by omega) Z (by omega) c16b
      intro Y hY hj2
      refine x_fload_n hE dX8_bitsOf_29 rfl ?_
      refine x_fconst2 hE dX8_bitsOf_30 ?_
      refine x_fq (y := (fB (128 * 2 ^ 23))) (k2) ?_
      refine x_fcmp hE dX8_bitsOf_31 ?_
      refine x_if_lt (tgt := 45) hE dX8_bitsOf_32 (by decide) (fun c32 => ?_) (fun c32 => ?_)
      · have c32b := (cB_lt (by omega) (by omega)).mp c32
        obtain ⟨t, ht⟩ : ∃ t, Y = 127 * 2 ^ 23 + t := ⟨Y - 127 * 2 ^ 23, by omega⟩
        have htl := tail_is (t := t) (by omega)
        rw [← ht] at htl
        obtain ⟨t1, t2, t3⟩ := htl
        refine x_iload_n hE dX8_bitsOf_45 rfl ?_
        refine x_ldc (v := (8388608)) hE (List.mem_of_getElem? (i := 1) rfl) dX8_bitsOf_46 ?_
        refine x_ieq (y := nI 8388608) (rfl) ?_
        refine x_imul hE dX8_bitsOf_48 ?_
        refine x_ieq (y := nI ((127 - i + j) * 8388608)) (pk_mul _ _) ?_
        refine x_fload_n hE dX8_bitsOf_49 rfl ?_
        refine x_fconst1 hE dX8_bitsOf_50 ?_
        refine x_fq (y := FP.fconst1) (rfl) ?_
        refine x_fsub hE dX8_bitsOf_51 (vf_of t1) ?_
        refine x_ldcf (v := (1258291200)) hE (List.mem_of_getElem? (i := 2) rfl) dX8_bitsOf_52 ?_
        refine x_fq (y := c8388608) (rfl) ?_
        refine x_fmul hE dX8_bitsOf_54 (vf_of t2) ?_
        refine x_f2i hE dX8_bitsOf_55 ?_
        refine x_ieq (y := nI t) (t3) ?_
        refine x_iadd hE dX8_bitsOf_56 ?_
        refine x_ieq (y := nI X) (by rw [nI_add]; congr 1; omega) ?_
        exact x_iret hE dX8_bitsOf_57 (⟨rfl, rfl⟩)
      · have c32b : 128 * 2 ^ 23 ≤ Y := Nat.le_of_not_lt (fun z => c32 ((cB_lt (by omega) (by omega)).mpr z))
        refine x_fload_n hE dX8_bitsOf_35 rfl ?_
        refine x_fconst2 hE dX8_bitsOf_36 ?_
        obtain ⟨W, hW⟩ : ∃ W, Y = W + 2 ^ 23 := ⟨Y - 2 ^ 23, by omega⟩
        have ed := halve' hW (by omega) (by omega)
        refine x_fdiv hE dX8_bitsOf_37 (vf_of (by rw [ed]; exact (fB_nn (by omega)).ne)) ?_
        refine x_fq (y := (fB W)) (ed) ?_
        refine x_fstore_n (L' := [some (.float (fB X)), some (.int (nI (127 - i + j))), some (.float (fB W))]) hE dX8_bitsOf_38 rfl (Nat.le_of_ble_eq_true rfl) rfl ?_
        refine x_iinc (v := nI ((127 - i + j) + 1)) (L' := [some (.float (fB X)), some (.int (nI ((127 - i + j) + 1))), some (.float (fB W))]) hE dX8_bitsOf_39 rfl (nI_1 _) rfl ?_
        refine x_goto (tgt := 29) hE dX8_bitsOf_42 (by decide) ?_
        refine x_Leq (L' := [some (.float (fB X)), some (.int (nI (127 - i + (j + 1)))), some (.float (fB W))]) rfl ?_
        exact ih2 (j + 1) (by omega) (by omega) W (by omega) (by omega)
    · have c16b : Z < 127 * 2 ^ 23 := Nat.lt_of_not_le (fun z => c16 ((cB_ge (by omega) (by omega)).mpr z))
      refine x_fload_n hE dX8_bitsOf_19 rfl ?_
      refine x_fconst2 hE dX8_bitsOf_20 ?_
      obtain ⟨W, hW⟩ : ∃ W, W = Z + 2 ^ 23 := ⟨_, rfl⟩
      have ed := double' hW (by omega) (by omega)
      refine x_fmul hE dX8_bitsOf_21 (vf_of (by rw [ed]; exact (fB_nn (by omega)).ne)) ?_
      refine x_fq (y := (fB W)) (ed) ?_
      refine x_fstore_n (L' := [some (.float (fB X)), some (.int (nI (127 - i))), some (.float (fB W))]) hE dX8_bitsOf_22 rfl (Nat.le_of_ble_eq_true rfl) rfl ?_
      refine x_iinc (v := (nI (127 - i)) + (-1)) (L' := [some (.float (fB X)), some (.int ((nI (127 - i)) + (-1))), some (.float (fB W))]) hE dX8_bitsOf_23 rfl rfl rfl ?_
      refine x_goto (tgt := 13) hE dX8_bitsOf_26 (by decide) ?_
      refine x_Leq (L' := [some (.float (fB X)), some (.int (nI (127 - (i + 1)))), some (.float (fB W))]) (by rw [dn2, sub1 (by omega)]; rfl) ?_
      exact ih (i + 1) (by omega) (by omega) W (by omega) (Or.inr (by omega))
  · have hX0 : X = 0 := (cB_eq (by omega) (by omega)).mp c3
    subst hX0
    refine x_iconst (v := nI 0) hE dX8_bitsOf_6 (by decide) ?_
    exact x_iret hE dX8_bitsOf_7 (⟨rfl, rfl⟩)
