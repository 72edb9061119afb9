/-! the script read -/
theorem nI_bits (v : Int32) : nI v.toBitVec.toNat = v := by
  apply Int32.toBitVec_inj.mp
  show BitVec.ofNat 32 _ = _
  simp
theorem and31 (v : Int32) : ∃ x, x < 2 ^ 31 ∧ v &&& 2147483647 = nI x := by
  refine ⟨v.toBitVec.toNat % 2 ^ 31, Nat.mod_lt _ (by decide), ?_⟩
  rw [← pk_andN v.toBitVec.isLt (m := 2147483647) 31 (by decide), nI_bits]
theorem x_sld {G : XG} {F : XF} {cc : ByteArray} {own : String} {Ts : List Cond} {nL : Nat} {ret : Option FieldType} {rm : Room} {Q : State → Prop} {a n : Nat} {h : HM} {pc : Nat} {Lo : List (Option Value)} {st : List Value} (hE : x_E G F cc own Ts nL ret rm) {b L : Nat} {xs : Nat → Int32} (hX : va_X b L xs (f_s F) (f_s F).heap) (hbl : b < (f_s F).heap.size) (hbA : ¬ g_A G b) {j : Nat} (hj : j < L) (hL : L < 2 ^ 31) (d : decode cc pc = .ok (.iaload, 1)) (kk : x_W G F Q a n h (pc + 1) Lo (.int (xs j) :: st)) : x_W G F Q a n h pc Lo (.int (nI j) :: .ref b :: st) := fun H locs ls hH hS hL' => va_sld hE.1 hE.2.1 hX hbl hbA hS (vp_in_nI hj hL) d (by rw [nI_clamp (by omega)]; exact kk H locs ls hH hS hL')
theorem x_slen {G : XG} {F : XF} {cc : ByteArray} {own : String} {Ts : List Cond} {nL : Nat} {ret : Option FieldType} {rm : Room} {Q : State → Prop} {a n : Nat} {h : HM} {pc : Nat} {Lo : List (Option Value)} {st : List Value} (hE : x_E G F cc own Ts nL ret rm) {b L : Nat} {xs : Nat → Int32} (hX : va_X b L xs (f_s F) (f_s F).heap) (hbl : b < (f_s F).heap.size) (hbA : ¬ g_A G b) (d : decode cc pc = .ok (.arraylength, 1)) (kk : x_W G F Q a n h (pc + 1) Lo (.int (nI L) :: st)) : x_W G F Q a n h pc Lo (.ref b :: st) := fun H locs ls hH hS hL' => va_slen hE.1 hE.2.1 hX hbl hbA hS d (kk H locs ls hH hS hL')

set_option maxHeartbeats 4000000 in
set_option maxRecDepth 100000 in
theorem c_L_draw (G : XG) {b L : Nat} {xs : Nat → Int32} (hLb : L < 2 ^ 31) {k : Nat} (hk : k < 2 ^ 30) {h : HM} : w_M G (scr G b L xs) yL_draw wsL_draw ({ frames := 0, cells := 0, slots := 0, locals := 0 } : Room) [.ref b, .int (nI k), .int (nI 1073741824)] h (fun v h' => (∃ x, x < 2 ^ 30 ∧ v = some (.int (nI x))) ∧ h' = h) 0 0 := by
  refine w_M.of (cc := cL_draw) (maxL := 4) (ret := (some .int)) (ent := [some (.ref b), some (.int (nI k)), some (.int (nI 1073741824)), none]) (by decide +kernel) rfl (Nat.le_of_ble_eq_true rfl) rfl rfl ?_
  intro F hE hname hT
  obtain ⟨hT0, hX, hbs, hbA⟩ := hT
  refine x_iload_n hE dL_draw_0 rfl ?_
  refine x_aload_n hE dL_draw_1 rfl rfl ?_
  refine x_slen hE hX hbs hbA dL_draw_2 ?_
  refine x_icmp_ge (tgt := 12) hE dL_draw_3 (by decide) (fun c3 => ?_) (fun c3 => ?_)
  · refine x_ldc (v := (1003218897)) hE (List.mem_of_getElem? (i := 1) rfl) dL_draw_12 ?_
    refine x_iload_n hE dL_draw_14 rfl ?_
    refine x_sipush (v := nI 991) hE dL_draw_15 (by decide) ?_
    refine x_iadd hE dL_draw_18 ?_
    refine x_imul hE dL_draw_19 ?_
    refine x_ldc (v := (799912401)) hE (List.mem_of_getElem? (i := 2) rfl) dL_draw_20 ?_
    refine x_iadd hE dL_draw_22 ?_
    obtain ⟨v, ev⟩ : ∃ v : Int32, ((1003218897) * ((nI k) + (nI 991))) + (799912401) = v := ⟨_, rfl⟩
    refine x_ieq (y := v) (ev) ?_
    refine x_istore_n (L' := [some (.ref b), some (.int (nI k)), some (.int (nI 1073741824)), some (.int v)]) hE dL_draw_23 rfl (Nat.le_of_ble_eq_true rfl) rfl ?_
    refine x_iload_n hE dL_draw_24 rfl ?_
    refine x_ldc (v := (2147483647)) hE (List.mem_of_getElem? (i := 3) rfl) dL_draw_25 ?_
    obtain ⟨y, hy, ey⟩ := and31 v
    refine x_iand hE dL_draw_27 ?_
    refine x_ieq (y := nI y) (ey) ?_
    refine x_iload_n hE dL_draw_28 rfl ?_
    refine x_irem hE dL_draw_29 (by decide) ?_
    refine x_ieq (y := nI (y % 1073741824)) (pk_rem (by omega) (by decide) (by decide)) ?_
    exact x_iret hE dL_draw_30 ⟨⟨_, Nat.mod_lt _ (by decide), rfl⟩, rfl⟩
  · replace c3 := x_nInle c3 (by omega) (by omega)
    refine x_aload_n hE dL_draw_6 rfl rfl ?_
    refine x_iload_n hE dL_draw_7 rfl ?_
    refine x_sld hE hX hbs hbA c3 hLb dL_draw_8 ?_
    refine x_goto (tgt := 23) hE dL_draw_9 (by decide) ?_
    obtain ⟨v, ev⟩ : ∃ v : Int32, xs k = v := ⟨_, rfl⟩
    refine x_ieq (y := v) (ev) ?_
    refine x_istore_n (L' := [some (.ref b), some (.int (nI k)), some (.int (nI 1073741824)), some (.int v)]) hE dL_draw_23 rfl (Nat.le_of_ble_eq_true rfl) rfl ?_
    refine x_iload_n hE dL_draw_24 rfl ?_
    refine x_ldc (v := (2147483647)) hE (List.mem_of_getElem? (i := 3) rfl) dL_draw_25 ?_
    obtain ⟨y, hy, ey⟩ := and31 v
    refine x_iand hE dL_draw_27 ?_
    refine x_ieq (y := nI y) (ey) ?_
    refine x_iload_n hE dL_draw_28 rfl ?_
    refine x_irem hE dL_draw_29 (by decide) ?_
    refine x_ieq (y := nI (y % 1073741824)) (pk_rem (by omega) (by decide) (by decide)) ?_
    exact x_iret hE dL_draw_30 ⟨⟨_, Nat.mod_lt _ (by decide), rfl⟩, rfl⟩
