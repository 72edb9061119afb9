set_option maxHeartbeats 4000000 in
set_option maxRecDepth 100000 in
/-- Lamp(..) -/
theorem c_X4_init (G : XG) {q : Nat} {h : HM} {p0 p1 p2 p3 p4 : Int32} (hq : h q = some (.inr (4, [.int 0, .int 0, .int 0, .int 0, .int 0, .int 0]))) : x_M G yX4_init wsX4_init ({ frames := 1, cells := 0, slots := 0, locals := 20 } : Room) [.ref q, .int p0, .int p1, .int p2, .int p3, .int p4] h (x_is none (x_up h q (.inr (4, [.int p0, .int p1, .int p2, .int p3, .int p4, .int 0])))) 0 0 := by
  refine x_M.of (cc := cX4_init) (maxL := 6) (ret := none) (ent := [some (.ref q), some (.int p0), some (.int p1), some (.int p2), some (.int p3), some (.int p4)]) (by decide +kernel) rfl (Nat.le_of_ble_eq_true rfl) rfl rfl ?_
  intro F hE hname
  have hinX4 : ∀ w ∈ wsX40, w ∈ wsX4_init := by decide +kernel
  refine x_aload_n hE dX4_init_0 rfl rfl ?_
  refine x_objinit hE (List.mem_of_getElem? (i := 1) rfl) (List.mem_of_getElem? (i := 2) rfl) (List.mem_of_getElem? (i := 3) rfl) rfl (Nat.le_of_ble_eq_true rfl) (Nat.le_of_ble_eq_true rfl) dX4_init_1 ?_
  refine x_aload_n hE dX4_init_4 rfl rfl ?_
  refine x_iload_n hE dX4_init_5 rfl ?_
  refine x_putF (fs' := [.int p0, .int 0, .int 0, .int 0, .int 0, .int 0]) hE hinX4 tyX4 tyX4_ok nmX4 hq rfl 0 (by decide) (List.mem_of_getElem? (i := 4) rfl) rfl hname rfl rfl rfl (Nat.le_of_ble_eq_true rfl) rfl dX4_init_6 ?_
  generalize hhh1 : x_up h q (.inr (4, [.int p0, .int 0, .int 0, .int 0, .int 0, .int 0])) = h1
  have hc2 : h1 q = some (.inr (4, [.int p0, .int 0, .int 0, .int 0, .int 0, .int 0])) := by rw [← hhh1]; exact x_up_eq _ _ _
  refine x_aload_n hE dX4_init_9 rfl rfl ?_
  refine x_iload_n hE dX4_init_10 rfl ?_
  refine x_putF (fs' := [.int p0, .int p1, .int 0, .int 0, .int 0, .int 0]) hE hinX4 tyX4 tyX4_ok nmX4 hc2 rfl 1 (by decide) (List.mem_of_getElem? (i := 5) rfl) rfl hname rfl rfl rfl (Nat.le_of_ble_eq_true rfl) rfl dX4_init_11 ?_
  generalize hhh3 : x_up h1 q (.inr (4, [.int p0, .int p1, .int 0, .int 0, .int 0, .int 0])) = h3
  have hc4 : h3 q = some (.inr (4, [.int p0, .int p1, .int 0, .int 0, .int 0, .int 0])) := by rw [← hhh3]; exact x_up_eq _ _ _
  refine x_aload_n hE dX4_init_14 rfl rfl ?_
  refine x_iload_n hE dX4_init_15 rfl ?_
  refine x_putF (fs' := [.int p0, .int p1, .int p2, .int 0, .int 0, .int 0]) hE hinX4 tyX4 tyX4_ok nmX4 hc4 rfl 2 (by decide) (List.mem_of_getElem? (i := 6) rfl) rfl hname rfl rfl rfl (Nat.le_of_ble_eq_true rfl) rfl dX4_init_16 ?_
  generalize hhh5 : x_up h3 q (.inr (4, [.int p0, .int p1, .int p2, .int 0, .int 0, .int 0])) = h5
  have hc6 : h5 q = some (.inr (4, [.int p0, .int p1, .int p2, .int 0, .int 0, .int 0])) := by rw [← hhh5]; exact x_up_eq _ _ _
  refine x_aload_n hE dX4_init_19 rfl rfl ?_
  refine x_iload hE dX4_init_20 rfl ?_
  refine x_putF (fs' := [.int p0, .int p1, .int p2, .int p3, .int 0, .int 0]) hE hinX4 tyX4 tyX4_ok nmX4 hc6 rfl 3 (by decide) (List.mem_of_getElem? (i := 7) rfl) rfl hname rfl rfl rfl (Nat.le_of_ble_eq_true rfl) rfl dX4_init_22 ?_
  generalize hhh7 : x_up h5 q (.inr (4, [.int p0, .int p1, .int p2, .int p3, .int 0, .int 0])) = h7
  have hc8 : h7 q = some (.inr (4, [.int p0, .int p1, .int p2, .int p3, .int 0, .int 0])) := by rw [← hhh7]; exact x_up_eq _ _ _
  refine x_aload_n hE dX4_init_25 rfl rfl ?_
  refine x_iload hE dX4_init_26 rfl ?_
  refine x_putF (fs' := [.int p0, .int p1, .int p2, .int p3, .int p4, .int 0]) hE hinX4 tyX4 tyX4_ok nmX4 hc8 rfl 4 (by decide) (List.mem_of_getElem? (i := 8) rfl) rfl hname rfl rfl rfl (Nat.le_of_ble_eq_true rfl) rfl dX4_init_28 ?_
  generalize hhh9 : x_up h7 q (.inr (4, [.int p0, .int p1, .int p2, .int p3, .int p4, .int 0])) = h9
  have hc10 : h9 q = some (.inr (4, [.int p0, .int p1, .int p2, .int p3, .int p4, .int 0])) := by rw [← hhh9]; exact x_up_eq _ _ _
  exact x_vret hE dX4_init_31 (⟨rfl, by rw [← hhh9]; rw [← hhh7]; rw [← hhh5]; rw [← hhh3]; rw [← hhh1]; rw [x_up_up, x_up_up, x_up_up, x_up_up]⟩)

set_option maxHeartbeats 4000000 in
set_option maxRecDepth 100000 in
/-- distanceTo -/
theorem c_X4_distanceTo (G : XG) {q r : Nat} {h : HM} {p0 p1 p2 p3 p4 p5 r0 r1 r2 r3 r4 r5 : Int32} (hq : h q = some (.inr (4, [.int p0, .int p1, .int p2, .int p3, .int p4, .int p5]))) (hr : h r = some (.inr (4, [.int r0, .int r1, .int r2, .int r3, .int r4, .int r5]))) : x_M G yX4_distanceTo wsX4_distanceTo ({ frames := 1, cells := 0, slots := 0, locals := 21 } : Room) [.ref q, .ref r] h (x_is (some (.int (nI 10 * absI (p0 - r0) + absI (p1 - r1)))) h) 0 0 := by
  refine x_M.of (cc := cX4_distanceTo) (maxL := 2) (ret := (some .int)) (ent := [some (.ref q), some (.ref r)]) (by decide +kernel) rfl (Nat.le_of_ble_eq_true rfl) rfl rfl ?_
  intro F hE hname
  have hinX4 : ∀ w ∈ wsX40, w ∈ wsX4_distanceTo := by decide +kernel
  refine x_bipush (v := nI 10) hE dX4_distanceTo_0 (by decide) ?_
  refine x_aload_n hE dX4_distanceTo_2 rfl rfl ?_
  refine x_get hE hinX4 hq rfl 0 (by decide) (List.mem_of_getElem? (i := 1) rfl) rfl dX4_distanceTo_3 ?_
  refine x_aload_n hE dX4_distanceTo_6 rfl rfl ?_
  refine x_get hE hinX4 hr rfl 0 (by decide) (List.mem_of_getElem? (i := 1) rfl) rfl dX4_distanceTo_7 ?_
  refine x_isub hE dX4_distanceTo_10 ?_
  refine x_abs hE (List.mem_of_getElem? (i := 2) rfl) (List.mem_of_getElem? (i := 3) rfl) (List.mem_of_getElem? (i := 4) rfl) (List.mem_of_getElem? (i := 5) rfl) rfl (Nat.le_of_ble_eq_true rfl) (Nat.le_of_ble_eq_true rfl) ⟨by decide, by decide⟩ dX4_distanceTo_11 ?_
  refine x_imul hE dX4_distanceTo_14 ?_
  refine x_aload_n hE dX4_distanceTo_15 rfl rfl ?_
  refine x_get hE hinX4 hq rfl 1 (by decide) (List.mem_of_getElem? (i := 6) rfl) rfl dX4_distanceTo_16 ?_
  refine x_aload_n hE dX4_distanceTo_19 rfl rfl ?_
  refine x_get hE hinX4 hr rfl 1 (by decide) (List.mem_of_getElem? (i := 6) rfl) rfl dX4_distanceTo_20 ?_
  refine x_isub hE dX4_distanceTo_23 ?_
  refine x_abs hE (List.mem_of_getElem? (i := 2) rfl) (List.mem_of_getElem? (i := 3) rfl) (List.mem_of_getElem? (i := 4) rfl) (List.mem_of_getElem? (i := 5) rfl) rfl (Nat.le_of_ble_eq_true rfl) (Nat.le_of_ble_eq_true rfl) ⟨by decide, by decide⟩ dX4_distanceTo_24 ?_
  refine x_iadd hE dX4_distanceTo_27 ?_
  exact x_iret hE dX4_distanceTo_28 (⟨rfl, rfl⟩)

set_option maxHeartbeats 4000000 in
set_option maxRecDepth 100000 in
/-- lampAt: any number -/
theorem c_X5_lampAt (G : XG) {r la : Nat} {h : HM} {f : Nat → Option Nat} {cn ba : Int32} (hr : h r = some (.inr (5, [.ref la, .int cn, .int ba]))) (hla : h la = some (.inl (g_c G 3, 16, .inr (.inr (.inr (.inr f)))))) (i : Int32) : x_M G yX5_lampAt wsX5_lampAt ({ frames := 0, cells := 0, slots := 0, locals := 0 } : Room) [.ref r, .int i] h (x_is (some (va_rf (x_sel 16 f i none))) h) 0 0 := by
  refine x_M.of (cc := cX5_lampAt) (maxL := 2) (ret := (some (.object "GelBook$Lamp"))) (ent := [some (.ref r), some (.int i)]) (by decide +kernel) rfl (Nat.le_of_ble_eq_true rfl) rfl rfl ?_
  intro F hE hname
  have hinX5 : ∀ w ∈ wsX50, w ∈ wsX5_lampAt := by decide +kernel
  refine x_iload_n hE dX5_lampAt_0 rfl ?_
  refine x_if_lt (tgt := 22) hE dX5_lampAt_1 (by decide) (fun c1 => ?_) (fun c1 => ?_)
  · refine x_null hE dX5_lampAt_22 ?_
    exact x_aret hE (Or.inl ⟨_, rfl⟩) rfl dX5_lampAt_23 (⟨by rw [x_sel_lo (x_lt0 c1)]; rfl, rfl⟩)
  · refine x_iload_n hE dX5_lampAt_4 rfl ?_
    refine x_aload_n hE dX5_lampAt_5 rfl rfl ?_
    refine x_get hE hinX5 hr rfl 0 (by decide) (List.mem_of_getElem? (i := 1) rfl) rfl dX5_lampAt_6 ?_
    refine x_alen (t0 := 3) hE hla rfl dX5_lampAt_9 ?_
    refine x_icmp_ge (tgt := 22) hE dX5_lampAt_10 (by decide) (fun c2 => ?_) (fun c2 => ?_)
    · refine x_null hE dX5_lampAt_22 ?_
      exact x_aret hE (Or.inl ⟨_, rfl⟩) rfl dX5_lampAt_23 (⟨by rw [x_sel_hi c2]; rfl, rfl⟩)
    · refine x_aload_n hE dX5_lampAt_13 rfl rfl ?_
      refine x_get hE hinX5 hr rfl 0 (by decide) (List.mem_of_getElem? (i := 1) rfl) rfl dX5_lampAt_14 ?_
      refine x_iload_n hE dX5_lampAt_17 rfl ?_
      refine x_aald (t0 := 3) (v := f i.toNatClampNeg) hE hla rfl (x_inn (by decide) (x_ge0 c1) c2) rfl dX5_lampAt_18 ?_
      refine x_goto (tgt := 23) hE dX5_lampAt_19 (by decide) ?_
      exact x_aret hE (Or.inl ⟨_, rfl⟩) (x_rv_rf _) dX5_lampAt_23 (⟨by rw [x_sel_in (x_ge0 c1) c2], rfl⟩)

set_option maxHeartbeats 4000000 in
set_option maxRecDepth 100000 in
theorem c_X5_isFull (G : XG) {r la : Nat} {h : HM} {f : Nat → Option Nat} {cn ba : Int32} (hr : h r = some (.inr (5, [.ref la, .int cn, .int ba]))) (hla : h la = some (.inl (g_c G 3, 16, .inr (.inr (.inr (.inr f)))))) : x_M G yX5_isFull wsX5_isFull ({ frames := 0, cells := 0, slots := 0, locals := 0 } : Room) [.ref r] h (x_is (some (.int (b2i (decide (nI 16 ≤ cn))))) h) 0 0 := by
  refine x_M.of (cc := cX5_isFull) (maxL := 1) (ret := (some .boolean)) (ent := [some (.ref r)]) (by decide +kernel) rfl (Nat.le_of_ble_eq_true rfl) rfl rfl ?_
  intro F hE hname
  have hinX5 : ∀ w ∈ wsX50, w ∈ wsX5_isFull := by decide +kernel
  refine x_aload_n hE dX5_isFull_0 rfl rfl ?_
  refine x_get hE hinX5 hr rfl 1 (by decide) (List.mem_of_getElem? (i := 1) rfl) rfl dX5_isFull_1 ?_
  refine x_aload_n hE dX5_isFull_4 rfl rfl ?_
  refine x_get hE hinX5 hr rfl 0 (by decide) (List.mem_of_getElem? (i := 2) rfl) rfl dX5_isFull_5 ?_
  refine x_alen (t0 := 3) hE hla rfl dX5_isFull_8 ?_
  refine x_icmp_lt (tgt := 16) hE dX5_isFull_9 (by decide) (fun c1 => ?_) (fun c1 => ?_)
  · refine x_iconst (v := nI 0) hE dX5_isFull_16 (by decide) ?_
    exact x_zret hE (Or.inl rfl) dX5_isFull_17 (⟨x_zf (by simpa using c1), rfl⟩)
  · refine x_iconst (v := nI 1) hE dX5_isFull_12 (by decide) ?_
    refine x_goto (tgt := 17) hE dX5_isFull_13 (by decide) ?_
    exact x_zret hE (Or.inr rfl) dX5_isFull_17 (⟨x_zt (by simpa using c1), rfl⟩)

set_option maxHeartbeats 4000000 in
set_option maxRecDepth 100000 in
theorem c_X5_isUsable (G : XG) {r la : Nat} {h : HM} {f : Nat → Option Nat} {cn ba : Int32} (hr : h r = some (.inr (5, [.ref la, .int cn, .int ba]))) (hla : h la = some (.inl (g_c G 3, 16, .inr (.inr (.inr (.inr f)))))) {q : Nat} {p0 p1 p2 p3 p4 p5 : Int32} (hq : h q = some (.inr (4, [.int p0, .int p1, .int p2, .int p3, .int p4, .int p5]))) : x_M G yX5_isUsable wsX5_isUsable ({ frames := 0, cells := 0, slots := 0, locals := 0 } : Room) [.ref r, .ref q] h (x_is (some (.int (b2i (usV ba p0 p5)))) h) 0 0 := by
  refine x_M.of (cc := cX5_isUsable) (maxL := 2) (ret := (some .boolean)) (ent := [some (.ref r), some (.ref q)]) (by decide +kernel) rfl (Nat.le_of_ble_eq_true rfl) rfl rfl ?_
  intro F hE hname
  have hinX4 : ∀ w ∈ wsX40, w ∈ wsX5_isUsable := by decide +kernel
  have hinX5 : ∀ w ∈ wsX50, w ∈ wsX5_isUsable := by decide +kernel
  refine x_aload_n hE dX5_isUsable_0 rfl rfl ?_
  refine x_ifnull hE dX5_isUsable_1 ?_
  refine x_aload_n hE dX5_isUsable_4 rfl rfl ?_
  refine x_get hE hinX4 hq rfl 5 (by decide) (List.mem_of_getElem? (i := 1) rfl) rfl dX5_isUsable_5 ?_
  refine x_if_ne (tgt := 30) hE dX5_isUsable_8 (by decide) (fun c1 => ?_) (fun c1 => ?_)
  · refine x_iconst (v := nI 0) hE dX5_isUsable_30 (by decide) ?_
    exact x_zret hE (Or.inl rfl) dX5_isUsable_31 (⟨x_zf (by simp [usV, c1]), rfl⟩)
  · refine x_aload_n hE dX5_isUsable_11 rfl rfl ?_
    refine x_get hE hinX5 hr rfl 2 (by decide) (List.mem_of_getElem? (i := 2) rfl) rfl dX5_isUsable_12 ?_
    refine x_aload_n hE dX5_isUsable_15 rfl rfl ?_
    refine x_get hE hinX4 hq rfl 0 (by decide) (List.mem_of_getElem? (i := 3) rfl) rfl dX5_isUsable_16 ?_
    refine x_ishr hE dX5_isUsable_19 ?_
    refine x_iconst (v := nI 1) hE dX5_isUsable_20 (by decide) ?_
    refine x_iand hE dX5_isUsable_21 ?_
    refine x_iconst (v := nI 1) hE dX5_isUsable_22 (by decide) ?_
    refine x_icmp_ne (tgt := 30) hE dX5_isUsable_23 (by decide) (fun c2 => ?_) (fun c2 => ?_)
    · refine x_iconst (v := nI 0) hE dX5_isUsable_30 (by decide) ?_
      exact x_zret hE (Or.inl rfl) dX5_isUsable_31 (⟨x_zf (by simp only [usV]; rw [decide_eq_false c2, Bool.and_false]), rfl⟩)
    · refine x_iconst (v := nI 1) hE dX5_isUsable_26 (by decide) ?_
      refine x_goto (tgt := 31) hE dX5_isUsable_27 (by decide) ?_
      exact x_zret hE (Or.inr rfl) dX5_isUsable_31 (⟨x_zt (by simp only [usV]; rw [decide_eq_true c1, decide_eq_true c2]; rfl), rfl⟩)

set_option maxHeartbeats 4000000 in
set_option maxRecDepth 100000 in
theorem c_X5_isUsableN (G : XG) {r la : Nat} {h : HM} {f : Nat → Option Nat} {cn ba : Int32} (hr : h r = some (.inr (5, [.ref la, .int cn, .int ba]))) (hla : h la = some (.inl (g_c G 3, 16, .inr (.inr (.inr (.inr f)))))) : x_M G yX5_isUsable wsX5_isUsable ({ frames := 0, cells := 0, slots := 0, locals := 0 } : Room) [.ref r, .null] h (x_is (some (.int 0)) h) 0 0 := by
  refine x_M.of (cc := cX5_isUsable) (maxL := 2) (ret := (some .boolean)) (ent := [some (.ref r), some (.null)]) (by decide +kernel) rfl (Nat.le_of_ble_eq_true rfl) rfl rfl ?_
  intro F hE hname
  have hinX4 : ∀ w ∈ wsX40, w ∈ wsX5_isUsable := by decide +kernel
  have hinX5 : ∀ w ∈ wsX50, w ∈ wsX5_isUsable := by decide +kernel
  refine x_aload_n hE dX5_isUsable_0 rfl rfl ?_
  refine x_ifnullN (tgt := 30) hE dX5_isUsable_1 (by decide) ?_
  refine x_iconst (v := nI 0) hE dX5_isUsable_30 (by decide) ?_
  exact x_zret hE (Or.inl rfl) dX5_isUsable_31 (⟨rfl, rfl⟩)
