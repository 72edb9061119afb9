theorem x_ieq2 {G : XG} {F : XF} {Q : State → Prop} {a b : Nat} {h : HM} {pc : Nat} {L : List (Option Value)} {st : List Value} {u : Value} {x y : Int32} (e : x = y) (kk : x_W G F Q a b h pc L (u :: .int y :: st)) : x_W G F Q a b h pc L (u :: .int x :: st) := by subst e; exact kk
set_option maxHeartbeats 4000000 in
set_option maxRecDepth 100000 in
theorem c_X8_ends (G : XG) {ma ow : Nat → Nat} {sc : Nat → Int32} {R : Nat → Nat → Int32} {h : HM} (hM : mM G ma ow sc R h) {k : Nat} (hk : k < 12) : x_M G yX8_ends wsX8_ends ({ frames := 0, cells := 0, slots := 0, locals := 0 } : Room) [.ref (ma 30), .int (nI k)] h (fun v h' => v = none ∧ mM G ma ow sc (rowUp R 17 (upd (R 17) k (b2i (!decide (R 17 k = 0) && (decide (R 20 k = -1) || decide (sc 0 - R 20 k < R 13 k)))))) h') 0 0 := by
  refine x_M.of (cc := cX8_ends) (maxL := 2) (ret := none) (ent := [some (.ref (ma 30)), some (.int (nI k))]) (by decide +kernel) rfl (Nat.le_of_ble_eq_true rfl) rfl rfl ?_
  intro F hE hname
  have hinX8 : ∀ w ∈ wsX80, w ∈ wsX8_ends := by decide +kernel
  refine x_aload_n hE dX8_ends_0 rfl rfl ?_
  refine x_get hE hinX8 hM.o rfl 17 (by decide) (List.mem_of_getElem? (i := 1) rfl) rfl dX8_ends_1 ?_
  refine x_iload_n hE dX8_ends_4 rfl ?_
  refine x_aload_n hE dX8_ends_5 rfl rfl ?_
  refine x_get hE hinX8 hM.o rfl 17 (by decide) (List.mem_of_getElem? (i := 1) rfl) rfl dX8_ends_6 ?_
  refine x_iload_n hE dX8_ends_9 rfl ?_
  refine x_zald (v := R 17 k) hE hM.a17 (vp_in_nI (by omega) (by decide)) (x_atN _ (by omega)) dX8_ends_10 ?_
  refine x_if_eq (tgt := 48) hE dX8_ends_11 (by decide) (fun c11 => ?_) (fun c11 => ?_)
  · refine x_iconst (v := nI 0) hE dX8_ends_48 (by decide) ?_
    have ev : (b2i (!decide (R 17 k = 0) && (decide (R 20 k = -1) || decide (sc 0 - R 20 k < R 13 k)))) = 0 := by rw [decide_eq_true c11]; rfl
    refine x_ieq (y := (b2i (!decide (R 17 k = 0) && (decide (R 20 k = -1) || decide (sc 0 - R 20 k < R 13 k))))) (by rw [ev]; rfl) ?_
    refine x_zast (f' := (upd (R 17) k (b2i (!decide (R 17 k = 0) && (decide (R 20 k = -1) || decide (sc 0 - R 20 k < R 13 k)))))) hE hM.a17 (vp_in_nI (by omega) (by decide)) (by rw [ev, nI_clamp (by omega)]; rfl) dX8_ends_49 ?_
    exact x_vret hE dX8_ends_50 ⟨rfl, hM.set (k := 17) (by decide) _⟩
  · refine x_aload_n hE dX8_ends_14 rfl rfl ?_
    refine x_get hE hinX8 hM.o rfl 20 (by decide) (List.mem_of_getElem? (i := 2) rfl) rfl dX8_ends_15 ?_
    refine x_iload_n hE dX8_ends_18 rfl ?_
    refine x_iald (v := R 20 k) hE hM.a20 (vp_in_nI (by omega) (by decide)) (x_atN _ (by omega)) dX8_ends_19 ?_
    refine x_iconst (v := (-1 : Int32)) hE dX8_ends_20 (by decide) ?_
    refine x_icmp_eq (tgt := 44) hE dX8_ends_21 (by decide) (fun c21 => ?_) (fun c21 => ?_)
    · refine x_iconst (v := nI 1) hE dX8_ends_44 (by decide) ?_
      refine x_goto (tgt := 49) hE dX8_ends_45 (by decide) ?_
      have ev : (b2i (!decide (R 17 k = 0) && (decide (R 20 k = -1) || decide (sc 0 - R 20 k < R 13 k)))) = 1 := by rw [decide_eq_false c11, decide_eq_true c21]; rfl
      refine x_ieq (y := (b2i (!decide (R 17 k = 0) && (decide (R 20 k = -1) || decide (sc 0 - R 20 k < R 13 k))))) (by rw [ev]; rfl) ?_
      refine x_zast (f' := (upd (R 17) k (b2i (!decide (R 17 k = 0) && (decide (R 20 k = -1) || decide (sc 0 - R 20 k < R 13 k)))))) hE hM.a17 (vp_in_nI (by omega) (by decide)) (by rw [ev, nI_clamp (by omega)]; rfl) dX8_ends_49 ?_
      exact x_vret hE dX8_ends_50 ⟨rfl, hM.set (k := 17) (by decide) _⟩
    · refine x_aload_n hE dX8_ends_24 rfl rfl ?_
      refine x_get hE hinX8 hM.o rfl 0 (by decide) (List.mem_of_getElem? (i := 3) rfl) rfl dX8_ends_25 ?_
      refine x_aload_n hE dX8_ends_28 rfl rfl ?_
      refine x_get hE hinX8 hM.o rfl 20 (by decide) (List.mem_of_getElem? (i := 2) rfl) rfl dX8_ends_29 ?_
      refine x_iload_n hE dX8_ends_32 rfl ?_
      refine x_iald (v := R 20 k) hE hM.a20 (vp_in_nI (by omega) (by decide)) (x_atN _ (by omega)) dX8_ends_33 ?_
      refine x_isub hE dX8_ends_34 ?_
      refine x_aload_n hE dX8_ends_35 rfl rfl ?_
      refine x_get hE hinX8 hM.o rfl 13 (by decide) (List.mem_of_getElem? (i := 4) rfl) rfl dX8_ends_36 ?_
      refine x_iload_n hE dX8_ends_39 rfl ?_
      refine x_iald (v := R 13 k) hE hM.a13 (vp_in_nI (by omega) (by decide)) (x_atN _ (by omega)) dX8_ends_40 ?_
      refine x_icmp_ge (tgt := 48) hE dX8_ends_41 (by decide) (fun c41 => ?_) (fun c41 => ?_)
      · refine x_iconst (v := nI 0) hE dX8_ends_48 (by decide) ?_
        have ev : (b2i (!decide (R 17 k = 0) && (decide (R 20 k = -1) || decide (sc 0 - R 20 k < R 13 k)))) = 0 := by rw [decide_eq_false c21, decide_eq_false (fun z => (x_lei.mp z) c41)]; simp; rfl
        refine x_ieq (y := (b2i (!decide (R 17 k = 0) && (decide (R 20 k = -1) || decide (sc 0 - R 20 k < R 13 k))))) (by rw [ev]; rfl) ?_
        refine x_zast (f' := (upd (R 17) k (b2i (!decide (R 17 k = 0) && (decide (R 20 k = -1) || decide (sc 0 - R 20 k < R 13 k)))))) hE hM.a17 (vp_in_nI (by omega) (by decide)) (by rw [ev, nI_clamp (by omega)]; rfl) dX8_ends_49 ?_
        exact x_vret hE dX8_ends_50 ⟨rfl, hM.set (k := 17) (by decide) _⟩
      · refine x_iconst (v := nI 1) hE dX8_ends_44 (by decide) ?_
        refine x_goto (tgt := 49) hE dX8_ends_45 (by decide) ?_
        have ev : (b2i (!decide (R 17 k = 0) && (decide (R 20 k = -1) || decide (sc 0 - R 20 k < R 13 k)))) = 1 := by rw [decide_eq_false c11, decide_eq_true (x_lei.mpr c41)]; simp; rfl
        refine x_ieq (y := (b2i (!decide (R 17 k = 0) && (decide (R 20 k = -1) || decide (sc 0 - R 20 k < R 13 k))))) (by rw [ev]; rfl) ?_
        refine x_zast (f' := (upd (R 17) k (b2i (!decide (R 17 k = 0) && (decide (R 20 k = -1) || decide (sc 0 - R 20 k < R 13 k)))))) hE hM.a17 (vp_in_nI (by omega) (by decide)) (by rw [ev, nI_clamp (by omega)]; rfl) dX8_ends_49 ?_
        exact x_vret hE dX8_ends_50 ⟨rfl, hM.set (k := 17) (by decide) _⟩

/-- the rows and numbers behind a going: t the tick, gn the goings so far, nn the noted so far -/
def goesI (R R' : Nat → Nat → Int32) (sc sc' : Nat → Int32) (c t gn nn : Nat) : Prop := (∀ k, k ≠ 17 → k ≠ 18 → k ≠ 19 → k ≠ 20 → k ≠ 23 → k ≠ 24 → R' k = R k) ∧ R' 17 = upd (R 17) c 1 ∧ R' 18 = upd (R 18) c (nI t) ∧ R' 19 = upd (R 19) c (nI gn) ∧ R' 20 = upd (R 20) c (-1) ∧ (∀ k, k ≠ 21 → k ≠ 22 → sc' k = sc k) ∧ sc' 21 = nI (gn + 1) ∧ ((R 15 c = -1 ∧ sc' 22 = nI nn ∧ R' 23 = R 23 ∧ R' 24 = R 24) ∨ (R 15 c ≠ -1 ∧ sc' 22 = nI (nn + 1) ∧ R' 23 = upd (R 23) nn (R 15 c) ∧ R' 24 = upd (R 24) nn (nI t + R 16 c)))
set_option maxHeartbeats 4000000 in
set_option maxRecDepth 100000 in
theorem c_X8_goes (G : XG) {ma ow : Nat → Nat} {sc : Nat → Int32} {R : Nat → Nat → Int32} {h : HM} (hM : mM G ma ow sc R h) {c t gn nn : Nat} (hc : c < 12) (ht : sc 0 = nI t) (hgn : sc 21 = nI gn) (hnn : sc 22 = nI nn) (hn9 : nn < 1024) : x_M G yX8_goes wsX8_goes ({ frames := 0, cells := 0, slots := 0, locals := 0 } : Room) [.ref (ma 30), .int (nI c)] h (fun v h' => v = none ∧ ∃ (R' : Nat → Nat → Int32) (sc' : Nat → Int32), mM G ma ow sc' R' h' ∧ goesI R R' sc sc' c t gn nn) 0 0 := by
  refine x_M.of (cc := cX8_goes) (maxL := 2) (ret := none) (ent := [some (.ref (ma 30)), some (.int (nI c))]) (by decide +kernel) rfl (Nat.le_of_ble_eq_true rfl) rfl rfl ?_
  intro F hE hname
  have hinX8 : ∀ w ∈ wsX80, w ∈ wsX8_goes := by decide +kernel
  refine x_aload_n hE dX8_goes_0 rfl rfl ?_
  refine x_get hE hinX8 hM.o rfl 17 (by decide) (List.mem_of_getElem? (i := 1) rfl) rfl dX8_goes_1 ?_
  refine x_iload_n hE dX8_goes_4 rfl ?_
  refine x_iconst (v := nI 1) hE dX8_goes_5 (by decide) ?_
  refine x_zast (f' := (upd (R 17) c 1)) hE hM.a17 (vp_in_nI (by omega) (by decide)) (by rw [nI_clamp (by omega)]; rfl) dX8_goes_6 ?_
  generalize hhh1 : x_up h (ma 17) (.inl (g_c G 1, 12, .inl (upd (R 17) c 1))) = h1
  have hM2 : mM G ma ow sc (rowUp R 17 (upd (R 17) c 1)) h1 := by rw [← hhh1]; exact hM.set (k := 17) (by decide) _
  generalize hR3 : rowUp R 17 (upd (R 17) c 1) = R3 at hM2
  refine x_aload_n hE dX8_goes_7 rfl rfl ?_
  refine x_get hE hinX8 hM2.o rfl 18 (by decide) (List.mem_of_getElem? (i := 2) rfl) rfl dX8_goes_8 ?_
  refine x_iload_n hE dX8_goes_11 rfl ?_
  refine x_aload_n hE dX8_goes_12 rfl rfl ?_
  refine x_get hE hinX8 hM2.o rfl 0 (by decide) (List.mem_of_getElem? (i := 3) rfl) rfl dX8_goes_13 ?_
  refine x_ieq (y := nI t) (ht) ?_
  refine x_iast (f' := (upd (R3 18) c (nI t))) hE hM2.a18 (vp_in_nI (by omega) (by decide)) (x_updN _ (by omega) _) dX8_goes_16 ?_
  generalize hhh4 : x_up h1 (ma 18) (.inl (g_c G 0, 12, .inl (upd (R3 18) c (nI t)))) = h4
  have hM5 : mM G ma ow sc (rowUp R3 18 (upd (R3 18) c (nI t))) h4 := by rw [← hhh4]; exact hM2.set (k := 18) (by decide) _
  generalize hR6 : rowUp R3 18 (upd (R3 18) c (nI t)) = R6 at hM5
  refine x_aload_n hE dX8_goes_17 rfl rfl ?_
  refine x_get hE hinX8 hM5.o rfl 20 (by decide) (List.mem_of_getElem? (i := 4) rfl) rfl dX8_goes_18 ?_
  refine x_iload_n hE dX8_goes_21 rfl ?_
  refine x_iconst (v := (-1 : Int32)) hE dX8_goes_22 (by decide) ?_
  refine x_iast (f' := (upd (R6 20) c (-1))) hE hM5.a20 (vp_in_nI (by omega) (by decide)) (x_updN _ (by omega) _) dX8_goes_23 ?_
  generalize hhh7 : x_up h4 (ma 20) (.inl (g_c G 0, 12, .inl (upd (R6 20) c (-1)))) = h7
  have hM8 : mM G ma ow sc (rowUp R6 20 (upd (R6 20) c (-1))) h7 := by rw [← hhh7]; exact hM5.set (k := 20) (by decide) _
  generalize hR9 : rowUp R6 20 (upd (R6 20) c (-1)) = R9 at hM8
  refine x_aload_n hE dX8_goes_24 rfl rfl ?_
  refine x_get hE hinX8 hM8.o rfl 19 (by decide) (List.mem_of_getElem? (i := 5) rfl) rfl dX8_goes_25 ?_
  refine x_iload_n hE dX8_goes_28 rfl ?_
  refine x_aload_n hE dX8_goes_29 rfl rfl ?_
  refine x_get hE hinX8 hM8.o rfl 21 (by decide) (List.mem_of_getElem? (i := 6) rfl) rfl dX8_goes_30 ?_
  refine x_ieq (y := nI gn) (hgn) ?_
  refine x_iast (f' := (upd (R9 19) c (nI gn))) hE hM8.a19 (vp_in_nI (by omega) (by decide)) (x_updN _ (by omega) _) dX8_goes_33 ?_
  generalize hhh10 : x_up h7 (ma 19) (.inl (g_c G 0, 12, .inl (upd (R9 19) c (nI gn)))) = h10
  have hM11 : mM G ma ow sc (rowUp R9 19 (upd (R9 19) c (nI gn))) h10 := by rw [← hhh10]; exact hM8.set (k := 19) (by decide) _
  generalize hR12 : rowUp R9 19 (upd (R9 19) c (nI gn)) = R12 at hM11
  refine x_aload_n hE dX8_goes_34 rfl rfl ?_
  refine x_dup hE dX8_goes_35 rfl ?_
  refine x_get hE hinX8 hM11.o rfl 21 (by decide) (List.mem_of_getElem? (i := 6) rfl) rfl dX8_goes_36 ?_
  refine x_iconst (v := nI 1) hE dX8_goes_39 (by decide) ?_
  refine x_iadd hE dX8_goes_40 ?_
  refine x_ieq (y := nI (gn + 1)) (by rw [hgn]; exact nI_1 _) ?_
  refine x_put (fs' := [.int (sc 0), .int (sc 1), .ref (ma 2), .ref (ma 3), .ref (ma 4), .ref (ma 5), .ref (ma 6), .ref (ma 7), .int (sc 8), .ref (ma 9), .int (sc 10), .ref (ma 11), .ref (ma 12), .ref (ma 13), .ref (ma 14), .ref (ma 15), .ref (ma 16), .ref (ma 17), .ref (ma 18), .ref (ma 19), .ref (ma 20), .int (nI (gn + 1)), .int (sc 22), .ref (ma 23), .ref (ma 24), .int (sc 25), .ref (ma 26), .ref (ma 27), .int (sc 28), .ref (ma 29)]) hE hinX8 tyX8 tyX8_ok nmX8 hM11.o rfl 21 (by decide) (List.mem_of_getElem? (i := 6) rfl) rfl rfl rfl (Nat.le_of_ble_eq_true rfl) rfl dX8_goes_41 ?_
  generalize hhh13 : x_up h10 (ma 30) (.inr (8, [.int (sc 0), .int (sc 1), .ref (ma 2), .ref (ma 3), .ref (ma 4), .ref (ma 5), .ref (ma 6), .ref (ma 7), .int (sc 8), .ref (ma 9), .int (sc 10), .ref (ma 11), .ref (ma 12), .ref (ma 13), .ref (ma 14), .ref (ma 15), .ref (ma 16), .ref (ma 17), .ref (ma 18), .ref (ma 19), .ref (ma 20), .int (nI (gn + 1)), .int (sc 22), .ref (ma 23), .ref (ma 24), .int (sc 25), .ref (ma 26), .ref (ma 27), .int (sc 28), .ref (ma 29)])) = h13
  have hM14 : mM G ma ow (upd sc 21 (nI (gn + 1))) R12 h13 := by rw [← hhh13]; exact hM11.num (upd sc 21 (nI (gn + 1)))
  generalize hs15 : (upd sc 21 (nI (gn + 1))) = s15 at hM14
  have eR : ∀ k, k ≠ 17 → k ≠ 18 → k ≠ 19 → k ≠ 20 → R12 k = R k := fun k a b c d => by rw [← hR12, ← hR9, ← hR6, ← hR3]; simp only [rowUp, if_neg a, if_neg b, if_neg c, if_neg d]
  have e17 : R12 17 = upd (R 17) c 1 := by rw [← hR12, ← hR9, ← hR6, ← hR3]; simp [rowUp]
  have e18 : R12 18 = upd (R 18) c (nI t) := by rw [← hR12, ← hR9, ← hR6, ← hR3]; simp [rowUp]
  have e19 : R12 19 = upd (R 19) c (nI gn) := by rw [← hR12, ← hR9, ← hR6, ← hR3]; simp [rowUp]
  have e20 : R12 20 = upd (R 20) c (-1) := by rw [← hR12, ← hR9, ← hR6, ← hR3]; simp [rowUp]
  have es : ∀ k, k ≠ 21 → s15 k = sc k := fun k a => by rw [← hs15]; exact upd_ne a
  have e21 : s15 21 = nI (gn + 1) := by rw [← hs15]; exact upd_at _ _ _
  refine x_aload_n hE dX8_goes_44 rfl rfl ?_
  refine x_get hE hinX8 hM14.o rfl 15 (by decide) (List.mem_of_getElem? (i := 7) rfl) rfl dX8_goes_45 ?_
  refine x_iload_n hE dX8_goes_48 rfl ?_
  refine x_iald (v := R 15 c) hE hM14.a15 (vp_in_nI (by omega) (by decide)) ((x_atN _ (by omega)).trans (congrFun (eR 15 (by decide) (by decide) (by decide) (by decide)) c)) dX8_goes_49 ?_
  refine x_iconst (v := (-1 : Int32)) hE dX8_goes_50 (by decide) ?_
  refine x_icmp_eq (tgt := 99) hE dX8_goes_51 (by decide) (fun c51 => ?_) (fun c51 => ?_)
  · exact x_vret hE dX8_goes_99 (⟨rfl, R12, s15, hM14, fun k a b c d _ _ => eR k a b c d, e17, e18, e19, e20, fun k a _ => es k a, e21, Or.inl ⟨c51, by rw [es 22 (by decide)]; exact hnn, eR 23 (by decide) (by decide) (by decide) (by decide), eR 24 (by decide) (by decide) (by decide) (by decide)⟩⟩)
  · refine x_aload_n hE dX8_goes_54 rfl rfl ?_
    refine x_get hE hinX8 hM14.o rfl 23 (by decide) (List.mem_of_getElem? (i := 8) rfl) rfl dX8_goes_55 ?_
    refine x_aload_n hE dX8_goes_58 rfl rfl ?_
    refine x_get hE hinX8 hM14.o rfl 22 (by decide) (List.mem_of_getElem? (i := 9) rfl) rfl dX8_goes_59 ?_
    refine x_aload_n hE dX8_goes_62 rfl rfl ?_
    refine x_get hE hinX8 hM14.o rfl 15 (by decide) (List.mem_of_getElem? (i := 7) rfl) rfl dX8_goes_63 ?_
    refine x_iload_n hE dX8_goes_66 rfl ?_
    refine x_iald (v := R 15 c) hE hM14.a15 (vp_in_nI (by omega) (by decide)) ((x_atN _ (by omega)).trans (congrFun (eR 15 (by decide) (by decide) (by decide) (by decide)) c)) dX8_goes_67 ?_
    refine x_ieq2 (y := nI nn) (by rw [es 22 (by decide)]; exact hnn) ?_
    refine x_iast (f' := (upd (R12 23) nn (R 15 c))) hE hM14.a23 (vp_in_nI (by omega) (by decide)) (x_updN _ (by omega) _) dX8_goes_68 ?_
    generalize hhh16 : x_up h13 (ma 23) (.inl (g_c G 0, 1024, .inl (upd (R12 23) nn (R 15 c)))) = h16
    have hM17 : mM G ma ow s15 (rowUp R12 23 (upd (R12 23) nn (R 15 c))) h16 := by rw [← hhh16]; exact hM14.set (k := 23) (by decide) _
    generalize hR18 : rowUp R12 23 (upd (R12 23) nn (R 15 c)) = R18 at hM17
    refine x_aload_n hE dX8_goes_69 rfl rfl ?_
    refine x_get hE hinX8 hM17.o rfl 24 (by decide) (List.mem_of_getElem? (i := 10) rfl) rfl dX8_goes_70 ?_
    refine x_aload_n hE dX8_goes_73 rfl rfl ?_
    refine x_get hE hinX8 hM17.o rfl 22 (by decide) (List.mem_of_getElem? (i := 9) rfl) rfl dX8_goes_74 ?_
    refine x_aload_n hE dX8_goes_77 rfl rfl ?_
    refine x_get hE hinX8 hM17.o rfl 0 (by decide) (List.mem_of_getElem? (i := 3) rfl) rfl dX8_goes_78 ?_
    refine x_aload_n hE dX8_goes_81 rfl rfl ?_
    refine x_get hE hinX8 hM17.o rfl 16 (by decide) (List.mem_of_getElem? (i := 11) rfl) rfl dX8_goes_82 ?_
    refine x_iload_n hE dX8_goes_85 rfl ?_
    refine x_iald (v := R 16 c) hE hM17.a16 (vp_in_nI (by omega) (by decide)) ((x_atN _ (by omega)).trans (by rw [← hR18, rowUp_ne (by decide)]; exact congrFun (eR 16 (by decide) (by decide) (by decide) (by decide)) c)) dX8_goes_86 ?_
    refine x_iadd hE dX8_goes_87 ?_
    refine x_ieq (y := nI t + R 16 c) (by rw [es 0 (by decide), ht]) ?_
    refine x_ieq2 (y := nI nn) (by rw [es 22 (by decide)]; exact hnn) ?_
    refine x_iast (f' := (upd (R18 24) nn (nI t + R 16 c))) hE hM17.a24 (vp_in_nI (by omega) (by decide)) (x_updN _ (by omega) _) dX8_goes_88 ?_
    generalize hhh19 : x_up h16 (ma 24) (.inl (g_c G 0, 1024, .inl (upd (R18 24) nn (nI t + R 16 c)))) = h19
    have hM20 : mM G ma ow s15 (rowUp R18 24 (upd (R18 24) nn (nI t + R 16 c))) h19 := by rw [← hhh19]; exact hM17.set (k := 24) (by decide) _
    generalize hR21 : rowUp R18 24 (upd (R18 24) nn (nI t + R 16 c)) = R21 at hM20
    refine x_aload_n hE dX8_goes_89 rfl rfl ?_
    refine x_dup hE dX8_goes_90 rfl ?_
    refine x_get hE hinX8 hM20.o rfl 22 (by decide) (List.mem_of_getElem? (i := 9) rfl) rfl dX8_goes_91 ?_
    refine x_iconst (v := nI 1) hE dX8_goes_94 (by decide) ?_
    refine x_iadd hE dX8_goes_95 ?_
    refine x_ieq (y := nI (nn + 1)) (by rw [es 22 (by decide), hnn]; exact nI_1 _) ?_
    refine x_put (fs' := [.int (s15 0), .int (s15 1), .ref (ma 2), .ref (ma 3), .ref (ma 4), .ref (ma 5), .ref (ma 6), .ref (ma 7), .int (s15 8), .ref (ma 9), .int (s15 10), .ref (ma 11), .ref (ma 12), .ref (ma 13), .ref (ma 14), .ref (ma 15), .ref (ma 16), .ref (ma 17), .ref (ma 18), .ref (ma 19), .ref (ma 20), .int (s15 21), .int (nI (nn + 1)), .ref (ma 23), .ref (ma 24), .int (s15 25), .ref (ma 26), .ref (ma 27), .int (s15 28), .ref (ma 29)]) hE hinX8 tyX8 tyX8_ok nmX8 hM20.o rfl 22 (by decide) (List.mem_of_getElem? (i := 9) rfl) rfl rfl rfl (Nat.le_of_ble_eq_true rfl) rfl dX8_goes_96 ?_
    generalize hhh22 : x_up h19 (ma 30) (.inr (8, [.int (s15 0), .int (s15 1), .ref (ma 2), .ref (ma 3), .ref (ma 4), .ref (ma 5), .ref (ma 6), .ref (ma 7), .int (s15 8), .ref (ma 9), .int (s15 10), .ref (ma 11), .ref (ma 12), .ref (ma 13), .ref (ma 14), .ref (ma 15), .ref (ma 16), .ref (ma 17), .ref (ma 18), .ref (ma 19), .ref (ma 20), .int (s15 21), .int (nI (nn + 1)), .ref (ma 23), .ref (ma 24), .int (s15 25), .ref (ma 26), .ref (ma 27), .int (s15 28), .ref (ma 29)])) = h22
    have hM23 : mM G ma ow (upd s15 22 (nI (nn + 1))) R21 h22 := by rw [← hhh22]; exact hM20.num (upd s15 22 (nI (nn + 1)))
    generalize hs24 : (upd s15 22 (nI (nn + 1))) = s24 at hM23
    have f23 : R21 23 = upd (R 23) nn (R 15 c) := by rw [← hR21, rowUp_ne (by decide), ← hR18, rowUp_at, eR 23 (by decide) (by decide) (by decide) (by decide)]
    have f24 : R21 24 = upd (R 24) nn (nI t + R 16 c) := by rw [← hR21, rowUp_at, ← hR18, rowUp_ne (by decide), eR 24 (by decide) (by decide) (by decide) (by decide)]
    have fR : ∀ k, k ≠ 23 → k ≠ 24 → R21 k = R12 k := fun k a b => by rw [← hR21, rowUp_ne b, ← hR18, rowUp_ne a]
    have fs : ∀ k, k ≠ 22 → s24 k = s15 k := fun k a => by rw [← hs24]; exact upd_ne a
    have f22 : s24 22 = nI (nn + 1) := by rw [← hs24]; exact upd_at _ _ _
    exact x_vret hE dX8_goes_99 (⟨rfl, R21, s24, hM23, fun k a b c d e f => (fR k e f).trans (eR k a b c d), (fR 17 (by decide) (by decide)).trans e17, (fR 18 (by decide) (by decide)).trans e18, (fR 19 (by decide) (by decide)).trans e19, (fR 20 (by decide) (by decide)).trans e20, fun k a b => (fs k b).trans (es k a), (fs 21 (by decide)).trans e21, Or.inr ⟨c51, f22, f23, f24⟩⟩)
