set_option maxHeartbeats 4000000 in
set_option maxRecDepth 100000 in
theorem c_X8_distance (G : XG) {ma ow : Nat → Nat} {sc : Nat → Int32} {R : Nat → Nat → Int32} {h : HM} (hM : mM G ma ow sc R h) {a b : Nat} (ha : a < 16) (hb : b < 16) : x_M G yX8_distance wsX8_distance ({ frames := 1, cells := 0, slots := 0, locals := 20 } : Room) [.ref (ma 30), .int (nI a), .int (nI b)] h (x_is (some (.int (distS R a b))) h) 0 0 := by
  refine x_M.of (cc := cX8_distance) (maxL := 3) (ret := (some .int)) (ent := [some (.ref (ma 30)), some (.int (nI a)), some (.int (nI b))]) (by decide +kernel) rfl (Nat.le_of_ble_eq_true rfl) rfl rfl ?_
  intro F hE hname
  have hinX8 : ∀ w ∈ wsX80, w ∈ wsX8_distance := by decide +kernel
  refine x_bipush (v := nI 10) hE dX8_distance_0 (by decide) ?_
  refine x_aload_n hE dX8_distance_2 rfl rfl ?_
  refine x_get hE hinX8 hM.o rfl 2 (by decide) (List.mem_of_getElem? (i := 1) rfl) rfl dX8_distance_3 ?_
  refine x_iload_n hE dX8_distance_6 rfl ?_
  refine x_iald (v := (R 2) a) hE hM.a2 (vp_in_nI (by omega) (by decide)) (x_atN _ (by omega)) dX8_distance_7 ?_
  refine x_aload_n hE dX8_distance_8 rfl rfl ?_
  refine x_get hE hinX8 hM.o rfl 2 (by decide) (List.mem_of_getElem? (i := 1) rfl) rfl dX8_distance_9 ?_
  refine x_iload_n hE dX8_distance_12 rfl ?_
  refine x_iald (v := (R 2) b) hE hM.a2 (vp_in_nI (by omega) (by decide)) (x_atN _ (by omega)) dX8_distance_13 ?_
  refine x_isub hE dX8_distance_14 ?_
  refine x_callS (st := [.int (nI 10)]) hE 1 (c_X8_size G (((R 2) a) - ((R 2) b))) gX8_distance_X8_size rfl rfl rfl (by decide +kernel) ⟨Nat.le_of_ble_eq_true rfl, Nat.le_of_ble_eq_true rfl⟩ rfl rfl dX8_distance_15 rfl (Nat.le_of_ble_eq_true rfl) ⟨Nat.le_of_ble_eq_true rfl, Nat.le_of_ble_eq_true rfl⟩ (fun v h9 hp => ?_)
  obtain ⟨rfl, rfl⟩ := hp
  refine x_imul hE dX8_distance_18 ?_
  refine x_aload_n hE dX8_distance_19 rfl rfl ?_
  refine x_get hE hinX8 hM.o rfl 3 (by decide) (List.mem_of_getElem? (i := 2) rfl) rfl dX8_distance_20 ?_
  refine x_iload_n hE dX8_distance_23 rfl ?_
  refine x_iald (v := (R 3) a) hE hM.a3 (vp_in_nI (by omega) (by decide)) (x_atN _ (by omega)) dX8_distance_24 ?_
  refine x_aload_n hE dX8_distance_25 rfl rfl ?_
  refine x_get hE hinX8 hM.o rfl 3 (by decide) (List.mem_of_getElem? (i := 2) rfl) rfl dX8_distance_26 ?_
  refine x_iload_n hE dX8_distance_29 rfl ?_
  refine x_iald (v := (R 3) b) hE hM.a3 (vp_in_nI (by omega) (by decide)) (x_atN _ (by omega)) dX8_distance_30 ?_
  refine x_isub hE dX8_distance_31 ?_
  refine x_callS (st := [.int ((nI 10) * (absI (((R 2) a) - ((R 2) b))))]) hE 1 (c_X8_size G (((R 3) a) - ((R 3) b))) gX8_distance_X8_size rfl rfl rfl (by decide +kernel) ⟨Nat.le_of_ble_eq_true rfl, Nat.le_of_ble_eq_true rfl⟩ rfl rfl dX8_distance_32 rfl (Nat.le_of_ble_eq_true rfl) ⟨Nat.le_of_ble_eq_true rfl, Nat.le_of_ble_eq_true rfl⟩ (fun v h9 hp => ?_)
  obtain ⟨rfl, rfl⟩ := hp
  refine x_iadd hE dX8_distance_35 ?_
  exact x_iret hE dX8_distance_36 (⟨rfl, rfl⟩)

set_option maxHeartbeats 4000000 in
set_option maxRecDepth 100000 in
theorem c_X8_can (G : XG) {ma ow : Nat → Nat} {sc : Nat → Int32} {R : Nat → Nat → Int32} {h : HM} (hM : mM G ma ow sc R h) (x : Int32) : x_M G yX8_can wsX8_can ({ frames := 0, cells := 0, slots := 0, locals := 0 } : Room) [.ref (ma 30), .int x] h (fun v h' => v = some (.int (b2i (decide (x = 0)))) ∧ mM G ma ow (upd sc 28 x) R h') 0 0 := by
  refine x_M.of (cc := cX8_can) (maxL := 2) (ret := (some .boolean)) (ent := [some (.ref (ma 30)), some (.int x)]) (by decide +kernel) rfl (Nat.le_of_ble_eq_true rfl) rfl rfl ?_
  intro F hE hname
  have hinX8 : ∀ w ∈ wsX80, w ∈ wsX8_can := by decide +kernel
  refine x_aload_n hE dX8_can_0 rfl rfl ?_
  refine x_iload_n hE dX8_can_1 rfl ?_
  refine x_put (fs' := [.int (sc 0), .int (sc 1), .ref (ma 2), .ref (ma 3), .ref (ma 4), .ref (ma 5), .ref (ma 6), .ref (ma 7), .int (sc 8), .ref (ma 9), .int (sc 10), .ref (ma 11), .ref (ma 12), .ref (ma 13), .ref (ma 14), .ref (ma 15), .ref (ma 16), .ref (ma 17), .ref (ma 18), .ref (ma 19), .ref (ma 20), .int (sc 21), .int (sc 22), .ref (ma 23), .ref (ma 24), .int (sc 25), .ref (ma 26), .ref (ma 27), .int x, .ref (ma 29)]) hE hinX8 tyX8 tyX8_ok nmX8 hM.o rfl 28 (by decide) (List.mem_of_getElem? (i := 1) rfl) rfl rfl rfl (Nat.le_of_ble_eq_true rfl) rfl dX8_can_2 ?_
  generalize hhh1 : x_up h (ma 30) (.inr (8, [.int (sc 0), .int (sc 1), .ref (ma 2), .ref (ma 3), .ref (ma 4), .ref (ma 5), .ref (ma 6), .ref (ma 7), .int (sc 8), .ref (ma 9), .int (sc 10), .ref (ma 11), .ref (ma 12), .ref (ma 13), .ref (ma 14), .ref (ma 15), .ref (ma 16), .ref (ma 17), .ref (ma 18), .ref (ma 19), .ref (ma 20), .int (sc 21), .int (sc 22), .ref (ma 23), .ref (ma 24), .int (sc 25), .ref (ma 26), .ref (ma 27), .int x, .ref (ma 29)])) = h1
  have hM2 : mM G ma ow (upd sc 28 x) R h1 := by rw [← hhh1]; exact hM.num (upd sc 28 x)
  refine x_iload_n hE dX8_can_5 rfl ?_
  refine x_if_ne (tgt := 13) hE dX8_can_6 (by decide) (fun c6 => ?_) (fun c6 => ?_)
  · refine x_iconst (v := nI 0) hE dX8_can_13 (by decide) ?_
    exact x_zret hE (Or.inl rfl) dX8_can_14 (⟨x_zf (by simp [*]), hM2⟩)
  · refine x_iconst (v := nI 1) hE dX8_can_9 (by decide) ?_
    refine x_goto (tgt := 14) hE dX8_can_10 (by decide) ?_
    exact x_zret hE (Or.inr rfl) dX8_can_14 (⟨x_zt (by simp [*]), hM2⟩)

set_option maxHeartbeats 4000000 in
set_option maxRecDepth 100000 in
theorem c_X8_active (G : XG) {ma ow : Nat → Nat} {sc : Nat → Int32} {R : Nat → Nat → Int32} {h : HM} (hM : mM G ma ow sc R h) {C : Nat} (hn : sc 10 = nI C) (hb : C ≤ 12) : x_M G yX8_active wsX8_active ({ frames := 0, cells := 0, slots := 0, locals := 0 } : Room) [.ref (ma 30)] h (x_is (some (.int (nI (actN R C)))) h) 0 0 := by
  refine x_M.of (cc := cX8_active) (maxL := 3) (ret := (some .int)) (ent := [some (.ref (ma 30)), none, none]) (by decide +kernel) rfl (Nat.le_of_ble_eq_true rfl) rfl rfl ?_
  intro F hE hname
  have hinX8 : ∀ w ∈ wsX80, w ∈ wsX8_active := by decide +kernel
  refine x_iconst (v := nI 0) hE dX8_active_0 (by decide) ?_
  refine x_istore_n (L' := [some (.ref (ma 30)), some (.int (nI 0)), none]) hE dX8_active_1 rfl (Nat.le_of_ble_eq_true rfl) rfl ?_
  refine x_iconst (v := nI 0) hE dX8_active_2 (by decide) ?_
  refine x_istore_n (L' := [some (.ref (ma 30)), some (.int (nI 0)), some (.int (nI 0))]) hE dX8_active_3 rfl (Nat.le_of_ble_eq_true rfl) rfl ?_
  refine x_down (N := C) (P := fun i => x_W G F (x_Q G F (x_is (some (.int (nI (actN R C)))) h) 0 0) 0 0 h 4 [some (.ref (ma 30)), some (.int (nI (actN R i))), some (.int (nI i))] []) (fun i hiN ih => ?_) 0 (by omega) 
  have hcl := cnt_le (fun k => !decide (R 17 k = 0)) i
  refine x_iload_n hE dX8_active_4 rfl ?_
  refine x_aload_n hE dX8_active_5 rfl rfl ?_
  refine x_get hE hinX8 hM.o rfl 10 (by decide) (List.mem_of_getElem? (i := 1) rfl) rfl dX8_active_6 ?_
  refine x_ieq (y := nI C) (hn) ?_
  refine x_icmp_ge (tgt := 35) hE dX8_active_9 (by decide) (fun c9 => ?_) (fun c9 => ?_)
  · replace c9 := x_nIle c9 (by omega) (by omega)
    obtain rfl : i = C := by omega
    refine x_iload_n hE dX8_active_35 rfl ?_
    exact x_iret hE dX8_active_36 (⟨rfl, rfl⟩)
  · replace c9 := x_nInle c9 (by omega) (by omega)
    refine x_iload_n hE dX8_active_12 rfl ?_
    refine x_aload_n hE dX8_active_13 rfl rfl ?_
    refine x_get hE hinX8 hM.o rfl 17 (by decide) (List.mem_of_getElem? (i := 2) rfl) rfl dX8_active_14 ?_
    refine x_iload_n hE dX8_active_17 rfl ?_
    refine x_zald (v := R 17 i) hE hM.a17 (vp_in_nI (by omega) (by decide)) (x_atN _ (by omega)) dX8_active_18 ?_
    refine x_if_eq (tgt := 26) hE dX8_active_19 (by decide) (fun c19 => ?_) (fun c19 => ?_)
    · have e1 : actN R (i + 1) = actN R i + 0 := by show cnt_ _ i + (if (!decide (R 17 i = 0)) = true then 1 else 0) = _; rw [if_neg (by simp [c19])]; rfl
      refine x_iconst (v := nI 0) hE dX8_active_26 (by decide) ?_
      refine x_iadd hE dX8_active_27 ?_
      refine x_ieq (y := nI (actN R (i + 1))) (by rw [nI_add, e1]) ?_
      refine x_istore_n (L' := [some (.ref (ma 30)), some (.int (nI (actN R (i + 1)))), some (.int (nI i))]) hE dX8_active_28 rfl (Nat.le_of_ble_eq_true rfl) rfl ?_
      refine x_iinc (v := nI (i + 1)) (L' := [some (.ref (ma 30)), some (.int (nI (actN R (i + 1)))), some (.int (nI (i + 1)))]) hE dX8_active_29 rfl (nI_1 _) rfl ?_
      refine x_goto (tgt := 4) hE dX8_active_32 (by decide) ?_
      exact ih (i + 1) (by omega) (by omega)
    · have e1 : actN R (i + 1) = actN R i + 1 := by show cnt_ _ i + (if (!decide (R 17 i = 0)) = true then 1 else 0) = _; rw [if_pos (by simp [c19])]; rfl
      refine x_iconst (v := nI 1) hE dX8_active_22 (by decide) ?_
      refine x_goto (tgt := 27) hE dX8_active_23 (by decide) ?_
      refine x_iadd hE dX8_active_27 ?_
      refine x_ieq (y := nI (actN R (i + 1))) (by rw [nI_add, e1]) ?_
      refine x_istore_n (L' := [some (.ref (ma 30)), some (.int (nI (actN R (i + 1)))), some (.int (nI i))]) hE dX8_active_28 rfl (Nat.le_of_ble_eq_true rfl) rfl ?_
      refine x_iinc (v := nI (i + 1)) (L' := [some (.ref (ma 30)), some (.int (nI (actN R (i + 1)))), some (.int (nI (i + 1)))]) hE dX8_active_29 rfl (nI_1 _) rfl ?_
      refine x_goto (tgt := 4) hE dX8_active_32 (by decide) ?_
      exact ih (i + 1) (by omega) (by omega)

set_option maxHeartbeats 4000000 in
set_option maxRecDepth 100000 in
theorem c_X8_nearest (G : XG) {ma ow : Nat → Nat} {sc : Nat → Int32} {R : Nat → Nat → Int32} {h : HM} (hM : mM G ma ow sc R h) {L c m : Nat} {B : Int32} (hn : sc 1 = nI L) (hB : sc 8 = B) (hb : L ≤ 16) (hc : c < 12) (hm : m < L) : x_M G yX8_nearest wsX8_nearest ({ frames := 2, cells := 0, slots := 0, locals := 42 } : Room) [.ref (ma 30), .int (nI c), .int (nI m)] h (x_is (some (.int (nrM R B c m L))) h) 0 0 := by
  refine x_M.of (cc := cX8_nearest) (maxL := 6) (ret := (some .int)) (ent := [some (.ref (ma 30)), some (.int (nI c)), some (.int (nI m)), none, none, none]) (by decide +kernel) rfl (Nat.le_of_ble_eq_true rfl) rfl rfl ?_
  intro F hE hname
  have hinX8 : ∀ w ∈ wsX80, w ∈ wsX8_nearest := by decide +kernel
  refine x_iconst (v := (-1 : Int32)) hE dX8_nearest_0 (by decide) ?_
  refine x_istore_n (L' := [some (.ref (ma 30)), some (.int (nI c)), some (.int (nI m)), some (.int (-1 : Int32)), none, none]) hE dX8_nearest_1 rfl (Nat.le_of_ble_eq_true rfl) rfl ?_
  refine x_iconst (v := nI 0) hE dX8_nearest_2 (by decide) ?_
  refine x_istore (L' := [some (.ref (ma 30)), some (.int (nI c)), some (.int (nI m)), some (.int (-1 : Int32)), some (.int (nI 0)), none]) hE dX8_nearest_3 (Nat.le_of_ble_eq_true rfl) rfl ?_
  refine x_down (N := L) (P := fun i => x_W G F (x_Q G F (x_is (some (.int (nrM R B c m L))) h) 0 0) 0 0 h 5 [some (.ref (ma 30)), some (.int (nI c)), some (.int (nI m)), some (.int (nrM R B c m i)), some (.int (nI i)), none] []) (fun i hiN ih => ?_) 0 (by omega) 
  refine x_iload hE dX8_nearest_5 rfl ?_
  refine x_aload_n hE dX8_nearest_7 rfl rfl ?_
  refine x_get hE hinX8 hM.o rfl 1 (by decide) (List.mem_of_getElem? (i := 1) rfl) rfl dX8_nearest_8 ?_
  refine x_ieq (y := nI L) (hn) ?_
  refine x_icmp_ge (tgt := 110) hE dX8_nearest_11 (by decide) (fun c11 => ?_) (fun c11 => ?_)
  · replace c11 := x_nIle c11 (by omega) (by omega)
    obtain rfl : i = L := by omega
    refine x_iload_n hE dX8_nearest_110 rfl ?_
    exact x_iret hE dX8_nearest_111 (⟨rfl, rfl⟩)
  · replace c11 := x_nInle c11 (by omega) (by omega)
    refine x_aload_n hE dX8_nearest_14 rfl rfl ?_
    refine x_iload hE dX8_nearest_15 rfl ?_
    refine x_callV (ci := 8) (st := []) hE 1 (c_X8_isUsable G hM (by omega : i < 16)) gX8_nearest_X8_isUsable rfl rfl rfl (by decide +kernel) ⟨Nat.le_of_ble_eq_true rfl, Nat.le_of_ble_eq_true rfl⟩ hM.o rfl rfl rfl dX8_nearest_17 rfl (Nat.le_of_ble_eq_true rfl) ⟨Nat.le_of_ble_eq_true rfl, Nat.le_of_ble_eq_true rfl⟩ (fun v h9 hp => ?_)
    obtain ⟨rfl, rfl⟩ := hp
    refine x_ieq (y := b2i (usV B (R 2 i) (R 7 i))) (by rw [hB]) ?_
    refine x_if_eq (tgt := 68) hE dX8_nearest_20 (by decide) (fun c20 => ?_) (fun c20 => ?_)
    · have em : mayM R B c m i = false := by unfold mayM; rw [b2i_0.mp c20]; rfl
      have e1 : nrM R B c m (i + 1) = nrM R B c m i := by unfold nrM; rw [nearF_n (by rw [em]; rfl)]
      refine x_iconst (v := nI 0) hE dX8_nearest_68 (by decide) ?_
      refine x_istore (L' := [some (.ref (ma 30)), some (.int (nI c)), some (.int (nI m)), some (.int (nrM R B c m i)), some (.int (nI i)), some (.int (nI 0))]) hE dX8_nearest_69 (Nat.le_of_ble_eq_true rfl) rfl ?_
      refine x_iload hE dX8_nearest_71 rfl ?_
      refine x_if_eq (tgt := 102) hE dX8_nearest_73 (by decide) (fun c73 => ?_) (fun c73 => absurd rfl c73)
      refine x_iload_n hE dX8_nearest_102 rfl ?_
      refine x_istore_n (L' := [some (.ref (ma 30)), some (.int (nI c)), some (.int (nI m)), some (.int (nrM R B c m i)), some (.int (nI i)), some (.int (nI 0))]) hE dX8_nearest_103 rfl (Nat.le_of_ble_eq_true rfl) rfl ?_
      refine x_iinc (v := nI (i + 1)) (L' := [some (.ref (ma 30)), some (.int (nI c)), some (.int (nI m)), some (.int (nrM R B c m i)), some (.int (nI (i + 1))), some (.int (nI 0))]) hE dX8_nearest_104 rfl (nI_1 _) rfl ?_
      refine x_goto (tgt := 5) hE dX8_nearest_107 (by decide) ?_
      have e2 := ih (i + 1) (by omega) (by omega)
      rw [e1] at e2
      refine x_forget (L' := [some (.ref (ma 30)), some (.int (nI c)), some (.int (nI m)), some (.int (nrM R B c m i)), some (.int (nI (i + 1))), none]) (And.intro rfl (And.intro rfl (And.intro rfl (And.intro rfl (And.intro rfl trivial))))) ?_
      exact e2
    · have u1 : usV B (R 2 i) (R 7 i) = true := b2i_n0.mp c20
      refine x_aload_n hE dX8_nearest_23 rfl rfl ?_
      refine x_get hE hinX8 hM.o rfl 4 (by decide) (List.mem_of_getElem? (i := 2) rfl) rfl dX8_nearest_24 ?_
      refine x_iload hE dX8_nearest_27 rfl ?_
      refine x_iald (v := R 4 i) hE hM.a4 (vp_in_nI (by omega) (by decide)) (x_atN _ (by omega)) dX8_nearest_29 ?_
      refine x_aload_n hE dX8_nearest_30 rfl rfl ?_
      refine x_get hE hinX8 hM.o rfl 4 (by decide) (List.mem_of_getElem? (i := 2) rfl) rfl dX8_nearest_31 ?_
      refine x_iload_n hE dX8_nearest_34 rfl ?_
      refine x_iald (v := R 4 m) hE hM.a4 (vp_in_nI (by omega) (by decide)) (x_atN _ (by omega)) dX8_nearest_35 ?_
      refine x_icmp_ne (tgt := 68) hE dX8_nearest_36 (by decide) (fun c36 => ?_) (fun c36 => ?_)
      · have em : mayM R B c m i = false := by unfold mayM; rw [decide_eq_false c36]; simp
        have e1 : nrM R B c m (i + 1) = nrM R B c m i := by unfold nrM; rw [nearF_n (by rw [em]; rfl)]
        refine x_iconst (v := nI 0) hE dX8_nearest_68 (by decide) ?_
        refine x_istore (L' := [some (.ref (ma 30)), some (.int (nI c)), some (.int (nI m)), some (.int (nrM R B c m i)), some (.int (nI i)), some (.int (nI 0))]) hE dX8_nearest_69 (Nat.le_of_ble_eq_true rfl) rfl ?_
        refine x_iload hE dX8_nearest_71 rfl ?_
        refine x_if_eq (tgt := 102) hE dX8_nearest_73 (by decide) (fun c73 => ?_) (fun c73 => absurd rfl c73)
        refine x_iload_n hE dX8_nearest_102 rfl ?_
        refine x_istore_n (L' := [some (.ref (ma 30)), some (.int (nI c)), some (.int (nI m)), some (.int (nrM R B c m i)), some (.int (nI i)), some (.int (nI 0))]) hE dX8_nearest_103 rfl (Nat.le_of_ble_eq_true rfl) rfl ?_
        refine x_iinc (v := nI (i + 1)) (L' := [some (.ref (ma 30)), some (.int (nI c)), some (.int (nI m)), some (.int (nrM R B c m i)), some (.int (nI (i + 1))), some (.int (nI 0))]) hE dX8_nearest_104 rfl (nI_1 _) rfl ?_
        refine x_goto (tgt := 5) hE dX8_nearest_107 (by decide) ?_
        have e2 := ih (i + 1) (by omega) (by omega)
        rw [e1] at e2
        refine x_forget (L' := [some (.ref (ma 30)), some (.int (nI c)), some (.int (nI m)), some (.int (nrM R B c m i)), some (.int (nI (i + 1))), none]) (And.intro rfl (And.intro rfl (And.intro rfl (And.intro rfl (And.intro rfl trivial))))) ?_
        exact e2
      · refine x_aload_n hE dX8_nearest_39 rfl rfl ?_
        refine x_get hE hinX8 hM.o rfl 14 (by decide) (List.mem_of_getElem? (i := 3) rfl) rfl dX8_nearest_40 ?_
        refine x_bipush (v := nI 16) hE dX8_nearest_43 (by decide) ?_
        refine x_iload_n hE dX8_nearest_45 rfl ?_
        refine x_imul hE dX8_nearest_46 ?_
        refine x_ieq (y := nI (16 * c)) (pk_mul 16 c) ?_
        refine x_iload hE dX8_nearest_47 rfl ?_
        refine x_iadd hE dX8_nearest_49 ?_
        refine x_ieq (y := nI (16 * c + i)) (nI_add _ _) ?_
        refine x_iald (v := R 14 (16 * c + i)) hE hM.a14 (vp_in_nI (by omega) (by decide)) (x_atN _ (by omega)) dX8_nearest_50 ?_
        refine x_if_ne (tgt := 68) hE dX8_nearest_51 (by decide) (fun c51 => ?_) (fun c51 => ?_)
        · have em : mayM R B c m i = false := by unfold mayM; rw [decide_eq_false c51]; simp
          have e1 : nrM R B c m (i + 1) = nrM R B c m i := by unfold nrM; rw [nearF_n (by rw [em]; rfl)]
          refine x_iconst (v := nI 0) hE dX8_nearest_68 (by decide) ?_
          refine x_istore (L' := [some (.ref (ma 30)), some (.int (nI c)), some (.int (nI m)), some (.int (nrM R B c m i)), some (.int (nI i)), some (.int (nI 0))]) hE dX8_nearest_69 (Nat.le_of_ble_eq_true rfl) rfl ?_
          refine x_iload hE dX8_nearest_71 rfl ?_
          refine x_if_eq (tgt := 102) hE dX8_nearest_73 (by decide) (fun c73 => ?_) (fun c73 => absurd rfl c73)
          refine x_iload_n hE dX8_nearest_102 rfl ?_
          refine x_istore_n (L' := [some (.ref (ma 30)), some (.int (nI c)), some (.int (nI m)), some (.int (nrM R B c m i)), some (.int (nI i)), some (.int (nI 0))]) hE dX8_nearest_103 rfl (Nat.le_of_ble_eq_true rfl) rfl ?_
          refine x_iinc (v := nI (i + 1)) (L' := [some (.ref (ma 30)), some (.int (nI c)), some (.int (nI m)), some (.int (nrM R B c m i)), some (.int (nI (i + 1))), some (.int (nI 0))]) hE dX8_nearest_104 rfl (nI_1 _) rfl ?_
          refine x_goto (tgt := 5) hE dX8_nearest_107 (by decide) ?_
          have e2 := ih (i + 1) (by omega) (by omega)
          rw [e1] at e2
          refine x_forget (L' := [some (.ref (ma 30)), some (.int (nI c)), some (.int (nI m)), some (.int (nrM R B c m i)), some (.int (nI (i + 1))), none]) (And.intro rfl (And.intro rfl (And.intro rfl (And.intro rfl (And.intro rfl trivial))))) ?_
          exact e2
        · refine x_aload_n hE dX8_nearest_54 rfl rfl ?_
          refine x_get hE hinX8 hM.o rfl 26 (by decide) (List.mem_of_getElem? (i := 4) rfl) rfl dX8_nearest_55 ?_
          refine x_iload hE dX8_nearest_58 rfl ?_
          refine x_iald (v := R 26 i) hE hM.a26 (vp_in_nI (by omega) (by decide)) (x_atN _ (by omega)) dX8_nearest_60 ?_
          refine x_if_ne (tgt := 68) hE dX8_nearest_61 (by decide) (fun c61 => ?_) (fun c61 => ?_)
          · have em : mayM R B c m i = false := by unfold mayM; rw [decide_eq_false c61]; simp
            have e1 : nrM R B c m (i + 1) = nrM R B c m i := by unfold nrM; rw [nearF_n (by rw [em]; rfl)]
            refine x_iconst (v := nI 0) hE dX8_nearest_68 (by decide) ?_
            refine x_istore (L' := [some (.ref (ma 30)), some (.int (nI c)), some (.int (nI m)), some (.int (nrM R B c m i)), some (.int (nI i)), some (.int (nI 0))]) hE dX8_nearest_69 (Nat.le_of_ble_eq_true rfl) rfl ?_
            refine x_iload hE dX8_nearest_71 rfl ?_
            refine x_if_eq (tgt := 102) hE dX8_nearest_73 (by decide) (fun c73 => ?_) (fun c73 => absurd rfl c73)
            refine x_iload_n hE dX8_nearest_102 rfl ?_
            refine x_istore_n (L' := [some (.ref (ma 30)), some (.int (nI c)), some (.int (nI m)), some (.int (nrM R B c m i)), some (.int (nI i)), some (.int (nI 0))]) hE dX8_nearest_103 rfl (Nat.le_of_ble_eq_true rfl) rfl ?_
            refine x_iinc (v := nI (i + 1)) (L' := [some (.ref (ma 30)), some (.int (nI c)), some (.int (nI m)), some (.int (nrM R B c m i)), some (.int (nI (i + 1))), some (.int (nI 0))]) hE dX8_nearest_104 rfl (nI_1 _) rfl ?_
            refine x_goto (tgt := 5) hE dX8_nearest_107 (by decide) ?_
            have e2 := ih (i + 1) (by omega) (by omega)
            rw [e1] at e2
            refine x_forget (L' := [some (.ref (ma 30)), some (.int (nI c)), some (.int (nI m)), some (.int (nrM R B c m i)), some (.int (nI (i + 1))), none]) (And.intro rfl (And.intro rfl (And.intro rfl (And.intro rfl (And.intro rfl trivial))))) ?_
            exact e2
          · have em : mayM R B c m i = true := by unfold mayM; rw [u1, decide_eq_true c36, decide_eq_true c51, decide_eq_true c61]; rfl
            refine x_iconst (v := nI 1) hE dX8_nearest_64 (by decide) ?_
            refine x_goto (tgt := 69) hE dX8_nearest_65 (by decide) ?_
            refine x_istore (L' := [some (.ref (ma 30)), some (.int (nI c)), some (.int (nI m)), some (.int (nrM R B c m i)), some (.int (nI i)), some (.int (nI 1))]) hE dX8_nearest_69 (Nat.le_of_ble_eq_true rfl) rfl ?_
            refine x_iload hE dX8_nearest_71 rfl ?_
            refine x_if_eq (tgt := 102) hE dX8_nearest_73 (by decide) (fun c73 => absurd c73 (by decide)) (fun c73 => ?_)
            refine x_iload_n hE dX8_nearest_76 rfl ?_
            refine x_iconst (v := (-1 : Int32)) hE dX8_nearest_77 (by decide) ?_
            refine x_icmp_eq (tgt := 97) hE dX8_nearest_78 (by decide) (fun c78 => ?_) (fun c78 => ?_)
            · have e1 : nrM R B c m (i + 1) = nI i := by unfold nrM; rw [nearF_y (by rw [em]; rw [decide_eq_true (show (nearF (mayM R B c m) (distS R m) i).1 = -1 from c78)]; rfl)]
              refine x_iload hE dX8_nearest_97 rfl ?_
              refine x_goto (tgt := 103) hE dX8_nearest_99 (by decide) ?_
              refine x_istore_n (L' := [some (.ref (ma 30)), some (.int (nI c)), some (.int (nI m)), some (.int (nI i)), some (.int (nI i)), some (.int (nI 1))]) hE dX8_nearest_103 rfl (Nat.le_of_ble_eq_true rfl) rfl ?_
              refine x_iinc (v := nI (i + 1)) (L' := [some (.ref (ma 30)), some (.int (nI c)), some (.int (nI m)), some (.int (nI i)), some (.int (nI (i + 1))), some (.int (nI 1))]) hE dX8_nearest_104 rfl (nI_1 _) rfl ?_
              refine x_goto (tgt := 5) hE dX8_nearest_107 (by decide) ?_
              have e2 := ih (i + 1) (by omega) (by omega)
              rw [e1] at e2
              refine x_forget (L' := [some (.ref (ma 30)), some (.int (nI c)), some (.int (nI m)), some (.int (nI i)), some (.int (nI (i + 1))), none]) (And.intro rfl (And.intro rfl (And.intro rfl (And.intro rfl (And.intro rfl trivial))))) ?_
              exact e2
            · obtain ⟨j, hj, ej1, ej2⟩ := (nearF_at (mayM R B c m) (distS R m) i).resolve_left c78
              have ej : nrM R B c m i = nI j := ej1
              refine x_aload_n hE dX8_nearest_81 rfl rfl ?_
              refine x_iload hE dX8_nearest_82 rfl ?_
              refine x_iload_n hE dX8_nearest_84 rfl ?_
              refine x_callV (ci := 8) (st := []) hE 2 (c_X8_distance G hM (by omega : i < 16) (by omega : m < 16)) gX8_nearest_X8_distance rfl rfl rfl (by decide +kernel) ⟨Nat.le_of_ble_eq_true rfl, Nat.le_of_ble_eq_true rfl⟩ hM.o rfl rfl rfl dX8_nearest_85 rfl (Nat.le_of_ble_eq_true rfl) ⟨Nat.le_of_ble_eq_true rfl, Nat.le_of_ble_eq_true rfl⟩ (fun v h9 hp => ?_)
              obtain ⟨rfl, rfl⟩ := hp
              refine x_aload_n hE dX8_nearest_88 rfl rfl ?_
              refine x_iload_n hE dX8_nearest_89 rfl ?_
              refine x_ieq (y := nI j) (ej) ?_
              refine x_iload_n hE dX8_nearest_90 rfl ?_
              refine x_callV (ci := 8) (st := [.int (distS R i m)]) hE 2 (c_X8_distance G hM (by omega : j < 16) (by omega : m < 16)) gX8_nearest_X8_distance rfl rfl rfl (by decide +kernel) ⟨Nat.le_of_ble_eq_true rfl, Nat.le_of_ble_eq_true rfl⟩ hM.o rfl rfl rfl dX8_nearest_91 rfl (Nat.le_of_ble_eq_true rfl) ⟨Nat.le_of_ble_eq_true rfl, Nat.le_of_ble_eq_true rfl⟩ (fun v h9 hp => ?_)
              obtain ⟨rfl, rfl⟩ := hp
              refine x_icmp_ge (tgt := 102) hE dX8_nearest_94 (by decide) (fun c94 => ?_) (fun c94 => ?_)
              · have e1 : nrM R B c m (i + 1) = nrM R B c m i := by unfold nrM; rw [nearF_n (by rw [em, decide_eq_false (show ¬ (nearF (mayM R B c m) (distS R m) i).1 = -1 from c78), ej2, decide_eq_false (fun z => (x_lei.mp z) (by rw [distS_sym R m j, distS_sym R m i]; exact c94))]; rfl)]
                refine x_iload_n hE dX8_nearest_102 rfl ?_
                refine x_istore_n (L' := [some (.ref (ma 30)), some (.int (nI c)), some (.int (nI m)), some (.int (nrM R B c m i)), some (.int (nI i)), some (.int (nI 1))]) hE dX8_nearest_103 rfl (Nat.le_of_ble_eq_true rfl) rfl ?_
                refine x_iinc (v := nI (i + 1)) (L' := [some (.ref (ma 30)), some (.int (nI c)), some (.int (nI m)), some (.int (nrM R B c m i)), some (.int (nI (i + 1))), some (.int (nI 1))]) hE dX8_nearest_104 rfl (nI_1 _) rfl ?_
                refine x_goto (tgt := 5) hE dX8_nearest_107 (by decide) ?_
                have e2 := ih (i + 1) (by omega) (by omega)
                rw [e1] at e2
                refine x_forget (L' := [some (.ref (ma 30)), some (.int (nI c)), some (.int (nI m)), some (.int (nrM R B c m i)), some (.int (nI (i + 1))), none]) (And.intro rfl (And.intro rfl (And.intro rfl (And.intro rfl (And.intro rfl trivial))))) ?_
                exact e2
              · have e1 : nrM R B c m (i + 1) = nI i := by unfold nrM; rw [nearF_y (by rw [em]; rw [ej2, decide_eq_true (x_lei.mpr (by rw [distS_sym R m j, distS_sym R m i]; exact c94))]; simp)]
                refine x_iload hE dX8_nearest_97 rfl ?_
                refine x_goto (tgt := 103) hE dX8_nearest_99 (by decide) ?_
                refine x_istore_n (L' := [some (.ref (ma 30)), some (.int (nI c)), some (.int (nI m)), some (.int (nI i)), some (.int (nI i)), some (.int (nI 1))]) hE dX8_nearest_103 rfl (Nat.le_of_ble_eq_true rfl) rfl ?_
                refine x_iinc (v := nI (i + 1)) (L' := [some (.ref (ma 30)), some (.int (nI c)), some (.int (nI m)), some (.int (nI i)), some (.int (nI (i + 1))), some (.int (nI 1))]) hE dX8_nearest_104 rfl (nI_1 _) rfl ?_
                refine x_goto (tgt := 5) hE dX8_nearest_107 (by decide) ?_
                have e2 := ih (i + 1) (by omega) (by omega)
                rw [e1] at e2
                refine x_forget (L' := [some (.ref (ma 30)), some (.int (nI c)), some (.int (nI m)), some (.int (nI i)), some (.int (nI (i + 1))), none]) (And.intro rfl (And.intro rfl (And.intro rfl (And.intro rfl (And.intro rfl trivial))))) ?_
                exact e2
