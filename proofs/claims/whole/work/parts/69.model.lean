/-! what follows at a tick, over the model's rows -/
def dueB (S : PS) (x : Nat × Nat) : Bool := decide (x.2 = s_t S + 1)
def dN (S : PS) (k : Nat) : Nat := (((s_N S).take k).filter (dueB S)).length
def kN (S : PS) (k : Nat) : List (Nat × Nat) := ((s_N S).take k).filter (fun x => !dueB S x)
def folI (S : PS) (gn : Nat) (sc : Nat → Int32) (k gni : Nat) (sci : Nat → Int32) (Ri : Nat → Nat → Int32) (AP : List (Nat × Nat)) : Prop :=
  s_N (stI S (dN S k)) = kN S (s_N S).length ++ AP ∧ AP.length ≤ dN S k ∧ mD (stI S (dN S k)) gni sci Ri ∧ sci 22 = nI ((s_N S).length + AP.length) ∧ rowN Ri 0 (kN S k) ∧ rowN Ri k ((s_N S).drop k) ∧ rowN Ri (s_N S).length AP ∧ gni ≤ gn + dN S k ∧ sci 28 = sc 28
theorem rowN.app {R : Nat → Nat → Int32} {off : Nat} {l m : List (Nat × Nat)} (h : rowN R off l) (g : rowN R (off + l.length) m) : rowN R off (l ++ m) := fun j x hx => by
  rcases Nat.lt_or_ge j l.length with c | c
  · rw [List.getElem?_append_left c] at hx
    exact h j x hx
  · rw [List.getElem?_append_right c] at hx
    have := g _ x hx
    rw [show off + l.length + (j - l.length) = off + j by omega] at this
    exact this
theorem take_1 {l : List (Nat × Nat)} {k : Nat} {x : Nat × Nat} (h : l[k]? = some x) : l.take (k + 1) = l.take k ++ [x] := by
  rw [List.take_succ, h]
  rfl
theorem dN_y {S : PS} {k : Nat} {x : Nat × Nat} (h : (s_N S)[k]? = some x) (hd : x.2 = s_t S + 1) : dN S (k + 1) = dN S k + 1 ∧ kN S (k + 1) = kN S k := by
  unfold dN kN
  have e : dueB S x = true := decide_eq_true hd
  rw [take_1 h, List.filter_append, List.filter_append, List.filter_cons_of_pos e, List.filter_cons_of_neg (by rw [e]; decide)]
  simp
theorem dN_n {S : PS} {k : Nat} {x : Nat × Nat} (h : (s_N S)[k]? = some x) (hd : ¬ x.2 = s_t S + 1) : dN S (k + 1) = dN S k ∧ kN S (k + 1) = kN S k ++ [x] := by
  unfold dN kN
  have e : dueB S x = false := decide_eq_false hd
  rw [take_1 h, List.filter_append, List.filter_append, List.filter_cons_of_neg (by rw [e]; decide), List.filter_cons_of_pos (by rw [e]; rfl)]
  simp
theorem kN_len {S : PS} {k : Nat} (h : k ≤ (s_N S).length) : (kN S k).length ≤ k ∧ dN S k ≤ k := by
  have e : ((s_N S).take k).length = k := by rw [List.length_take]; omega
  have a := List.length_filter_le (fun x => !dueB S x) ((s_N S).take k)
  have b := List.length_filter_le (dueB S) ((s_N S).take k)
  unfold kN dN
  omega
theorem kN_all {S : PS} : kN S (s_N S).length = (s_N S).filter (fun x => !decide (x.2 = s_t S + 1)) := by
  unfold kN
  rw [List.take_length]
  rfl
theorem dN_all {S : PS} : stI S (dN S (s_N S).length) = pass1 S := by
  have e : dN S (s_N S).length = (dueP S).length := by
    unfold dN dueP
    rw [List.take_length, List.length_map]
    rfl
  rw [e, stI_n]
theorem due_get {S : PS} {k : Nat} {x : Nat × Nat} (h : (s_N S)[k]? = some x) (hd : x.2 = s_t S + 1) : (dueP S)[dN S k]? = some x.1 := by
  have hk := (List.getElem?_eq_some_iff.mp h).1
  have e : s_N S = (s_N S).take (k + 1) ++ (s_N S).drop (k + 1) := (List.take_append_drop _ _).symm
  have e1 : dueB S x = true := decide_eq_true hd
  unfold dueP dN
  show (((s_N S).filter (dueB S)).map Prod.fst)[_]? = _
  conv => lhs; arg 1; rw [e]
  rw [take_1 h, List.filter_append, List.filter_append, List.filter_cons_of_pos e1, List.getElem?_map, List.getElem?_append_left (by simp), List.getElem?_append_right (Nat.le_refl _)]
  simp
theorem folI.sR {S : PS} {gn k gni : Nat} {sc sci : Nat → Int32} {Ri R' : Nat → Nat → Int32} {AP : List (Nat × Nat)} (h : folI S gn sc k gni sci Ri AP) (s : sR Ri R') : folI S gn sc k gni sci R' AP := by
  obtain ⟨h1, h2, h3, h4, h5, h6, h7, h8, h9⟩ := h
  exact ⟨h1, h2, h3.sR s, h4, h5.sR s, h6.sR s, h7.sR s, h8, h9⟩
theorem folI_0 {S : PS} {gn : Nat} {sc : Nat → Int32} {R : Nat → Nat → Int32} (hD : mD (tkP S) gn sc R) (h22 : sc 22 = nI (s_N S).length) (hrow : rowN R 0 (s_N S)) : folI S gn sc 0 gn sc R [] := by
  have e : stI S (dN S 0) = tkP S := rfl
  refine ⟨?_, Nat.zero_le _, by rw [e]; exact hD, h22, fun j x hx => by simp [kN] at hx, hrow, fun j x hx => by simp at hx, by omega, rfl⟩
  rw [e, kN_all, List.append_nil]
  rfl
theorem rowN.get {R : Nat → Nat → Int32} {k : Nat} {l : List (Nat × Nat)} {x : Nat × Nat} (h : rowN R k (l.drop k)) (hx : l[k]? = some x) : R 23 k = nI x.1 ∧ R 24 k = nI x.2 := by
  have := h 0 x (by rw [List.getElem?_drop]; exact hx)
  exact this
theorem rowN.drop1 {R : Nat → Nat → Int32} {k : Nat} {l : List (Nat × Nat)} (h : rowN R k (l.drop k)) : rowN R (k + 1) (l.drop (k + 1)) := by
  have := h.drop
  rw [List.drop_drop] at this
  exact this
/-- one that is not due is kept -/
theorem folI_keep {S : PS} {gn k gni : Nat} {sc sci : Nat → Int32} {Ri : Nat → Nat → Int32} {AP : List (Nat × Nat)} {x : Nat × Nat} (h : folI S gn sc k gni sci Ri AP) (hx : (s_N S)[k]? = some x) (hd : ¬ x.2 = s_t S + 1) : folI S gn sc (k + 1) gni sci (rowUp (rowUp Ri 23 (upd (Ri 23) (kN S k).length (Ri 23 k))) 24 (upd (Ri 24) (kN S k).length (Ri 24 k))) AP := by
  obtain ⟨h1, h2, h3, h4, h5, h6, h7, h8, h9⟩ := h
  have hk := (List.getElem?_eq_some_iff.mp hx).1
  have hl := kN_len (S := S) (k := k) (by omega)
  obtain ⟨e1, e2⟩ := dN_n hx hd
  have hg := h6.get hx
  have f23 : ∀ j, j ≠ (kN S k).length → rowUp (rowUp Ri 23 (upd (Ri 23) (kN S k).length (Ri 23 k))) 24 (upd (Ri 24) (kN S k).length (Ri 24 k)) 23 j = Ri 23 j := fun j hj => by
    rw [rowUp_ne (by decide), rowUp_at, upd_ne hj]
  have f24 : ∀ j, j ≠ (kN S k).length → rowUp (rowUp Ri 23 (upd (Ri 23) (kN S k).length (Ri 23 k))) 24 (upd (Ri 24) (kN S k).length (Ri 24 k)) 24 j = Ri 24 j := fun j hj => by
    rw [rowUp_at, upd_ne hj]
  refine ⟨by rw [e1]; exact h1, by rw [e1]; exact h2, ?_, h4, ?_, ?_, ?_, by rw [e1]; exact h8, h9⟩
  · rw [e1]
    exact h3.same (fun _ _ _ => rfl) (fun j a b => by rw [rowUp_ne b, rowUp_ne a])
  · rw [e2]
    refine (h5.same (fun j hj => f23 _ (by omega)) (fun j hj => f24 _ (by omega))).snoc ⟨?_, ?_⟩
    · rw [rowUp_ne (by decide), rowUp_at, Nat.zero_add, upd_at]
      exact hg.1
    · rw [rowUp_at, Nat.zero_add, upd_at]
      exact hg.2
  · exact h6.drop1.same (fun j hj => f23 _ (by omega)) (fun j hj => f24 _ (by omega))
  · exact h7.same (fun j hj => f23 _ (by omega)) (fun j hj => f24 _ (by omega))
/-- one that is due and can't go is barred -/
theorem folI_bar {S : PS} {gn k gni : Nat} {sc sci : Nat → Int32} {Ri : Nat → Nat → Int32} {AP : List (Nat × Nat)} {x : Nat × Nat} (h : folI S gn sc k gni sci Ri AP) (hx : (s_N S)[k]? = some x) (hd : x.2 = s_t S + 1) (hcan : ¬ canP (s_ar (stI S (dN S k))) (s_L (stI S (dN S k))) (s_B (stI S (dN S k))) (s_G (stI S (dN S k))) x.1 = true) : folI S gn sc (k + 1) gni (upd sci 25 (nI (s_b (stI S (dN S k)) + 1))) Ri AP := by
  obtain ⟨h1, h2, h3, h4, h5, h6, h7, h8, h9⟩ := h
  obtain ⟨e1, e2⟩ := dN_y hx hd
  have es : stI S (dN S (k + 1)) = barP (stI S (dN S k)) := by
    rw [e1, stI_s (due_get hx hd)]
    unfold stepP
    rw [if_neg hcan]
  refine ⟨by rw [es]; exact h1, by omega, ?_, by rw [upd_ne (by decide)]; exact h4, by rw [e2]; exact h5, h6.drop1, h7, by omega, by rw [upd_ne (by decide)]; exact h9⟩
  rw [es]
  obtain ⟨a1, a2, a3, a4, a5, a6, a7, a8, a9⟩ := h3
  exact ⟨by rw [upd_ne (by decide)]; exact a1, by rw [upd_ne (by decide)]; exact a2, by rw [upd_ne (by decide)]; exact a3, by rw [upd_ne (by decide)]; exact a4, by rw [upd_ne (by decide)]; exact a5, upd_at _ _ _, a7, a8, a9⟩
/-- one that is due and can go goes -/
theorem folI_go {S : PS} {gn k gni : Nat} {sc sci sc' : Nat → Int32} {Ri R' : Nat → Nat → Int32} {AP : List (Nat × Nat)} {x : Nat × Nat} (h : folI S gn sc k gni sci Ri AP) (hx : (s_N S)[k]? = some x) (hd : x.2 = s_t S + 1) (hcan : canP (s_ar (stI S (dN S k))) (s_L (stI S (dN S k))) (s_B (stI S (dN S k))) (s_G (stI S (dN S k))) x.1 = true) (hc : x.1 < s_C S) (hC : s_C S ≤ 12) (hcu : cuI (s_ar S) (s_C S)) (hg : goesI Ri R' sci sc' x.1 (s_t S + 1) gni ((s_N S).length + AP.length)) : ∃ AP', folI S gn sc (k + 1) (gni + 1) sc' R' AP' := by
  obtain ⟨h1, h2, h3, h4, h5, h6, h7, h8, h9⟩ := h
  have hk := (List.getElem?_eq_some_iff.mp hx).1
  have hl := kN_len (S := S) (k := k) (by omega)
  obtain ⟨e1, e2⟩ := dN_y hx hd
  have es : stI S (dN S (k + 1)) = begP x.1 (stI S (dN S k)) := by
    rw [e1, stI_s (due_get hx hd)]
    unfold stepP
    rw [if_pos hcan]
  obtain ⟨k1, k2, k3, k4, k5⟩ := stI_keep S (dN S k)
  obtain ⟨g1, ⟨ap, g2, g3, g4, g5⟩, g6⟩ := goes_D h3 (by rw [k5]; exact hg) (by rw [k4]; exact hc) (by rw [k4]; exact hC) (by rw [k1, k4]; exact hcu)
  refine ⟨AP ++ ap, ?_, ?_, ?_, ?_, ?_, ?_, ?_, by omega, ?_⟩
  · rw [es, g2, h1, List.append_assoc]
  · rw [List.length_append]; omega
  · rw [es]; exact g1
  · rw [g4, List.length_append, Nat.add_assoc]
  · rw [e2]
    exact h5.same (fun j hj => (g6 _ (by omega)).1) (fun j hj => (g6 _ (by omega)).2)
  · refine h6.drop1.same (fun j hj => (g6 _ ?_).1) (fun j hj => (g6 _ ?_).2) <;> (rw [List.length_drop] at hj; omega)
  · exact (h7.same (fun j hj => (g6 _ (by omega)).1) (fun j hj => (g6 _ (by omega)).2)).app g5
  · rw [hg.2.2.2.2.2.1 _ (by decide) (by decide)]
    exact h9
/-- behind the first loop: what was noted meanwhile is moved down -/
def movI (S : PS) (sc : Nat → Int32) (gn gni j : Nat) (AP : List (Nat × Nat)) (sci : Nat → Int32) (Ri : Nat → Nat → Int32) : Prop :=
  s_N (pass1 S) = kN S (s_N S).length ++ AP ∧ AP.length ≤ (s_N S).length ∧ mD (pass1 S) gni sci Ri ∧ sci 22 = nI ((s_N S).length + AP.length) ∧ rowN Ri 0 (kN S (s_N S).length ++ AP.take j) ∧ rowN Ri ((s_N S).length + j) (AP.drop j) ∧ gni ≤ gn + (s_N S).length ∧ sci 28 = sc 28
theorem movI_0 {S : PS} {gn gni : Nat} {sc sci : Nat → Int32} {Ri : Nat → Nat → Int32} {AP : List (Nat × Nat)} (h : folI S gn sc (s_N S).length gni sci Ri AP) : movI S sc gn gni 0 AP sci Ri := by
  obtain ⟨h1, h2, h3, h4, h5, h6, h7, h8, h9⟩ := h
  have hl := kN_len (S := S) (k := (s_N S).length) (Nat.le_refl _)
  rw [dN_all] at h1 h3
  refine ⟨h1, by omega, h3, h4, ?_, h7, by omega, h9⟩
  rw [List.take_zero, List.append_nil]
  exact h5
theorem movI_s {S : PS} {gn gni j : Nat} {sc sci : Nat → Int32} {Ri : Nat → Nat → Int32} {AP : List (Nat × Nat)} (h : movI S sc gn gni j AP sci Ri) (hj : j < AP.length) : movI S sc gn gni (j + 1) AP sci (rowUp (rowUp Ri 23 (upd (Ri 23) ((kN S (s_N S).length).length + j) (Ri 23 ((s_N S).length + j)))) 24 (upd (Ri 24) ((kN S (s_N S).length).length + j) (Ri 24 ((s_N S).length + j)))) := by
  obtain ⟨h1, h2, h3, h4, h5, h6, h8, h9⟩ := h
  have hl := kN_len (S := S) (k := (s_N S).length) (Nat.le_refl _)
  have hx : AP[j]? = some AP[j] := List.getElem?_eq_getElem hj
  have hg := h6 0 AP[j] (by rw [List.getElem?_drop]; exact hx)
  rw [Nat.add_zero] at hg
  have et : (AP.take j).length = j := by rw [List.length_take]; omega
  refine ⟨h1, h2, h3.same (fun _ _ _ => rfl) (fun i a b => by rw [rowUp_ne b, rowUp_ne a]), h4, ?_, ?_, h8, h9⟩
  · rw [take_1 hx, ← List.append_assoc]
    have el : (kN S (s_N S).length ++ AP.take j).length = (kN S (s_N S).length).length + j := by rw [List.length_append, et]
    refine (h5.same (fun i hi => ?_) (fun i hi => ?_)).snoc ⟨?_, ?_⟩
    · rw [rowUp_ne (by decide), rowUp_at, upd_ne (by omega)]
    · rw [rowUp_at, upd_ne (by omega)]
    · rw [rowUp_ne (by decide), rowUp_at, Nat.zero_add, el, upd_at]
      exact hg.1
    · rw [rowUp_at, Nat.zero_add, el, upd_at]
      exact hg.2
  · have := h6.drop
    rw [List.drop_drop] at this
    refine this.same (fun i hi => ?_) (fun i hi => ?_)
    · rw [rowUp_ne (by decide), rowUp_at, upd_ne (by omega)]
    · rw [rowUp_at, upd_ne (by omega)]
theorem mov_end {S : PS} {gn gni : Nat} {sc sci : Nat → Int32} {Ri : Nat → Nat → Int32} {AP : List (Nat × Nat)} (h : movI S sc gn gni AP.length AP sci Ri) : mD (pass1 S) gni (upd sci 22 (nI ((kN S (s_N S).length).length + AP.length))) Ri ∧ mN (pass1 S) (upd sci 22 (nI ((kN S (s_N S).length).length + AP.length))) Ri ∧ gni ≤ gn + (s_N S).length ∧ upd sci 22 (nI ((kN S (s_N S).length).length + AP.length)) 28 = sc 28 := by
  obtain ⟨h1, h2, h3, h4, h5, h6, h8, h9⟩ := h
  rw [List.take_length] at h5
  refine ⟨h3.same (fun k a _ => upd_ne a) (fun _ _ _ => rfl), ⟨?_, ?_⟩, h8, by rw [upd_ne (by decide)]; exact h9⟩
  · rw [upd_at, h1, List.length_append]
  · rw [h1]
    exact h5
set_option maxHeartbeats 4000000 in
set_option maxRecDepth 100000 in
theorem c_X8_follows (G : XG) {ma ow : Nat → Nat} {sc : Nat → Int32} {R : Nat → Nat → Int32} {h : HM} (hM : mM G ma ow sc R h) {S : PS} {gn : Nat} (hD : mD (tkP S) gn sc R) (h22 : sc 22 = nI (s_N S).length) (hrow : rowN R 0 (s_N S)) (hp : pI S) (hto : toI (s_ar S) (s_C S)) (hb : s_L S ≤ 16) (hC12 : s_C S ≤ 12) (hl : (s_N S).length ≤ 511) : x_M G yX8_follows wsX8_follows ({ frames := 7, cells := 0, slots := 0, locals := 159 } : Room) [.ref (ma 30)] h (fun v h' => v = none ∧ ∃ (R' : Nat → Nat → Int32) (sc' : Nat → Int32) (gn' : Nat), mM G ma ow sc' R' h' ∧ mD (pass1 S) gn' sc' R' ∧ mN (pass1 S) sc' R' ∧ gn' ≤ gn + (s_N S).length ∧ sc' 28 = sc 28) 0 0 := by
  refine x_M.of (cc := cX8_follows) (maxL := 5) (ret := none) (ent := [some (.ref (ma 30)), none, none, none, none]) (by decide +kernel) rfl (Nat.le_of_ble_eq_true rfl) rfl rfl ?_
  intro F hE hname
  have hinX8 : ∀ w ∈ wsX80, w ∈ wsX8_follows := by decide +kernel
  have hnl : (kN S (s_N S).length).length ≤ (s_N S).length := (kN_len (Nat.le_refl _)).1
  refine x_aload_n hE dX8_follows_0 rfl rfl ?_
  refine x_get hE hinX8 hM.o rfl 22 (by decide) (List.mem_of_getElem? (i := 1) rfl) rfl dX8_follows_1 ?_
  refine x_ieq (y := nI (s_N S).length) (h22) ?_
  refine x_istore_n (L' := [some (.ref (ma 30)), some (.int (nI (s_N S).length)), none, none, none]) hE dX8_follows_4 rfl (Nat.le_of_ble_eq_true rfl) rfl ?_
  refine x_iconst (v := nI 0) hE dX8_follows_5 (by decide) ?_
  refine x_istore_n (L' := [some (.ref (ma 30)), some (.int (nI (s_N S).length)), some (.int (nI 0)), none, none]) hE dX8_follows_6 rfl (Nat.le_of_ble_eq_true rfl) rfl ?_
  refine x_aload_n hE dX8_follows_7 rfl rfl ?_
  refine x_get hE hinX8 hM.o rfl 22 (by decide) (List.mem_of_getElem? (i := 1) rfl) rfl dX8_follows_8 ?_
  refine x_ieq (y := nI (s_N S).length) (h22) ?_
  refine x_istore_n (L' := [some (.ref (ma 30)), some (.int (nI (s_N S).length)), some (.int (nI 0)), some (.int (nI (s_N S).length)), none]) hE dX8_follows_11 rfl (Nat.le_of_ble_eq_true rfl) rfl ?_
  refine x_iconst (v := nI 0) hE dX8_follows_12 (by decide) ?_
  refine x_istore (L' := [some (.ref (ma 30)), some (.int (nI (s_N S).length)), some (.int (nI 0)), some (.int (nI (s_N S).length)), some (.int (nI 0))]) hE dX8_follows_13 (Nat.le_of_ble_eq_true rfl) rfl ?_
  refine x_down (N := (s_N S).length) (P := fun k => ∀ (hi : HM) (gni : Nat) (sci : Nat → Int32) (Ri : Nat → Nat → Int32) (AP : List (Nat × Nat)), mM G ma ow sci Ri hi → folI S gn sc k gni sci Ri AP → x_W G F (x_Q G F (fun v h' => v = none ∧ ∃ (R' : Nat → Nat → Int32) (sc' : Nat → Int32) (gn' : Nat), mM G ma ow sc' R' h' ∧ mD (pass1 S) gn' sc' R' ∧ mN (pass1 S) sc' R' ∧ gn' ≤ gn + (s_N S).length ∧ sc' 28 = sc 28) 0 0) 0 0 hi 15 [some (.ref (ma 30)), some (.int (nI (s_N S).length)), some (.int (nI (kN S k).length)), some (.int (nI (s_N S).length)), some (.int (nI k))] []) (fun k hkN ih => ?_) 0 (by omega) h gn sc R [] hM (folI_0 hD h22 hrow)
  intro hi gni sci Ri AP hMi hf
  obtain ⟨f1, f2, f3, f4, f5, f6, f7, f8, f9⟩ := id hf
  obtain ⟨k1, k2, k3, k4, k5⟩ := stI_keep S (dN S k)
  have hlk := kN_len (S := S) (k := k) (by omega)
  refine x_iload hE dX8_follows_15 rfl ?_
  refine x_iload_n hE dX8_follows_17 rfl ?_
  refine x_icmp_ge (tgt := 111) hE dX8_follows_18 (by decide) (fun c18 => ?_) (fun c18 => ?_)
  · replace c18 := x_nIle c18 (by omega) (by omega)
    obtain rfl : k = (s_N S).length := by omega
    have hv := movI_0 hf
    clear hf ih f1 f2 f3 f4 f5 f6 f7 f8 f9 k1 k2 k3 k4 k5 hlk
    refine x_iload_n hE dX8_follows_111 rfl ?_
    refine x_istore (L' := [some (.ref (ma 30)), some (.int (nI (s_N S).length)), some (.int (nI (kN S (s_N S).length).length)), some (.int (nI (s_N S).length)), some (.int (nI (s_N S).length))]) hE dX8_follows_112 (Nat.le_of_ble_eq_true rfl) rfl ?_
    refine x_down (N := AP.length) (P := fun j => ∀ (hi : HM) (Ri : Nat → Nat → Int32), mM G ma ow sci Ri hi → movI S sc gn gni j AP sci Ri → x_W G F (x_Q G F (fun v h' => v = none ∧ ∃ (R' : Nat → Nat → Int32) (sc' : Nat → Int32) (gn' : Nat), mM G ma ow sc' R' h' ∧ mD (pass1 S) gn' sc' R' ∧ mN (pass1 S) sc' R' ∧ gn' ≤ gn + (s_N S).length ∧ sc' 28 = sc 28) 0 0) 0 0 hi 114 [some (.ref (ma 30)), some (.int (nI (s_N S).length)), some (.int (nI ((kN S (s_N S).length).length + j))), some (.int (nI (s_N S).length)), some (.int (nI ((s_N S).length + j)))] []) (fun j hjN ih => ?_) 0 (by omega) hi Ri hMi hv
    clear hMi hv
    intro hj Rj hMj hv
    have hvl := hv.2.1
    refine x_iload hE dX8_follows_114 rfl ?_
    refine x_aload_n hE dX8_follows_116 rfl rfl ?_
    refine x_get hE hinX8 hMj.o rfl 22 (by decide) (List.mem_of_getElem? (i := 1) rfl) rfl dX8_follows_117 ?_
    refine x_ieq (y := nI ((s_N S).length + AP.length)) (hv.2.2.2.1) ?_
    refine x_icmp_ge (tgt := 158) hE dX8_follows_120 (by decide) (fun c120 => ?_) (fun c120 => ?_)
    · replace c120 := x_nIle c120 (by omega) (by omega)
      obtain rfl : j = AP.length := by omega
      refine x_aload_n hE dX8_follows_158 rfl rfl ?_
      refine x_iload_n hE dX8_follows_159 rfl ?_
      refine x_put (fs' := [.int (sci 0), .int (sci 1), .ref (ma 2), .ref (ma 3), .ref (ma 4), .ref (ma 5), .ref (ma 6), .ref (ma 7), .int (sci 8), .ref (ma 9), .int (sci 10), .ref (ma 11), .ref (ma 12), .ref (ma 13), .ref (ma 14), .ref (ma 15), .ref (ma 16), .ref (ma 17), .ref (ma 18), .ref (ma 19), .ref (ma 20), .int (sci 21), .int (nI ((kN S (s_N S).length).length + AP.length)), .ref (ma 23), .ref (ma 24), .int (sci 25), .ref (ma 26), .ref (ma 27), .int (sci 28), .ref (ma 29)]) hE hinX8 tyX8 tyX8_ok nmX8 hMj.o rfl 22 (by decide) (List.mem_of_getElem? (i := 1) rfl) rfl rfl rfl (Nat.le_of_ble_eq_true rfl) rfl dX8_follows_160 ?_
      generalize hhh1 : x_up hj (ma 30) (.inr (8, [.int (sci 0), .int (sci 1), .ref (ma 2), .ref (ma 3), .ref (ma 4), .ref (ma 5), .ref (ma 6), .ref (ma 7), .int (sci 8), .ref (ma 9), .int (sci 10), .ref (ma 11), .ref (ma 12), .ref (ma 13), .ref (ma 14), .ref (ma 15), .ref (ma 16), .ref (ma 17), .ref (ma 18), .ref (ma 19), .ref (ma 20), .int (sci 21), .int (nI ((kN S (s_N S).length).length + AP.length)), .ref (ma 23), .ref (ma 24), .int (sci 25), .ref (ma 26), .ref (ma 27), .int (sci 28), .ref (ma 29)])) = h1
      have hM2 : mM G ma ow (upd sci 22 (nI ((kN S (s_N S).length).length + AP.length))) Rj h1 := by rw [← hhh1]; exact hMj.num (upd sci 22 (nI ((kN S (s_N S).length).length + AP.length)))
      obtain ⟨z1, z2, z3, z4⟩ := mov_end hv
      exact x_vret hE dX8_follows_163 (⟨rfl, _, _, _, hM2, z1, z2, z3, z4⟩)
    · replace c120 := x_nInle c120 (by omega) (by omega)
      refine x_aload_n hE dX8_follows_123 rfl rfl ?_
      refine x_get hE hinX8 hMj.o rfl 23 (by decide) (List.mem_of_getElem? (i := 4) rfl) rfl dX8_follows_124 ?_
      refine x_iload_n hE dX8_follows_127 rfl ?_
      refine x_aload_n hE dX8_follows_128 rfl rfl ?_
      refine x_get hE hinX8 hMj.o rfl 23 (by decide) (List.mem_of_getElem? (i := 4) rfl) rfl dX8_follows_129 ?_
      refine x_iload hE dX8_follows_132 rfl ?_
      refine x_iald (v := Rj 23 ((s_N S).length + j)) hE hMj.a23 (vp_in_nI (by omega) (by decide)) (x_atN _ (by omega)) dX8_follows_134 ?_
      refine x_iast (f' := (upd (Rj 23) ((kN S (s_N S).length).length + j) (Rj 23 ((s_N S).length + j)))) hE hMj.a23 (vp_in_nI (by omega) (by decide)) (x_updN _ (by omega) _) dX8_follows_135 ?_
      generalize hhh3 : x_up hj (ma 23) (.inl (g_c G 0, 1024, .inl (upd (Rj 23) ((kN S (s_N S).length).length + j) (Rj 23 ((s_N S).length + j))))) = h3
      have hM4 : mM G ma ow sci (rowUp Rj 23 (upd (Rj 23) ((kN S (s_N S).length).length + j) (Rj 23 ((s_N S).length + j)))) h3 := by rw [← hhh3]; exact hMj.set (k := 23) (by decide) _
      refine x_aload_n hE dX8_follows_136 rfl rfl ?_
      refine x_get hE hinX8 hM4.o rfl 24 (by decide) (List.mem_of_getElem? (i := 2) rfl) rfl dX8_follows_137 ?_
      refine x_iload_n hE dX8_follows_140 rfl ?_
      refine x_aload_n hE dX8_follows_141 rfl rfl ?_
      refine x_get hE hinX8 hM4.o rfl 24 (by decide) (List.mem_of_getElem? (i := 2) rfl) rfl dX8_follows_142 ?_
      refine x_iload hE dX8_follows_145 rfl ?_
      refine x_iald (v := Rj 24 ((s_N S).length + j)) hE hM4.a24 (vp_in_nI (by omega) (by decide)) ((x_atN _ (by omega)).trans (congrFun (rowUp_ne (by decide)) ((s_N S).length + j))) dX8_follows_147 ?_
      refine x_iast (f' := (upd (Rj 24) ((kN S (s_N S).length).length + j) (Rj 24 ((s_N S).length + j)))) hE hM4.a24 (vp_in_nI (by omega) (by decide)) ((x_updN _ (by omega) _).trans (by rw [rowUp_ne (by decide)])) dX8_follows_148 ?_
      generalize hhh5 : x_up h3 (ma 24) (.inl (g_c G 0, 1024, .inl (upd (Rj 24) ((kN S (s_N S).length).length + j) (Rj 24 ((s_N S).length + j))))) = h5
      have hM6 : mM G ma ow sci (rowUp (rowUp Rj 23 (upd (Rj 23) ((kN S (s_N S).length).length + j) (Rj 23 ((s_N S).length + j)))) 24 (upd (Rj 24) ((kN S (s_N S).length).length + j) (Rj 24 ((s_N S).length + j)))) h5 := by rw [← hhh5]; exact hM4.set (k := 24) (by decide) _
      refine x_iinc (v := nI (((kN S (s_N S).length).length + j) + 1)) (L' := [some (.ref (ma 30)), some (.int (nI (s_N S).length)), some (.int (nI (((kN S (s_N S).length).length + j) + 1))), some (.int (nI (s_N S).length)), some (.int (nI ((s_N S).length + j)))]) hE dX8_follows_149 rfl (nI_1 _) rfl ?_
      refine x_iinc (v := nI (((s_N S).length + j) + 1)) (L' := [some (.ref (ma 30)), some (.int (nI (s_N S).length)), some (.int (nI (((kN S (s_N S).length).length + j) + 1))), some (.int (nI (s_N S).length)), some (.int (nI (((s_N S).length + j) + 1)))]) hE dX8_follows_152 rfl (nI_1 _) rfl ?_
      refine x_goto (tgt := 114) hE dX8_follows_155 (by decide) ?_
      refine x_Leq (L' := [some (.ref (ma 30)), some (.int (nI (s_N S).length)), some (.int (nI ((kN S (s_N S).length).length + (j + 1)))), some (.int (nI (s_N S).length)), some (.int (nI ((s_N S).length + (j + 1))))]) rfl ?_
      exact ih (j + 1) (by omega) (by omega) h5 _ hM6 (movI_s hv (by omega))
  · replace c18 := x_nInle c18 (by omega) (by omega)
    obtain ⟨x, hx⟩ : ∃ x, (s_N S)[k]? = some x := ⟨_, List.getElem?_eq_getElem c18⟩
    have hg := f6.get hx
    have hxN := hp.2.1 x (List.mem_of_getElem? hx)
    have ht2 := hp.2.2.2.1
    refine x_aload_n hE dX8_follows_21 rfl rfl ?_
    refine x_get hE hinX8 hMi.o rfl 24 (by decide) (List.mem_of_getElem? (i := 2) rfl) rfl dX8_follows_22 ?_
    refine x_iload hE dX8_follows_25 rfl ?_
    refine x_iald (v := nI x.2) hE hMi.a24 (vp_in_nI (by omega) (by decide)) ((x_atN _ (by omega)).trans hg.2) dX8_follows_27 ?_
    refine x_aload_n hE dX8_follows_28 rfl rfl ?_
    refine x_get hE hinX8 hMi.o rfl 0 (by decide) (List.mem_of_getElem? (i := 3) rfl) rfl dX8_follows_29 ?_
    refine x_ieq (y := nI (s_t S + 1)) (by rw [f3.1, k5]) ?_
    refine x_icmp_ne (tgt := 76) hE dX8_follows_32 (by decide) (fun c32 => ?_) (fun c32 => ?_)
    · have hd : ¬ x.2 = s_t S + 1 := fun z => c32 (by rw [z])
      have ek := (dN_n hx hd).2
      refine x_aload_n hE dX8_follows_76 rfl rfl ?_
      refine x_get hE hinX8 hMi.o rfl 23 (by decide) (List.mem_of_getElem? (i := 4) rfl) rfl dX8_follows_77 ?_
      refine x_iload_n hE dX8_follows_80 rfl ?_
      refine x_aload_n hE dX8_follows_81 rfl rfl ?_
      refine x_get hE hinX8 hMi.o rfl 23 (by decide) (List.mem_of_getElem? (i := 4) rfl) rfl dX8_follows_82 ?_
      refine x_iload hE dX8_follows_85 rfl ?_
      refine x_iald (v := Ri 23 k) hE hMi.a23 (vp_in_nI (by omega) (by decide)) (x_atN _ (by omega)) dX8_follows_87 ?_
      refine x_iast (f' := (upd (Ri 23) ((kN S k).length) (Ri 23 k))) hE hMi.a23 (vp_in_nI (by omega) (by decide)) (x_updN _ (by omega) _) dX8_follows_88 ?_
      generalize hhh7 : x_up hi (ma 23) (.inl (g_c G 0, 1024, .inl (upd (Ri 23) ((kN S k).length) (Ri 23 k)))) = h7
      have hM8 : mM G ma ow sci (rowUp Ri 23 (upd (Ri 23) ((kN S k).length) (Ri 23 k))) h7 := by rw [← hhh7]; exact hMi.set (k := 23) (by decide) _
      refine x_aload_n hE dX8_follows_89 rfl rfl ?_
      refine x_get hE hinX8 hM8.o rfl 24 (by decide) (List.mem_of_getElem? (i := 2) rfl) rfl dX8_follows_90 ?_
      refine x_iload_n hE dX8_follows_93 rfl ?_
      refine x_aload_n hE dX8_follows_94 rfl rfl ?_
      refine x_get hE hinX8 hM8.o rfl 24 (by decide) (List.mem_of_getElem? (i := 2) rfl) rfl dX8_follows_95 ?_
      refine x_iload hE dX8_follows_98 rfl ?_
      refine x_iald (v := Ri 24 k) hE hM8.a24 (vp_in_nI (by omega) (by decide)) ((x_atN _ (by omega)).trans (congrFun (rowUp_ne (by decide)) k)) dX8_follows_100 ?_
      refine x_iast (f' := (upd (Ri 24) ((kN S k).length) (Ri 24 k))) hE hM8.a24 (vp_in_nI (by omega) (by decide)) ((x_updN _ (by omega) _).trans (by rw [rowUp_ne (by decide)])) dX8_follows_101 ?_
      generalize hhh9 : x_up h7 (ma 24) (.inl (g_c G 0, 1024, .inl (upd (Ri 24) ((kN S k).length) (Ri 24 k)))) = h9
      have hM10 : mM G ma ow sci (rowUp (rowUp Ri 23 (upd (Ri 23) ((kN S k).length) (Ri 23 k))) 24 (upd (Ri 24) ((kN S k).length) (Ri 24 k))) h9 := by rw [← hhh9]; exact hM8.set (k := 24) (by decide) _
      refine x_iinc (v := (nI (kN S k).length) + nI 1) (L' := [some (.ref (ma 30)), some (.int (nI (s_N S).length)), some (.int ((nI (kN S k).length) + nI 1)), some (.int (nI (s_N S).length)), some (.int (nI k))]) hE dX8_follows_102 rfl rfl rfl ?_
      have eL : nI (kN S k).length + nI 1 = nI (kN S (k + 1)).length := by rw [ek, List.length_append]; exact nI_add _ _
      refine x_Leq (L' := [some (.ref (ma 30)), some (.int (nI (s_N S).length)), some (.int (nI (kN S (k + 1)).length)), some (.int (nI (s_N S).length)), some (.int (nI k))]) (by rw [eL]) ?_
      refine x_iinc (v := nI (k + 1)) (L' := [some (.ref (ma 30)), some (.int (nI (s_N S).length)), some (.int (nI (kN S (k + 1)).length)), some (.int (nI (s_N S).length)), some (.int (nI (k + 1)))]) hE dX8_follows_105 rfl (nI_1 _) rfl ?_
      refine x_goto (tgt := 15) hE dX8_follows_108 (by decide) ?_
      exact ih (k + 1) (by omega) (by omega) h9 _ _ _ AP hM10 (folI_keep hf hx hd)
    · replace c32 := x_nIinj c32 (by omega) (by omega)
      have hbI := hp.2.2.2.2.1 (dN S k) (List.getElem?_eq_some_iff.mp (due_get hx c32)).1
      have ek := (dN_y hx c32).2
      have hcC : x.1 < s_C (stI S (dN S k)) := by rw [k4]; exact hxN.1
      refine x_aload_n hE dX8_follows_35 rfl rfl ?_
      refine x_aload_n hE dX8_follows_36 rfl rfl ?_
      refine x_get hE hinX8 hMi.o rfl 23 (by decide) (List.mem_of_getElem? (i := 4) rfl) rfl dX8_follows_37 ?_
      refine x_iload hE dX8_follows_40 rfl ?_
      refine x_iald (v := nI x.1) hE hMi.a23 (vp_in_nI (by omega) (by decide)) ((x_atN _ (by omega)).trans hg.1) dX8_follows_42 ?_
      refine x_callV (ci := 8) (st := []) hE 1 (c_X8_mayGo G hMi f3.2.1 f3.2.2.1 f3.2.2.2.1 (by rw [k2]; exact hb) (by rw [k4]; exact hC12) hcC (f3.2.2.2.2.2.2.1.to (by rw [k1, k4]; exact hto)) hbI.1 f3.2.2.2.2.2.2.2.1) gX8_follows_X8_mayGo rfl rfl rfl (by decide +kernel) ⟨Nat.le_of_ble_eq_true rfl, Nat.le_of_ble_eq_true rfl⟩ hMi.o rfl rfl rfl dX8_follows_43 rfl (Nat.le_of_ble_eq_true rfl) ⟨Nat.le_of_ble_eq_true rfl, Nat.le_of_ble_eq_true rfl⟩ (fun v h3 hp => ?_)
      obtain ⟨rfl, R3, hM3, s3⟩ := hp
      refine x_ieq (y := b2i (canP (s_ar (stI S (dN S k))) (s_L (stI S (dN S k))) (s_B (stI S (dN S k))) (s_G (stI S (dN S k))) x.1)) (by rw [f3.2.2.2.2.2.2.1.can]) ?_
      have hf3 := hf.sR s3
      have hg3 := hf3.2.2.2.2.2.1.get hx
      rw [← ek]
      refine x_if_eq (tgt := 63) hE dX8_follows_46 (by decide) (fun c46 => ?_) (fun c46 => ?_)
      · have hcn : ¬ canP (s_ar (stI S (dN S k))) (s_L (stI S (dN S k))) (s_B (stI S (dN S k))) (s_G (stI S (dN S k))) x.1 = true := fun z => by rw [z] at c46; exact absurd c46 (by decide)
        refine x_aload_n hE dX8_follows_63 rfl rfl ?_
        refine x_dup hE dX8_follows_64 rfl ?_
        refine x_get hE hinX8 hM3.o rfl 25 (by decide) (List.mem_of_getElem? (i := 5) rfl) rfl dX8_follows_65 ?_
        refine x_iconst (v := nI 1) hE dX8_follows_68 (by decide) ?_
        refine x_iadd hE dX8_follows_69 ?_
        refine x_ieq (y := nI (s_b (stI S (dN S k)) + 1)) (by rw [f3.2.2.2.2.2.1]; exact nI_1 _) ?_
        refine x_put (fs' := [.int (sci 0), .int (sci 1), .ref (ma 2), .ref (ma 3), .ref (ma 4), .ref (ma 5), .ref (ma 6), .ref (ma 7), .int (sci 8), .ref (ma 9), .int (sci 10), .ref (ma 11), .ref (ma 12), .ref (ma 13), .ref (ma 14), .ref (ma 15), .ref (ma 16), .ref (ma 17), .ref (ma 18), .ref (ma 19), .ref (ma 20), .int (sci 21), .int (sci 22), .ref (ma 23), .ref (ma 24), .int (nI (s_b (stI S (dN S k)) + 1)), .ref (ma 26), .ref (ma 27), .int (sci 28), .ref (ma 29)]) hE hinX8 tyX8 tyX8_ok nmX8 hM3.o rfl 25 (by decide) (List.mem_of_getElem? (i := 5) rfl) rfl rfl rfl (Nat.le_of_ble_eq_true rfl) rfl dX8_follows_70 ?_
        generalize hhh11 : x_up h3 (ma 30) (.inr (8, [.int (sci 0), .int (sci 1), .ref (ma 2), .ref (ma 3), .ref (ma 4), .ref (ma 5), .ref (ma 6), .ref (ma 7), .int (sci 8), .ref (ma 9), .int (sci 10), .ref (ma 11), .ref (ma 12), .ref (ma 13), .ref (ma 14), .ref (ma 15), .ref (ma 16), .ref (ma 17), .ref (ma 18), .ref (ma 19), .ref (ma 20), .int (sci 21), .int (sci 22), .ref (ma 23), .ref (ma 24), .int (nI (s_b (stI S (dN S k)) + 1)), .ref (ma 26), .ref (ma 27), .int (sci 28), .ref (ma 29)])) = h11
        have hM12 : mM G ma ow (upd sci 25 (nI (s_b (stI S (dN S k)) + 1))) R3 h11 := by rw [← hhh11]; exact hM3.num (upd sci 25 (nI (s_b (stI S (dN S k)) + 1)))
        refine x_goto (tgt := 105) hE dX8_follows_73 (by decide) ?_
        refine x_iinc (v := nI (k + 1)) (L' := [some (.ref (ma 30)), some (.int (nI (s_N S).length)), some (.int (nI (kN S (k + 1)).length)), some (.int (nI (s_N S).length)), some (.int (nI (k + 1)))]) hE dX8_follows_105 rfl (nI_1 _) rfl ?_
        refine x_goto (tgt := 15) hE dX8_follows_108 (by decide) ?_
        exact ih (k + 1) (by omega) (by omega) h11 _ _ _ AP hM12 (folI_bar hf3 hx c32 hcn)
      · have hcn := b2i_n0.mp c46
        refine x_aload_n hE dX8_follows_49 rfl rfl ?_
        refine x_aload_n hE dX8_follows_50 rfl rfl ?_
        refine x_get hE hinX8 hM3.o rfl 23 (by decide) (List.mem_of_getElem? (i := 4) rfl) rfl dX8_follows_51 ?_
        refine x_iload hE dX8_follows_54 rfl ?_
        refine x_iald (v := nI x.1) hE hM3.a23 (vp_in_nI (by omega) (by decide)) ((x_atN _ (by omega)).trans hg3.1) dX8_follows_56 ?_
        refine x_callV (ci := 8) (st := []) hE 1 (c_X8_goes G hM3 (by omega : x.1 < 12) (by rw [f3.1, k5] : sci 0 = nI (s_t S + 1)) f3.2.2.2.2.1 f4 (by omega)) gX8_follows_X8_goes rfl rfl rfl (by decide +kernel) ⟨Nat.le_of_ble_eq_true rfl, Nat.le_of_ble_eq_true rfl⟩ hM3.o rfl rfl rfl dX8_follows_57 rfl (Nat.le_of_ble_eq_true rfl) ⟨Nat.le_of_ble_eq_true rfl, Nat.le_of_ble_eq_true rfl⟩ (fun v h4 hp => ?_)
        obtain ⟨rfl, R4, sc4, hM4, hg4⟩ := hp
        obtain ⟨AP', hf4⟩ := folI_go hf3 hx c32 hcn hxN.1 hC12 (by have := hbI.2.1; rw [k1, k4] at this; exact this) hg4
        refine x_goto (tgt := 105) hE dX8_follows_60 (by decide) ?_
        refine x_iinc (v := nI (k + 1)) (L' := [some (.ref (ma 30)), some (.int (nI (s_N S).length)), some (.int (nI (kN S (k + 1)).length)), some (.int (nI (s_N S).length)), some (.int (nI (k + 1)))]) hE dX8_follows_105 rfl (nI_1 _) rfl ?_
        refine x_goto (tgt := 15) hE dX8_follows_108 (by decide) ?_
        exact ih (k + 1) (by omega) (by omega) h4 _ _ _ AP' hM4 hf4
