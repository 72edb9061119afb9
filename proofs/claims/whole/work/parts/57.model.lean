theorem row29 (R : Nat → Nat → Int32) (f J : Nat → Int32) : rowUp (rowUp R 29 f) 29 J = rowUp R 29 J := by
  funext j
  unfold rowUp
  by_cases b : j = 29
  · subst b; simp
  · simp [b]
theorem row_id1 (R : Nat → Nat → Int32) (a : Nat) : rowUp R a (R a) = R := by
  funext j
  unfold rowUp
  by_cases b1 : j = a
  · rw [if_pos b1, b1]
  · rw [if_neg b1]
/-- alike but for the scratch rows -/
def sR (R R' : Nat → Nat → Int32) : Prop := ∀ k, k ≠ 26 → k ≠ 27 → k ≠ 29 → R' k = R k
theorem sR.refl (R : Nat → Nat → Int32) : sR R R := fun _ _ _ _ => rfl
theorem sR.trans {R R' R2 : Nat → Nat → Int32} (h1 : sR R R') (h2 : sR R' R2) : sR R R2 := fun k a b c => (h2 k a b c).trans (h1 k a b c)
theorem sR.up {R R' : Nat → Nat → Int32} {k : Nat} {f : Nat → Int32} (h : sR R R') (hk : k = 26 ∨ k = 27 ∨ k = 29) : sR R (rowUp R' k f) := fun j a b c => by
  rw [rowUp_ne (by omega)]
  exact h j a b c
theorem sR.told {R R' : Nat → Nat → Int32} (h : sR R R') (c : Nat) : toldF R' c = toldF R c := by
  unfold toldF
  rw [h 14 (by decide) (by decide) (by decide)]
theorem sR.arr {R R' : Nat → Nat → Int32} (h : sR R R') (L : Nat) (B : Int32) (T : Nat → Int32) (n : Nat) : arrF L R' B T n = arrF L R B T n := arrF_same ⟨h 2 (by decide) (by decide) (by decide), h 3 (by decide) (by decide) (by decide), h 4 (by decide) (by decide) (by decide), h 7 (by decide) (by decide) (by decide)⟩ L B T n
theorem sR.lev {R R' : Nat → Nat → Int32} (h : sR R R') (L : Nat) (B : Int32) (c i : Nat) : levP R' L B c i = levP R L B c i := by
  unfold levP cuD
  dsimp only
  rw [h.told, h.arr]
set_option maxHeartbeats 4000000 in
set_option maxRecDepth 100000 in
theorem c_X8_raises (G : XG) {ma ow : Nat → Nat} {sc : Nat → Int32} {R : Nat → Nat → Int32} {h : HM} (hM : mM G ma ow sc R h) {L c : Nat} {B : Int32} (hn : sc 1 = nI L) (hB : sc 8 = B) (hb : L ≤ 16) (hc : c < 12) (hT : ∀ i, i < 16 → ∃ v, v ≤ 100 ∧ R 14 (16 * c + i) = nI v) : x_M G yX8_raises wsX8_raises ({ frames := 4, cells := 0, slots := 0, locals := 90 } : Room) [.ref (ma 30), .int (nI c)] h (fun v h' => v = none ∧ ∃ R' : Nat → Nat → Int32, mM G ma ow sc R' h' ∧ sR R R' ∧ ∀ j, j < L → R' 29 j = maxI (R 29 j) (levP R L B c j)) 0 0 := by
  refine x_M.of (cc := cX8_raises) (maxL := 3) (ret := none) (ent := [some (.ref (ma 30)), some (.int (nI c)), none]) (by decide +kernel) rfl (Nat.le_of_ble_eq_true rfl) rfl rfl ?_
  intro F hE hname
  have hinX8 : ∀ w ∈ wsX80, w ∈ wsX8_raises := by decide +kernel
  refine x_aload_n hE dX8_raises_0 rfl rfl ?_
  refine x_iload_n hE dX8_raises_1 rfl ?_
  refine x_callV (ci := 8) (st := []) hE 1 (c_X8_finds G hM hn hB hb hc hT) gX8_raises_X8_finds rfl rfl rfl (by decide +kernel) ⟨Nat.le_of_ble_eq_true rfl, Nat.le_of_ble_eq_true rfl⟩ hM.o rfl rfl rfl dX8_raises_2 rfl (Nat.le_of_ble_eq_true rfl) ⟨Nat.le_of_ble_eq_true rfl, Nat.le_of_ble_eq_true rfl⟩ (fun v h1 hp => ?_)
  obtain ⟨rfl, I, Sh, hM1, hIS⟩ := hp
  generalize hR1 : rowUp (rowUp R 26 I) 27 Sh = R1 at hM1
  have s1 : sR R R1 := by rw [← hR1]; exact ((sR.refl R).up (Or.inl rfl)).up (Or.inr (Or.inl rfl))
  have i26 : ∀ j, j < L → R1 26 j = levP R L B c j := fun j hj => by rw [← hR1]; exact (hIS j hj).1
  have i29 : R1 29 = R 29 := by rw [← hR1]; rfl
  clear hIS
  refine x_iconst (v := nI 0) hE dX8_raises_5 (by decide) ?_
  refine x_istore_n (L' := [some (.ref (ma 30)), some (.int (nI c)), some (.int (nI 0))]) hE dX8_raises_6 rfl (Nat.le_of_ble_eq_true rfl) rfl ?_
  refine x_down (N := L) (P := fun i => ∀ (hi : HM) (Gt : Nat → Int32), mM G ma ow sc (rowUp R1 29 Gt) hi → (∀ j, (j < i → Gt j = maxI (R 29 j) (levP R L B c j)) ∧ (i ≤ j → Gt j = R 29 j)) → x_W G F (x_Q G F (fun v h' => v = none ∧ ∃ R' : Nat → Nat → Int32, mM G ma ow sc R' h' ∧ sR R R' ∧ ∀ j, j < L → R' 29 j = maxI (R 29 j) (levP R L B c j)) 0 0) 0 0 hi 7 [some (.ref (ma 30)), some (.int (nI c)), some (.int (nI i))] []) (fun i hiN ih => ?_) 0 (by omega) h1 (R1 29) (by rw [row_id1]; exact hM1) (fun j => ⟨fun hj => absurd hj (by omega), fun _ => by rw [i29]⟩)
  intro hi Gt hMi hG1
  refine x_iload_n hE dX8_raises_7 rfl ?_
  refine x_aload_n hE dX8_raises_8 rfl rfl ?_
  refine x_get hE hinX8 hMi.o rfl 1 (by decide) (List.mem_of_getElem? (i := 1) rfl) rfl dX8_raises_9 ?_
  refine x_ieq (y := nI L) (hn) ?_
  refine x_icmp_ge (tgt := 57) hE dX8_raises_12 (by decide) (fun c12 => ?_) (fun c12 => ?_)
  · replace c12 := x_nIle c12 (by omega) (by omega)
    obtain rfl : i = L := by omega
    exact x_vret hE dX8_raises_57 (⟨rfl, _, hMi, s1.up (Or.inr (Or.inr rfl)), fun j hj => by rw [rowUp_at]; exact (hG1 j).1 hj⟩)
  · replace c12 := x_nInle c12 (by omega) (by omega)
    refine x_aload_n hE dX8_raises_15 rfl rfl ?_
    refine x_get hE hinX8 hMi.o rfl 29 (by decide) (List.mem_of_getElem? (i := 2) rfl) rfl dX8_raises_16 ?_
    refine x_iload_n hE dX8_raises_19 rfl ?_
    refine x_aload_n hE dX8_raises_20 rfl rfl ?_
    refine x_get hE hinX8 hMi.o rfl 26 (by decide) (List.mem_of_getElem? (i := 3) rfl) rfl dX8_raises_21 ?_
    refine x_iload_n hE dX8_raises_24 rfl ?_
    refine x_iald (v := levP R L B c i) hE hMi.a26 (vp_in_nI (by omega) (by decide)) ((x_atN _ (by omega)).trans (i26 i (by omega))) dX8_raises_25 ?_
    refine x_aload_n hE dX8_raises_26 rfl rfl ?_
    refine x_get hE hinX8 hMi.o rfl 29 (by decide) (List.mem_of_getElem? (i := 2) rfl) rfl dX8_raises_27 ?_
    refine x_iload_n hE dX8_raises_30 rfl ?_
    refine x_iald (v := R 29 i) hE hMi.a29 (vp_in_nI (by omega) (by decide)) ((x_atN _ (by omega)).trans ((hG1 i).2 (Nat.le_refl i))) dX8_raises_31 ?_
    refine x_icmp_le (tgt := 44) hE dX8_raises_32 (by decide) (fun cc => ?_) (fun cc => ?_)
    · refine x_aload_n hE dX8_raises_44 rfl rfl ?_
      refine x_get hE hinX8 hMi.o rfl 29 (by decide) (List.mem_of_getElem? (i := 2) rfl) rfl dX8_raises_45 ?_
      refine x_iload_n hE dX8_raises_48 rfl ?_
      refine x_iald (v := R 29 i) hE hMi.a29 (vp_in_nI (by omega) (by decide)) ((x_atN _ (by omega)).trans ((hG1 i).2 (Nat.le_refl i))) dX8_raises_49 ?_
      refine x_ieq (y := maxI (R 29 i) (levP R L B c i)) (by unfold maxI; rw [if_neg (fun z => (x_lei.mp z) cc)]) ?_
      refine x_iast (f' := (upd Gt i (maxI (R 29 i) (levP R L B c i)))) hE hMi.a29 (vp_in_nI (by omega) (by decide)) (x_updN _ (by omega) _) dX8_raises_50 ?_
      generalize hhh1 : x_up hi (ma 29) (.inl (g_c G 0, 16, .inl (upd Gt i (maxI (R 29 i) (levP R L B c i))))) = h1
      have hM2 : mM G ma ow sc (rowUp R1 29 (upd Gt i (maxI (R 29 i) (levP R L B c i)))) h1 := by rw [← hhh1, ← row29 R1 Gt]; exact hMi.set (k := 29) (by decide) _
      refine x_iinc (v := nI (i + 1)) (L' := [some (.ref (ma 30)), some (.int (nI c)), some (.int (nI (i + 1)))]) hE dX8_raises_51 rfl (nI_1 _) rfl ?_
      refine x_goto (tgt := 7) hE dX8_raises_54 (by decide) ?_
      exact ih (i + 1) (by omega) (by omega) h1 _ hM2 (fun j => ⟨fun hj => (Nat.lt_or_ge j i).elim (fun z => by rw [upd_ne (by omega)]; exact (hG1 j).1 z) (fun z => by obtain rfl : i = j := (by omega); exact upd_at _ _ _), fun hj => by rw [upd_ne (by omega)]; exact (hG1 j).2 (by omega)⟩)
    · refine x_aload_n hE dX8_raises_35 rfl rfl ?_
      refine x_get hE hinX8 hMi.o rfl 26 (by decide) (List.mem_of_getElem? (i := 3) rfl) rfl dX8_raises_36 ?_
      refine x_iload_n hE dX8_raises_39 rfl ?_
      refine x_iald (v := levP R L B c i) hE hMi.a26 (vp_in_nI (by omega) (by decide)) ((x_atN _ (by omega)).trans (i26 i (by omega))) dX8_raises_40 ?_
      refine x_ieq (y := maxI (R 29 i) (levP R L B c i)) (by unfold maxI; rw [if_pos (x_lei.mpr cc)]) ?_
      refine x_goto (tgt := 50) hE dX8_raises_41 (by decide) ?_
      refine x_iast (f' := (upd Gt i (maxI (R 29 i) (levP R L B c i)))) hE hMi.a29 (vp_in_nI (by omega) (by decide)) (x_updN _ (by omega) _) dX8_raises_50 ?_
      generalize hhh3 : x_up hi (ma 29) (.inl (g_c G 0, 16, .inl (upd Gt i (maxI (R 29 i) (levP R L B c i))))) = h3
      have hM4 : mM G ma ow sc (rowUp R1 29 (upd Gt i (maxI (R 29 i) (levP R L B c i)))) h3 := by rw [← hhh3, ← row29 R1 Gt]; exact hMi.set (k := 29) (by decide) _
      refine x_iinc (v := nI (i + 1)) (L' := [some (.ref (ma 30)), some (.int (nI c)), some (.int (nI (i + 1)))]) hE dX8_raises_51 rfl (nI_1 _) rfl ?_
      refine x_goto (tgt := 7) hE dX8_raises_54 (by decide) ?_
      exact ih (i + 1) (by omega) (by omega) h3 _ hM4 (fun j => ⟨fun hj => (Nat.lt_or_ge j i).elim (fun z => by rw [upd_ne (by omega)]; exact (hG1 j).1 z) (fun z => by obtain rfl : i = j := (by omega); exact upd_at _ _ _), fun hj => by rw [upd_ne (by omega)]; exact (hG1 j).2 (by omega)⟩)
