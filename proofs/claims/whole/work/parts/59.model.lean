theorem grtM_no {R : Nat → Nat → Int32} {L : Nat} {B : Int32} {c j k : Nat} (h : ¬ actU R k = true) : grtM R L B c j k = grtM R L B c j (k + 1) := by
  conv => rhs; unfold grtM
  rw [if_neg h]
theorem grtM_yes {R : Nat → Nat → Int32} {L : Nat} {B : Int32} {c j k : Nat} (h : actU R k = true) : grtM R L B c j (k + 1) = maxI (grtM R L B c j k) (levP R L B k j) := by
  conv => lhs; unfold grtM
  rw [if_pos h]
set_option maxHeartbeats 4000000 in
set_option maxRecDepth 100000 in
theorem c_X8_asked (G : XG) {ma ow : Nat → Nat} {sc : Nat → Int32} {R : Nat → Nat → Int32} {h : HM} (hM : mM G ma ow sc R h) {L C gn c : Nat} {B : Int32} {GL : List GG} (hn : sc 1 = nI L) (hB : sc 8 = B) (hnC : sc 10 = nI C) (hb : L ≤ 16) (hC12 : C ≤ 12) (hc : c < C) (hto : toI R C) (hg : gI C GL) (hr : gR R C gn GL) (ph : Int32) : x_M G yX8_asked wsX8_asked ({ frames := 5, cells := 0, slots := 0, locals := 112 } : Room) [.ref (ma 30), .int (nI c), .int ph] h (fun v h' => v = some (.int (askP R L B GL c ph)) ∧ ∃ R' : Nat → Nat → Int32, mM G ma ow sc R' h' ∧ sR R R') 0 0 := by
  refine x_M.of (cc := cX8_asked) (maxL := 5) (ret := (some .int)) (ent := [some (.ref (ma 30)), some (.int (nI c)), some (.int ph), none, none]) (by decide +kernel) rfl (Nat.le_of_ble_eq_true rfl) rfl rfl ?_
  intro F hE hname
  have hinX8 : ∀ w ∈ wsX80, w ∈ wsX8_asked := by decide +kernel
  refine x_iconst (v := nI 0) hE dX8_asked_0 (by decide) ?_
  refine x_istore_n (L' := [some (.ref (ma 30)), some (.int (nI c)), some (.int ph), some (.int (nI 0)), none]) hE dX8_asked_1 rfl (Nat.le_of_ble_eq_true rfl) rfl ?_
  refine x_down (N := L) (P := fun i => ∀ (hi : HM) (Z : Nat → Int32), mM G ma ow sc (rowUp R 29 Z) hi → (∀ j, j < i → Z j = 0) → x_W G F (x_Q G F (fun v h' => v = some (.int (askP R L B GL c ph)) ∧ ∃ R' : Nat → Nat → Int32, mM G ma ow sc R' h' ∧ sR R R') 0 0) 0 0 hi 2 [some (.ref (ma 30)), some (.int (nI c)), some (.int ph), some (.int (nI i)), none] []) (fun i hiN ih => ?_) 0 (by omega) h (R 29) (by rw [row_id1]; exact hM) (fun j hj => absurd hj (by omega))
  intro hi Z hMi hZ
  refine x_iload_n hE dX8_asked_2 rfl ?_
  refine x_aload_n hE dX8_asked_3 rfl rfl ?_
  refine x_get hE hinX8 hMi.o rfl 1 (by decide) (List.mem_of_getElem? (i := 1) rfl) rfl dX8_asked_4 ?_
  refine x_ieq (y := nI L) (hn) ?_
  refine x_icmp_ge (tgt := 23) hE dX8_asked_7 (by decide) (fun c7 => ?_) (fun c7 => ?_)
  · replace c7 := x_nIle c7 (by omega) (by omega)
    obtain rfl : i = L := by omega
    have s0 : sR R (rowUp R 29 Z) := (sR.refl R).up (Or.inr (Or.inr rfl))
    refine x_aload_n hE dX8_asked_23 rfl rfl ?_
    refine x_iload_n hE dX8_asked_24 rfl ?_
    refine x_callV (ci := 8) (st := []) hE 1 (c_X8_raises G hMi hn hB hb (by omega : c < 12) (fun i hi => by rw [s0 14 (by decide) (by decide) (by decide)]; exact hto _ i hc hi)) gX8_asked_X8_raises rfl rfl rfl (by decide +kernel) ⟨Nat.le_of_ble_eq_true rfl, Nat.le_of_ble_eq_true rfl⟩ hMi.o rfl rfl rfl dX8_asked_25 rfl (Nat.le_of_ble_eq_true rfl) ⟨Nat.le_of_ble_eq_true rfl, Nat.le_of_ble_eq_true rfl⟩ (fun v h2 hp => ?_)
    obtain ⟨rfl, R2, hM2, s2, hG2⟩ := hp
    have s3 := s0.trans s2
    have g3 : ∀ j, j < i → R2 29 j = grtM R i B c j 0 := fun j hj => by rw [hG2 j hj, rowUp_at, hZ j hj, s0.lev]; rfl
    clear hG2 s2 hZ ih
    refine x_iconst (v := nI 0) hE dX8_asked_28 (by decide) ?_
    refine x_istore_n (L' := [some (.ref (ma 30)), some (.int (nI c)), some (.int ph), some (.int (nI 0)), none]) hE dX8_asked_29 rfl (Nat.le_of_ble_eq_true rfl) rfl ?_
    refine x_down (N := C) (P := fun k => ∀ (hi : HM) (Rk : Nat → Nat → Int32), mM G ma ow sc Rk hi → sR R Rk → (∀ j, j < i → Rk 29 j = grtM R i B c j k) → x_W G F (x_Q G F (fun v h' => v = some (.int (askP R i B GL c ph)) ∧ ∃ R' : Nat → Nat → Int32, mM G ma ow sc R' h' ∧ sR R R') 0 0) 0 0 hi 30 [some (.ref (ma 30)), some (.int (nI c)), some (.int ph), some (.int (nI k)), none] []) (fun k hkN ih => ?_) 0 (by omega) h2 R2 hM2 s3 g3
    clear hM2 s3 g3
    intro hk Rk hMk hs hG
    refine x_iload_n hE dX8_asked_30 rfl ?_
    refine x_aload_n hE dX8_asked_31 rfl rfl ?_
    refine x_get hE hinX8 hMk.o rfl 10 (by decide) (List.mem_of_getElem? (i := 3) rfl) rfl dX8_asked_32 ?_
    refine x_ieq (y := nI C) (hnC) ?_
    refine x_icmp_ge (tgt := 68) hE dX8_asked_35 (by decide) (fun c35 => ?_) (fun c35 => ?_)
    · replace c35 := x_nIle c35 (by omega) (by omega)
      obtain rfl : k = C := by omega
      have hG9 : ∀ j, j < i → Rk 29 j = maxI (levP R i B c j) (GL.foldl (grtG R i B j) (nI 0)) := fun j hj => (hG j hj).trans (grt_is hg hr)
      clear hG ih
      refine x_iconst (v := nI 0) hE dX8_asked_68 (by decide) ?_
      refine x_istore_n (L' := [some (.ref (ma 30)), some (.int (nI c)), some (.int ph), some (.int (nI 0)), none]) hE dX8_asked_69 rfl (Nat.le_of_ble_eq_true rfl) rfl ?_
      refine x_iconst (v := nI 0) hE dX8_asked_70 (by decide) ?_
      refine x_istore (L' := [some (.ref (ma 30)), some (.int (nI c)), some (.int ph), some (.int (nI 0)), some (.int (nI 0))]) hE dX8_asked_71 (Nat.le_of_ble_eq_true rfl) rfl ?_
      refine x_down (N := i) (P := fun k9 => x_W G F (x_Q G F (fun v h' => v = some (.int (askP R i B GL c ph)) ∧ ∃ R' : Nat → Nat → Int32, mM G ma ow sc R' h' ∧ sR R R') 0 0) 0 0 hk 73 [some (.ref (ma 30)), some (.int (nI c)), some (.int ph), some (.int (askN R i B GL c ph k9)), some (.int (nI k9))] []) (fun k9 hkN9 ih => ?_) 0 (by omega)
      refine x_iload hE dX8_asked_73 rfl ?_
      refine x_aload_n hE dX8_asked_75 rfl rfl ?_
      refine x_get hE hinX8 hMk.o rfl 1 (by decide) (List.mem_of_getElem? (i := 1) rfl) rfl dX8_asked_76 ?_
      refine x_ieq (y := nI i) (hn) ?_
      refine x_icmp_ge (tgt := 121) hE dX8_asked_79 (by decide) (fun c79 => ?_) (fun c79 => ?_)
      · replace c79 := x_nIle c79 (by omega) (by omega)
        obtain rfl : k9 = i := by omega
        refine x_iload_n hE dX8_asked_121 rfl ?_
        refine x_bipush (v := nI 99) hE dX8_asked_122 (by decide) ?_
        refine x_iadd hE dX8_asked_124 ?_
        refine x_bipush (v := nI 100) hE dX8_asked_125 (by decide) ?_
        refine x_idiv hE dX8_asked_127 (by decide) ?_
        exact x_iret hE dX8_asked_128 (⟨by unfold askP; rw [askN_16 hb], Rk, hMk, hs⟩)
      · replace c79 := x_nInle c79 (by omega) (by omega)
        refine x_iload_n hE dX8_asked_82 rfl ?_
        refine x_aload_n hE dX8_asked_83 rfl rfl ?_
        refine x_get hE hinX8 hMk.o rfl 6 (by decide) (List.mem_of_getElem? (i := 6) rfl) rfl dX8_asked_84 ?_
        refine x_iload hE dX8_asked_87 rfl ?_
        refine x_iald (v := R 6 k9) hE hMk.a6 (vp_in_nI (by omega) (by decide)) ((x_atN _ (by omega)).trans (congrFun (hs 6 (by decide) (by decide) (by decide)) k9)) dX8_asked_89 ?_
        refine x_iload_n hE dX8_asked_90 rfl ?_
        refine x_icmp_ne (tgt := 112) hE dX8_asked_91 (by decide) (fun c91 => ?_) (fun c91 => ?_)
        · refine x_iconst (v := nI 0) hE dX8_asked_112 (by decide) ?_
          refine x_iadd hE dX8_asked_113 ?_
          refine x_ieq (y := askN R i B GL c ph k9) (Int32.add_zero _) ?_
          refine x_istore_n (L' := [some (.ref (ma 30)), some (.int (nI c)), some (.int ph), some (.int (askN R i B GL c ph k9)), some (.int (nI k9))]) hE dX8_asked_114 rfl (Nat.le_of_ble_eq_true rfl) rfl ?_
          refine x_iinc (v := nI (k9 + 1)) (L' := [some (.ref (ma 30)), some (.int (nI c)), some (.int ph), some (.int (askN R i B GL c ph k9)), some (.int (nI (k9 + 1)))]) hE dX8_asked_115 rfl (nI_1 _) rfl ?_
          refine x_goto (tgt := 73) hE dX8_asked_118 (by decide) ?_
          have e2 := ih (k9 + 1) (by omega) (by omega)
          rw [askN_n (fun z => c91 z.2)] at e2
          exact e2
        · refine x_aload_n hE dX8_asked_94 rfl rfl ?_
          refine x_get hE hinX8 hMk.o rfl 5 (by decide) (List.mem_of_getElem? (i := 7) rfl) rfl dX8_asked_95 ?_
          refine x_iload hE dX8_asked_98 rfl ?_
          refine x_iald (v := R 5 k9) hE hMk.a5 (vp_in_nI (by omega) (by decide)) ((x_atN _ (by omega)).trans (congrFun (hs 5 (by decide) (by decide) (by decide)) k9)) dX8_asked_100 ?_
          refine x_aload_n hE dX8_asked_101 rfl rfl ?_
          refine x_get hE hinX8 hMk.o rfl 29 (by decide) (List.mem_of_getElem? (i := 2) rfl) rfl dX8_asked_102 ?_
          refine x_iload hE dX8_asked_105 rfl ?_
          refine x_iald (v := maxI (levP R i B c k9) (GL.foldl (grtG R i B k9) (nI 0))) hE hMk.a29 (vp_in_nI (by omega) (by decide)) ((x_atN _ (by omega)).trans (hG9 k9 (by omega))) dX8_asked_107 ?_
          refine x_imul hE dX8_asked_108 ?_
          refine x_goto (tgt := 113) hE dX8_asked_109 (by decide) ?_
          refine x_iadd hE dX8_asked_113 ?_
          refine x_istore_n (L' := [some (.ref (ma 30)), some (.int (nI c)), some (.int ph), some (.int ((askN R i B GL c ph k9) + ((R 5 k9) * (maxI (levP R i B c k9) (GL.foldl (grtG R i B k9) (nI 0)))))), some (.int (nI k9))]) hE dX8_asked_114 rfl (Nat.le_of_ble_eq_true rfl) rfl ?_
          refine x_iinc (v := nI (k9 + 1)) (L' := [some (.ref (ma 30)), some (.int (nI c)), some (.int ph), some (.int ((askN R i B GL c ph k9) + ((R 5 k9) * (maxI (levP R i B c k9) (GL.foldl (grtG R i B k9) (nI 0)))))), some (.int (nI (k9 + 1)))]) hE dX8_asked_115 rfl (nI_1 _) rfl ?_
          refine x_goto (tgt := 73) hE dX8_asked_118 (by decide) ?_
          have e2 := ih (k9 + 1) (by omega) (by omega)
          rw [askN_y ⟨by omega, c91⟩] at e2
          exact e2
    · replace c35 := x_nInle c35 (by omega) (by omega)
      refine x_aload_n hE dX8_asked_38 rfl rfl ?_
      refine x_get hE hinX8 hMk.o rfl 17 (by decide) (List.mem_of_getElem? (i := 4) rfl) rfl dX8_asked_39 ?_
      refine x_iload_n hE dX8_asked_42 rfl ?_
      refine x_zald (v := R 17 k) hE hMk.a17 (vp_in_nI (by omega) (by decide)) ((x_atN _ (by omega)).trans (congrFun (hs 17 (by decide) (by decide) (by decide)) k)) dX8_asked_43 ?_
      refine x_if_eq (tgt := 62) hE dX8_asked_44 (by decide) (fun c44 => ?_) (fun c44 => ?_)
      · refine x_iinc (v := nI (k + 1)) (L' := [some (.ref (ma 30)), some (.int (nI c)), some (.int ph), some (.int (nI (k + 1))), none]) hE dX8_asked_62 rfl (nI_1 _) rfl ?_
        refine x_goto (tgt := 30) hE dX8_asked_65 (by decide) ?_
        exact ih (k + 1) (by omega) (by omega) hk Rk hMk hs (fun j hj => (hG j hj).trans (grtM_no (by unfold actU; simp [c44])))
      · refine x_aload_n hE dX8_asked_47 rfl rfl ?_
        refine x_get hE hinX8 hMk.o rfl 20 (by decide) (List.mem_of_getElem? (i := 5) rfl) rfl dX8_asked_48 ?_
        refine x_iload_n hE dX8_asked_51 rfl ?_
        refine x_iald (v := R 20 k) hE hMk.a20 (vp_in_nI (by omega) (by decide)) ((x_atN _ (by omega)).trans (congrFun (hs 20 (by decide) (by decide) (by decide)) k)) dX8_asked_52 ?_
        refine x_iconst (v := (-1 : Int32)) hE dX8_asked_53 (by decide) ?_
        refine x_icmp_ne (tgt := 62) hE dX8_asked_54 (by decide) (fun c54 => ?_) (fun c54 => ?_)
        · refine x_iinc (v := nI (k + 1)) (L' := [some (.ref (ma 30)), some (.int (nI c)), some (.int ph), some (.int (nI (k + 1))), none]) hE dX8_asked_62 rfl (nI_1 _) rfl ?_
          refine x_goto (tgt := 30) hE dX8_asked_65 (by decide) ?_
          exact ih (k + 1) (by omega) (by omega) hk Rk hMk hs (fun j hj => (hG j hj).trans (grtM_no (by unfold actU; simp [c54])))
        · have hu : actU R k = true := by unfold actU; simp [c44, c54]
          refine x_aload_n hE dX8_asked_57 rfl rfl ?_
          refine x_iload_n hE dX8_asked_58 rfl ?_
          refine x_callV (ci := 8) (st := []) hE 1 (c_X8_raises G hMk hn hB hb (by omega : k < 12) (fun i hi => by rw [hs 14 (by decide) (by decide) (by decide)]; exact hto _ i (by omega) hi)) gX8_asked_X8_raises rfl rfl rfl (by decide +kernel) ⟨Nat.le_of_ble_eq_true rfl, Nat.le_of_ble_eq_true rfl⟩ hMk.o rfl rfl rfl dX8_asked_59 rfl (Nat.le_of_ble_eq_true rfl) ⟨Nat.le_of_ble_eq_true rfl, Nat.le_of_ble_eq_true rfl⟩ (fun v h3 hp => ?_)
          obtain ⟨rfl, R3, hM3, s3, hG3⟩ := hp
          refine x_iinc (v := nI (k + 1)) (L' := [some (.ref (ma 30)), some (.int (nI c)), some (.int ph), some (.int (nI (k + 1))), none]) hE dX8_asked_62 rfl (nI_1 _) rfl ?_
          refine x_goto (tgt := 30) hE dX8_asked_65 (by decide) ?_
          exact ih (k + 1) (by omega) (by omega) h3 R3 hM3 (hs.trans s3) (fun j hj => by rw [hG3 j hj, hG j hj, hs.lev]; exact (grtM_yes hu).symm)
  · replace c7 := x_nInle c7 (by omega) (by omega)
    refine x_aload_n hE dX8_asked_10 rfl rfl ?_
    refine x_get hE hinX8 hMi.o rfl 29 (by decide) (List.mem_of_getElem? (i := 2) rfl) rfl dX8_asked_11 ?_
    refine x_iload_n hE dX8_asked_14 rfl ?_
    refine x_iconst (v := nI 0) hE dX8_asked_15 (by decide) ?_
    refine x_ieq (y := 0) (rfl) ?_
    refine x_iast (f' := (upd Z i 0)) hE hMi.a29 (vp_in_nI (by omega) (by decide)) (x_updN _ (by omega) _) dX8_asked_16 ?_
    generalize hhh1 : x_up hi (ma 29) (.inl (g_c G 0, 16, .inl (upd Z i 0))) = h1
    have hM2 : mM G ma ow sc (rowUp R 29 (upd Z i 0)) h1 := by rw [← hhh1, ← row29 R Z]; exact hMi.set (k := 29) (by decide) _
    refine x_iinc (v := nI (i + 1)) (L' := [some (.ref (ma 30)), some (.int (nI c)), some (.int ph), some (.int (nI (i + 1))), none]) hE dX8_asked_17 rfl (nI_1 _) rfl ?_
    refine x_goto (tgt := 2) hE dX8_asked_20 (by decide) ?_
    exact ih (i + 1) (by omega) (by omega) h1 _ hM2 (fun j hj => (Nat.lt_or_ge j i).elim (fun z => by rw [upd_ne (by omega)]; exact hZ j z) (fun z => by obtain rfl : i = j := (by omega); exact upd_at _ _ _))

theorem ask_sR {R R' : Nat → Nat → Int32} (h : sR R R') (L : Nat) (B : Int32) (GL : List GG) (c : Nat) (ph : Int32) : askP R' L B GL c ph = askP R L B GL c ph := by
  have h1 : ∀ i, GL.foldl (grtG R' L B i) (nI 0) = GL.foldl (grtG R L B i) (nI 0) := fun i => by
    congr 1
    funext x g
    unfold grtG
    rw [h.lev]
  have h2 : ∀ n, askN R' L B GL c ph n = askN R L B GL c ph n := by
    intro n
    induction n with
    | zero => rfl
    | succ n ih =>
      unfold askN
      rw [ih, h 6 (by decide) (by decide) (by decide), h 5 (by decide) (by decide) (by decide), h.lev, h1]
  unfold askP
  rw [h2]
def canN (R : Nat → Nat → Int32) (L : Nat) (B : Int32) (GL : List GG) (c : Nat) : Nat → Bool
  | 0 => true
  | n + 1 => canN R L B GL c n && decide (askP R L B GL c (nI n) ≤ R 9 n)
theorem canN_3 {R : Nat → Nat → Int32} {L : Nat} {B : Int32} {GL : List GG} {c : Nat} : canN R L B GL c 3 = canP R L B GL c := by
  unfold canP canN canN canN canN
  rw [Bool.true_and, Bool.and_assoc]
set_option maxHeartbeats 4000000 in
set_option maxRecDepth 100000 in
theorem c_X8_mayGo (G : XG) {ma ow : Nat → Nat} {sc : Nat → Int32} {R : Nat → Nat → Int32} {h : HM} (hM : mM G ma ow sc R h) {L C gn c : Nat} {B : Int32} {GL : List GG} (hn : sc 1 = nI L) (hB : sc 8 = B) (hnC : sc 10 = nI C) (hb : L ≤ 16) (hC12 : C ≤ 12) (hc : c < C) (hto : toI R C) (hg : gI C GL) (hr : gR R C gn GL) : x_M G yX8_mayGo wsX8_mayGo ({ frames := 6, cells := 0, slots := 0, locals := 136 } : Room) [.ref (ma 30), .int (nI c)] h (fun v h' => v = some (.int (b2i (canP R L B GL c))) ∧ ∃ R' : Nat → Nat → Int32, mM G ma ow sc R' h' ∧ sR R R') 0 0 := by
  refine x_M.of (cc := cX8_mayGo) (maxL := 4) (ret := (some .boolean)) (ent := [some (.ref (ma 30)), some (.int (nI c)), none, none]) (by decide +kernel) rfl (Nat.le_of_ble_eq_true rfl) rfl rfl ?_
  intro F hE hname
  have hinX8 : ∀ w ∈ wsX80, w ∈ wsX8_mayGo := by decide +kernel
  refine x_iconst (v := nI 1) hE dX8_mayGo_0 (by decide) ?_
  refine x_istore_n (L' := [some (.ref (ma 30)), some (.int (nI c)), some (.int (nI 1)), none]) hE dX8_mayGo_1 rfl (Nat.le_of_ble_eq_true rfl) rfl ?_
  refine x_iconst (v := nI 0) hE dX8_mayGo_2 (by decide) ?_
  refine x_istore_n (L' := [some (.ref (ma 30)), some (.int (nI c)), some (.int (nI 1)), some (.int (nI 0))]) hE dX8_mayGo_3 rfl (Nat.le_of_ble_eq_true rfl) rfl ?_
  refine x_down (N := 3) (P := fun i => ∀ (hi : HM) (Ri : Nat → Nat → Int32), mM G ma ow sc Ri hi → sR R Ri → x_W G F (x_Q G F (fun v h' => v = some (.int (b2i (canP R L B GL c))) ∧ ∃ R' : Nat → Nat → Int32, mM G ma ow sc R' h' ∧ sR R R') 0 0) 0 0 hi 4 [some (.ref (ma 30)), some (.int (nI c)), some (.int (b2i (canN R L B GL c i))), some (.int (nI i))] []) (fun i hiN ih => ?_) 0 (by omega) h R hM (sR.refl R)
  intro hi Ri hMi hs
  refine x_iload_n hE dX8_mayGo_4 rfl ?_
  refine x_iconst (v := nI 3) hE dX8_mayGo_5 (by decide) ?_
  refine x_icmp_ge (tgt := 40) hE dX8_mayGo_6 (by decide) (fun c6 => ?_) (fun c6 => ?_)
  · replace c6 := x_nIle c6 (by omega) (by omega)
    obtain rfl : i = 3 := by omega
    refine x_iload_n hE dX8_mayGo_40 rfl ?_
    exact x_zret hE (b2i_01 _) dX8_mayGo_41 (⟨by rw [canN_3], Ri, hMi, hs⟩)
  · replace c6 := x_nInle c6 (by omega) (by omega)
    refine x_iload_n hE dX8_mayGo_9 rfl ?_
    refine x_if_eq (tgt := 32) hE dX8_mayGo_10 (by decide) (fun c10 => ?_) (fun c10 => ?_)
    · refine x_iconst (v := nI 0) hE dX8_mayGo_32 (by decide) ?_
      refine x_ieq (y := b2i (canN R L B GL c (i + 1))) (by unfold canN; rw [b2i_0.mp c10]; rfl) ?_
      refine x_istore_n (L' := [some (.ref (ma 30)), some (.int (nI c)), some (.int (b2i (canN R L B GL c (i + 1)))), some (.int (nI i))]) hE dX8_mayGo_33 rfl (Nat.le_of_ble_eq_true rfl) rfl ?_
      refine x_iinc (v := nI (i + 1)) (L' := [some (.ref (ma 30)), some (.int (nI c)), some (.int (b2i (canN R L B GL c (i + 1)))), some (.int (nI (i + 1)))]) hE dX8_mayGo_34 rfl (nI_1 _) rfl ?_
      refine x_goto (tgt := 4) hE dX8_mayGo_37 (by decide) ?_
      exact ih (i + 1) (by omega) (by omega) hi Ri hMi hs
    · have hcn := b2i_n0.mp c10
      refine x_aload_n hE dX8_mayGo_13 rfl rfl ?_
      refine x_iload_n hE dX8_mayGo_14 rfl ?_
      refine x_iload_n hE dX8_mayGo_15 rfl ?_
      refine x_callV (ci := 8) (st := []) hE 2 (c_X8_asked G hMi hn hB hnC hb hC12 hc (fun a b ha hb2 => by rw [hs 14 (by decide) (by decide) (by decide)]; exact hto a b ha hb2) hg (hr.same (hs 17 (by decide) (by decide) (by decide)) (hs 18 (by decide) (by decide) (by decide)) (hs 19 (by decide) (by decide) (by decide)) (hs 20 (by decide) (by decide) (by decide))) (nI i)) gX8_mayGo_X8_asked rfl rfl rfl (by decide +kernel) ⟨Nat.le_of_ble_eq_true rfl, Nat.le_of_ble_eq_true rfl⟩ hMi.o rfl rfl rfl dX8_mayGo_16 rfl (Nat.le_of_ble_eq_true rfl) ⟨Nat.le_of_ble_eq_true rfl, Nat.le_of_ble_eq_true rfl⟩ (fun v h3 hp => ?_)
      obtain ⟨rfl, R3, hM3, s3⟩ := hp
      refine x_ieq (y := askP R L B GL c (nI i)) (ask_sR hs _ _ _ _ _) ?_
      have s4 := hs.trans s3
      refine x_aload_n hE dX8_mayGo_19 rfl rfl ?_
      refine x_get hE hinX8 hM3.o rfl 9 (by decide) (List.mem_of_getElem? (i := 1) rfl) rfl dX8_mayGo_20 ?_
      refine x_iload_n hE dX8_mayGo_23 rfl ?_
      refine x_iald (v := R 9 i) hE hM3.a9 (vp_in_nI (by omega) (by decide)) ((x_atN _ (by omega)).trans (congrFun (s4 9 (by decide) (by decide) (by decide)) i)) dX8_mayGo_24 ?_
      refine x_icmp_gt (tgt := 32) hE dX8_mayGo_25 (by decide) (fun c25 => ?_) (fun c25 => ?_)
      · refine x_iconst (v := nI 0) hE dX8_mayGo_32 (by decide) ?_
        refine x_ieq (y := b2i (canN R L B GL c (i + 1))) (by unfold canN; rw [hcn, decide_eq_false (fun z => (x_lei.mp c25) z)]; rfl) ?_
        refine x_istore_n (L' := [some (.ref (ma 30)), some (.int (nI c)), some (.int (b2i (canN R L B GL c (i + 1)))), some (.int (nI i))]) hE dX8_mayGo_33 rfl (Nat.le_of_ble_eq_true rfl) rfl ?_
        refine x_iinc (v := nI (i + 1)) (L' := [some (.ref (ma 30)), some (.int (nI c)), some (.int (b2i (canN R L B GL c (i + 1)))), some (.int (nI (i + 1)))]) hE dX8_mayGo_34 rfl (nI_1 _) rfl ?_
        refine x_goto (tgt := 4) hE dX8_mayGo_37 (by decide) ?_
        exact ih (i + 1) (by omega) (by omega) h3 R3 hM3 s4
      · refine x_iconst (v := nI 1) hE dX8_mayGo_28 (by decide) ?_
        refine x_goto (tgt := 33) hE dX8_mayGo_29 (by decide) ?_
        refine x_ieq (y := b2i (canN R L B GL c (i + 1))) (by unfold canN; rw [hcn, decide_eq_true (Decidable.not_not.mp (fun z => c25 (x_lei.mpr z)))]; rfl) ?_
        refine x_istore_n (L' := [some (.ref (ma 30)), some (.int (nI c)), some (.int (b2i (canN R L B GL c (i + 1)))), some (.int (nI i))]) hE dX8_mayGo_33 rfl (Nat.le_of_ble_eq_true rfl) rfl ?_
        refine x_iinc (v := nI (i + 1)) (L' := [some (.ref (ma 30)), some (.int (nI c)), some (.int (b2i (canN R L B GL c (i + 1)))), some (.int (nI (i + 1)))]) hE dX8_mayGo_34 rfl (nI_1 _) rfl ?_
        refine x_goto (tgt := 4) hE dX8_mayGo_37 (by decide) ?_
        exact ih (i + 1) (by omega) (by omega) h3 R3 hM3 s4
