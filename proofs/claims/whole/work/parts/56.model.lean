theorem row26 (R : Nat → Nat → Int32) (I S J : Nat → Int32) : rowUp (rowUp (rowUp R 26 I) 27 S) 26 J = rowUp (rowUp R 26 J) 27 S := by
  funext j
  unfold rowUp
  by_cases a : j = 26
  · subst a; simp
  · by_cases b : j = 27
    · subst b; simp
    · simp [a, b]
theorem row27 (R : Nat → Nat → Int32) (I S J : Nat → Int32) : rowUp (rowUp (rowUp R 26 I) 27 S) 27 J = rowUp (rowUp R 26 I) 27 J := by
  funext j
  unfold rowUp
  by_cases b : j = 27
  · subst b; simp
  · simp [b]
theorem row_id (R : Nat → Nat → Int32) (a b : Nat) : rowUp (rowUp R a (R a)) b (R b) = R := by
  funext j
  unfold rowUp
  by_cases b1 : j = b
  · rw [if_pos b1, b1]
  · rw [if_neg b1]
    by_cases a1 : j = a
    · rw [if_pos a1, a1]
    · rw [if_neg a1]
theorem le_z {v : Nat} (h : v ≤ 100) (hz : nI v ≤ 0) : v = 0 := by
  have := x_nIle (a := v) (b := 0) hz (by omega) (by omega)
  omega
set_option maxHeartbeats 4000000 in
set_option maxRecDepth 100000 in
theorem c_X8_finds (G : XG) {ma ow : Nat → Nat} {sc : Nat → Int32} {R : Nat → Nat → Int32} {h : HM} (hM : mM G ma ow sc R h) {L c : Nat} {B : Int32} (hn : sc 1 = nI L) (hB : sc 8 = B) (hb : L ≤ 16) (hc : c < 12) (hT : ∀ i, i < 16 → ∃ v, v ≤ 100 ∧ R 14 (16 * c + i) = nI v) : x_M G yX8_finds wsX8_finds ({ frames := 3, cells := 0, slots := 0, locals := 67 } : Room) [.ref (ma 30), .int (nI c)] h (fun v h' => v = none ∧ ∃ I Sh : Nat → Int32, mM G ma ow sc (rowUp (rowUp R 26 I) 27 Sh) h' ∧ ∀ j, j < L → I j = (arrF L R B (toldF R c) 16).2 j ∧ Sh j = (arrF L R B (toldF R c) 16).1 j) 0 0 := by
  refine x_M.of (cc := cX8_finds) (maxL := 4) (ret := none) (ent := [some (.ref (ma 30)), some (.int (nI c)), none, none]) (by decide +kernel) rfl (Nat.le_of_ble_eq_true rfl) rfl rfl ?_
  intro F hE hname
  have hinX8 : ∀ w ∈ wsX80, w ∈ wsX8_finds := by decide +kernel
  refine x_iconst (v := nI 0) hE dX8_finds_0 (by decide) ?_
  refine x_istore_n (L' := [some (.ref (ma 30)), some (.int (nI c)), some (.int (nI 0)), none]) hE dX8_finds_1 rfl (Nat.le_of_ble_eq_true rfl) rfl ?_
  refine x_down (N := L) (P := fun i => ∀ (hi : HM) (I Sh : Nat → Int32), mM G ma ow sc (rowUp (rowUp R 26 I) 27 Sh) hi → (∀ j, j < i → I j = (if usV B (R 2 j) (R 7 j) = true ∧ toldF R c j ≠ 0 then toldF R c j else 0) ∧ Sh j = (if usV B (R 2 j) (R 7 j) = true ∧ toldF R c j ≠ 0 then nI j else -1)) → x_W G F (x_Q G F (fun v h' => v = none ∧ ∃ I Sh : Nat → Int32, mM G ma ow sc (rowUp (rowUp R 26 I) 27 Sh) h' ∧ ∀ j, j < L → I j = (arrF L R B (toldF R c) 16).2 j ∧ Sh j = (arrF L R B (toldF R c) 16).1 j) 0 0) 0 0 hi 2 [some (.ref (ma 30)), some (.int (nI c)), some (.int (nI i)), none] []) (fun i hiN ih => ?_) 0 (by omega) h (R 26) (R 27) (by rw [row_id]; exact hM) (fun j hj => absurd hj (by omega))
  intro hi I Sh hMi hIS
  refine x_iload_n hE dX8_finds_2 rfl ?_
  refine x_aload_n hE dX8_finds_3 rfl rfl ?_
  refine x_get hE hinX8 hMi.o rfl 1 (by decide) (List.mem_of_getElem? (i := 1) rfl) rfl dX8_finds_4 ?_
  refine x_ieq (y := nI L) (hn) ?_
  refine x_icmp_ge (tgt := 84) hE dX8_finds_7 (by decide) (fun c7 => ?_) (fun c7 => ?_)
  · replace c7 := x_nIle c7 (by omega) (by omega)
    obtain rfl : i = L := by omega
    have hF0 : finI i R B (toldF R c) 0 I Sh := fun j hj => by
      obtain ⟨e1, e2⟩ := hIS j hj
      refine ⟨fun a b => ?_, fun a b => ?_, fun a => ?_⟩
      · rw [if_pos ⟨b, a⟩] at e1 e2; exact ⟨e1, e2⟩
      · rw [if_neg (fun z => by rw [b] at z; cases z.1)] at e1; exact ⟨e1, fun z => absurd z (by omega)⟩
      · rw [if_neg (fun z => z.2 a)] at e1 e2; exact ⟨e1, e2⟩
    clear hIS ih
    refine x_iconst (v := nI 0) hE dX8_finds_84 (by decide) ?_
    refine x_istore_n (L' := [some (.ref (ma 30)), some (.int (nI c)), some (.int (nI 0)), none]) hE dX8_finds_85 rfl (Nat.le_of_ble_eq_true rfl) rfl ?_
    refine x_down (N := i) (P := fun k => ∀ (hi : HM) (I Sh : Nat → Int32), mM G ma ow sc (rowUp (rowUp R 26 I) 27 Sh) hi → finI i R B (toldF R c) k I Sh → x_W G F (x_Q G F (fun v h' => v = none ∧ ∃ I Sh : Nat → Int32, mM G ma ow sc (rowUp (rowUp R 26 I) 27 Sh) h' ∧ ∀ j, j < i → I j = (arrF i R B (toldF R c) 16).2 j ∧ Sh j = (arrF i R B (toldF R c) 16).1 j) 0 0) 0 0 hi 86 [some (.ref (ma 30)), some (.int (nI c)), some (.int (nI k)), none] []) (fun k hkN ih => ?_) 0 (by omega) hi I Sh hMi hF0
    clear hF0
    intro hk I Sh hMk hF
    refine x_iload_n hE dX8_finds_86 rfl ?_
    refine x_aload_n hE dX8_finds_87 rfl rfl ?_
    refine x_get hE hinX8 hMk.o rfl 1 (by decide) (List.mem_of_getElem? (i := 1) rfl) rfl dX8_finds_88 ?_
    refine x_ieq (y := nI i) (hn) ?_
    refine x_icmp_ge (tgt := 158) hE dX8_finds_91 (by decide) (fun c91 => ?_) (fun c91 => ?_)
    · replace c91 := x_nIle c91 (by omega) (by omega)
      obtain rfl : k = i := by omega
      exact x_vret hE dX8_finds_158 (⟨rfl, I, Sh, hMk, finI_end hb hF⟩)
    · replace c91 := x_nInle c91 (by omega) (by omega)
      obtain ⟨v, hv1, hv⟩ := hT k (by omega)
      have eT : toldF R c k = R 14 (16 * c + k) := if_pos (by omega)
      refine x_aload_n hE dX8_finds_94 rfl rfl ?_
      refine x_iload_n hE dX8_finds_95 rfl ?_
      refine x_callV (ci := 8) (st := []) hE 1 (c_X8_isUsable G hMk (by omega : k < 16)) gX8_finds_X8_isUsable rfl rfl rfl (by decide +kernel) ⟨Nat.le_of_ble_eq_true rfl, Nat.le_of_ble_eq_true rfl⟩ hMk.o rfl rfl rfl dX8_finds_96 rfl (Nat.le_of_ble_eq_true rfl) ⟨Nat.le_of_ble_eq_true rfl, Nat.le_of_ble_eq_true rfl⟩ (fun v h9 hp => ?_)
      obtain ⟨rfl, rfl⟩ := hp
      refine x_ieq (y := b2i (usV B (R 2 k) (R 7 k))) (by rw [hB]; rfl) ?_
      refine x_if_ne (tgt := 152) hE dX8_finds_99 (by decide) (fun c99 => ?_) (fun c99 => ?_)
      · refine x_iinc (v := nI (k + 1)) (L' := [some (.ref (ma 30)), some (.int (nI c)), some (.int (nI (k + 1))), none]) hE dX8_finds_152 rfl (nI_1 _) rfl ?_
        refine x_goto (tgt := 86) hE dX8_finds_155 (by decide) ?_
        exact ih (k + 1) (by omega) (by omega) hk I Sh hMk (finI_skip hb (by omega) hF (Or.inr (b2i_n0.mp c99)))
      · refine x_aload_n hE dX8_finds_102 rfl rfl ?_
        refine x_get hE hinX8 hMk.o rfl 14 (by decide) (List.mem_of_getElem? (i := 2) rfl) rfl dX8_finds_103 ?_
        refine x_bipush (v := nI 16) hE dX8_finds_106 (by decide) ?_
        refine x_iload_n hE dX8_finds_108 rfl ?_
        refine x_imul hE dX8_finds_109 ?_
        refine x_ieq (y := nI (16 * c)) (pk_mul 16 c) ?_
        refine x_iload_n hE dX8_finds_110 rfl ?_
        refine x_iadd hE dX8_finds_111 ?_
        refine x_ieq (y := nI (16 * c + k)) (nI_add _ _) ?_
        refine x_iald (v := R 14 (16 * c + k)) hE hMk.a14 (vp_in_nI (by omega) (by decide)) ((x_atN _ (by omega)).trans rfl) dX8_finds_112 ?_
        refine x_ieq (y := nI v) (hv) ?_
        refine x_if_le (tgt := 152) hE dX8_finds_113 (by decide) (fun c113 => ?_) (fun c113 => ?_)
        · refine x_iinc (v := nI (k + 1)) (L' := [some (.ref (ma 30)), some (.int (nI c)), some (.int (nI (k + 1))), none]) hE dX8_finds_152 rfl (nI_1 _) rfl ?_
          refine x_goto (tgt := 86) hE dX8_finds_155 (by decide) ?_
          exact ih (k + 1) (by omega) (by omega) hk I Sh hMk (finI_skip hb (by omega) hF (Or.inl (by rw [eT, hv, le_z hv1 c113]; rfl)))
        · have vn : toldF R c k ≠ 0 := by rw [eT, hv]; intro z; exact c113 (by rw [z]; decide)
          have hu := b2i_0.mp c99
          refine x_aload_n hE dX8_finds_116 rfl rfl ?_
          refine x_iload_n hE dX8_finds_117 rfl ?_
          refine x_iload_n hE dX8_finds_118 rfl ?_
          refine x_callV (ci := 8) (st := []) hE 2 (c_X8_nearest G hMk hn hB hb hc (by omega : k < i)) gX8_finds_X8_nearest rfl rfl rfl (by decide +kernel) ⟨Nat.le_of_ble_eq_true rfl, Nat.le_of_ble_eq_true rfl⟩ hMk.o rfl rfl rfl dX8_finds_119 rfl (Nat.le_of_ble_eq_true rfl) ⟨Nat.le_of_ble_eq_true rfl, Nat.le_of_ble_eq_true rfl⟩ (fun v h9 hp => ?_)
          obtain ⟨rfl, rfl⟩ := hp
          refine x_ieq (y := nearS i R B (toldF R c) (arrF i R B (toldF R c) k).2 k) (finI_near hb (by omega) hF rfl rfl rfl rfl rfl (fun z hz => (if_pos hz).symm)) ?_
          obtain ⟨p1, p2⟩ := finI_put hb (by omega) hF vn hu
          rcases near_lt (L := i) (R := R) (B := B) (T := toldF R c) (lvl := (arrF i R B (toldF R c) k).2) (m := k) with hs | ⟨b, hb1, hb2, hs, hb3⟩
          · refine x_ieq (y := (-1 : Int32)) (hs) ?_
            refine x_istore_n (L' := [some (.ref (ma 30)), some (.int (nI c)), some (.int (nI k)), some (.int (-1 : Int32))]) hE dX8_finds_122 rfl (Nat.le_of_ble_eq_true rfl) rfl ?_
            refine x_aload_n hE dX8_finds_123 rfl rfl ?_
            refine x_get hE hinX8 hMk.o rfl 27 (by decide) (List.mem_of_getElem? (i := 4) rfl) rfl dX8_finds_124 ?_
            refine x_iload_n hE dX8_finds_127 rfl ?_
            refine x_iload_n hE dX8_finds_128 rfl ?_
            refine x_iast (f' := (upd Sh k (-1))) hE hMk.a27 (vp_in_nI (by omega) (by decide)) (x_updN _ (by omega) _) dX8_finds_129 ?_
            generalize hhh1 : x_up hk (ma 27) (.inl (g_c G 0, 16, .inl (upd Sh k (-1)))) = h1
            have hM2 : mM G ma ow sc (rowUp (rowUp R 26 I) 27 (upd Sh k (-1))) h1 := by rw [← hhh1, ← row27 R I Sh]; exact hMk.set (k := 27) (by decide) _
            refine x_iload_n hE dX8_finds_130 rfl ?_
            refine x_iconst (v := (-1 : Int32)) hE dX8_finds_131 (by decide) ?_
            refine x_icmp_eq (tgt := 152) hE dX8_finds_132 (by decide) (fun z => ?_) (fun z => absurd rfl z)
            refine x_iinc (v := nI (k + 1)) (L' := [some (.ref (ma 30)), some (.int (nI c)), some (.int (nI (k + 1))), some (.int (-1 : Int32))]) hE dX8_finds_152 rfl (nI_1 _) rfl ?_
            refine x_goto (tgt := 86) hE dX8_finds_155 (by decide) ?_
            refine x_forget (L' := [some (.ref (ma 30)), some (.int (nI c)), some (.int (nI (k + 1))), none]) (And.intro rfl (And.intro rfl (And.intro rfl trivial))) ?_
            exact ih (k + 1) (by omega) (by omega) h1 _ _ hM2 (p1 hs)
          · refine x_ieq (y := nI b) (hs) ?_
            have nmb : ¬ nI b = -1 := by intro z; have := congrArg Int32.toInt z; rw [nI_toInt (by omega)] at this; simp at this <;> omega
            refine x_istore_n (L' := [some (.ref (ma 30)), some (.int (nI c)), some (.int (nI k)), some (.int (nI b))]) hE dX8_finds_122 rfl (Nat.le_of_ble_eq_true rfl) rfl ?_
            refine x_aload_n hE dX8_finds_123 rfl rfl ?_
            refine x_get hE hinX8 hMk.o rfl 27 (by decide) (List.mem_of_getElem? (i := 4) rfl) rfl dX8_finds_124 ?_
            refine x_iload_n hE dX8_finds_127 rfl ?_
            refine x_iload_n hE dX8_finds_128 rfl ?_
            refine x_iast (f' := (upd Sh k (nI b))) hE hMk.a27 (vp_in_nI (by omega) (by decide)) (x_updN _ (by omega) _) dX8_finds_129 ?_
            generalize hhh3 : x_up hk (ma 27) (.inl (g_c G 0, 16, .inl (upd Sh k (nI b)))) = h3
            have hM4 : mM G ma ow sc (rowUp (rowUp R 26 I) 27 (upd Sh k (nI b))) h3 := by rw [← hhh3, ← row27 R I Sh]; exact hMk.set (k := 27) (by decide) _
            refine x_iload_n hE dX8_finds_130 rfl ?_
            refine x_iconst (v := (-1 : Int32)) hE dX8_finds_131 (by decide) ?_
            refine x_icmp_eq (tgt := 152) hE dX8_finds_132 (by decide) (fun z => absurd z nmb) (fun z => ?_)
            refine x_aload_n hE dX8_finds_135 rfl rfl ?_
            refine x_get hE hinX8 hM4.o rfl 26 (by decide) (List.mem_of_getElem? (i := 3) rfl) rfl dX8_finds_136 ?_
            refine x_iload_n hE dX8_finds_139 rfl ?_
            refine x_aload_n hE dX8_finds_140 rfl rfl ?_
            refine x_get hE hinX8 hM4.o rfl 14 (by decide) (List.mem_of_getElem? (i := 2) rfl) rfl dX8_finds_141 ?_
            refine x_bipush (v := nI 16) hE dX8_finds_144 (by decide) ?_
            refine x_iload_n hE dX8_finds_146 rfl ?_
            refine x_imul hE dX8_finds_147 ?_
            refine x_ieq (y := nI (16 * c)) (pk_mul 16 c) ?_
            refine x_iload_n hE dX8_finds_148 rfl ?_
            refine x_iadd hE dX8_finds_149 ?_
            refine x_ieq (y := nI (16 * c + k)) (nI_add _ _) ?_
            refine x_iald (v := R 14 (16 * c + k)) hE hM4.a14 (vp_in_nI (by omega) (by decide)) ((x_atN _ (by omega)).trans rfl) dX8_finds_150 ?_
            refine x_ieq (y := toldF R c k) (eT.symm) ?_
            refine x_iast (f' := (upd I b (toldF R c k))) hE hM4.a26 (vp_in_nI (by omega) (by decide)) (x_updN _ (by omega) _) dX8_finds_151 ?_
            generalize hhh5 : x_up h3 (ma 26) (.inl (g_c G 0, 16, .inl (upd I b (toldF R c k)))) = h5
            have hM6 : mM G ma ow sc (rowUp (rowUp R 26 (upd I b (toldF R c k))) 27 (upd Sh k (nI b))) h5 := by rw [← hhh5, ← row26 R I (upd Sh k (nI b))]; exact hM4.set (k := 26) (by decide) _
            refine x_iinc (v := nI (k + 1)) (L' := [some (.ref (ma 30)), some (.int (nI c)), some (.int (nI (k + 1))), some (.int (nI b))]) hE dX8_finds_152 rfl (nI_1 _) rfl ?_
            refine x_goto (tgt := 86) hE dX8_finds_155 (by decide) ?_
            refine x_forget (L' := [some (.ref (ma 30)), some (.int (nI c)), some (.int (nI (k + 1))), none]) (And.intro rfl (And.intro rfl (And.intro rfl trivial))) ?_
            exact ih (k + 1) (by omega) (by omega) h5 _ _ hM6 (p2 b hb1 hb3 hs)
  · replace c7 := x_nInle c7 (by omega) (by omega)
    obtain ⟨v, hv1, hv⟩ := hT i (by omega)
    have eT : toldF R c i = R 14 (16 * c + i) := if_pos (by omega)
    refine x_aload_n hE dX8_finds_10 rfl rfl ?_
    refine x_iload_n hE dX8_finds_11 rfl ?_
    refine x_callV (ci := 8) (st := []) hE 1 (c_X8_isUsable G hMi (by omega : i < 16)) gX8_finds_X8_isUsable rfl rfl rfl (by decide +kernel) ⟨Nat.le_of_ble_eq_true rfl, Nat.le_of_ble_eq_true rfl⟩ hMi.o rfl rfl rfl dX8_finds_12 rfl (Nat.le_of_ble_eq_true rfl) ⟨Nat.le_of_ble_eq_true rfl, Nat.le_of_ble_eq_true rfl⟩ (fun v h9 hp => ?_)
    obtain ⟨rfl, rfl⟩ := hp
    refine x_ieq (y := b2i (usV B (R 2 i) (R 7 i))) (by rw [hB]; rfl) ?_
    refine x_if_eq (tgt := 36) hE dX8_finds_15 (by decide) (fun c15 => ?_) (fun c15 => ?_)
    · refine x_iconst (v := nI 0) hE dX8_finds_36 (by decide) ?_
      refine x_istore_n (L' := [some (.ref (ma 30)), some (.int (nI c)), some (.int (nI i)), some (.int (nI 0))]) hE dX8_finds_37 rfl (Nat.le_of_ble_eq_true rfl) rfl ?_
      refine x_aload_n hE dX8_finds_38 rfl rfl ?_
      refine x_get hE hinX8 hMi.o rfl 26 (by decide) (List.mem_of_getElem? (i := 3) rfl) rfl dX8_finds_39 ?_
      refine x_iload_n hE dX8_finds_42 rfl ?_
      refine x_iload_n hE dX8_finds_43 rfl ?_
      refine x_if_eq (tgt := 61) hE dX8_finds_44 (by decide) (fun z => ?_) (fun z => absurd rfl z)
      clear z
      refine x_iconst (v := nI 0) hE dX8_finds_61 (by decide) ?_
      refine x_ieq (y := 0) (rfl) ?_
      refine x_iast (f' := (upd I i 0)) hE hMi.a26 (vp_in_nI (by omega) (by decide)) (x_updN _ (by omega) _) dX8_finds_62 ?_
      generalize hhh7 : x_up hi (ma 26) (.inl (g_c G 0, 16, .inl (upd I i 0))) = h7
      have hM8 : mM G ma ow sc (rowUp (rowUp R 26 (upd I i 0)) 27 Sh) h7 := by rw [← hhh7, ← row26 R I Sh]; exact hMi.set (k := 26) (by decide) _
      refine x_aload_n hE dX8_finds_63 rfl rfl ?_
      refine x_get hE hinX8 hM8.o rfl 27 (by decide) (List.mem_of_getElem? (i := 4) rfl) rfl dX8_finds_64 ?_
      refine x_iload_n hE dX8_finds_67 rfl ?_
      refine x_iload_n hE dX8_finds_68 rfl ?_
      refine x_if_eq (tgt := 76) hE dX8_finds_69 (by decide) (fun z => ?_) (fun z => absurd rfl z)
      clear z
      refine x_iconst (v := (-1 : Int32)) hE dX8_finds_76 (by decide) ?_
      refine x_iast (f' := (upd Sh i (-1))) hE hM8.a27 (vp_in_nI (by omega) (by decide)) (x_updN _ (by omega) _) dX8_finds_77 ?_
      generalize hhh9 : x_up h7 (ma 27) (.inl (g_c G 0, 16, .inl (upd Sh i (-1)))) = h9
      have hM10 : mM G ma ow sc (rowUp (rowUp R 26 (upd I i 0)) 27 (upd Sh i (-1))) h9 := by rw [← hhh9, ← row27 R (upd I i 0) Sh]; exact hM8.set (k := 27) (by decide) _
      refine x_iinc (v := nI (i + 1)) (L' := [some (.ref (ma 30)), some (.int (nI c)), some (.int (nI (i + 1))), some (.int (nI 0))]) hE dX8_finds_78 rfl (nI_1 _) rfl ?_
      refine x_goto (tgt := 2) hE dX8_finds_81 (by decide) ?_
      refine x_forget (L' := [some (.ref (ma 30)), some (.int (nI c)), some (.int (nI (i + 1))), none]) (And.intro rfl (And.intro rfl (And.intro rfl trivial))) ?_
      exact ih (i + 1) (by omega) (by omega) h9 _ _ hM10 (fun j hj => (Nat.lt_or_ge j i).elim (fun z => by rw [upd_ne (by omega), upd_ne (by omega)]; exact hIS j z) (fun z => by obtain rfl : i = j := (by omega); rw [upd_at, upd_at]; rw [if_neg (fun q => by rw [b2i_0.mp c15] at q; cases q.1), if_neg (fun q => by rw [b2i_0.mp c15] at q; cases q.1)]; exact ⟨rfl, rfl⟩))
    · refine x_aload_n hE dX8_finds_18 rfl rfl ?_
      refine x_get hE hinX8 hMi.o rfl 14 (by decide) (List.mem_of_getElem? (i := 2) rfl) rfl dX8_finds_19 ?_
      refine x_bipush (v := nI 16) hE dX8_finds_22 (by decide) ?_
      refine x_iload_n hE dX8_finds_24 rfl ?_
      refine x_imul hE dX8_finds_25 ?_
      refine x_ieq (y := nI (16 * c)) (pk_mul 16 c) ?_
      refine x_iload_n hE dX8_finds_26 rfl ?_
      refine x_iadd hE dX8_finds_27 ?_
      refine x_ieq (y := nI (16 * c + i)) (nI_add _ _) ?_
      refine x_iald (v := R 14 (16 * c + i)) hE hMi.a14 (vp_in_nI (by omega) (by decide)) ((x_atN _ (by omega)).trans rfl) dX8_finds_28 ?_
      refine x_ieq (y := nI v) (hv) ?_
      refine x_if_le (tgt := 36) hE dX8_finds_29 (by decide) (fun c29 => ?_) (fun c29 => ?_)
      · refine x_iconst (v := nI 0) hE dX8_finds_36 (by decide) ?_
        have v0 := le_z hv1 c29
        refine x_istore_n (L' := [some (.ref (ma 30)), some (.int (nI c)), some (.int (nI i)), some (.int (nI 0))]) hE dX8_finds_37 rfl (Nat.le_of_ble_eq_true rfl) rfl ?_
        refine x_aload_n hE dX8_finds_38 rfl rfl ?_
        refine x_get hE hinX8 hMi.o rfl 26 (by decide) (List.mem_of_getElem? (i := 3) rfl) rfl dX8_finds_39 ?_
        refine x_iload_n hE dX8_finds_42 rfl ?_
        refine x_iload_n hE dX8_finds_43 rfl ?_
        refine x_if_eq (tgt := 61) hE dX8_finds_44 (by decide) (fun z => ?_) (fun z => absurd rfl z)
        clear z
        refine x_iconst (v := nI 0) hE dX8_finds_61 (by decide) ?_
        refine x_ieq (y := 0) (rfl) ?_
        refine x_iast (f' := (upd I i 0)) hE hMi.a26 (vp_in_nI (by omega) (by decide)) (x_updN _ (by omega) _) dX8_finds_62 ?_
        generalize hhh11 : x_up hi (ma 26) (.inl (g_c G 0, 16, .inl (upd I i 0))) = h11
        have hM12 : mM G ma ow sc (rowUp (rowUp R 26 (upd I i 0)) 27 Sh) h11 := by rw [← hhh11, ← row26 R I Sh]; exact hMi.set (k := 26) (by decide) _
        refine x_aload_n hE dX8_finds_63 rfl rfl ?_
        refine x_get hE hinX8 hM12.o rfl 27 (by decide) (List.mem_of_getElem? (i := 4) rfl) rfl dX8_finds_64 ?_
        refine x_iload_n hE dX8_finds_67 rfl ?_
        refine x_iload_n hE dX8_finds_68 rfl ?_
        refine x_if_eq (tgt := 76) hE dX8_finds_69 (by decide) (fun z => ?_) (fun z => absurd rfl z)
        clear z
        refine x_iconst (v := (-1 : Int32)) hE dX8_finds_76 (by decide) ?_
        refine x_iast (f' := (upd Sh i (-1))) hE hM12.a27 (vp_in_nI (by omega) (by decide)) (x_updN _ (by omega) _) dX8_finds_77 ?_
        generalize hhh13 : x_up h11 (ma 27) (.inl (g_c G 0, 16, .inl (upd Sh i (-1)))) = h13
        have hM14 : mM G ma ow sc (rowUp (rowUp R 26 (upd I i 0)) 27 (upd Sh i (-1))) h13 := by rw [← hhh13, ← row27 R (upd I i 0) Sh]; exact hM12.set (k := 27) (by decide) _
        refine x_iinc (v := nI (i + 1)) (L' := [some (.ref (ma 30)), some (.int (nI c)), some (.int (nI (i + 1))), some (.int (nI 0))]) hE dX8_finds_78 rfl (nI_1 _) rfl ?_
        refine x_goto (tgt := 2) hE dX8_finds_81 (by decide) ?_
        refine x_forget (L' := [some (.ref (ma 30)), some (.int (nI c)), some (.int (nI (i + 1))), none]) (And.intro rfl (And.intro rfl (And.intro rfl trivial))) ?_
        exact ih (i + 1) (by omega) (by omega) h13 _ _ hM14 (fun j hj => (Nat.lt_or_ge j i).elim (fun z => by rw [upd_ne (by omega), upd_ne (by omega)]; exact hIS j z) (fun z => by obtain rfl : i = j := (by omega); rw [upd_at, upd_at]; rw [if_neg (fun q => q.2 (by rw [eT, hv, v0]; rfl)), if_neg (fun q => q.2 (by rw [eT, hv, v0]; rfl))]; exact ⟨rfl, rfl⟩))
      · refine x_iconst (v := nI 1) hE dX8_finds_32 (by decide) ?_
        refine x_goto (tgt := 37) hE dX8_finds_33 (by decide) ?_
        have vn : toldF R c i ≠ 0 := by rw [eT, hv]; intro z; exact c29 (by rw [z]; decide)
        refine x_istore_n (L' := [some (.ref (ma 30)), some (.int (nI c)), some (.int (nI i)), some (.int (nI 1))]) hE dX8_finds_37 rfl (Nat.le_of_ble_eq_true rfl) rfl ?_
        refine x_aload_n hE dX8_finds_38 rfl rfl ?_
        refine x_get hE hinX8 hMi.o rfl 26 (by decide) (List.mem_of_getElem? (i := 3) rfl) rfl dX8_finds_39 ?_
        refine x_iload_n hE dX8_finds_42 rfl ?_
        refine x_iload_n hE dX8_finds_43 rfl ?_
        refine x_if_eq (tgt := 61) hE dX8_finds_44 (by decide) (fun z => absurd z (by decide)) (fun z => ?_)
        clear z
        refine x_aload_n hE dX8_finds_47 rfl rfl ?_
        refine x_get hE hinX8 hMi.o rfl 14 (by decide) (List.mem_of_getElem? (i := 2) rfl) rfl dX8_finds_48 ?_
        refine x_bipush (v := nI 16) hE dX8_finds_51 (by decide) ?_
        refine x_iload_n hE dX8_finds_53 rfl ?_
        refine x_imul hE dX8_finds_54 ?_
        refine x_ieq (y := nI (16 * c)) (pk_mul 16 c) ?_
        refine x_iload_n hE dX8_finds_55 rfl ?_
        refine x_iadd hE dX8_finds_56 ?_
        refine x_ieq (y := nI (16 * c + i)) (nI_add _ _) ?_
        refine x_iald (v := R 14 (16 * c + i)) hE hMi.a14 (vp_in_nI (by omega) (by decide)) ((x_atN _ (by omega)).trans rfl) dX8_finds_57 ?_
        refine x_ieq (y := nI v) (hv) ?_
        refine x_goto (tgt := 62) hE dX8_finds_58 (by decide) ?_
        refine x_iast (f' := (upd I i (nI v))) hE hMi.a26 (vp_in_nI (by omega) (by decide)) (x_updN _ (by omega) _) dX8_finds_62 ?_
        generalize hhh15 : x_up hi (ma 26) (.inl (g_c G 0, 16, .inl (upd I i (nI v)))) = h15
        have hM16 : mM G ma ow sc (rowUp (rowUp R 26 (upd I i (nI v))) 27 Sh) h15 := by rw [← hhh15, ← row26 R I Sh]; exact hMi.set (k := 26) (by decide) _
        refine x_aload_n hE dX8_finds_63 rfl rfl ?_
        refine x_get hE hinX8 hM16.o rfl 27 (by decide) (List.mem_of_getElem? (i := 4) rfl) rfl dX8_finds_64 ?_
        refine x_iload_n hE dX8_finds_67 rfl ?_
        refine x_iload_n hE dX8_finds_68 rfl ?_
        refine x_if_eq (tgt := 76) hE dX8_finds_69 (by decide) (fun z => absurd z (by decide)) (fun z => ?_)
        clear z
        refine x_iload_n hE dX8_finds_72 rfl ?_
        refine x_goto (tgt := 77) hE dX8_finds_73 (by decide) ?_
        refine x_iast (f' := (upd Sh i (nI i))) hE hM16.a27 (vp_in_nI (by omega) (by decide)) (x_updN _ (by omega) _) dX8_finds_77 ?_
        generalize hhh17 : x_up h15 (ma 27) (.inl (g_c G 0, 16, .inl (upd Sh i (nI i)))) = h17
        have hM18 : mM G ma ow sc (rowUp (rowUp R 26 (upd I i (nI v))) 27 (upd Sh i (nI i))) h17 := by rw [← hhh17, ← row27 R (upd I i (nI v)) Sh]; exact hM16.set (k := 27) (by decide) _
        refine x_iinc (v := nI (i + 1)) (L' := [some (.ref (ma 30)), some (.int (nI c)), some (.int (nI (i + 1))), some (.int (nI 1))]) hE dX8_finds_78 rfl (nI_1 _) rfl ?_
        refine x_goto (tgt := 2) hE dX8_finds_81 (by decide) ?_
        refine x_forget (L' := [some (.ref (ma 30)), some (.int (nI c)), some (.int (nI (i + 1))), none]) (And.intro rfl (And.intro rfl (And.intro rfl trivial))) ?_
        exact ih (i + 1) (by omega) (by omega) h17 _ _ hM18 (fun j hj => (Nat.lt_or_ge j i).elim (fun z => by rw [upd_ne (by omega), upd_ne (by omega)]; exact hIS j z) (fun z => by obtain rfl : i = j := (by omega); rw [upd_at, upd_at]; rw [if_pos ⟨b2i_n0.mp c15, vn⟩, if_pos ⟨b2i_n0.mp c15, vn⟩, eT, hv]; exact ⟨rfl, rfl⟩))
