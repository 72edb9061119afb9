set_option maxHeartbeats 4000000 in
set_option maxRecDepth 100000 in
theorem c_X2_begin (G : XG) {o w : Nat} {AL SP : List Nat} {ct : Nat → GC} {h : HM} (hW : goW G o w AL SP ct h) {b : Nat} {now : Int32} (hcap : (∀ x, x ∈ AL → ¬ (ct x).1 = some b) → AL.length < 12) : x_M G yX2_begin wsX2_begin ({ frames := 2, cells := 0, slots := 0, locals := 44 } : Room) [.ref o, .ref b, .int now] h (fun v h' => v = none ∧ ∃ (AL' SP' : List Nat) (y : Nat), goW G o w AL' SP' (va_up ct y (some b, now, -1)) h' ∧ x_fr (goP o w AL SP) h h' ∧ bgR AL SP ct b AL' SP' y) 0 0 := by
  refine x_M.of (cc := cX2_begin) (maxL := 5) (ret := none) (ent := [some (.ref o), some (.ref b), some (.int now), none, none]) (by decide +kernel) rfl (Nat.le_of_ble_eq_true rfl) rfl rfl ?_
  intro F hE hname
  have hinX2 : ∀ w ∈ wsX20, w ∈ wsX2_begin := by decide +kernel
  obtain ⟨ho, hw, hlen, hnd, hgo⟩ := id hW
  have hle := hW.le
  refine x_aload_n hE dX2_begin_0 rfl rfl ?_
  refine x_aload_n hE dX2_begin_1 rfl rfl ?_
  refine x_callV (ci := 2) (st := []) hE 1 (c_X2_placeOf G (b := b) hW) gX2_begin_X2_placeOf rfl rfl rfl (by decide +kernel) ⟨Nat.le_of_ble_eq_true rfl, Nat.le_of_ble_eq_true rfl⟩ ho rfl rfl rfl dX2_begin_2 rfl (Nat.le_of_ble_eq_true rfl) ⟨Nat.le_of_ble_eq_true rfl, Nat.le_of_ble_eq_true rfl⟩ (fun v h9 hp => ?_)
  obtain ⟨⟨r, rfl, hr⟩, rfl⟩ := hp
  rcases hr with ⟨rfl, hno⟩ | ⟨k, y, hy, hcb, rfl⟩
  · refine x_istore_n (L' := [some (.ref o), some (.ref b), some (.int now), some (.int (-1 : Int32)), none]) hE dX2_begin_5 rfl (Nat.le_of_ble_eq_true rfl) rfl ?_
    refine x_iload_n hE dX2_begin_6 rfl ?_
    refine x_iconst (v := (-1 : Int32)) hE dX2_begin_7 (by decide) ?_
    refine x_icmp_ne (tgt := 38) hE dX2_begin_8 (by decide) (fun c8 => ?_) (fun c8 => ?_)
    · exact absurd rfl c8
    · refine x_aload_n hE dX2_begin_11 rfl rfl ?_
      refine x_get hE hinX2 ho rfl 1 (by decide) (List.mem_of_getElem? (i := 1) rfl) rfl dX2_begin_12 ?_
      refine x_aload_n hE dX2_begin_15 rfl rfl ?_
      refine x_get hE hinX2 ho rfl 0 (by decide) (List.mem_of_getElem? (i := 2) rfl) rfl dX2_begin_16 ?_
      refine x_alen (t0 := 5) hE hw rfl dX2_begin_19 ?_
      refine x_icmp_ge (tgt := 38) hE dX2_begin_20 (by decide) (fun c20 => ?_) (fun c20 => ?_)
      · exact absurd c20 (nI_ge (hcap hno) (by decide))
      · obtain ⟨y, SP1, rfl⟩ : ∃ y SP1, SP = y :: SP1 := by cases SP with | nil => exact absurd hlen (by have := hcap hno; simp; omega) | cons a l => exact ⟨a, l, rfl⟩
        refine x_aload_n hE dX2_begin_23 rfl rfl ?_
        refine x_get hE hinX2 ho rfl 1 (by decide) (List.mem_of_getElem? (i := 1) rfl) rfl dX2_begin_24 ?_
        refine x_istore_n (L' := [some (.ref o), some (.ref b), some (.int now), some (.int (nI AL.length)), none]) hE dX2_begin_27 rfl (Nat.le_of_ble_eq_true rfl) rfl ?_
        refine x_aload_n hE dX2_begin_28 rfl rfl ?_
        refine x_dup hE dX2_begin_29 rfl ?_
        refine x_get hE hinX2 ho rfl 1 (by decide) (List.mem_of_getElem? (i := 1) rfl) rfl dX2_begin_30 ?_
        refine x_iconst (v := nI 1) hE dX2_begin_33 (by decide) ?_
        refine x_iadd hE dX2_begin_34 ?_
        refine x_ieq (y := nI (AL.length + 1)) (nI_1 _) ?_
        refine x_put (fs' := [.ref w, .int (nI (AL.length + 1))]) hE hinX2 tyX2 tyX2_ok nmX2 ho rfl 1 (by decide) (List.mem_of_getElem? (i := 1) rfl) rfl rfl rfl (Nat.le_of_ble_eq_true rfl) rfl dX2_begin_35 ?_
        generalize hhh1 : x_up h o (.inr (2, [.ref w, .int (nI (AL.length + 1))])) = h1
        have hc2 : h1 o = some (.inr (2, [.ref w, .int (nI (AL.length + 1))])) := by rw [← hhh1]; exact x_up_eq _ _ _
        have hc3 : h1 w = some (.inl (g_c G 5, 12, .inr (.inr (.inr (.inr (rowF (AL ++ (y :: SP1)))))))) := by rw [← hhh1, x_up_ne (fun e => by have z1 := hw; rw [e, ho] at z1; simp [lampE] at z1)]; exact hw
        have hW1 : goW G o w (AL ++ [y]) SP1 ct h1 := by rw [← hhh1]; exact hW.push
        have hf1 : x_fr (goP o w AL (y :: SP1)) h h1 := by rw [← hhh1]; exact (x_fr.refl h).up (Or.inl rfl)
        refine x_aload_n hE dX2_begin_38 rfl rfl ?_
        refine x_iload_n hE dX2_begin_39 rfl ?_
        refine x_callV (ci := 2) (st := []) hE 1 (c_X2_moveLast G hW1 at_last) gX2_begin_X2_moveLast rfl rfl rfl (by decide +kernel) ⟨Nat.le_of_ble_eq_true rfl, Nat.le_of_ble_eq_true rfl⟩ hc2 rfl rfl rfl dX2_begin_40 rfl (Nat.le_of_ble_eq_true rfl) ⟨Nat.le_of_ble_eq_true rfl, Nat.le_of_ble_eq_true rfl⟩ (fun v h9 hp => ?_)
        obtain ⟨rfl, rfl⟩ := hp
        have hW2 := hW1.move (at_last (AL := AL) (y := y))
        rw [er_last] at hW2
        refine x_heq (by rw [er_last]) ?_
        have hf2 : x_fr (goP o w AL (y :: SP1)) h (x_up h1 w (.inl (g_c G 5, 12, .inr (.inr (.inr (.inr (rowF ((AL ++ [y]) ++ SP1)))))))) := hf1.up (Or.inr (Or.inl rfl))
        obtain ⟨ho2, hw2, hlen2, hnd2, hgo2⟩ := id hW2
        have hle2 := hW2.le
        have hpos : 1 ≤ (AL ++ [y]).length := by simp
        refine x_aload_n hE dX2_begin_43 rfl rfl ?_
        refine x_aload_n hE dX2_begin_44 rfl rfl ?_
        refine x_get hE hinX2 ho2 rfl 1 (by decide) (List.mem_of_getElem? (i := 1) rfl) rfl dX2_begin_45 ?_
        refine x_iconst (v := nI 1) hE dX2_begin_48 (by decide) ?_
        refine x_isub hE dX2_begin_49 ?_
        refine x_ieq (y := nI ((AL ++ [y]).length - 1)) (sub1 hpos) ?_
        refine x_callV (ci := 2) (st := []) hE 1 (c_X2_at G hW2 (nI ((AL ++ [y]).length - 1))) gX2_begin_X2_at rfl rfl rfl (by decide +kernel) ⟨Nat.le_of_ble_eq_true rfl, Nat.le_of_ble_eq_true rfl⟩ ho2 rfl rfl rfl dX2_begin_50 rfl (Nat.le_of_ble_eq_true rfl) ⟨Nat.le_of_ble_eq_true rfl, Nat.le_of_ble_eq_true rfl⟩ (fun v h9 hp => ?_)
        obtain ⟨rfl, rfl⟩ := hp
        have hlast := at_last' (AL := AL) (y := y) rfl
        refine x_qref (q := y) (hW2.sel hlast) ?_
        have hyc := hW2.at hlast
        have hym := List.mem_append_left SP1 (List.mem_of_getElem? hlast)
        refine x_astore (L' := [some (.ref o), some (.ref b), some (.int now), some (.int (nI AL.length)), some (.ref y)]) hE dX2_begin_53 (Nat.le_of_ble_eq_true rfl) rfl rfl ?_
        refine x_aload hE dX2_begin_55 rfl rfl ?_
        refine x_ifnull hE dX2_begin_57 ?_
        refine x_aload hE dX2_begin_60 rfl rfl ?_
        refine x_aload_n hE dX2_begin_62 rfl rfl ?_
        refine x_iload_n hE dX2_begin_63 rfl ?_
        refine x_callV (ci := 1) (st := []) hE 2 (c_X1_begin G (b := b) (now := now) hyc) gX2_begin_X1_begin rfl rfl rfl (by decide +kernel) ⟨Nat.le_of_ble_eq_true rfl, Nat.le_of_ble_eq_true rfl⟩ hyc rfl rfl rfl dX2_begin_64 rfl (Nat.le_of_ble_eq_true rfl) ⟨Nat.le_of_ble_eq_true rfl, Nat.le_of_ble_eq_true rfl⟩ (fun v h9 hp => ?_)
        obtain ⟨rfl, rfl⟩ := hp
        exact x_vret hE dX2_begin_67 (⟨rfl, _, _, y, hW2.put hym (some b, now, -1), hf2.up (Or.inr (Or.inr (by simp))), Or.inr ⟨hno, rfl, rfl⟩⟩)
  · refine x_istore_n (L' := [some (.ref o), some (.ref b), some (.int now), some (.int (nI k)), none]) hE dX2_begin_5 rfl (Nat.le_of_ble_eq_true rfl) rfl ?_
    refine x_iload_n hE dX2_begin_6 rfl ?_
    refine x_iconst (v := (-1 : Int32)) hE dX2_begin_7 (by decide) ?_
    refine x_icmp_ne (tgt := 38) hE dX2_begin_8 (by decide) (fun c8 => ?_) (fun c8 => ?_)
    · refine x_aload_n hE dX2_begin_38 rfl rfl ?_
      refine x_iload_n hE dX2_begin_39 rfl ?_
      refine x_callV (ci := 2) (st := []) hE 1 (c_X2_moveLast G hW hy) gX2_begin_X2_moveLast rfl rfl rfl (by decide +kernel) ⟨Nat.le_of_ble_eq_true rfl, Nat.le_of_ble_eq_true rfl⟩ ho rfl rfl rfl dX2_begin_40 rfl (Nat.le_of_ble_eq_true rfl) ⟨Nat.le_of_ble_eq_true rfl, Nat.le_of_ble_eq_true rfl⟩ (fun v h9 hp => ?_)
      obtain ⟨rfl, rfl⟩ := hp
      have hW2 := hW.move hy
      have hf2 : x_fr (goP o w AL SP) h (x_up h w (.inl (g_c G 5, 12, .inr (.inr (.inr (.inr (rowF ((AL.eraseIdx k ++ [y]) ++ SP)))))))) := (x_fr.refl h).up (Or.inr (Or.inl rfl))
      obtain ⟨ho2, hw2, hlen2, hnd2, hgo2⟩ := id hW2
      have hle2 := hW2.le
      have hpos : 1 ≤ (AL.eraseIdx k ++ [y]).length := by simp
      refine x_aload_n hE dX2_begin_43 rfl rfl ?_
      refine x_aload_n hE dX2_begin_44 rfl rfl ?_
      refine x_get hE hinX2 ho2 rfl 1 (by decide) (List.mem_of_getElem? (i := 1) rfl) rfl dX2_begin_45 ?_
      refine x_iconst (v := nI 1) hE dX2_begin_48 (by decide) ?_
      refine x_isub hE dX2_begin_49 ?_
      refine x_ieq (y := nI ((AL.eraseIdx k ++ [y]).length - 1)) (sub1 hpos) ?_
      refine x_callV (ci := 2) (st := []) hE 1 (c_X2_at G hW2 (nI ((AL.eraseIdx k ++ [y]).length - 1))) gX2_begin_X2_at rfl rfl rfl (by decide +kernel) ⟨Nat.le_of_ble_eq_true rfl, Nat.le_of_ble_eq_true rfl⟩ ho2 rfl rfl rfl dX2_begin_50 rfl (Nat.le_of_ble_eq_true rfl) ⟨Nat.le_of_ble_eq_true rfl, Nat.le_of_ble_eq_true rfl⟩ (fun v h9 hp => ?_)
      obtain ⟨rfl, rfl⟩ := hp
      have hlast := at_last' (AL := AL.eraseIdx k) (y := y) rfl
      refine x_qref (q := y) (hW2.sel hlast) ?_
      have hyc := hW2.at hlast
      have hym := List.mem_append_left SP (List.mem_of_getElem? hlast)
      refine x_astore (L' := [some (.ref o), some (.ref b), some (.int now), some (.int (nI k)), some (.ref y)]) hE dX2_begin_53 (Nat.le_of_ble_eq_true rfl) rfl rfl ?_
      refine x_aload hE dX2_begin_55 rfl rfl ?_
      refine x_ifnull hE dX2_begin_57 ?_
      refine x_aload hE dX2_begin_60 rfl rfl ?_
      refine x_aload_n hE dX2_begin_62 rfl rfl ?_
      refine x_iload_n hE dX2_begin_63 rfl ?_
      refine x_callV (ci := 1) (st := []) hE 2 (c_X1_begin G (b := b) (now := now) hyc) gX2_begin_X1_begin rfl rfl rfl (by decide +kernel) ⟨Nat.le_of_ble_eq_true rfl, Nat.le_of_ble_eq_true rfl⟩ hyc rfl rfl rfl dX2_begin_64 rfl (Nat.le_of_ble_eq_true rfl) ⟨Nat.le_of_ble_eq_true rfl, Nat.le_of_ble_eq_true rfl⟩ (fun v h9 hp => ?_)
      obtain ⟨rfl, rfl⟩ := hp
      exact x_vret hE dX2_begin_67 (⟨rfl, _, _, y, hW2.put hym (some b, now, -1), hf2.up (Or.inr (Or.inr (List.mem_append_left _ (List.mem_of_getElem? hy)))), Or.inl ⟨k, hy, hcb, rfl, rfl⟩⟩)
    · exact absurd c8 (fun z => x_lt0 (i := nI k) (by rw [z]; decide) (nI_pos' (by have := (List.getElem?_eq_some_iff.mp hy).1; omega)))

set_option maxHeartbeats 4000000 in
set_option maxRecDepth 100000 in
theorem c_X2_fall (G : XG) {o w : Nat} {AL SP : List Nat} {ct : Nat → GC} {h : HM} (hW : goW G o w AL SP ct h) {b : Nat} {now : Int32} : x_M G yX2_fall wsX2_fall ({ frames := 3, cells := 0, slots := 0, locals := 65 } : Room) [.ref o, .ref b, .int now] h (fun v h' => v = none ∧ (((∀ x, x ∈ AL → ¬ (ct x).1 = some b) ∧ h' = h) ∨ ∃ k x : Nat, AL[k]? = some x ∧ (ct x).1 = some b ∧ h' = x_up h x (goE ((ct x).1, (ct x).2.1, now)))) 0 0 := by
  refine x_M.of (cc := cX2_fall) (maxL := 4) (ret := none) (ent := [some (.ref o), some (.ref b), some (.int now), none]) (by decide +kernel) rfl (Nat.le_of_ble_eq_true rfl) rfl rfl ?_
  intro F hE hname
  obtain ⟨ho, hw, hlen, hnd, hgo⟩ := id hW
  have hle := hW.le
  refine x_aload_n hE dX2_fall_0 rfl rfl ?_
  refine x_aload_n hE dX2_fall_1 rfl rfl ?_
  refine x_callV (ci := 2) (st := []) hE 1 (c_X2_goingOf G (b := b) hW) gX2_fall_X2_goingOf rfl rfl rfl (by decide +kernel) ⟨Nat.le_of_ble_eq_true rfl, Nat.le_of_ble_eq_true rfl⟩ ho rfl rfl rfl dX2_fall_2 rfl (Nat.le_of_ble_eq_true rfl) ⟨Nat.le_of_ble_eq_true rfl, Nat.le_of_ble_eq_true rfl⟩ (fun v h9 hp => ?_)
  obtain ⟨⟨g, rfl, hg⟩, rfl⟩ := hp
  rcases hg with ⟨rfl, hno⟩ | ⟨k, x, hx, hcb, rfl⟩
  · refine x_astore_n (L' := [some (.ref o), some (.ref b), some (.int now), some (.null)]) hE dX2_fall_5 rfl (Nat.le_of_ble_eq_true rfl) rfl rfl ?_
    refine x_aload_n hE dX2_fall_6 rfl rfl ?_
    refine x_ifnullN (tgt := 15) hE dX2_fall_7 (by decide) ?_
    exact x_vret hE dX2_fall_15 (⟨rfl, Or.inl ⟨hno, rfl⟩⟩)
  · have hxc := hW.at hx
    refine x_astore_n (L' := [some (.ref o), some (.ref b), some (.int now), some (.ref x)]) hE dX2_fall_5 rfl (Nat.le_of_ble_eq_true rfl) rfl rfl ?_
    refine x_aload_n hE dX2_fall_6 rfl rfl ?_
    refine x_ifnull hE dX2_fall_7 ?_
    refine x_aload_n hE dX2_fall_10 rfl rfl ?_
    refine x_iload_n hE dX2_fall_11 rfl ?_
    refine x_callV (ci := 1) (st := []) hE 1 (c_X1_fall G (now := now) hxc) gX2_fall_X1_fall rfl rfl rfl (by decide +kernel) ⟨Nat.le_of_ble_eq_true rfl, Nat.le_of_ble_eq_true rfl⟩ hxc rfl rfl rfl dX2_fall_12 rfl (Nat.le_of_ble_eq_true rfl) ⟨Nat.le_of_ble_eq_true rfl, Nat.le_of_ble_eq_true rfl⟩ (fun v h9 hp => ?_)
    obtain ⟨rfl, rfl⟩ := hp
    exact x_vret hE dX2_fall_15 (⟨rfl, Or.inr ⟨k, x, hx, hcb, rfl⟩⟩)

set_option maxHeartbeats 4000000 in
set_option maxRecDepth 100000 in
theorem c_X2_dropOver (G : XG) {o w : Nat} {AL SP : List Nat} {ct : Nat → GC} {h : HM} (hW : goW G o w AL SP ct h) {K : CK} {now : Int32} (hK : goK G h AL ct K) : x_M G yX2_dropOver wsX2_dropOver ({ frames := 2, cells := 0, slots := 0, locals := 44 } : Room) [.ref o, .int now] h (fun v h' => v = none ∧ ∃ SP' : List Nat, goW G o w (AL.filter (fun x => !ovr ct K now x)) SP' ct h' ∧ x_fr (fun z => z = o ∨ z = w) h h' ∧ (∀ z, z ∈ SP' → z ∈ AL ++ SP)) 0 0 := by
  refine x_M.of (cc := cX2_dropOver) (maxL := 4) (ret := none) (ent := [some (.ref o), some (.int now), none, none]) (by decide +kernel) rfl (Nat.le_of_ble_eq_true rfl) rfl rfl ?_
  intro F hE hname
  have hinX2 : ∀ w ∈ wsX20, w ∈ wsX2_dropOver := by decide +kernel
  obtain ⟨ho, hw, hlen, hnd, hgo⟩ := id hW
  have hle := hW.le
  refine x_aload_n hE dX2_dropOver_0 rfl rfl ?_
  refine x_get hE hinX2 ho rfl 1 (by decide) (List.mem_of_getElem? (i := 1) rfl) rfl dX2_dropOver_1 ?_
  refine x_iconst (v := nI 1) hE dX2_dropOver_4 (by decide) ?_
  refine x_isub hE dX2_dropOver_5 ?_
  refine x_istore_n (L' := [some (.ref o), some (.int now), some (.int ((nI AL.length) - (nI 1))), none]) hE dX2_dropOver_6 rfl (Nat.le_of_ble_eq_true rfl) rfl ?_
  refine x_down (N := AL.length) (P := fun i => ∀ (h1 : HM) (SP1 : List Nat), goW G o w ((AL.take (AL.length - i)) ++ (AL.drop (AL.length - i)).filter (fun x => !ovr ct K now x)) SP1 ct h1 → x_fr (fun z => z = o ∨ z = w) h h1 → (∀ z, z ∈ SP1 → z ∈ AL ++ SP) → x_W G F (x_Q G F (fun v h' => v = none ∧ ∃ SP' : List Nat, goW G o w (AL.filter (fun x => !ovr ct K now x)) SP' ct h' ∧ x_fr (fun z => z = o ∨ z = w) h h' ∧ (∀ z, z ∈ SP' → z ∈ AL ++ SP)) 0 0) 0 0 h1 7 [some (.ref o), some (.int now), some (.int (nI (AL.length - i) - nI 1)), none] []) (fun i hiN ih => ?_) 0 (by omega) _ SP (by rw [Nat.sub_zero, List.take_length, List.drop_length]; simpa using hW) (x_fr.refl h) (fun z hz => List.mem_append_right _ hz)
  intro h1 SP1 hW1 hf1 hs1
  obtain ⟨ho1, hw1, hlen1, hnd1, hgo1⟩ := id hW1
  have hle1 := hW1.le
  have hP0 : ∀ q, (q = o ∨ q = w) → ∃ e, h q = some e ∧ (∀ v, e ≠ .inr (0, v)) ∧ (∀ n f, e ≠ .inl (g_c G 0, n, .inl f)) := fun q hq => hq.elim (fun z => ⟨_, z ▸ ho, fun v => by simp, fun n f => by simp⟩) (fun z => ⟨_, z ▸ hw, fun v => by simp, fun n f => by simp⟩)
  have hK1 := hK.fr hf1 hP0
  refine x_iload_n hE dX2_dropOver_7 rfl ?_
  refine x_if_lt (tgt := 50) hE dX2_dropOver_8 (by decide) (fun c8 => ?_) (fun c8 => ?_)
  · have hi0 : i = AL.length := (Nat.lt_or_ge i AL.length).elim (fun z => absurd c8 (by rw [show nI (AL.length - i) - nI 1 = nI (AL.length - i - 1) from sub1 (by omega)]; exact nI_pos (by omega))) (fun z => by omega)
    subst hi0
    rw [Nat.sub_self, List.take_zero, List.drop_zero, List.nil_append] at hW1
    exact x_vret hE dX2_dropOver_50 (⟨rfl, SP1, hW1, hf1, hs1⟩)
  · have hi1 : i < AL.length := (Nat.lt_or_ge i AL.length).elim (fun z => z) (fun z => absurd dn3 (by rw [show AL.length - i = 0 by omega] at c8; exact c8))
    obtain ⟨k, hk⟩ : ∃ k, AL.length - i = k + 1 := ⟨AL.length - i - 1, by omega⟩
    rw [hk] at hW1 ho1 hw1 hle1 ⊢
    have hkl : k < AL.length := by omega
    obtain ⟨x, hx⟩ := x_get_lt hkl
    have hxm := List.mem_of_getElem? hx
    have htk : AL.take (k + 1) = AL.take k ++ [x] := by rw [List.take_add_one, hx]; rfl
    have hdk : AL.drop k = x :: AL.drop (k + 1) := by obtain ⟨q1, q2⟩ := List.getElem?_eq_some_iff.mp hx; rw [← q2]; exact List.drop_eq_getElem_cons q1
    have hlk : (AL.take k).length = k := by rw [List.length_take]; omega
    have hx1 : (AL.take (k + 1) ++ (AL.drop (k + 1)).filter (fun x => !ovr ct K now x))[k]? = some x := by rw [htk, List.append_assoc, List.getElem?_append_right (by omega), hlk, Nat.sub_self]; rfl
    refine x_Leq (L' := [some (.ref o), some (.int now), some (.int (nI k)), none]) (by rw [dn1]) ?_
    refine x_aload_n hE dX2_dropOver_11 rfl rfl ?_
    refine x_iload_n hE dX2_dropOver_12 rfl ?_
    refine x_callV (ci := 2) (st := []) hE 1 (c_X2_at G hW1 (nI k)) gX2_dropOver_X2_at rfl rfl rfl (by decide +kernel) ⟨Nat.le_of_ble_eq_true rfl, Nat.le_of_ble_eq_true rfl⟩ ho1 rfl rfl rfl dX2_dropOver_13 rfl (Nat.le_of_ble_eq_true rfl) ⟨Nat.le_of_ble_eq_true rfl, Nat.le_of_ble_eq_true rfl⟩ (fun v h9 hp => ?_)
    obtain ⟨rfl, rfl⟩ := hp
    refine x_qref (q := x) (hW1.sel hx1) ?_
    have hxc := hW1.at hx1
    obtain ⟨b, hcb, nu, de, fo, tA, sA, vA, hb, hvA⟩ := hK1 x hxm
    rw [hcb] at hxc
    refine x_astore_n (L' := [some (.ref o), some (.int now), some (.int (nI k)), some (.ref x)]) hE dX2_dropOver_16 rfl (Nat.le_of_ble_eq_true rfl) rfl rfl ?_
    refine x_aload_n hE dX2_dropOver_17 rfl rfl ?_
    refine x_ifnull hE dX2_dropOver_18 ?_
    refine x_aload_n hE dX2_dropOver_21 rfl rfl ?_
    refine x_iload_n hE dX2_dropOver_22 rfl ?_
    refine x_callV (ci := 1) (st := []) hE 1 (c_X1_isOver G (now := now) hxc hb) gX2_dropOver_X1_isOver rfl rfl rfl (by decide +kernel) ⟨Nat.le_of_ble_eq_true rfl, Nat.le_of_ble_eq_true rfl⟩ hxc rfl rfl rfl dX2_dropOver_23 rfl (Nat.le_of_ble_eq_true rfl) ⟨Nat.le_of_ble_eq_true rfl, Nat.le_of_ble_eq_true rfl⟩ (fun v h9 hp => ?_)
    obtain ⟨rfl, rfl⟩ := hp
    refine x_ieq (congrArg b2i (ovr_is hcb).symm) ?_
    refine x_if_eq (tgt := 44) hE dX2_dropOver_26 (by decide) (fun c26 => ?_) (fun c26 => ?_)
    · have hov := b2i_0.mp c26
      refine x_iinc (v := (nI k) + (-1)) (L' := [some (.ref o), some (.int now), some (.int ((nI k) + (-1))), some (.ref x)]) hE dX2_dropOver_44 rfl rfl rfl ?_
      refine x_goto (tgt := 7) hE dX2_dropOver_47 (by decide) ?_
      refine x_Leq (L' := [some (.ref o), some (.int now), some (.int (nI k - nI 1)), some (.ref x)]) (by rw [dn2]) ?_
      have hcur : AL.take (k + 1) ++ (AL.drop (k + 1)).filter (fun x => !ovr ct K now x) = AL.take (AL.length - (i + 1)) ++ (AL.drop (AL.length - (i + 1))).filter (fun x => !ovr ct K now x) := by rw [show AL.length - (i + 1) = k by omega, htk, hdk, List.filter_cons, if_pos (by rw [hov]; rfl), List.append_assoc]; rfl
      rw [hcur] at hW1
      have ek : k = AL.length - (i + 1) := by omega
      rw [ek]
      refine x_forget (L' := [some (.ref o), some (.int now), some (.int (nI (AL.length - (i + 1)) - nI 1)), none]) (And.intro rfl (And.intro rfl (And.intro rfl trivial))) ?_
      exact ih (i + 1) (by omega) (by omega) _ SP1 hW1 hf1 hs1
    · have hov := b2i_n0.mp c26
      refine x_aload_n hE dX2_dropOver_29 rfl rfl ?_
      refine x_iload_n hE dX2_dropOver_30 rfl ?_
      refine x_callV (ci := 2) (st := []) hE 1 (c_X2_moveLast G hW1 hx1) gX2_dropOver_X2_moveLast rfl rfl rfl (by decide +kernel) ⟨Nat.le_of_ble_eq_true rfl, Nat.le_of_ble_eq_true rfl⟩ ho1 rfl rfl rfl dX2_dropOver_31 rfl (Nat.le_of_ble_eq_true rfl) ⟨Nat.le_of_ble_eq_true rfl, Nat.le_of_ble_eq_true rfl⟩ (fun v h9 hp => ?_)
      obtain ⟨rfl, rfl⟩ := hp
      have hW2 := hW1.move hx1
      have hcur : (AL.take (k + 1) ++ (AL.drop (k + 1)).filter (fun x => !ovr ct K now x)).eraseIdx k = AL.take (AL.length - (i + 1)) ++ (AL.drop (AL.length - (i + 1))).filter (fun x => !ovr ct K now x) := by rw [show AL.length - (i + 1) = k by omega, htk, hdk, List.filter_cons, if_neg (by rw [hov]; decide), List.append_assoc, List.eraseIdx_append_of_length_le (by omega), hlk, Nat.sub_self]; rfl
      rw [hcur] at hW2
      refine x_heq (by rw [hcur]) ?_
      have hf2 := hf1.up (a := w) (e := .inl (g_c G 5, 12, .inr (.inr (.inr (.inr (rowF ((AL.take (AL.length - (i + 1)) ++ (AL.drop (AL.length - (i + 1))).filter (fun x => !ovr ct K now x)) ++ [x] ++ SP1))))))) (Or.inr rfl)
      obtain ⟨ho2, -, -, -, -⟩ := id hW2
      generalize hh2 : x_up h1 w (.inl (g_c G 5, 12, .inr (.inr (.inr (.inr (rowF ((AL.take (AL.length - (i + 1)) ++ (AL.drop (AL.length - (i + 1))).filter (fun x => !ovr ct K now x)) ++ [x] ++ SP1))))))) = h2 at hW2 hf2 ho2 ⊢
      refine x_aload_n hE dX2_dropOver_34 rfl rfl ?_
      refine x_dup hE dX2_dropOver_35 rfl ?_
      refine x_get hE hinX2 ho2 rfl 1 (by decide) (List.mem_of_getElem? (i := 1) rfl) rfl dX2_dropOver_36 ?_
      refine x_iconst (v := nI 1) hE dX2_dropOver_39 (by decide) ?_
      refine x_isub hE dX2_dropOver_40 ?_
      refine x_ieq (y := nI (AL.take (AL.length - (i + 1)) ++ (AL.drop (AL.length - (i + 1))).filter (fun x => !ovr ct K now x)).length) (by rw [List.length_append]; exact dn1 _) ?_
      refine x_put (fs' := [.ref w, .int (nI (AL.take (AL.length - (i + 1)) ++ (AL.drop (AL.length - (i + 1))).filter (fun x => !ovr ct K now x)).length)]) hE hinX2 tyX2 tyX2_ok nmX2 ho2 rfl 1 (by decide) (List.mem_of_getElem? (i := 1) rfl) rfl rfl rfl (Nat.le_of_ble_eq_true rfl) rfl dX2_dropOver_41 ?_
      generalize hhh1 : x_up h2 o (.inr (2, [.ref w, .int (nI (AL.take (AL.length - (i + 1)) ++ (AL.drop (AL.length - (i + 1))).filter (fun x => !ovr ct K now x)).length)])) = h1
      have hc2 : h1 o = some (.inr (2, [.ref w, .int (nI (AL.take (AL.length - (i + 1)) ++ (AL.drop (AL.length - (i + 1))).filter (fun x => !ovr ct K now x)).length)])) := by rw [← hhh1]; exact x_up_eq _ _ _
      have hW3 : goW G o w (AL.take (AL.length - (i + 1)) ++ (AL.drop (AL.length - (i + 1))).filter (fun x => !ovr ct K now x)) (x :: SP1) ct h1 := by rw [← hhh1]; exact hW2.pop
      have hf3 : x_fr (fun z => z = o ∨ z = w) h h1 := by rw [← hhh1]; exact hf2.up (Or.inl rfl)
      refine x_iinc (v := (nI k) + (-1)) (L' := [some (.ref o), some (.int now), some (.int ((nI k) + (-1))), some (.ref x)]) hE dX2_dropOver_44 rfl rfl rfl ?_
      refine x_goto (tgt := 7) hE dX2_dropOver_47 (by decide) ?_
      refine x_Leq (L' := [some (.ref o), some (.int now), some (.int (nI k - nI 1)), some (.ref x)]) (by rw [dn2]) ?_
      have ek : k = AL.length - (i + 1) := by omega
      rw [ek]
      refine x_forget (L' := [some (.ref o), some (.int now), some (.int (nI (AL.length - (i + 1)) - nI 1)), none]) (And.intro rfl (And.intro rfl (And.intro rfl trivial))) ?_
      exact ih (i + 1) (by omega) (by omega) _ (x :: SP1) hW3 hf3 (fun z hz => (List.mem_cons.mp hz).elim (fun q => q ▸ List.mem_append_left _ hxm) (hs1 z))
