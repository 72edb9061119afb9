set_option maxHeartbeats 4000000 in
set_option maxRecDepth 100000 in
theorem c_X0_arrange (G : XG) {r la L : Nat} {aL : Nat → Nat} {ar : Nat → Nat → Int32} {bars : Int32} {h : HM} (hR : rigW G r la L aL ar bars h) {c tA sA vA : Nat} {nu so up dn de : Int32} {fo : Option Nat} (hc : h c = some (.inr (0, [.int nu, .int so, .int up, .int dn, .ref tA, .ref sA, .ref vA, va_rf fo, .int de]))) {tf : Nat → Int32} (htA : h tA = some (.inl (g_c G 0, 16, .inl tf))) {sf : Nat → Int32} (hsA : h sA = some (.inl (g_c G 0, 16, .inl sf))) {vf : Nat → Int32} (hvA : h vA = some (.inl (g_c G 0, 16, .inl vf))) (nts : tA ≠ sA) (ntv : tA ≠ vA) (nsv : sA ≠ vA) : x_M G yX0_arrange wsX0_arrange ({ frames := 3, cells := 0, slots := 0, locals := 69 } : Room) [.ref c, .ref r] h (x_is none (arrH G h sA vA (arrF L ar bars tf 16))) 0 0 := by
  refine x_M.of (cc := cX0_arrange) (maxL := 5) (ret := none) (ent := [some (.ref c), some (.ref r), none, none, none]) (by decide +kernel) rfl (Nat.le_of_ble_eq_true rfl) rfl rfl ?_
  intro F hE hname
  have hinX0 : ∀ w ∈ wsX00, w ∈ wsX0_arrange := by decide +kernel
  obtain ⟨hr, hla, hL16, hlam⟩ := id hR
  refine x_aload_n hE dX0_arrange_0 rfl rfl ?_
  refine x_get hE hinX0 hc rfl 5 (by decide) (List.mem_of_getElem? (i := 1) rfl) rfl dX0_arrange_1 ?_
  refine x_iconst (v := (-1 : Int32)) hE dX0_arrange_4 (by decide) ?_
  refine x_callS (st := []) hE 2 (c_J7_fill_53178 G hsA (by decide)) gX0_arrange_J7_fill_53178 rfl rfl rfl (by decide +kernel) ⟨Nat.le_of_ble_eq_true rfl, Nat.le_of_ble_eq_true rfl⟩ rfl rfl dX0_arrange_5 rfl (Nat.le_of_ble_eq_true rfl) ⟨Nat.le_of_ble_eq_true rfl, Nat.le_of_ble_eq_true rfl⟩ (fun v h9 hp => ?_)
  obtain ⟨rfl, rfl⟩ := hp
  have hc1 := (x_up_ne (e := .inl (g_c G 0, 16, .inl (fun _ => -1))) (fun z : c = sA => by rw [z, hsA] at hc; simp at hc)).trans hc
  have hv1 := (x_up_ne (e := .inl (g_c G 0, 16, .inl (fun _ => -1))) (Ne.symm nsv)).trans hvA
  refine x_aload_n hE dX0_arrange_8 rfl rfl ?_
  refine x_get hE hinX0 hc1 rfl 6 (by decide) (List.mem_of_getElem? (i := 2) rfl) rfl dX0_arrange_9 ?_
  refine x_iconst (v := nI 0) hE dX0_arrange_12 (by decide) ?_
  refine x_callS (st := []) hE 2 (c_J7_fill_53178 G hv1 (by decide)) gX0_arrange_J7_fill_53178 rfl rfl rfl (by decide +kernel) ⟨Nat.le_of_ble_eq_true rfl, Nat.le_of_ble_eq_true rfl⟩ rfl rfl dX0_arrange_13 rfl (Nat.le_of_ble_eq_true rfl) ⟨Nat.le_of_ble_eq_true rfl, Nat.le_of_ble_eq_true rfl⟩ (fun v h9 hp => ?_)
  obtain ⟨rfl, rfl⟩ := hp
  refine x_iconst (v := nI 0) hE dX0_arrange_16 (by decide) ?_
  refine x_istore_n (L' := [some (.ref c), some (.ref r), some (.int (nI 0)), none, none]) hE dX0_arrange_17 rfl (Nat.le_of_ble_eq_true rfl) rfl ?_
  have hP0 : ∀ q, (q = sA ∨ q = vA) → ∃ n f, h q = some (.inl (g_c G 0, n, .inl f)) := fun q hq => hq.elim (fun e => ⟨_, _, e ▸ hsA⟩) (fun e => ⟨_, _, e ▸ hvA⟩)
  refine x_down (N := 16) (P := fun i => ∀ h2 : HM, h2 = arrH G h sA vA (arrF L ar bars tf i) → x_W G F (x_Q G F (x_is none (arrH G h sA vA (arrF L ar bars tf 16))) 0 0) 0 0 h2 18 [some (.ref c), some (.ref r), some (.int (nI i)), none, none] []) (fun i hiN ih => ?_) 0 (by omega) _ rfl
  intro h2 eh
  subst eh
  have hfr := arrH_fr G h sA vA (arrF L ar bars tf i)
  have hR1 := hR.fr hfr hP0
  obtain ⟨hr1, hla1, -, hlam1⟩ := id hR1
  have hc1 := hfr _ _ hc (fun z => by obtain ⟨n, f, e⟩ := hP0 _ z; rw [hc] at e; simp at e)
  have ht1 := hfr _ _ htA (fun z => z.elim nts ntv)
  have hs1 := arrH_s (G := G) (h := h) (p := (arrF L ar bars tf i)) nsv
  have hv1 := arrH_v (G := G) (h := h) (sA := sA) (vA := vA) (p := (arrF L ar bars tf i))
  refine x_iload_n hE dX0_arrange_18 rfl ?_
  refine x_bipush (v := nI 16) hE dX0_arrange_19 (by decide) ?_
  refine x_icmp_ge (tgt := 105) hE dX0_arrange_21 (by decide) (fun c21 => ?_) (fun c21 => ?_)
  · replace c21 := x_nIle c21 (by omega) (by omega)
    obtain rfl : i = 16 := by omega
    exact x_vret hE dX0_arrange_105 (⟨rfl, rfl⟩)
  · replace c21 := x_nInle c21 (by omega) (by omega)
    refine x_aload_n hE dX0_arrange_24 rfl rfl ?_
    refine x_iload_n hE dX0_arrange_25 rfl ?_
    refine x_callV (ci := 5) (st := []) hE 1 (c_X5_lampAt G hr1 hla1 (nI i)) gX0_arrange_X5_lampAt rfl rfl rfl (by decide +kernel) ⟨Nat.le_of_ble_eq_true rfl, Nat.le_of_ble_eq_true rfl⟩ hr1 rfl rfl rfl dX0_arrange_26 rfl (Nat.le_of_ble_eq_true rfl) ⟨Nat.le_of_ble_eq_true rfl, Nat.le_of_ble_eq_true rfl⟩ (fun v h9 hp => ?_)
    obtain ⟨rfl, rfl⟩ := hp
    rcases Nat.lt_or_ge i L with hi2 | hi2
    · refine x_qref (q := (aL i)) ((lampF_sel (by omega) (by decide)).trans (lampF_in hi2)) ?_
      refine x_astore_n (L' := [some (.ref c), some (.ref r), some (.int (nI i)), some (.ref (aL i)), none]) hE dX0_arrange_29 rfl (Nat.le_of_ble_eq_true rfl) rfl rfl ?_
      refine x_aload_n hE dX0_arrange_30 rfl rfl ?_
      refine x_ifnull hE dX0_arrange_31 ?_
      refine x_aload_n hE dX0_arrange_34 rfl rfl ?_
      refine x_get hE hinX0 hc1 rfl 4 (by decide) (List.mem_of_getElem? (i := 3) rfl) rfl dX0_arrange_35 ?_
      refine x_iload_n hE dX0_arrange_38 rfl ?_
      refine x_iald (v := tf i) hE ht1 (vp_in_nI (by omega) (by decide)) (x_atN _ (by omega)) dX0_arrange_39 ?_
      refine x_if_ne (tgt := 46) hE dX0_arrange_40 (by decide) (fun c40 => ?_) (fun c40 => ?_)
      · refine x_aload_n hE dX0_arrange_46 rfl rfl ?_
        refine x_aload_n hE dX0_arrange_47 rfl rfl ?_
        refine x_callV (ci := 5) (st := []) hE 1 (c_X5_isUsable G hr1 hla1 (hlam1 i hi2)) gX0_arrange_X5_isUsable rfl rfl rfl (by decide +kernel) ⟨Nat.le_of_ble_eq_true rfl, Nat.le_of_ble_eq_true rfl⟩ hr1 rfl rfl rfl dX0_arrange_48 rfl (Nat.le_of_ble_eq_true rfl) ⟨Nat.le_of_ble_eq_true rfl, Nat.le_of_ble_eq_true rfl⟩ (fun v h9 hp => ?_)
        obtain ⟨rfl, rfl⟩ := hp
        refine x_if_eq (tgt := 58) hE dX0_arrange_51 (by decide) (fun c51 => ?_) (fun c51 => ?_)
        · refine x_aload_n hE dX0_arrange_58 rfl rfl ?_
          refine x_aload_n hE dX0_arrange_59 rfl rfl ?_
          refine x_aload_n hE dX0_arrange_60 rfl rfl ?_
          have hb := b2i_0.mp c51
          refine x_callV (ci := 5) (st := []) hE 2 (c_X5_nearestSpare G hR1 hc1 ht1 hv1 hi2) gX0_arrange_X5_nearestSpare rfl rfl rfl (by decide +kernel) ⟨Nat.le_of_ble_eq_true rfl, Nat.le_of_ble_eq_true rfl⟩ hr1 rfl rfl rfl dX0_arrange_61 rfl (Nat.le_of_ble_eq_true rfl) ⟨Nat.le_of_ble_eq_true rfl, Nat.le_of_ble_eq_true rfl⟩ (fun v h9 hp => ?_)
          obtain ⟨rfl, rfl⟩ := hp
          have hs : (if usV bars (ar 2 i) (ar 7 i) then nI i else nearS L ar bars tf (arrF L ar bars tf i).2 i) = (nearS L ar bars tf (arrF L ar bars tf i).2 i) := by rw [hb]; rfl
          obtain ⟨sh, hsh⟩ : ∃ z : Int32, z = (nearS L ar bars tf (arrF L ar bars tf i).2 i) := ⟨_, rfl⟩
          have hs : (if usV bars (ar 2 i) (ar 7 i) then nI i else nearS L ar bars tf (arrF L ar bars tf i).2 i) = sh := hs.trans hsh.symm
          refine x_ieq (y := sh) (hsh.symm) ?_
          refine x_istore (L' := [some (.ref c), some (.ref r), some (.int (nI i)), some (.ref (aL i)), some (.int sh)]) hE dX0_arrange_64 (Nat.le_of_ble_eq_true rfl) rfl ?_
          refine x_iload hE dX0_arrange_66 rfl ?_
          refine x_if_lt (tgt := 99) hE dX0_arrange_68 (by decide) (fun c68 => ?_) (fun c68 => ?_)
          · have e1 : arrF L ar bars tf (i + 1) = (arrF L ar bars tf i) := arrF_out hs (fun z => x_lt0 c68 z.1)
            refine x_iinc (v := nI (i + 1)) (L' := [some (.ref c), some (.ref r), some (.int (nI (i + 1))), some (.ref (aL i)), some (.int sh)]) hE dX0_arrange_99 rfl (nI_1 _) rfl ?_
            refine x_goto (tgt := 18) hE dX0_arrange_102 (by decide) ?_
            have e2 := ih (i + 1) (by omega) (by omega) _ rfl
            rw [e1] at e2
            refine x_forget (L' := [some (.ref c), some (.ref r), some (.int (nI (i + 1))), none, none]) (And.intro rfl (And.intro rfl (And.intro rfl trivial))) ?_
            exact e2
          · refine x_iload hE dX0_arrange_71 rfl ?_
            refine x_bipush (v := nI 16) hE dX0_arrange_73 (by decide) ?_
            refine x_icmp_ge (tgt := 99) hE dX0_arrange_75 (by decide) (fun c75 => ?_) (fun c75 => ?_)
            · have e1 : arrF L ar bars tf (i + 1) = (arrF L ar bars tf i) := arrF_out hs (fun z => (x_lei.mp z.2) c75)
              refine x_iinc (v := nI (i + 1)) (L' := [some (.ref c), some (.ref r), some (.int (nI (i + 1))), some (.ref (aL i)), some (.int sh)]) hE dX0_arrange_99 rfl (nI_1 _) rfl ?_
              refine x_goto (tgt := 18) hE dX0_arrange_102 (by decide) ?_
              have e2 := ih (i + 1) (by omega) (by omega) _ rfl
              rw [e1] at e2
              refine x_forget (L' := [some (.ref c), some (.ref r), some (.int (nI (i + 1))), none, none]) (And.intro rfl (And.intro rfl (And.intro rfl trivial))) ?_
              exact e2
            · refine x_aload_n hE dX0_arrange_78 rfl rfl ?_
              refine x_get hE hinX0 hc1 rfl 5 (by decide) (List.mem_of_getElem? (i := 1) rfl) rfl dX0_arrange_79 ?_
              refine x_iload_n hE dX0_arrange_82 rfl ?_
              refine x_iload hE dX0_arrange_83 rfl ?_
              refine x_iast (f' := (upd (arrF L ar bars tf i).1 i sh)) hE hs1 (vp_in_nI (by omega) (by decide)) (x_updN _ (by omega) _) dX0_arrange_85 ?_
              generalize hhh1 : x_up (arrH G h sA vA (arrF L ar bars tf i)) sA (.inl (g_c G 0, 16, .inl (upd (arrF L ar bars tf i).1 i sh))) = h1
              have hc2 : h1 sA = some (.inl (g_c G 0, 16, .inl (upd (arrF L ar bars tf i).1 i sh))) := by rw [← hhh1]; exact x_up_eq _ _ _
              have hc3 : h1 r = some (.inr (5, [.ref la, .int (nI L), .int bars])) := by rw [← hhh1, x_up_ne (fun e => by have z1 := hr1; rw [e, hs1] at z1; simp [lampE] at z1)]; exact hr1
              have hc4 : h1 la = some (.inl (g_c G 3, 16, .inr (.inr (.inr (.inr (lampF L aL)))))) := by rw [← hhh1, x_up_ne (fun e => by have z1 := hla1; rw [e, hs1] at z1; simp [lampE] at z1)]; exact hla1
              have hc5 : h1 c = some (.inr (0, [.int nu, .int so, .int up, .int dn, .ref tA, .ref sA, .ref vA, va_rf fo, .int de])) := by rw [← hhh1, x_up_ne (fun e => by have z1 := hc1; rw [e, hs1] at z1; simp [lampE] at z1)]; exact hc1
              have hc6 : h1 tA = some (.inl (g_c G 0, 16, .inl tf)) := by rw [← hhh1, x_up_ne nts]; exact ht1
              have hc7 : h1 vA = some (.inl (g_c G 0, 16, .inl ((arrF L ar bars tf i).2))) := by rw [← hhh1, x_up_ne (Ne.symm nsv)]; exact hv1
              have hc8 : h1 (aL i) = some (.inr (4, [.int (ar 2 i), .int (ar 3 i), .int (ar 4 i), .int (ar 5 i), .int (ar 6 i), .int (ar 7 i)])) := by rw [← hhh1, x_up_ne (fun e => by have z1 := (hlam1 i hi2); rw [e, hs1] at z1; simp [lampE] at z1)]; exact (hlam1 i hi2)
              refine x_aload_n hE dX0_arrange_86 rfl rfl ?_
              refine x_get hE hinX0 hc5 rfl 6 (by decide) (List.mem_of_getElem? (i := 2) rfl) rfl dX0_arrange_87 ?_
              refine x_iload hE dX0_arrange_90 rfl ?_
              refine x_aload_n hE dX0_arrange_92 rfl rfl ?_
              refine x_get hE hinX0 hc5 rfl 4 (by decide) (List.mem_of_getElem? (i := 3) rfl) rfl dX0_arrange_93 ?_
              refine x_iload_n hE dX0_arrange_96 rfl ?_
              refine x_iald (v := tf i) hE hc6 (vp_in_nI (by omega) (by decide)) (x_atN _ (by omega)) dX0_arrange_97 ?_
              refine x_iast (f' := (upd (arrF L ar bars tf i).2 sh.toNatClampNeg (tf i))) hE hc7 (x_inn (by decide) (x_ge0 c68) c75) rfl dX0_arrange_98 ?_
              generalize hhh9 : x_up h1 vA (.inl (g_c G 0, 16, .inl (upd (arrF L ar bars tf i).2 sh.toNatClampNeg (tf i)))) = h9
              have hc10 : h9 vA = some (.inl (g_c G 0, 16, .inl (upd (arrF L ar bars tf i).2 sh.toNatClampNeg (tf i)))) := by rw [← hhh9]; exact x_up_eq _ _ _
              have hc11 : h9 sA = some (.inl (g_c G 0, 16, .inl (upd (arrF L ar bars tf i).1 i sh))) := by rw [← hhh9, x_up_ne nsv]; exact hc2
              have hc12 : h9 r = some (.inr (5, [.ref la, .int (nI L), .int bars])) := by rw [← hhh9, x_up_ne (fun e => by have z1 := hc3; rw [e, hc7] at z1; simp [lampE] at z1)]; exact hc3
              have hc13 : h9 la = some (.inl (g_c G 3, 16, .inr (.inr (.inr (.inr (lampF L aL)))))) := by rw [← hhh9, x_up_ne (fun e => by have z1 := hc4; rw [e, hc7] at z1; simp [lampE] at z1)]; exact hc4
              have hc14 : h9 c = some (.inr (0, [.int nu, .int so, .int up, .int dn, .ref tA, .ref sA, .ref vA, va_rf fo, .int de])) := by rw [← hhh9, x_up_ne (fun e => by have z1 := hc5; rw [e, hc7] at z1; simp [lampE] at z1)]; exact hc5
              have hc15 : h9 tA = some (.inl (g_c G 0, 16, .inl tf)) := by rw [← hhh9, x_up_ne ntv]; exact hc6
              have hc16 : h9 (aL i) = some (.inr (4, [.int (ar 2 i), .int (ar 3 i), .int (ar 4 i), .int (ar 5 i), .int (ar 6 i), .int (ar 7 i)])) := by rw [← hhh9, x_up_ne (fun e => by have z1 := hc8; rw [e, hc7] at z1; simp [lampE] at z1)]; exact hc8
              have e1 : arrF L ar bars tf (i + 1) = (upd (arrF L ar bars tf i).1 i sh, upd (arrF L ar bars tf i).2 sh.toNatClampNeg (tf i)) := arrF_put hi2 c40 hs (x_ge0 c68) (x_lei.mpr c75)
              have e3 : h9 = arrH G h sA vA (arrF L ar bars tf (i + 1)) := by rw [← hhh9, ← hhh1, e1]; exact arrH_2 nsv _ _
              refine x_iinc (v := nI (i + 1)) (L' := [some (.ref c), some (.ref r), some (.int (nI (i + 1))), some (.ref (aL i)), some (.int sh)]) hE dX0_arrange_99 rfl (nI_1 _) rfl ?_
              refine x_goto (tgt := 18) hE dX0_arrange_102 (by decide) ?_
              refine x_forget (L' := [some (.ref c), some (.ref r), some (.int (nI (i + 1))), none, none]) (And.intro rfl (And.intro rfl (And.intro rfl trivial))) ?_
              exact ih (i + 1) (by omega) (by omega) _ e3
        · have hb := b2i_n0.mp c51
          refine x_iload_n hE dX0_arrange_54 rfl ?_
          refine x_goto (tgt := 64) hE dX0_arrange_55 (by decide) ?_
          have hs : (if usV bars (ar 2 i) (ar 7 i) then nI i else nearS L ar bars tf (arrF L ar bars tf i).2 i) = (nI i) := by rw [hb]; rfl
          obtain ⟨sh, hsh⟩ : ∃ z : Int32, z = (nI i) := ⟨_, rfl⟩
          have hs : (if usV bars (ar 2 i) (ar 7 i) then nI i else nearS L ar bars tf (arrF L ar bars tf i).2 i) = sh := hs.trans hsh.symm
          refine x_ieq (y := sh) (hsh.symm) ?_
          refine x_istore (L' := [some (.ref c), some (.ref r), some (.int (nI i)), some (.ref (aL i)), some (.int sh)]) hE dX0_arrange_64 (Nat.le_of_ble_eq_true rfl) rfl ?_
          refine x_iload hE dX0_arrange_66 rfl ?_
          refine x_if_lt (tgt := 99) hE dX0_arrange_68 (by decide) (fun c68 => ?_) (fun c68 => ?_)
          · have e1 : arrF L ar bars tf (i + 1) = (arrF L ar bars tf i) := arrF_out hs (fun z => x_lt0 c68 z.1)
            refine x_iinc (v := nI (i + 1)) (L' := [some (.ref c), some (.ref r), some (.int (nI (i + 1))), some (.ref (aL i)), some (.int sh)]) hE dX0_arrange_99 rfl (nI_1 _) rfl ?_
            refine x_goto (tgt := 18) hE dX0_arrange_102 (by decide) ?_
            have e2 := ih (i + 1) (by omega) (by omega) _ rfl
            rw [e1] at e2
            refine x_forget (L' := [some (.ref c), some (.ref r), some (.int (nI (i + 1))), none, none]) (And.intro rfl (And.intro rfl (And.intro rfl trivial))) ?_
            exact e2
          · refine x_iload hE dX0_arrange_71 rfl ?_
            refine x_bipush (v := nI 16) hE dX0_arrange_73 (by decide) ?_
            refine x_icmp_ge (tgt := 99) hE dX0_arrange_75 (by decide) (fun c75 => ?_) (fun c75 => ?_)
            · have e1 : arrF L ar bars tf (i + 1) = (arrF L ar bars tf i) := arrF_out hs (fun z => (x_lei.mp z.2) c75)
              refine x_iinc (v := nI (i + 1)) (L' := [some (.ref c), some (.ref r), some (.int (nI (i + 1))), some (.ref (aL i)), some (.int sh)]) hE dX0_arrange_99 rfl (nI_1 _) rfl ?_
              refine x_goto (tgt := 18) hE dX0_arrange_102 (by decide) ?_
              have e2 := ih (i + 1) (by omega) (by omega) _ rfl
              rw [e1] at e2
              refine x_forget (L' := [some (.ref c), some (.ref r), some (.int (nI (i + 1))), none, none]) (And.intro rfl (And.intro rfl (And.intro rfl trivial))) ?_
              exact e2
            · refine x_aload_n hE dX0_arrange_78 rfl rfl ?_
              refine x_get hE hinX0 hc1 rfl 5 (by decide) (List.mem_of_getElem? (i := 1) rfl) rfl dX0_arrange_79 ?_
              refine x_iload_n hE dX0_arrange_82 rfl ?_
              refine x_iload hE dX0_arrange_83 rfl ?_
              refine x_iast (f' := (upd (arrF L ar bars tf i).1 i sh)) hE hs1 (vp_in_nI (by omega) (by decide)) (x_updN _ (by omega) _) dX0_arrange_85 ?_
              generalize hhh17 : x_up (arrH G h sA vA (arrF L ar bars tf i)) sA (.inl (g_c G 0, 16, .inl (upd (arrF L ar bars tf i).1 i sh))) = h17
              have hc18 : h17 sA = some (.inl (g_c G 0, 16, .inl (upd (arrF L ar bars tf i).1 i sh))) := by rw [← hhh17]; exact x_up_eq _ _ _
              have hc19 : h17 r = some (.inr (5, [.ref la, .int (nI L), .int bars])) := by rw [← hhh17, x_up_ne (fun e => by have z1 := hr1; rw [e, hs1] at z1; simp [lampE] at z1)]; exact hr1
              have hc20 : h17 la = some (.inl (g_c G 3, 16, .inr (.inr (.inr (.inr (lampF L aL)))))) := by rw [← hhh17, x_up_ne (fun e => by have z1 := hla1; rw [e, hs1] at z1; simp [lampE] at z1)]; exact hla1
              have hc21 : h17 c = some (.inr (0, [.int nu, .int so, .int up, .int dn, .ref tA, .ref sA, .ref vA, va_rf fo, .int de])) := by rw [← hhh17, x_up_ne (fun e => by have z1 := hc1; rw [e, hs1] at z1; simp [lampE] at z1)]; exact hc1
              have hc22 : h17 tA = some (.inl (g_c G 0, 16, .inl tf)) := by rw [← hhh17, x_up_ne nts]; exact ht1
              have hc23 : h17 vA = some (.inl (g_c G 0, 16, .inl ((arrF L ar bars tf i).2))) := by rw [← hhh17, x_up_ne (Ne.symm nsv)]; exact hv1
              have hc24 : h17 (aL i) = some (.inr (4, [.int (ar 2 i), .int (ar 3 i), .int (ar 4 i), .int (ar 5 i), .int (ar 6 i), .int (ar 7 i)])) := by rw [← hhh17, x_up_ne (fun e => by have z1 := (hlam1 i hi2); rw [e, hs1] at z1; simp [lampE] at z1)]; exact (hlam1 i hi2)
              refine x_aload_n hE dX0_arrange_86 rfl rfl ?_
              refine x_get hE hinX0 hc21 rfl 6 (by decide) (List.mem_of_getElem? (i := 2) rfl) rfl dX0_arrange_87 ?_
              refine x_iload hE dX0_arrange_90 rfl ?_
              refine x_aload_n hE dX0_arrange_92 rfl rfl ?_
              refine x_get hE hinX0 hc21 rfl 4 (by decide) (List.mem_of_getElem? (i := 3) rfl) rfl dX0_arrange_93 ?_
              refine x_iload_n hE dX0_arrange_96 rfl ?_
              refine x_iald (v := tf i) hE hc22 (vp_in_nI (by omega) (by decide)) (x_atN _ (by omega)) dX0_arrange_97 ?_
              refine x_iast (f' := (upd (arrF L ar bars tf i).2 sh.toNatClampNeg (tf i))) hE hc23 (x_inn (by decide) (x_ge0 c68) c75) rfl dX0_arrange_98 ?_
              generalize hhh25 : x_up h17 vA (.inl (g_c G 0, 16, .inl (upd (arrF L ar bars tf i).2 sh.toNatClampNeg (tf i)))) = h25
              have hc26 : h25 vA = some (.inl (g_c G 0, 16, .inl (upd (arrF L ar bars tf i).2 sh.toNatClampNeg (tf i)))) := by rw [← hhh25]; exact x_up_eq _ _ _
              have hc27 : h25 sA = some (.inl (g_c G 0, 16, .inl (upd (arrF L ar bars tf i).1 i sh))) := by rw [← hhh25, x_up_ne nsv]; exact hc18
              have hc28 : h25 r = some (.inr (5, [.ref la, .int (nI L), .int bars])) := by rw [← hhh25, x_up_ne (fun e => by have z1 := hc19; rw [e, hc23] at z1; simp [lampE] at z1)]; exact hc19
              have hc29 : h25 la = some (.inl (g_c G 3, 16, .inr (.inr (.inr (.inr (lampF L aL)))))) := by rw [← hhh25, x_up_ne (fun e => by have z1 := hc20; rw [e, hc23] at z1; simp [lampE] at z1)]; exact hc20
              have hc30 : h25 c = some (.inr (0, [.int nu, .int so, .int up, .int dn, .ref tA, .ref sA, .ref vA, va_rf fo, .int de])) := by rw [← hhh25, x_up_ne (fun e => by have z1 := hc21; rw [e, hc23] at z1; simp [lampE] at z1)]; exact hc21
              have hc31 : h25 tA = some (.inl (g_c G 0, 16, .inl tf)) := by rw [← hhh25, x_up_ne ntv]; exact hc22
              have hc32 : h25 (aL i) = some (.inr (4, [.int (ar 2 i), .int (ar 3 i), .int (ar 4 i), .int (ar 5 i), .int (ar 6 i), .int (ar 7 i)])) := by rw [← hhh25, x_up_ne (fun e => by have z1 := hc24; rw [e, hc23] at z1; simp [lampE] at z1)]; exact hc24
              have e1 : arrF L ar bars tf (i + 1) = (upd (arrF L ar bars tf i).1 i sh, upd (arrF L ar bars tf i).2 sh.toNatClampNeg (tf i)) := arrF_put hi2 c40 hs (x_ge0 c68) (x_lei.mpr c75)
              have e3 : h25 = arrH G h sA vA (arrF L ar bars tf (i + 1)) := by rw [← hhh25, ← hhh17, e1]; exact arrH_2 nsv _ _
              refine x_iinc (v := nI (i + 1)) (L' := [some (.ref c), some (.ref r), some (.int (nI (i + 1))), some (.ref (aL i)), some (.int sh)]) hE dX0_arrange_99 rfl (nI_1 _) rfl ?_
              refine x_goto (tgt := 18) hE dX0_arrange_102 (by decide) ?_
              refine x_forget (L' := [some (.ref c), some (.ref r), some (.int (nI (i + 1))), none, none]) (And.intro rfl (And.intro rfl (And.intro rfl trivial))) ?_
              exact ih (i + 1) (by omega) (by omega) _ e3
      · have e1 : arrF L ar bars tf (i + 1) = (arrF L ar bars tf i) := arrF_no (Or.inr c40)
        refine x_goto (tgt := 99) hE dX0_arrange_43 (by decide) ?_
        refine x_iinc (v := nI (i + 1)) (L' := [some (.ref c), some (.ref r), some (.int (nI (i + 1))), some (.ref (aL i)), none]) hE dX0_arrange_99 rfl (nI_1 _) rfl ?_
        refine x_goto (tgt := 18) hE dX0_arrange_102 (by decide) ?_
        have e2 := ih (i + 1) (by omega) (by omega) _ rfl
        rw [e1] at e2
        refine x_forget (L' := [some (.ref c), some (.ref r), some (.int (nI (i + 1))), none, none]) (And.intro rfl (And.intro rfl (And.intro rfl trivial))) ?_
        exact e2
    · refine x_qnull ((lampF_sel (by omega) (by decide)).trans (lampF_out hi2)) ?_
      refine x_astore_n (L' := [some (.ref c), some (.ref r), some (.int (nI i)), some (.null), none]) hE dX0_arrange_29 rfl (Nat.le_of_ble_eq_true rfl) rfl rfl ?_
      refine x_aload_n hE dX0_arrange_30 rfl rfl ?_
      refine x_ifnullN (tgt := 99) hE dX0_arrange_31 (by decide) ?_
      have e1 : arrF L ar bars tf (i + 1) = (arrF L ar bars tf i) := arrF_no (Or.inl (Nat.not_lt.mpr hi2))
      refine x_iinc (v := nI (i + 1)) (L' := [some (.ref c), some (.ref r), some (.int (nI (i + 1))), some (.null), none]) hE dX0_arrange_99 rfl (nI_1 _) rfl ?_
      refine x_goto (tgt := 18) hE dX0_arrange_102 (by decide) ?_
      have e2 := ih (i + 1) (by omega) (by omega) _ rfl
      rw [e1] at e2
      refine x_forget (L' := [some (.ref c), some (.ref r), some (.int (nI (i + 1))), none, none]) (And.intro rfl (And.intro rfl (And.intro rfl trivial))) ?_
      exact e2

set_option maxHeartbeats 4000000 in
set_option maxRecDepth 100000 in
theorem c_X0_init (G : XG) {c : Nat} {h : HM} {p0 p1 p2 p3 : Int32} (hc : h c = some (.inr (0, [.int 0, .int 0, .int 0, .int 0, .null, .null, .null, .null, .int 0]))) : x_M G yX0_init wsX0_init ({ frames := 1, cells := 3, slots := 48, locals := 23 } : Room) [.ref c, .int p0, .int p1, .int p2, .int p3] h (fun v h' => v = none ∧ ∃ tA sA vA : Nat, h tA = none ∧ h sA = none ∧ h vA = none ∧ tA ≠ sA ∧ tA ≠ vA ∧ sA ≠ vA ∧ h' c = some (.inr (0, [.int p0, .int p1, .int p2, .int p3, .ref tA, .ref sA, .ref vA, .null, .int 0])) ∧ h' tA = some (.inl (g_c G 0, 16, .inl (fun _ => 0))) ∧ h' sA = some (.inl (g_c G 0, 16, .inl (fun _ => -1))) ∧ h' vA = some (.inl (g_c G 0, 16, .inl (fun _ => 0))) ∧ x_fr (fun z => z = c) h h') 3 48 := by
  refine x_M.of (cc := cX0_init) (maxL := 5) (ret := none) (ent := [some (.ref c), some (.int p0), some (.int p1), some (.int p2), some (.int p3)]) (by decide +kernel) rfl (Nat.le_of_ble_eq_true rfl) rfl rfl ?_
  intro F hE hname
  have hinX0 : ∀ w ∈ wsX00, w ∈ wsX0_init := by decide +kernel
  have hf0 : x_fr (fun z => z = c) h h := x_fr.refl h
  refine x_aload_n hE dX0_init_0 rfl rfl ?_
  refine x_objinit hE (List.mem_of_getElem? (i := 1) rfl) (List.mem_of_getElem? (i := 2) rfl) (List.mem_of_getElem? (i := 3) rfl) rfl (Nat.le_of_ble_eq_true rfl) (Nat.le_of_ble_eq_true rfl) dX0_init_1 ?_
  refine x_aload_n hE dX0_init_4 rfl rfl ?_
  refine x_iload_n hE dX0_init_5 rfl ?_
  refine x_putF (fs' := [.int p0, .int 0, .int 0, .int 0, .null, .null, .null, .null, .int 0]) hE hinX0 tyX0 tyX0_ok nmX0 hc rfl 0 (by decide) (List.mem_of_getElem? (i := 4) rfl) rfl hname rfl rfl rfl (Nat.le_of_ble_eq_true rfl) rfl dX0_init_6 ?_
  generalize hhh1 : x_up h c (.inr (0, [.int p0, .int 0, .int 0, .int 0, .null, .null, .null, .null, .int 0])) = h1
  have hc2 : h1 c = some (.inr (0, [.int p0, .int 0, .int 0, .int 0, .null, .null, .null, .null, .int 0])) := by rw [← hhh1]; exact x_up_eq _ _ _
  have hfh1 : x_fr (fun z => z = c) h h1 := by rw [← hhh1]; exact hf0.up rfl
  refine x_aload_n hE dX0_init_9 rfl rfl ?_
  refine x_iload_n hE dX0_init_10 rfl ?_
  refine x_putF (fs' := [.int p0, .int p1, .int 0, .int 0, .null, .null, .null, .null, .int 0]) hE hinX0 tyX0 tyX0_ok nmX0 hc2 rfl 1 (by decide) (List.mem_of_getElem? (i := 5) rfl) rfl hname rfl rfl rfl (Nat.le_of_ble_eq_true rfl) rfl dX0_init_11 ?_
  generalize hhh3 : x_up h1 c (.inr (0, [.int p0, .int p1, .int 0, .int 0, .null, .null, .null, .null, .int 0])) = h3
  have hc4 : h3 c = some (.inr (0, [.int p0, .int p1, .int 0, .int 0, .null, .null, .null, .null, .int 0])) := by rw [← hhh3]; exact x_up_eq _ _ _
  have hfh3 : x_fr (fun z => z = c) h h3 := by rw [← hhh3]; exact hfh1.up rfl
  refine x_aload_n hE dX0_init_14 rfl rfl ?_
  refine x_iload_n hE dX0_init_15 rfl ?_
  refine x_putF (fs' := [.int p0, .int p1, .int p2, .int 0, .null, .null, .null, .null, .int 0]) hE hinX0 tyX0 tyX0_ok nmX0 hc4 rfl 2 (by decide) (List.mem_of_getElem? (i := 6) rfl) rfl hname rfl rfl rfl (Nat.le_of_ble_eq_true rfl) rfl dX0_init_16 ?_
  generalize hhh5 : x_up h3 c (.inr (0, [.int p0, .int p1, .int p2, .int 0, .null, .null, .null, .null, .int 0])) = h5
  have hc6 : h5 c = some (.inr (0, [.int p0, .int p1, .int p2, .int 0, .null, .null, .null, .null, .int 0])) := by rw [← hhh5]; exact x_up_eq _ _ _
  have hfh5 : x_fr (fun z => z = c) h h5 := by rw [← hhh5]; exact hfh3.up rfl
  refine x_aload_n hE dX0_init_19 rfl rfl ?_
  refine x_iload hE dX0_init_20 rfl ?_
  refine x_putF (fs' := [.int p0, .int p1, .int p2, .int p3, .null, .null, .null, .null, .int 0]) hE hinX0 tyX0 tyX0_ok nmX0 hc6 rfl 3 (by decide) (List.mem_of_getElem? (i := 7) rfl) rfl hname rfl rfl rfl (Nat.le_of_ble_eq_true rfl) rfl dX0_init_22 ?_
  generalize hhh7 : x_up h5 c (.inr (0, [.int p0, .int p1, .int p2, .int p3, .null, .null, .null, .null, .int 0])) = h7
  have hc8 : h7 c = some (.inr (0, [.int p0, .int p1, .int p2, .int p3, .null, .null, .null, .null, .int 0])) := by rw [← hhh7]; exact x_up_eq _ _ _
  have hfh7 : x_fr (fun z => z = c) h h7 := by rw [← hhh7]; exact hfh5.up rfl
  refine x_aload_n hE dX0_init_25 rfl rfl ?_
  refine x_bipush (v := nI 16) hE dX0_init_26 (by decide) ?_
  refine x_newa (t0 := 0) (cA := g_c G 0) (a0 := (16, .inl (fun _ => 0))) hE (List.mem_of_getElem? (i := 8) rfl) rfl rfl (fun C e => by cases e) (fun cA => rfl) (nI_pos (by decide)) (nI_clamp (by decide)) (by decide) (Nat.le_of_ble_eq_true rfl) (Nat.le_of_ble_eq_true rfl) dX0_init_28 (fun tA htA0 => ?_)
  generalize hhh9 : x_up h7 tA (.inl (g_c G 0, 16, .inl (fun _ => 0))) = h9
  have hc10 : h9 tA = some (.inl (g_c G 0, 16, .inl (fun _ => 0))) := by rw [← hhh9]; exact x_up_eq _ _ _
  have hc11 : h9 c = some (.inr (0, [.int p0, .int p1, .int p2, .int p3, .null, .null, .null, .null, .int 0])) := by rw [← hhh9, x_up_ne (x_none_ne htA0 hc8)]; exact hc8
  have hfh9 : x_fr (fun z => z = c) h h9 := by rw [← hhh9]; exact hfh7.new htA0
  have htA1 : h tA = none := hfh7.none1 hc8 htA0
  refine x_putF (fs' := [.int p0, .int p1, .int p2, .int p3, .ref tA, .null, .null, .null, .int 0]) hE hinX0 tyX0 tyX0_ok nmX0 hc11 rfl 4 (by decide) (List.mem_of_getElem? (i := 9) rfl) rfl hname rfl rfl rfl (Nat.le_of_ble_eq_true rfl) rfl dX0_init_30 ?_
  generalize hhh12 : x_up h9 c (.inr (0, [.int p0, .int p1, .int p2, .int p3, .ref tA, .null, .null, .null, .int 0])) = h12
  have hc13 : h12 c = some (.inr (0, [.int p0, .int p1, .int p2, .int p3, .ref tA, .null, .null, .null, .int 0])) := by rw [← hhh12]; exact x_up_eq _ _ _
  have hc14 : h12 tA = some (.inl (g_c G 0, 16, .inl (fun _ => 0))) := by rw [← hhh12, x_up_ne (Ne.symm (x_none_ne htA0 hc8))]; exact hc10
  have hfh12 : x_fr (fun z => z = c) h h12 := by rw [← hhh12]; exact hfh9.up rfl
  refine x_aload_n hE dX0_init_33 rfl rfl ?_
  refine x_bipush (v := nI 16) hE dX0_init_34 (by decide) ?_
  refine x_newa (t0 := 0) (cA := g_c G 0) (a0 := (16, .inl (fun _ => 0))) hE (List.mem_of_getElem? (i := 8) rfl) rfl rfl (fun C e => by cases e) (fun cA => rfl) (nI_pos (by decide)) (nI_clamp (by decide)) (by decide) (Nat.le_of_ble_eq_true rfl) (Nat.le_of_ble_eq_true rfl) dX0_init_36 (fun sA hsA0 => ?_)
  generalize hhh15 : x_up h12 sA (.inl (g_c G 0, 16, .inl (fun _ => 0))) = h15
  have hc16 : h15 sA = some (.inl (g_c G 0, 16, .inl (fun _ => 0))) := by rw [← hhh15]; exact x_up_eq _ _ _
  have hc17 : h15 c = some (.inr (0, [.int p0, .int p1, .int p2, .int p3, .ref tA, .null, .null, .null, .int 0])) := by rw [← hhh15, x_up_ne (x_none_ne hsA0 hc13)]; exact hc13
  have hc18 : h15 tA = some (.inl (g_c G 0, 16, .inl (fun _ => 0))) := by rw [← hhh15, x_up_ne (x_none_ne hsA0 hc14)]; exact hc14
  have hfh15 : x_fr (fun z => z = c) h h15 := by rw [← hhh15]; exact hfh12.new hsA0
  have hsA1 : h sA = none := hfh12.none1 hc13 hsA0
  refine x_putF (fs' := [.int p0, .int p1, .int p2, .int p3, .ref tA, .ref sA, .null, .null, .int 0]) hE hinX0 tyX0 tyX0_ok nmX0 hc17 rfl 5 (by decide) (List.mem_of_getElem? (i := 10) rfl) rfl hname rfl rfl rfl (Nat.le_of_ble_eq_true rfl) rfl dX0_init_38 ?_
  generalize hhh19 : x_up h15 c (.inr (0, [.int p0, .int p1, .int p2, .int p3, .ref tA, .ref sA, .null, .null, .int 0])) = h19
  have hc20 : h19 c = some (.inr (0, [.int p0, .int p1, .int p2, .int p3, .ref tA, .ref sA, .null, .null, .int 0])) := by rw [← hhh19]; exact x_up_eq _ _ _
  have hc21 : h19 sA = some (.inl (g_c G 0, 16, .inl (fun _ => 0))) := by rw [← hhh19, x_up_ne (Ne.symm (x_none_ne hsA0 hc13))]; exact hc16
  have hc22 : h19 tA = some (.inl (g_c G 0, 16, .inl (fun _ => 0))) := by rw [← hhh19, x_up_ne (Ne.symm (x_none_ne htA0 hc8))]; exact hc18
  have hfh19 : x_fr (fun z => z = c) h h19 := by rw [← hhh19]; exact hfh15.up rfl
  refine x_aload_n hE dX0_init_41 rfl rfl ?_
  refine x_bipush (v := nI 16) hE dX0_init_42 (by decide) ?_
  refine x_newa (t0 := 0) (cA := g_c G 0) (a0 := (16, .inl (fun _ => 0))) hE (List.mem_of_getElem? (i := 8) rfl) rfl rfl (fun C e => by cases e) (fun cA => rfl) (nI_pos (by decide)) (nI_clamp (by decide)) (by decide) (Nat.le_of_ble_eq_true rfl) (Nat.le_of_ble_eq_true rfl) dX0_init_44 (fun vA hvA0 => ?_)
  generalize hhh23 : x_up h19 vA (.inl (g_c G 0, 16, .inl (fun _ => 0))) = h23
  have hc24 : h23 vA = some (.inl (g_c G 0, 16, .inl (fun _ => 0))) := by rw [← hhh23]; exact x_up_eq _ _ _
  have hc25 : h23 c = some (.inr (0, [.int p0, .int p1, .int p2, .int p3, .ref tA, .ref sA, .null, .null, .int 0])) := by rw [← hhh23, x_up_ne (x_none_ne hvA0 hc20)]; exact hc20
  have hc26 : h23 sA = some (.inl (g_c G 0, 16, .inl (fun _ => 0))) := by rw [← hhh23, x_up_ne (x_none_ne hvA0 hc21)]; exact hc21
  have hc27 : h23 tA = some (.inl (g_c G 0, 16, .inl (fun _ => 0))) := by rw [← hhh23, x_up_ne (x_none_ne hvA0 hc22)]; exact hc22
  have hfh23 : x_fr (fun z => z = c) h h23 := by rw [← hhh23]; exact hfh19.new hvA0
  have hvA1 : h vA = none := hfh19.none1 hc20 hvA0
  refine x_putF (fs' := [.int p0, .int p1, .int p2, .int p3, .ref tA, .ref sA, .ref vA, .null, .int 0]) hE hinX0 tyX0 tyX0_ok nmX0 hc25 rfl 6 (by decide) (List.mem_of_getElem? (i := 11) rfl) rfl hname rfl rfl rfl (Nat.le_of_ble_eq_true rfl) rfl dX0_init_46 ?_
  generalize hhh28 : x_up h23 c (.inr (0, [.int p0, .int p1, .int p2, .int p3, .ref tA, .ref sA, .ref vA, .null, .int 0])) = h28
  have hc29 : h28 c = some (.inr (0, [.int p0, .int p1, .int p2, .int p3, .ref tA, .ref sA, .ref vA, .null, .int 0])) := by rw [← hhh28]; exact x_up_eq _ _ _
  have hc30 : h28 vA = some (.inl (g_c G 0, 16, .inl (fun _ => 0))) := by rw [← hhh28, x_up_ne (Ne.symm (x_none_ne hvA0 hc20))]; exact hc24
  have hc31 : h28 sA = some (.inl (g_c G 0, 16, .inl (fun _ => 0))) := by rw [← hhh28, x_up_ne (Ne.symm (x_none_ne hsA0 hc13))]; exact hc26
  have hc32 : h28 tA = some (.inl (g_c G 0, 16, .inl (fun _ => 0))) := by rw [← hhh28, x_up_ne (Ne.symm (x_none_ne htA0 hc8))]; exact hc27
  have hfh28 : x_fr (fun z => z = c) h h28 := by rw [← hhh28]; exact hfh23.up rfl
  refine x_aload_n hE dX0_init_49 rfl rfl ?_
  refine x_get hE hinX0 hc29 rfl 5 (by decide) (List.mem_of_getElem? (i := 10) rfl) rfl dX0_init_50 ?_
  refine x_iconst (v := (-1 : Int32)) hE dX0_init_53 (by decide) ?_
  refine x_callS (st := []) hE 2 (c_J7_fill_53178 G hc31 (by decide)) gX0_init_J7_fill_53178 rfl rfl rfl (by decide +kernel) ⟨Nat.le_of_ble_eq_true rfl, Nat.le_of_ble_eq_true rfl⟩ rfl rfl dX0_init_54 rfl (Nat.le_of_ble_eq_true rfl) ⟨Nat.le_of_ble_eq_true rfl, Nat.le_of_ble_eq_true rfl⟩ (fun v h9 hp => ?_)
  obtain ⟨rfl, rfl⟩ := hp
  generalize hhh33 : x_up h28 sA (.inl (g_c G 0, 16, .inl (fun _ => (-1 : Int32)))) = h33
  have hc34 : h33 sA = some (.inl (g_c G 0, 16, .inl (fun _ => (-1 : Int32)))) := by rw [← hhh33]; exact x_up_eq _ _ _
  have hc35 : h33 c = some (.inr (0, [.int p0, .int p1, .int p2, .int p3, .ref tA, .ref sA, .ref vA, .null, .int 0])) := by rw [← hhh33, x_up_ne (x_none_ne hsA0 hc13)]; exact hc29
  have hc36 : h33 vA = some (.inl (g_c G 0, 16, .inl (fun _ => 0))) := by rw [← hhh33, x_up_ne (Ne.symm (x_none_ne hvA0 hc21))]; exact hc30
  have hc37 : h33 tA = some (.inl (g_c G 0, 16, .inl (fun _ => 0))) := by rw [← hhh33, x_up_ne (x_none_ne hsA0 hc14)]; exact hc32
  have hfh33 : x_fr (fun z => z = c) h h33 := by rw [← hhh33]; exact hfh28.upn hsA1
  exact x_vret hE dX0_init_57 (⟨rfl, tA, sA, vA, htA1, hsA1, hvA1, (x_none_ne hsA0 hc14), (x_none_ne hvA0 hc22), (x_none_ne hvA0 hc21), hc35, hc37, hc34, hc36, hfh33⟩)
