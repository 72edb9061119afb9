set_option maxHeartbeats 4000000 in
set_option maxRecDepth 100000 in
/-- Arrays.fill -/
theorem c_J7_fill_53178 (G : XG) {q n : Nat} {h : HM} {f : Nat → Int32} {v : Int32} (hq : h q = some (.inl (g_c G 0, n, .inl f))) (hn : n < 2 ^ 31) : x_M G yJ7_fill_53178 wsJ7_fill_53178 ({ frames := 0, cells := 0, slots := 0, locals := 0 } : Room) [.ref q, .int v] h (x_is none (x_up h q (.inl (g_c G 0, n, .inl (fun _ => v))))) 0 0 := by
  refine x_M.of (cc := cJ7_fill_53178) (maxL := 4) (ret := none) (ent := [some (.ref q), some (.int v), none, none]) (by decide +kernel) rfl (Nat.le_of_ble_eq_true rfl) rfl rfl ?_
  intro F hE hname
  refine x_iconst (v := nI 0) hE dJ7_fill_53178_0 (by decide) ?_
  refine x_istore_n (L' := [some (.ref q), some (.int v), some (.int (nI 0)), none]) hE dJ7_fill_53178_1 rfl (Nat.le_of_ble_eq_true rfl) rfl ?_
  refine x_aload_n hE dJ7_fill_53178_2 rfl rfl ?_
  refine x_alen (t0 := 0) hE hq rfl dJ7_fill_53178_3 ?_
  refine x_istore_n (L' := [some (.ref q), some (.int v), some (.int (nI 0)), some (.int (nI n))]) hE dJ7_fill_53178_4 rfl (Nat.le_of_ble_eq_true rfl) rfl ?_
  refine x_heq (h' := x_up h q (.inl (g_c G 0, n, .inl (filF v f 0)))) (by rw [filF_0, x_up_self hq]) ?_
  refine x_down (N := n) (P := fun i => x_W G F (x_Q G F (x_is none (x_up h q (.inl (g_c G 0, n, .inl (fun _ => v))))) 0 0) 0 0 (x_up h q (.inl (g_c G 0, n, .inl (filF v f i)))) 5 [some (.ref q), some (.int v), some (.int (nI i)), some (.int (nI n))] []) (fun i hiN ih => ?_) 0 (by omega) 
  refine x_iload_n hE dJ7_fill_53178_5 rfl ?_
  refine x_iload_n hE dJ7_fill_53178_6 rfl ?_
  refine x_icmp_ge (tgt := 20) hE dJ7_fill_53178_7 (by decide) (fun c7 => ?_) (fun c7 => ?_)
  · replace c7 := x_nIle c7 (by omega) (by omega)
    obtain rfl : i = n := by omega
    refine x_refit (x_up_eq _ _ _) (fun j hj => filF_n hj) ?_
    rw [x_up_up]
    exact x_vret hE dJ7_fill_53178_20 (⟨rfl, rfl⟩)
  · replace c7 := x_nInle c7 (by omega) (by omega)
    refine x_aload_n hE dJ7_fill_53178_10 rfl rfl ?_
    refine x_iload_n hE dJ7_fill_53178_11 rfl ?_
    refine x_iload_n hE dJ7_fill_53178_12 rfl ?_
    refine x_iast (f' := filF v f (i + 1)) hE (x_up_eq _ _ _) (vp_in_nI c7 hn) (by rw [nI_clamp (by omega)]; exact filF_s v f i) dJ7_fill_53178_13 ?_
    rw [x_up_up]
    refine x_iinc (v := nI (i + 1)) (L' := [some (.ref q), some (.int v), some (.int (nI (i + 1))), some (.int (nI n))]) hE dJ7_fill_53178_14 rfl (nI_1 _) rfl ?_
    refine x_goto (tgt := 5) hE dJ7_fill_53178_17 (by decide) ?_
    exact ih (i + 1) (by omega) (by omega)

set_option maxHeartbeats 4000000 in
set_option maxRecDepth 100000 in
theorem c_X5_countUsable (G : XG) {r la L : Nat} {aL : Nat → Nat} {ar : Nat → Nat → Int32} {bars : Int32} {h : HM} (hR : rigW G r la L aL ar bars h) : x_M G yX5_countUsable wsX5_countUsable ({ frames := 1, cells := 0, slots := 0, locals := 21 } : Room) [.ref r] h (x_is (some (.int (nI (cnt_ (usL L ar bars) 16)))) h) 0 0 := by
  refine x_M.of (cc := cX5_countUsable) (maxL := 3) (ret := (some .int)) (ent := [some (.ref r), none, none]) (by decide +kernel) rfl (Nat.le_of_ble_eq_true rfl) rfl rfl ?_
  intro F hE hname
  have hinX5 : ∀ w ∈ wsX50, w ∈ wsX5_countUsable := by decide +kernel
  obtain ⟨hr, hla, hL16, hlam⟩ := id hR
  refine x_iconst (v := nI 0) hE dX5_countUsable_0 (by decide) ?_
  refine x_istore_n (L' := [some (.ref r), some (.int (nI 0)), none]) hE dX5_countUsable_1 rfl (Nat.le_of_ble_eq_true rfl) rfl ?_
  refine x_iconst (v := nI 0) hE dX5_countUsable_2 (by decide) ?_
  refine x_istore_n (L' := [some (.ref r), some (.int (nI 0)), some (.int (nI 0))]) hE dX5_countUsable_3 rfl (Nat.le_of_ble_eq_true rfl) rfl ?_
  refine x_down (N := 16) (P := fun i => x_W G F (x_Q G F (x_is (some (.int (nI (cnt_ (usL L ar bars) 16)))) h) 0 0) 0 0 h 4 [some (.ref r), some (.int (nI (cnt_ (usL L ar bars) i))), some (.int (nI i))] []) (fun i hiN ih => ?_) 0 (by omega) 
  refine x_iload_n hE dX5_countUsable_4 rfl ?_
  refine x_aload_n hE dX5_countUsable_5 rfl rfl ?_
  refine x_get hE hinX5 hr rfl 0 (by decide) (List.mem_of_getElem? (i := 1) rfl) rfl dX5_countUsable_6 ?_
  refine x_alen (t0 := 3) hE hla rfl dX5_countUsable_9 ?_
  refine x_icmp_ge (tgt := 35) hE dX5_countUsable_10 (by decide) (fun c10 => ?_) (fun c10 => ?_)
  · replace c10 := x_nIle c10 (by omega) (by omega)
    obtain rfl : i = 16 := by omega
    refine x_iload_n hE dX5_countUsable_35 rfl ?_
    exact x_iret hE dX5_countUsable_36 (⟨rfl, rfl⟩)
  · replace c10 := x_nInle c10 (by omega) (by omega)
    refine x_aload_n hE dX5_countUsable_13 rfl rfl ?_
    refine x_aload_n hE dX5_countUsable_14 rfl rfl ?_
    refine x_get hE hinX5 hr rfl 0 (by decide) (List.mem_of_getElem? (i := 1) rfl) rfl dX5_countUsable_15 ?_
    refine x_iload_n hE dX5_countUsable_18 rfl ?_
    refine x_aald (t0 := 3) (v := lampF L aL i) hE hla rfl (vp_in_nI (by omega) (by decide)) (x_atN _ (by omega)) dX5_countUsable_19 ?_
    rcases Nat.lt_or_ge i L with hi2 | hi2
    · refine x_qref (q := (aL i)) (lampF_in hi2) ?_
      refine x_callV (ci := 5) (st := []) hE 1 (c_X5_isUsable G hr hla (hlam i hi2)) gX5_countUsable_X5_isUsable rfl rfl rfl (by decide +kernel) ⟨Nat.le_of_ble_eq_true rfl, Nat.le_of_ble_eq_true rfl⟩ hr rfl rfl rfl dX5_countUsable_20 rfl (Nat.le_of_ble_eq_true rfl) ⟨Nat.le_of_ble_eq_true rfl, Nat.le_of_ble_eq_true rfl⟩ (fun v h9 hp => ?_)
      obtain ⟨rfl, rfl⟩ := hp
      refine x_if_eq (tgt := 29) hE dX5_countUsable_23 (by decide) (fun c23 => ?_) (fun c23 => ?_)
      · have hb := b2i_0.mp c23
        have e1 : cnt_ (usL L ar bars) (i + 1) = cnt_ (usL L ar bars) i := by simp [cnt_, usL, hi2, hb]
        refine x_iinc (v := nI (i + 1)) (L' := [some (.ref r), some (.int (nI (cnt_ (usL L ar bars) i))), some (.int (nI (i + 1)))]) hE dX5_countUsable_29 rfl (nI_1 _) rfl ?_
        refine x_goto (tgt := 4) hE dX5_countUsable_32 (by decide) ?_
        have e2 := ih (i + 1) (by omega) (by omega)
        rw [e1] at e2
        exact e2
      · have hb := b2i_n0.mp c23
        have e1 : cnt_ (usL L ar bars) (i + 1) = cnt_ (usL L ar bars) i + 1 := by simp [cnt_, usL, hi2, hb]
        refine x_iinc (v := nI ((cnt_ (usL L ar bars) i) + 1)) (L' := [some (.ref r), some (.int (nI ((cnt_ (usL L ar bars) i) + 1))), some (.int (nI i))]) hE dX5_countUsable_26 rfl (nI_1 _) rfl ?_
        refine x_iinc (v := nI (i + 1)) (L' := [some (.ref r), some (.int (nI ((cnt_ (usL L ar bars) i) + 1))), some (.int (nI (i + 1)))]) hE dX5_countUsable_29 rfl (nI_1 _) rfl ?_
        refine x_goto (tgt := 4) hE dX5_countUsable_32 (by decide) ?_
        have e2 := ih (i + 1) (by omega) (by omega)
        rw [e1] at e2
        exact e2
    · refine x_qnull (lampF_out hi2) ?_
      refine x_callV (ci := 5) (st := []) hE 1 (c_X5_isUsableN G hr hla) gX5_countUsable_X5_isUsable rfl rfl rfl (by decide +kernel) ⟨Nat.le_of_ble_eq_true rfl, Nat.le_of_ble_eq_true rfl⟩ hr rfl rfl rfl dX5_countUsable_20 rfl (Nat.le_of_ble_eq_true rfl) ⟨Nat.le_of_ble_eq_true rfl, Nat.le_of_ble_eq_true rfl⟩ (fun v h9 hp => ?_)
      obtain ⟨rfl, rfl⟩ := hp
      refine x_if_eq (tgt := 29) hE dX5_countUsable_23 (by decide) (fun c23 => ?_) (fun c23 => ?_)
      · have e1 : cnt_ (usL L ar bars) (i + 1) = cnt_ (usL L ar bars) i := by simp [cnt_, usL, Nat.not_lt.mpr hi2]
        refine x_iinc (v := nI (i + 1)) (L' := [some (.ref r), some (.int (nI (cnt_ (usL L ar bars) i))), some (.int (nI (i + 1)))]) hE dX5_countUsable_29 rfl (nI_1 _) rfl ?_
        refine x_goto (tgt := 4) hE dX5_countUsable_32 (by decide) ?_
        have e2 := ih (i + 1) (by omega) (by omega)
        rw [e1] at e2
        exact e2
      · exact absurd rfl c23

set_option maxHeartbeats 4000000 in
set_option maxRecDepth 100000 in
theorem c_X5_nearestSpare (G : XG) {r la L : Nat} {aL : Nat → Nat} {ar : Nat → Nat → Int32} {bars : Int32} {h : HM} (hR : rigW G r la L aL ar bars h) {c tA sA vA : Nat} {nu so up dn de : Int32} {fo : Option Nat} (hc : h c = some (.inr (0, [.int nu, .int so, .int up, .int dn, .ref tA, .ref sA, .ref vA, va_rf fo, .int de]))) {tf : Nat → Int32} (htA : h tA = some (.inl (g_c G 0, 16, .inl tf))) {vf : Nat → Int32} (hvA : h vA = some (.inl (g_c G 0, 16, .inl vf))) {m : Nat} (hm : m < L) : x_M G yX5_nearestSpare wsX5_nearestSpare ({ frames := 2, cells := 0, slots := 0, locals := 42 } : Room) [.ref r, .ref (aL m), .ref c] h (x_is (some (.int (nearS L ar bars tf vf m))) h) 0 0 := by
  refine x_M.of (cc := cX5_nearestSpare) (maxL := 8) (ret := (some .int)) (ent := [some (.ref r), some (.ref (aL m)), some (.ref c), none, none, none, none, none]) (by decide +kernel) rfl (Nat.le_of_ble_eq_true rfl) rfl rfl ?_
  intro F hE hname
  have hinX4 : ∀ w ∈ wsX40, w ∈ wsX5_nearestSpare := by decide +kernel
  have hinX5 : ∀ w ∈ wsX50, w ∈ wsX5_nearestSpare := by decide +kernel
  obtain ⟨hr, hla, hL16, hlam⟩ := id hR
  refine x_iconst (v := (-1 : Int32)) hE dX5_nearestSpare_0 (by decide) ?_
  refine x_istore_n (L' := [some (.ref r), some (.ref (aL m)), some (.ref c), some (.int (-1 : Int32)), none, none, none, none]) hE dX5_nearestSpare_1 rfl (Nat.le_of_ble_eq_true rfl) rfl ?_
  refine x_iconst (v := nI 0) hE dX5_nearestSpare_2 (by decide) ?_
  refine x_istore (L' := [some (.ref r), some (.ref (aL m)), some (.ref c), some (.int (-1 : Int32)), some (.int (nI 0)), none, none, none]) hE dX5_nearestSpare_3 (Nat.le_of_ble_eq_true rfl) rfl ?_
  refine x_iconst (v := nI 0) hE dX5_nearestSpare_5 (by decide) ?_
  refine x_istore (L' := [some (.ref r), some (.ref (aL m)), some (.ref c), some (.int (-1 : Int32)), some (.int (nI 0)), some (.int (nI 0)), none, none]) hE dX5_nearestSpare_6 (Nat.le_of_ble_eq_true rfl) rfl ?_
  refine x_down (N := 16) (P := fun i => x_W G F (x_Q G F (x_is (some (.int (nearS L ar bars tf vf m))) h) 0 0) 0 0 h 8 [some (.ref r), some (.ref (aL m)), some (.ref c), some (.int ((nearF (candS L ar bars tf vf m) (distS ar m) i).1)), some (.int ((nearF (candS L ar bars tf vf m) (distS ar m) i).2)), some (.int (nI i)), none, none] []) (fun i hiN ih => ?_) 0 (by omega) 
  refine x_iload hE dX5_nearestSpare_8 rfl ?_
  refine x_aload_n hE dX5_nearestSpare_10 rfl rfl ?_
  refine x_get hE hinX5 hr rfl 0 (by decide) (List.mem_of_getElem? (i := 1) rfl) rfl dX5_nearestSpare_11 ?_
  refine x_alen (t0 := 3) hE hla rfl dX5_nearestSpare_14 ?_
  refine x_icmp_ge (tgt := 98) hE dX5_nearestSpare_15 (by decide) (fun c15 => ?_) (fun c15 => ?_)
  · replace c15 := x_nIle c15 (by omega) (by omega)
    obtain rfl : i = 16 := by omega
    refine x_iload_n hE dX5_nearestSpare_98 rfl ?_
    exact x_iret hE dX5_nearestSpare_99 (⟨rfl, rfl⟩)
  · replace c15 := x_nInle c15 (by omega) (by omega)
    refine x_aload_n hE dX5_nearestSpare_18 rfl rfl ?_
    refine x_get hE hinX5 hr rfl 0 (by decide) (List.mem_of_getElem? (i := 1) rfl) rfl dX5_nearestSpare_19 ?_
    refine x_iload hE dX5_nearestSpare_22 rfl ?_
    refine x_aald (t0 := 3) (v := lampF L aL i) hE hla rfl (vp_in_nI (by omega) (by decide)) (x_atN _ (by omega)) dX5_nearestSpare_24 ?_
    rcases Nat.lt_or_ge i L with hi2 | hi2
    · refine x_qref (q := (aL i)) (lampF_in hi2) ?_
      refine x_astore (L' := [some (.ref r), some (.ref (aL m)), some (.ref c), some (.int ((nearF (candS L ar bars tf vf m) (distS ar m) i).1)), some (.int ((nearF (candS L ar bars tf vf m) (distS ar m) i).2)), some (.int (nI i)), some (.ref (aL i)), none]) hE dX5_nearestSpare_25 (Nat.le_of_ble_eq_true rfl) rfl rfl ?_
      refine x_aload hE dX5_nearestSpare_27 rfl rfl ?_
      refine x_ifnull hE dX5_nearestSpare_29 ?_
      refine x_aload_n hE dX5_nearestSpare_32 rfl rfl ?_
      refine x_aload hE dX5_nearestSpare_33 rfl rfl ?_
      refine x_callV (ci := 5) (st := []) hE 1 (c_X5_isUsable G hr hla (hlam i hi2)) gX5_nearestSpare_X5_isUsable rfl rfl rfl (by decide +kernel) ⟨Nat.le_of_ble_eq_true rfl, Nat.le_of_ble_eq_true rfl⟩ hr rfl rfl rfl dX5_nearestSpare_35 rfl (Nat.le_of_ble_eq_true rfl) ⟨Nat.le_of_ble_eq_true rfl, Nat.le_of_ble_eq_true rfl⟩ (fun v h9 hp => ?_)
      obtain ⟨rfl, rfl⟩ := hp
      refine x_if_eq (tgt := 92) hE dX5_nearestSpare_38 (by decide) (fun c38 => ?_) (fun c38 => ?_)
      · have e1 : nearF (candS L ar bars tf vf m) (distS ar m) (i + 1) = (nearF (candS L ar bars tf vf m) (distS ar m) i) := nearF_n (by simp only [candS]; rw [b2i_0.mp c38]; simp)
        refine x_iinc (v := nI (i + 1)) (L' := [some (.ref r), some (.ref (aL m)), some (.ref c), some (.int ((nearF (candS L ar bars tf vf m) (distS ar m) i).1)), some (.int ((nearF (candS L ar bars tf vf m) (distS ar m) i).2)), some (.int (nI (i + 1))), some (.ref (aL i)), none]) hE dX5_nearestSpare_92 rfl (nI_1 _) rfl ?_
        refine x_goto (tgt := 8) hE dX5_nearestSpare_95 (by decide) ?_
        have e2 := ih (i + 1) (by omega) (by omega)
        rw [e1] at e2
        refine x_forget (L' := [some (.ref r), some (.ref (aL m)), some (.ref c), some (.int ((nearF (candS L ar bars tf vf m) (distS ar m) i).1)), some (.int ((nearF (candS L ar bars tf vf m) (distS ar m) i).2)), some (.int (nI (i + 1))), none, none]) (And.intro rfl (And.intro rfl (And.intro rfl (And.intro rfl (And.intro rfl (And.intro rfl trivial)))))) ?_
        exact e2
      · have hb := b2i_n0.mp c38
        refine x_aload hE dX5_nearestSpare_41 rfl rfl ?_
        refine x_get hE hinX4 (hlam i hi2) rfl 2 (by decide) (List.mem_of_getElem? (i := 2) rfl) rfl dX5_nearestSpare_43 ?_
        refine x_aload_n hE dX5_nearestSpare_46 rfl rfl ?_
        refine x_get hE hinX4 (hlam m hm) rfl 2 (by decide) (List.mem_of_getElem? (i := 2) rfl) rfl dX5_nearestSpare_47 ?_
        refine x_icmp_ne (tgt := 92) hE dX5_nearestSpare_50 (by decide) (fun c50 => ?_) (fun c50 => ?_)
        · have e1 : nearF (candS L ar bars tf vf m) (distS ar m) (i + 1) = (nearF (candS L ar bars tf vf m) (distS ar m) i) := nearF_n (by simp only [candS]; rw [decide_eq_false c50]; simp)
          refine x_iinc (v := nI (i + 1)) (L' := [some (.ref r), some (.ref (aL m)), some (.ref c), some (.int ((nearF (candS L ar bars tf vf m) (distS ar m) i).1)), some (.int ((nearF (candS L ar bars tf vf m) (distS ar m) i).2)), some (.int (nI (i + 1))), some (.ref (aL i)), none]) hE dX5_nearestSpare_92 rfl (nI_1 _) rfl ?_
          refine x_goto (tgt := 8) hE dX5_nearestSpare_95 (by decide) ?_
          have e2 := ih (i + 1) (by omega) (by omega)
          rw [e1] at e2
          refine x_forget (L' := [some (.ref r), some (.ref (aL m)), some (.ref c), some (.int ((nearF (candS L ar bars tf vf m) (distS ar m) i).1)), some (.int ((nearF (candS L ar bars tf vf m) (distS ar m) i).2)), some (.int (nI (i + 1))), none, none]) (And.intro rfl (And.intro rfl (And.intro rfl (And.intro rfl (And.intro rfl (And.intro rfl trivial)))))) ?_
          exact e2
        · refine x_aload_n hE dX5_nearestSpare_53 rfl rfl ?_
          refine x_iload hE dX5_nearestSpare_54 rfl ?_
          refine x_callV (ci := 0) (st := []) hE 1 (c_X0_canSpare G hc htA hvA (k := i) c15) gX5_nearestSpare_X0_canSpare rfl rfl rfl (by decide +kernel) ⟨Nat.le_of_ble_eq_true rfl, Nat.le_of_ble_eq_true rfl⟩ hc rfl rfl rfl dX5_nearestSpare_56 rfl (Nat.le_of_ble_eq_true rfl) ⟨Nat.le_of_ble_eq_true rfl, Nat.le_of_ble_eq_true rfl⟩ (fun v h9 hp => ?_)
          obtain ⟨rfl, rfl⟩ := hp
          refine x_if_ne (tgt := 65) hE dX5_nearestSpare_59 (by decide) (fun c59 => ?_) (fun c59 => ?_)
          · have hs := b2i_n0.mp c59
            have hcd : candS L ar bars tf vf m i = true := by simp only [candS]; rw [decide_eq_true hi2, hb, decide_eq_true c50, hs]; rfl
            refine x_aload_n hE dX5_nearestSpare_65 rfl rfl ?_
            refine x_aload hE dX5_nearestSpare_66 rfl rfl ?_
            refine x_callV (ci := 4) (st := []) hE 1 (c_X4_distanceTo G (hlam m hm) (hlam i hi2)) gX5_nearestSpare_X4_distanceTo rfl rfl rfl (by decide +kernel) ⟨Nat.le_of_ble_eq_true rfl, Nat.le_of_ble_eq_true rfl⟩ (hlam m hm) rfl rfl rfl dX5_nearestSpare_68 rfl (Nat.le_of_ble_eq_true rfl) ⟨Nat.le_of_ble_eq_true rfl, Nat.le_of_ble_eq_true rfl⟩ (fun v h9 hp => ?_)
            obtain ⟨rfl, rfl⟩ := hp
            refine x_istore (L' := [some (.ref r), some (.ref (aL m)), some (.ref c), some (.int ((nearF (candS L ar bars tf vf m) (distS ar m) i).1)), some (.int ((nearF (candS L ar bars tf vf m) (distS ar m) i).2)), some (.int (nI i)), some (.ref (aL i)), some (.int (distS ar m i))]) hE dX5_nearestSpare_71 (Nat.le_of_ble_eq_true rfl) rfl ?_
            refine x_iload_n hE dX5_nearestSpare_73 rfl ?_
            refine x_iconst (v := (-1 : Int32)) hE dX5_nearestSpare_74 (by decide) ?_
            refine x_icmp_eq (tgt := 85) hE dX5_nearestSpare_75 (by decide) (fun c75 => ?_) (fun c75 => ?_)
            · have e1 : nearF (candS L ar bars tf vf m) (distS ar m) (i + 1) = (nI i, distS ar m i) := nearF_y (by rw [hcd, decide_eq_true c75, Bool.true_or]; rfl)
              refine x_iload hE dX5_nearestSpare_85 rfl ?_
              refine x_istore (L' := [some (.ref r), some (.ref (aL m)), some (.ref c), some (.int ((nearF (candS L ar bars tf vf m) (distS ar m) i).1)), some (.int (distS ar m i)), some (.int (nI i)), some (.ref (aL i)), some (.int (distS ar m i))]) hE dX5_nearestSpare_87 (Nat.le_of_ble_eq_true rfl) rfl ?_
              refine x_iload hE dX5_nearestSpare_89 rfl ?_
              refine x_istore_n (L' := [some (.ref r), some (.ref (aL m)), some (.ref c), some (.int (nI i)), some (.int (distS ar m i)), some (.int (nI i)), some (.ref (aL i)), some (.int (distS ar m i))]) hE dX5_nearestSpare_91 rfl (Nat.le_of_ble_eq_true rfl) rfl ?_
              refine x_iinc (v := nI (i + 1)) (L' := [some (.ref r), some (.ref (aL m)), some (.ref c), some (.int (nI i)), some (.int (distS ar m i)), some (.int (nI (i + 1))), some (.ref (aL i)), some (.int (distS ar m i))]) hE dX5_nearestSpare_92 rfl (nI_1 _) rfl ?_
              refine x_goto (tgt := 8) hE dX5_nearestSpare_95 (by decide) ?_
              have e2 := ih (i + 1) (by omega) (by omega)
              rw [e1] at e2
              refine x_forget (L' := [some (.ref r), some (.ref (aL m)), some (.ref c), some (.int (nI i)), some (.int (distS ar m i)), some (.int (nI (i + 1))), none, none]) (And.intro rfl (And.intro rfl (And.intro rfl (And.intro rfl (And.intro rfl (And.intro rfl trivial)))))) ?_
              exact e2
            · refine x_iload hE dX5_nearestSpare_78 rfl ?_
              refine x_iload hE dX5_nearestSpare_80 rfl ?_
              refine x_icmp_ge (tgt := 92) hE dX5_nearestSpare_82 (by decide) (fun c82 => ?_) (fun c82 => ?_)
              · have e1 : nearF (candS L ar bars tf vf m) (distS ar m) (i + 1) = (nearF (candS L ar bars tf vf m) (distS ar m) i) := nearF_n (by rw [hcd, decide_eq_false c75, decide_eq_false (fun z => (x_lei.mp z) c82)]; rfl)
                refine x_iinc (v := nI (i + 1)) (L' := [some (.ref r), some (.ref (aL m)), some (.ref c), some (.int ((nearF (candS L ar bars tf vf m) (distS ar m) i).1)), some (.int ((nearF (candS L ar bars tf vf m) (distS ar m) i).2)), some (.int (nI (i + 1))), some (.ref (aL i)), some (.int (distS ar m i))]) hE dX5_nearestSpare_92 rfl (nI_1 _) rfl ?_
                refine x_goto (tgt := 8) hE dX5_nearestSpare_95 (by decide) ?_
                have e2 := ih (i + 1) (by omega) (by omega)
                rw [e1] at e2
                refine x_forget (L' := [some (.ref r), some (.ref (aL m)), some (.ref c), some (.int ((nearF (candS L ar bars tf vf m) (distS ar m) i).1)), some (.int ((nearF (candS L ar bars tf vf m) (distS ar m) i).2)), some (.int (nI (i + 1))), none, none]) (And.intro rfl (And.intro rfl (And.intro rfl (And.intro rfl (And.intro rfl (And.intro rfl trivial)))))) ?_
                exact e2
              · have e1 : nearF (candS L ar bars tf vf m) (distS ar m) (i + 1) = (nI i, distS ar m i) := nearF_y (by rw [hcd, decide_eq_true (x_lei.mpr c82), Bool.or_true]; rfl)
                refine x_iload hE dX5_nearestSpare_85 rfl ?_
                refine x_istore (L' := [some (.ref r), some (.ref (aL m)), some (.ref c), some (.int ((nearF (candS L ar bars tf vf m) (distS ar m) i).1)), some (.int (distS ar m i)), some (.int (nI i)), some (.ref (aL i)), some (.int (distS ar m i))]) hE dX5_nearestSpare_87 (Nat.le_of_ble_eq_true rfl) rfl ?_
                refine x_iload hE dX5_nearestSpare_89 rfl ?_
                refine x_istore_n (L' := [some (.ref r), some (.ref (aL m)), some (.ref c), some (.int (nI i)), some (.int (distS ar m i)), some (.int (nI i)), some (.ref (aL i)), some (.int (distS ar m i))]) hE dX5_nearestSpare_91 rfl (Nat.le_of_ble_eq_true rfl) rfl ?_
                refine x_iinc (v := nI (i + 1)) (L' := [some (.ref r), some (.ref (aL m)), some (.ref c), some (.int (nI i)), some (.int (distS ar m i)), some (.int (nI (i + 1))), some (.ref (aL i)), some (.int (distS ar m i))]) hE dX5_nearestSpare_92 rfl (nI_1 _) rfl ?_
                refine x_goto (tgt := 8) hE dX5_nearestSpare_95 (by decide) ?_
                have e2 := ih (i + 1) (by omega) (by omega)
                rw [e1] at e2
                refine x_forget (L' := [some (.ref r), some (.ref (aL m)), some (.ref c), some (.int (nI i)), some (.int (distS ar m i)), some (.int (nI (i + 1))), none, none]) (And.intro rfl (And.intro rfl (And.intro rfl (And.intro rfl (And.intro rfl (And.intro rfl trivial)))))) ?_
                exact e2
          · have e1 : nearF (candS L ar bars tf vf m) (distS ar m) (i + 1) = (nearF (candS L ar bars tf vf m) (distS ar m) i) := nearF_n (by simp only [candS]; rw [b2i_0.mp c59]; simp)
            refine x_goto (tgt := 92) hE dX5_nearestSpare_62 (by decide) ?_
            refine x_iinc (v := nI (i + 1)) (L' := [some (.ref r), some (.ref (aL m)), some (.ref c), some (.int ((nearF (candS L ar bars tf vf m) (distS ar m) i).1)), some (.int ((nearF (candS L ar bars tf vf m) (distS ar m) i).2)), some (.int (nI (i + 1))), some (.ref (aL i)), none]) hE dX5_nearestSpare_92 rfl (nI_1 _) rfl ?_
            refine x_goto (tgt := 8) hE dX5_nearestSpare_95 (by decide) ?_
            have e2 := ih (i + 1) (by omega) (by omega)
            rw [e1] at e2
            refine x_forget (L' := [some (.ref r), some (.ref (aL m)), some (.ref c), some (.int ((nearF (candS L ar bars tf vf m) (distS ar m) i).1)), some (.int ((nearF (candS L ar bars tf vf m) (distS ar m) i).2)), some (.int (nI (i + 1))), none, none]) (And.intro rfl (And.intro rfl (And.intro rfl (And.intro rfl (And.intro rfl (And.intro rfl trivial)))))) ?_
            exact e2
    · refine x_qnull (lampF_out hi2) ?_
      refine x_astore (L' := [some (.ref r), some (.ref (aL m)), some (.ref c), some (.int ((nearF (candS L ar bars tf vf m) (distS ar m) i).1)), some (.int ((nearF (candS L ar bars tf vf m) (distS ar m) i).2)), some (.int (nI i)), some (.null), none]) hE dX5_nearestSpare_25 (Nat.le_of_ble_eq_true rfl) rfl rfl ?_
      refine x_aload hE dX5_nearestSpare_27 rfl rfl ?_
      refine x_ifnullN (tgt := 92) hE dX5_nearestSpare_29 (by decide) ?_
      have e1 : nearF (candS L ar bars tf vf m) (distS ar m) (i + 1) = (nearF (candS L ar bars tf vf m) (distS ar m) i) := nearF_n (by simp only [candS]; rw [decide_eq_false (Nat.not_lt.mpr hi2)]; rfl)
      refine x_iinc (v := nI (i + 1)) (L' := [some (.ref r), some (.ref (aL m)), some (.ref c), some (.int ((nearF (candS L ar bars tf vf m) (distS ar m) i).1)), some (.int ((nearF (candS L ar bars tf vf m) (distS ar m) i).2)), some (.int (nI (i + 1))), some (.null), none]) hE dX5_nearestSpare_92 rfl (nI_1 _) rfl ?_
      refine x_goto (tgt := 8) hE dX5_nearestSpare_95 (by decide) ?_
      have e2 := ih (i + 1) (by omega) (by omega)
      rw [e1] at e2
      refine x_forget (L' := [some (.ref r), some (.ref (aL m)), some (.ref c), some (.int ((nearF (candS L ar bars tf vf m) (distS ar m) i).1)), some (.int ((nearF (candS L ar bars tf vf m) (distS ar m) i).2)), some (.int (nI (i + 1))), none, none]) (And.intro rfl (And.intro rfl (And.intro rfl (And.intro rfl (And.intro rfl (And.intro rfl trivial)))))) ?_
      exact e2
