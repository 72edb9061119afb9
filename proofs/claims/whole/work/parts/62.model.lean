set_option maxHeartbeats 4000000 in
set_option maxRecDepth 100000 in
theorem c_X8_rising (G : XG) {ma ow : Nat → Nat} {sc : Nat → Int32} {R : Nat → Nat → Int32} {h : HM} (hM : mM G ma ow sc R h) {c : Nat} (hc : c < 12) (a : Int32) : x_M G yX8_rising wsX8_rising ({ frames := 0, cells := 0, slots := 0, locals := 0 } : Room) [.ref (ma 30), .int (nI c), .int a] h (x_is (some (.float (risR (R 12 c) (a - R 18 c)))) h) 0 0 := by
  refine x_M.of (cc := cX8_rising) (maxL := 4) (ret := (some .float)) (ent := [some (.ref (ma 30)), some (.int (nI c)), some (.int a), none]) (by decide +kernel) rfl (Nat.le_of_ble_eq_true rfl) rfl rfl ?_
  intro F hE hname
  have hinX8 : ∀ w ∈ wsX80, w ∈ wsX8_rising := by decide +kernel
  refine x_aload_n hE dX8_rising_0 rfl rfl ?_
  refine x_get hE hinX8 hM.o rfl 12 (by decide) (List.mem_of_getElem? (i := 1) rfl) rfl dX8_rising_1 ?_
  refine x_iload_n hE dX8_rising_4 rfl ?_
  refine x_iald (v := R 12 c) hE hM.a12 (vp_in_nI (by omega) (by decide)) (x_atN _ (by omega)) dX8_rising_5 ?_
  refine x_if_ne (tgt := 11) hE dX8_rising_6 (by decide) (fun c6 => ?_) (fun c6 => ?_)
  · refine x_iload_n hE dX8_rising_11 rfl ?_
    refine x_aload_n hE dX8_rising_12 rfl rfl ?_
    refine x_get hE hinX8 hM.o rfl 18 (by decide) (List.mem_of_getElem? (i := 2) rfl) rfl dX8_rising_13 ?_
    refine x_iload_n hE dX8_rising_16 rfl ?_
    refine x_iald (v := R 18 c) hE hM.a18 (vp_in_nI (by omega) (by decide)) (x_atN _ (by omega)) dX8_rising_17 ?_
    refine x_isub hE dX8_rising_18 ?_
    refine x_i2f hE dX8_rising_19 ?_
    refine x_aload_n hE dX8_rising_20 rfl rfl ?_
    refine x_get hE hinX8 hM.o rfl 12 (by decide) (List.mem_of_getElem? (i := 1) rfl) rfl dX8_rising_21 ?_
    refine x_iload_n hE dX8_rising_24 rfl ?_
    refine x_iald (v := R 12 c) hE hM.a12 (vp_in_nI (by omega) (by decide)) (x_atN _ (by omega)) dX8_rising_25 ?_
    refine x_i2f hE dX8_rising_26 ?_
    refine x_fdiv hE dX8_rising_27 (fp_div c6).1 ?_
    refine x_fstore_n (L' := [some (.ref (ma 30)), some (.int (nI c)), some (.int a), some (.float (FP.fdiv (FP.i2f (a - (R 18 c))) (FP.i2f (R 12 c))))]) hE dX8_rising_28 rfl (Nat.le_of_ble_eq_true rfl) rfl ?_
    refine x_fload_n hE dX8_rising_29 rfl ?_
    refine x_fconst1 hE dX8_rising_30 ?_
    refine x_fcmp hE dX8_rising_31 ?_
    refine x_if_le (tgt := 39) hE dX8_rising_32 (by decide) (fun c32 => ?_) (fun c32 => ?_)
    · refine x_fload_n hE dX8_rising_39 rfl ?_
      exact x_fret hE dX8_rising_40 (⟨by unfold risR; rw [if_neg c6, if_pos c32], rfl⟩)
    · refine x_fconst1 hE dX8_rising_35 ?_
      refine x_goto (tgt := 40) hE dX8_rising_36 (by decide) ?_
      exact x_fret hE dX8_rising_40 (⟨by unfold risR; rw [if_neg c6, if_neg c32], rfl⟩)
  · refine x_fconst1 hE dX8_rising_9 ?_
    exact x_fret hE dX8_rising_10 (⟨by unfold risR; rw [if_pos c6], rfl⟩)

def masM (R : Nat → Nat → Int32) (now : Int32) (c : Nat) : UInt32 := if R 20 c = -1 then risR (R 12 c) (now - R 18 c) else FP.fmul (risR (R 12 c) (R 20 c - R 18 c)) (fallR (R 13 c) (now - R 20 c))
theorem masM_is {R : Nat → Nat → Int32} {t : Nat} {g : GG} (h : goI R t g) (h18 : R 18 g.1 = nI g.2.1) (h20 : R 20 g.1 = relI g.2.2) : masM R (nI t) g.1 = masP R t g ∧ (¬ R 20 g.1 = -1 → (¬ R 13 g.1 = 0 ∧ vf_n32 (FP.fsub FP.fconst1 (FP.fdiv (FP.i2f (nI t - R 20 g.1)) (FP.i2f (R 13 g.1)))) ∧ vf_n32 (FP.fmul (risR (R 12 g.1) (R 20 g.1 - R 18 g.1)) (fallR (R 13 g.1) (nI t - R 20 g.1))))) := by
  obtain ⟨⟨u, hu, e12⟩, ⟨d, hd, e13, hdd⟩, hw, hr, hwr, ht⟩ := h
  obtain ⟨c, w, r⟩ := g
  unfold masM masP masterG
  dsimp only at *
  rw [e12, e13, h18, h20]
  cases r with
  | zero =>
    rw [if_pos (show relI 0 = -1 from rfl), if_pos (show relI 0 = -1 from rfl), sub_nI hw]
    exact ⟨(rise_is hu (by omega)).2, fun z => absurd (show relI 0 = -1 from rfl) z⟩
  | succ r =>
    have h1 := hdd (by omega)
    have h2 := hwr (by omega)
    have e1 : r + 1 - 1 = r := by omega
    rw [e1] at h1 h2
    have hd0 : ¬ nI d = 0 := fun z => by have := (up0 hd).mp z; omega
    rw [if_neg (relI_ne (by omega)), if_neg (relI_ne (by omega)), if_neg hd0, show relI (r + 1) = nI r from rfl, sub_nI h2, sub_nI (show r ≤ t by omega), (rise_is hu (show r - w ≤ 2 ^ 24 by omega)).2]
    have hf := fall_is hd h1
    exact ⟨rfl, fun _ => ⟨hd0, vf_of hf.1.ne, vf_of (ne_mul (rise_is hu (by omega)).1.1.1 hf.1.1)⟩⟩
set_option maxHeartbeats 4000000 in
set_option maxRecDepth 100000 in
theorem c_X8_master (G : XG) {ma ow : Nat → Nat} {sc : Nat → Int32} {R : Nat → Nat → Int32} {h : HM} (hM : mM G ma ow sc R h) {c : Nat} (hc : c < 12) (hmr : ¬ R 20 c = -1 → (¬ R 13 c = 0 ∧ vf_n32 (FP.fsub FP.fconst1 (FP.fdiv (FP.i2f (sc 0 - R 20 c)) (FP.i2f (R 13 c)))) ∧ vf_n32 (FP.fmul (risR (R 12 c) (R 20 c - R 18 c)) (fallR (R 13 c) (sc 0 - R 20 c))))) : x_M G yX8_master wsX8_master ({ frames := 1, cells := 0, slots := 0, locals := 23 } : Room) [.ref (ma 30), .int (nI c)] h (x_is (some (.float (masM R (sc 0) c))) h) 0 0 := by
  refine x_M.of (cc := cX8_master) (maxL := 2) (ret := (some .float)) (ent := [some (.ref (ma 30)), some (.int (nI c))]) (by decide +kernel) rfl (Nat.le_of_ble_eq_true rfl) rfl rfl ?_
  intro F hE hname
  have hinX8 : ∀ w ∈ wsX80, w ∈ wsX8_master := by decide +kernel
  refine x_aload_n hE dX8_master_0 rfl rfl ?_
  refine x_get hE hinX8 hM.o rfl 20 (by decide) (List.mem_of_getElem? (i := 1) rfl) rfl dX8_master_1 ?_
  refine x_iload_n hE dX8_master_4 rfl ?_
  refine x_iald (v := R 20 c) hE hM.a20 (vp_in_nI (by omega) (by decide)) (x_atN _ (by omega)) dX8_master_5 ?_
  refine x_iconst (v := (-1 : Int32)) hE dX8_master_6 (by decide) ?_
  refine x_icmp_ne (tgt := 20) hE dX8_master_7 (by decide) (fun c7 => ?_) (fun c7 => ?_)
  · obtain ⟨m1, m2, m3⟩ := hmr c7
    refine x_aload_n hE dX8_master_20 rfl rfl ?_
    refine x_iload_n hE dX8_master_21 rfl ?_
    refine x_aload_n hE dX8_master_22 rfl rfl ?_
    refine x_get hE hinX8 hM.o rfl 20 (by decide) (List.mem_of_getElem? (i := 1) rfl) rfl dX8_master_23 ?_
    refine x_iload_n hE dX8_master_26 rfl ?_
    refine x_iald (v := R 20 c) hE hM.a20 (vp_in_nI (by omega) (by decide)) (x_atN _ (by omega)) dX8_master_27 ?_
    refine x_callV (ci := 8) (st := []) hE 2 (c_X8_rising G hM hc (R 20 c)) gX8_master_X8_rising rfl rfl rfl (by decide +kernel) ⟨Nat.le_of_ble_eq_true rfl, Nat.le_of_ble_eq_true rfl⟩ hM.o rfl rfl rfl dX8_master_28 rfl (Nat.le_of_ble_eq_true rfl) ⟨Nat.le_of_ble_eq_true rfl, Nat.le_of_ble_eq_true rfl⟩ (fun v h9 hp => ?_)
    obtain ⟨rfl, rfl⟩ := hp
    refine x_fconst1 hE dX8_master_31 ?_
    refine x_aload_n hE dX8_master_32 rfl rfl ?_
    refine x_get hE hinX8 hM.o rfl 0 (by decide) (List.mem_of_getElem? (i := 2) rfl) rfl dX8_master_33 ?_
    refine x_aload_n hE dX8_master_36 rfl rfl ?_
    refine x_get hE hinX8 hM.o rfl 20 (by decide) (List.mem_of_getElem? (i := 1) rfl) rfl dX8_master_37 ?_
    refine x_iload_n hE dX8_master_40 rfl ?_
    refine x_iald (v := R 20 c) hE hM.a20 (vp_in_nI (by omega) (by decide)) (x_atN _ (by omega)) dX8_master_41 ?_
    refine x_isub hE dX8_master_42 ?_
    refine x_i2f hE dX8_master_43 ?_
    refine x_aload_n hE dX8_master_44 rfl rfl ?_
    refine x_get hE hinX8 hM.o rfl 13 (by decide) (List.mem_of_getElem? (i := 3) rfl) rfl dX8_master_45 ?_
    refine x_iload_n hE dX8_master_48 rfl ?_
    refine x_iald (v := R 13 c) hE hM.a13 (vp_in_nI (by omega) (by decide)) (x_atN _ (by omega)) dX8_master_49 ?_
    refine x_i2f hE dX8_master_50 ?_
    refine x_fdiv hE dX8_master_51 (fp_div m1).1 ?_
    refine x_fsub hE dX8_master_52 m2 ?_
    refine x_fq (y := (fallR (R 13 c) (sc 0 - R 20 c))) (rfl) ?_
    refine x_fmul hE dX8_master_53 m3 ?_
    exact x_fret hE dX8_master_54 (⟨by unfold masM; rw [if_neg c7], rfl⟩)
  · refine x_aload_n hE dX8_master_10 rfl rfl ?_
    refine x_iload_n hE dX8_master_11 rfl ?_
    refine x_aload_n hE dX8_master_12 rfl rfl ?_
    refine x_get hE hinX8 hM.o rfl 0 (by decide) (List.mem_of_getElem? (i := 2) rfl) rfl dX8_master_13 ?_
    refine x_callV (ci := 8) (st := []) hE 2 (c_X8_rising G hM hc (sc 0)) gX8_master_X8_rising rfl rfl rfl (by decide +kernel) ⟨Nat.le_of_ble_eq_true rfl, Nat.le_of_ble_eq_true rfl⟩ hM.o rfl rfl rfl dX8_master_16 rfl (Nat.le_of_ble_eq_true rfl) ⟨Nat.le_of_ble_eq_true rfl, Nat.le_of_ble_eq_true rfl⟩ (fun v h9 hp => ?_)
    obtain ⟨rfl, rfl⟩ := hp
    exact x_fret hE dX8_master_19 (⟨by unfold masM; rw [if_pos c7], rfl⟩)

/-- the active cue whose going is the first one behind some, among the first n -/
def aftR (R : Nat → Nat → Int32) (last found : Int32) (n : Nat) : Prop := (found = -1 ∧ ∀ j, j < n → R 17 j ≠ 0 → ¬ last < R 19 j) ∨ ∃ f, f < n ∧ found = nI f ∧ R 17 f ≠ 0 ∧ last < R 19 f ∧ ∀ j, j < n → R 17 j ≠ 0 → last < R 19 j → R 19 f ≤ R 19 j
theorem nm1 {q : Nat} (h : q < 12) : ¬ (-1 : Int32) = nI q := by
  intro z
  have := congrArg Int32.toInt z
  rw [nI_toInt (by omega)] at this
  simp at this <;> omega
theorem aft_no {R : Nat → Nat → Int32} {la f : Int32} {i : Nat} (h : aftR R la f i) (hn : R 17 i ≠ 0 → la < R 19 i → False) : aftR R la f (i + 1) := by
  rcases h with ⟨h1, h2⟩ | ⟨q, h1, h2, h3, h4, h5⟩
  · refine Or.inl ⟨h1, fun j hj a b => ?_⟩
    by_cases e : j = i
    · subst e; exact hn a b
    · exact h2 j (by omega) a b
  · refine Or.inr ⟨q, by omega, h2, h3, h4, fun j hj a b => ?_⟩
    by_cases e : j = i
    · subst e; exact absurd b (fun z => hn a z)
    · exact h5 j (by omega) a b
set_option maxHeartbeats 4000000 in
set_option maxRecDepth 100000 in
theorem c_X8_after (G : XG) {ma ow : Nat → Nat} {sc : Nat → Int32} {R : Nat → Nat → Int32} {h : HM} (hM : mM G ma ow sc R h) {C : Nat} (hn : sc 10 = nI C) (hb : C ≤ 12) (la : Int32) : x_M G yX8_after wsX8_after ({ frames := 0, cells := 0, slots := 0, locals := 0 } : Room) [.ref (ma 30), .int la] h (fun v h' => (∃ f, v = some (.int f) ∧ aftR R la f C) ∧ h = h') 0 0 := by
  refine x_M.of (cc := cX8_after) (maxL := 4) (ret := (some .int)) (ent := [some (.ref (ma 30)), some (.int la), none, none]) (by decide +kernel) rfl (Nat.le_of_ble_eq_true rfl) rfl rfl ?_
  intro F hE hname
  have hinX8 : ∀ w ∈ wsX80, w ∈ wsX8_after := by decide +kernel
  refine x_iconst (v := (-1 : Int32)) hE dX8_after_0 (by decide) ?_
  refine x_istore_n (L' := [some (.ref (ma 30)), some (.int la), some (.int (-1 : Int32)), none]) hE dX8_after_1 rfl (Nat.le_of_ble_eq_true rfl) rfl ?_
  refine x_iconst (v := nI 0) hE dX8_after_2 (by decide) ?_
  refine x_istore_n (L' := [some (.ref (ma 30)), some (.int la), some (.int (-1 : Int32)), some (.int (nI 0))]) hE dX8_after_3 rfl (Nat.le_of_ble_eq_true rfl) rfl ?_
  refine x_down (N := C) (P := fun i => ∀ f : Int32, aftR R la f i → x_W G F (x_Q G F (fun v h' => (∃ f, v = some (.int f) ∧ aftR R la f C) ∧ h = h') 0 0) 0 0 h 4 [some (.ref (ma 30)), some (.int la), some (.int f), some (.int (nI i))] []) (fun i hiN ih => ?_) 0 (by omega) _ (Or.inl ⟨rfl, fun j hj => absurd hj (by omega)⟩)
  intro f hf
  refine x_iload_n hE dX8_after_4 rfl ?_
  refine x_aload_n hE dX8_after_5 rfl rfl ?_
  refine x_get hE hinX8 hM.o rfl 10 (by decide) (List.mem_of_getElem? (i := 1) rfl) rfl dX8_after_6 ?_
  refine x_ieq (y := nI C) (hn) ?_
  refine x_icmp_ge (tgt := 63) hE dX8_after_9 (by decide) (fun c9 => ?_) (fun c9 => ?_)
  · replace c9 := x_nIle c9 (by omega) (by omega)
    obtain rfl : i = C := by omega
    refine x_iload_n hE dX8_after_63 rfl ?_
    exact x_iret hE dX8_after_64 (⟨⟨f, rfl, hf⟩, rfl⟩)
  · replace c9 := x_nInle c9 (by omega) (by omega)
    refine x_aload_n hE dX8_after_12 rfl rfl ?_
    refine x_get hE hinX8 hM.o rfl 17 (by decide) (List.mem_of_getElem? (i := 2) rfl) rfl dX8_after_13 ?_
    refine x_iload_n hE dX8_after_16 rfl ?_
    refine x_zald (v := R 17 i) hE hM.a17 (vp_in_nI (by omega) (by decide)) (x_atN _ (by omega)) dX8_after_17 ?_
    refine x_if_eq (tgt := 55) hE dX8_after_18 (by decide) (fun ca => ?_) (fun ca => ?_)
    · refine x_iload_n hE dX8_after_55 rfl ?_
      refine x_istore_n (L' := [some (.ref (ma 30)), some (.int la), some (.int f), some (.int (nI i))]) hE dX8_after_56 rfl (Nat.le_of_ble_eq_true rfl) rfl ?_
      refine x_iinc (v := nI (i + 1)) (L' := [some (.ref (ma 30)), some (.int la), some (.int f), some (.int (nI (i + 1)))]) hE dX8_after_57 rfl (nI_1 _) rfl ?_
      refine x_goto (tgt := 4) hE dX8_after_60 (by decide) ?_
      exact ih (i + 1) (by omega) (by omega) f (aft_no hf (fun a b => a ca))
    · refine x_aload_n hE dX8_after_21 rfl rfl ?_
      refine x_get hE hinX8 hM.o rfl 19 (by decide) (List.mem_of_getElem? (i := 3) rfl) rfl dX8_after_22 ?_
      refine x_iload_n hE dX8_after_25 rfl ?_
      refine x_iald (v := R 19 i) hE hM.a19 (vp_in_nI (by omega) (by decide)) (x_atN _ (by omega)) dX8_after_26 ?_
      refine x_iload_n hE dX8_after_27 rfl ?_
      refine x_icmp_le (tgt := 55) hE dX8_after_28 (by decide) (fun cb => ?_) (fun cb => ?_)
      · refine x_iload_n hE dX8_after_55 rfl ?_
        refine x_istore_n (L' := [some (.ref (ma 30)), some (.int la), some (.int f), some (.int (nI i))]) hE dX8_after_56 rfl (Nat.le_of_ble_eq_true rfl) rfl ?_
        refine x_iinc (v := nI (i + 1)) (L' := [some (.ref (ma 30)), some (.int la), some (.int f), some (.int (nI (i + 1)))]) hE dX8_after_57 rfl (nI_1 _) rfl ?_
        refine x_goto (tgt := 4) hE dX8_after_60 (by decide) ?_
        exact ih (i + 1) (by omega) (by omega) f (aft_no hf (fun a b => (x_lei.mp b) cb))
      · have b1 : la < R 19 i := x_lei.mpr cb
        refine x_iload_n hE dX8_after_31 rfl ?_
        refine x_iconst (v := (-1 : Int32)) hE dX8_after_32 (by decide) ?_
        refine x_icmp_eq (tgt := 51) hE dX8_after_33 (by decide) (fun cc => ?_) (fun cc => ?_)
        · refine x_iload_n hE dX8_after_51 rfl ?_
          refine x_goto (tgt := 56) hE dX8_after_52 (by decide) ?_
          refine x_istore_n (L' := [some (.ref (ma 30)), some (.int la), some (.int (nI i)), some (.int (nI i))]) hE dX8_after_56 rfl (Nat.le_of_ble_eq_true rfl) rfl ?_
          refine x_iinc (v := nI (i + 1)) (L' := [some (.ref (ma 30)), some (.int la), some (.int (nI i)), some (.int (nI (i + 1)))]) hE dX8_after_57 rfl (nI_1 _) rfl ?_
          refine x_goto (tgt := 4) hE dX8_after_60 (by decide) ?_
          exact ih (i + 1) (by omega) (by omega) (nI i) (Or.inr ⟨i, by omega, rfl, ca, b1, fun j hj a b => (Nat.lt_or_ge j i).elim (fun z => absurd b ((hf.resolve_right (fun ⟨q, hq, hq2, _⟩ => by rw [cc] at hq2; exact nm1 (by omega : q < 12) hq2)).2 j z a)) (fun z => by obtain rfl : i = j := (by omega); exact i32_le_refl _)⟩)
        · obtain ⟨q, hq, hq2, hq3, hq4, hq5⟩ := hf.resolve_left (fun z => cc z.1)
          subst hq2
          refine x_aload_n hE dX8_after_36 rfl rfl ?_
          refine x_get hE hinX8 hM.o rfl 19 (by decide) (List.mem_of_getElem? (i := 3) rfl) rfl dX8_after_37 ?_
          refine x_iload_n hE dX8_after_40 rfl ?_
          refine x_iald (v := R 19 i) hE hM.a19 (vp_in_nI (by omega) (by decide)) (x_atN _ (by omega)) dX8_after_41 ?_
          refine x_aload_n hE dX8_after_42 rfl rfl ?_
          refine x_get hE hinX8 hM.o rfl 19 (by decide) (List.mem_of_getElem? (i := 3) rfl) rfl dX8_after_43 ?_
          refine x_iload_n hE dX8_after_46 rfl ?_
          refine x_iald (v := R 19 q) hE hM.a19 (vp_in_nI (by omega) (by decide)) (x_atN _ (by omega)) dX8_after_47 ?_
          refine x_icmp_ge (tgt := 55) hE dX8_after_48 (by decide) (fun cd => ?_) (fun cd => ?_)
          · refine x_iload_n hE dX8_after_55 rfl ?_
            refine x_istore_n (L' := [some (.ref (ma 30)), some (.int la), some (.int (nI q)), some (.int (nI i))]) hE dX8_after_56 rfl (Nat.le_of_ble_eq_true rfl) rfl ?_
            refine x_iinc (v := nI (i + 1)) (L' := [some (.ref (ma 30)), some (.int la), some (.int (nI q)), some (.int (nI (i + 1)))]) hE dX8_after_57 rfl (nI_1 _) rfl ?_
            refine x_goto (tgt := 4) hE dX8_after_60 (by decide) ?_
            exact ih (i + 1) (by omega) (by omega) (nI q) (Or.inr ⟨q, by omega, rfl, hq3, hq4, fun j hj a b => (Nat.lt_or_ge j i).elim (fun z => hq5 j z a b) (fun z => by obtain rfl : i = j := (by omega); exact cd)⟩)
          · refine x_iload_n hE dX8_after_51 rfl ?_
            refine x_goto (tgt := 56) hE dX8_after_52 (by decide) ?_
            refine x_istore_n (L' := [some (.ref (ma 30)), some (.int la), some (.int (nI i)), some (.int (nI i))]) hE dX8_after_56 rfl (Nat.le_of_ble_eq_true rfl) rfl ?_
            refine x_iinc (v := nI (i + 1)) (L' := [some (.ref (ma 30)), some (.int la), some (.int (nI i)), some (.int (nI (i + 1)))]) hE dX8_after_57 rfl (nI_1 _) rfl ?_
            refine x_goto (tgt := 4) hE dX8_after_60 (by decide) ?_
            exact ih (i + 1) (by omega) (by omega) (nI i) (Or.inr ⟨i, by omega, rfl, ca, b1, fun j hj a b => (Nat.lt_or_ge j i).elim (fun z => i32_le_trans (Int32.le_iff_toInt_le.mpr (by have := Int32.lt_iff_toInt_lt.mp (x_lei.mpr cd); omega)) (hq5 j z a b)) (fun z => by obtain rfl : i = j := (by omega); exact i32_le_refl _)⟩)
