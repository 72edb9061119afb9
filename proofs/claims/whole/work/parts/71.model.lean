/-! going, releasing, passing -/
theorem mS.sR {S : PS} {gn : Nat} {sc : Nat → Int32} {R R' : Nat → Nat → Int32} (h : mS S gn sc R) (s : sR R R') : mS S gn sc R' := ⟨h.1.sR s, h.2.1, h.2.2.sR s⟩
theorem cnt_one {p : Nat → Bool} {a : Nat} (h : p a = false) : ∀ n, cnt_ (fun k => decide (a = k) || p k) n = cnt_ p n + (if a < n then 1 else 0)
  | 0 => rfl
  | n + 1 => by
    have ih := cnt_one h n
    show cnt_ (fun k => decide (a = k) || p k) n + (if (decide (a = n) || p n) = true then 1 else 0) = cnt_ p n + (if p n = true then 1 else 0) + (if a < n + 1 then 1 else 0)
    rw [ih]
    by_cases e : a = n
    · subst e
      rw [h, decide_eq_true rfl, if_neg (Nat.lt_irrefl a), if_pos (Nat.lt_succ_self a)]
      rfl
    · rw [decide_eq_false e, Bool.false_or]
      by_cases q : a < n
      · rw [if_pos q, if_pos (show a < n + 1 by omega)]
        omega
      · rw [if_neg q, if_neg (show ¬ a < n + 1 by omega)]
        rfl
theorem actB_cnt {C : Nat} : ∀ {GL : List GG}, gI C GL → cnt_ (actB GL) C = GL.length
  | [], _ => by
    have : ∀ n, cnt_ (actB []) n = 0 := fun n => by
      induction n with
      | zero => rfl
      | succ n ih =>
        show cnt_ (actB []) n + (if actB [] n = true then 1 else 0) = 0
        rw [ih]
        rfl
    exact this C
  | g :: GL, h => by
    have h1 := h.1
    rw [List.map_cons] at h1
    obtain ⟨n1, n2⟩ := List.nodup_cons.mp h1
    have ih := actB_cnt (C := C) (GL := GL) ⟨n2, fun x hx => h.2 x (List.mem_cons_of_mem _ hx)⟩
    have e : actB (g :: GL) = fun k => decide (g.1 = k) || actB GL k := by
      funext k
      rfl
    have hno : actB GL g.1 = false := by
      cases z : actB GL g.1 with
      | false => rfl
      | true =>
        obtain ⟨x, hx, ex⟩ := actB_t.mp z
        exact absurd (List.mem_map.mpr ⟨x, hx, ex⟩) n1
    rw [e, cnt_one hno, ih, if_pos (h.2 g List.mem_cons_self)]
    rfl
theorem actN_is {R : Nat → Nat → Int32} {C gn : Nat} {GL : List GG} (hr : gR R C gn GL) (hg : gI C GL) : actN R C = GL.length := by
  rw [← actB_cnt hg]
  unfold actN
  refine cnt_ext C (fun k hk => ?_)
  rw [hr.1 k hk]
  cases actB GL k <;> rfl
theorem mS_goes {S : PS} {gn c : Nat} {sc sc' : Nat → Int32} {R R' : Nat → Nat → Int32} (h : mS S gn sc R) (hg : goesI R R' sc sc' c (s_t S) gn (s_N S).length) (hc : c < s_C S) (hC : s_C S ≤ 12) (hcu : cuI (s_ar S) (s_C S)) : mS (begP c S) (gn + 1) sc' R' := by
  obtain ⟨g1, ⟨ap, g2, g3, g4, g5⟩, g6⟩ := goes_D h.1 hg hc hC hcu
  refine ⟨g1, ?_, ?_⟩
  · rw [g2, List.length_append]
    exact g4
  · rw [g2]
    refine (h.2.2.same (fun j hj => (g6 _ (by omega)).1) (fun j hj => (g6 _ (by omega)).2)).app ?_
    rw [Nat.zero_add]
    exact g5
theorem goF_act {GL : List GG} {C c : Nat} (hg : gI C GL) : (actB GL c = false ∧ goF GL c = none) ∨ ∃ g, g ∈ GL ∧ g.1 = c ∧ actB GL c = true ∧ goF GL c = some g := by
  cases z : actB GL c with
  | false => exact Or.inl ⟨rfl, goF_none (fun g h1 h2 => by have := actB_t.mpr ⟨g, h1, h2⟩; rw [z] at this; cases this)⟩
  | true =>
    obtain ⟨g, h1, h2⟩ := actB_t.mp z
    exact Or.inr ⟨g, h1, h2, rfl, goF_some hg.1 h1 h2⟩
theorem goF_is {GL : List GG} {C c : Nat} (hg : gI C GL) : (goF GL c).isSome = actB GL c := by
  rcases goF_act (c := c) hg with ⟨h1, h2⟩ | ⟨g, h1, h2, h3, h4⟩
  · rw [h1, h2]; rfl
  · rw [h3, h4]; rfl
/-- a release over the model's rows -/
theorem mS_rel {S : PS} {gn k : Nat} {sc : Nat → Int32} {R R' : Nat → Nat → Int32} (h : mS S gn sc R) (hI : mI S) (hk : k < s_C S) (hR : R' = rowUp (set2 R 20 k (nI (s_t S))) 17 (upd (set2 R 20 k (nI (s_t S)) 17) k (b2i (!decide (set2 R 20 k (nI (s_t S)) 17 k = 0) && (decide (set2 R 20 k (nI (s_t S)) 20 k = -1) || decide (nI (s_t S) - set2 R 20 k (nI (s_t S)) 20 k < set2 R 20 k (nI (s_t S)) 13 k)))))) : mS (relP k S) gn sc R' ∧ R' 17 k = b2i (goF (s_G (relP k S)) k).isSome := by
  obtain ⟨⟨a1, a2, a3, a4, a5, a6, a7, a8, a9⟩, b1, b2⟩ := h
  have hgI := hI.1.2.2.2.1
  have hgF : gI (s_C S) (fallG k (s_t S) (s_G S)) := fallG_I hgI
  have g1 : gR (set2 R 20 k (nI (s_t S))) (s_C S) gn (fallG k (s_t S) (s_G S)) := gR_fall a8 (s2n (by decide) rfl) (s2n (by decide) rfl) (s2n (by decide) rfl) set2_at
  have aF : aE (s_ar S) (set2 R 20 k (nI (s_t S))) := fun j hj => by
    rw [set2_ne (fun z => by rw [z] at hj; revert hj; decide)]
    exact a7 j hj
  have e17 : ∀ j, R' j = if j = 17 then R' 17 else set2 R 20 k (nI (s_t S)) j := fun j => by
    by_cases e : j = 17
    · rw [if_pos e, e]
    · rw [if_neg e, hR, rowUp_ne e]
  have ek : R' 17 k = b2i (!decide (set2 R 20 k (nI (s_t S)) 17 k = 0) && stays (set2 R 20 k (nI (s_t S))) (nI (s_t S)) k) := by
    rw [hR, rowUp_at, upd_at]
    rfl
  have en : ∀ j, j ≠ k → R' 17 j = R 17 j := fun j hj => by
    rw [hR, rowUp_at, upd_ne hj, set2_ne (by decide)]
  have g2 : gR R' (s_C S) gn (s_G (relP k S)) := by
    refine gR_end (p := fun g => !ovP (s_ar S) (s_t S) g) (q := fun j => if j = k then stays (set2 R 20 k (nI (s_t S))) (nI (s_t S)) k else true) g1 (fun g hg => ?_) (fun j hj => ?_) ?_ ?_ ?_
    · rw [stays_is g1 aF g hg]
      by_cases e : g.1 = k
      · rw [if_pos e, e]
      · rw [if_neg e, ← stays_is g1 aF g hg]
        obtain ⟨x, hx, e1, e2, e3⟩ := fall_mem hg
        have e4 := (e3.resolve_left (fun z => e z.1)).2
        have : ovP (s_ar S) (s_t S) g = ovP (s_ar S) (s_t S) x := by
          unfold ovP
          rw [e4, e1]
        rw [this, hI.2.2.2 x hx]
        rfl
    · by_cases e : j = k
      · subst e
        rw [ek, if_pos rfl]
      · rw [en j e, if_neg e, Bool.and_true, set2_ne (by decide), a8.1 j hj]
        cases actB (s_G S) j <;> rfl
    · rw [e17, if_neg (by decide)]
    · rw [e17, if_neg (by decide)]
    · rw [e17, if_neg (by decide)]
  have hgR : gI (s_C S) (s_G (relP k S)) := hgF.filter _
  refine ⟨⟨⟨a1, a2, a3, a4, a5, a6, fun j hj => ?_, g2, fun j hj => ?_⟩, b1, b2.same (fun j _ => ?_) (fun j _ => ?_)⟩, ?_⟩
  · rw [e17, if_neg (fun z => by rw [z] at hj; revert hj; decide)]
    exact aF j hj
  · have hj' : s_C S ≤ j := hj
    rw [en j (by omega)]
    exact a9 j hj'
  · rw [e17, if_neg (by decide), set2_ne (by decide)]
  · rw [e17, if_neg (by decide), set2_ne (by decide)]
  · rw [g2.1 k hk, goF_is hgR]
/-! a tick's ends -/
def endI (R Rk : Nat → Nat → Int32) (now : Int32) (k : Nat) : Prop := (∀ j, j ≠ 17 → Rk j = R j) ∧ (∀ j, j < k → Rk 17 j = b2i (!decide (R 17 j = 0) && stays R now j)) ∧ ∀ j, k ≤ j → Rk 17 j = R 17 j
theorem endI_s {R Rk : Nat → Nat → Int32} {now now' : Int32} {k : Nat} (h : endI R Rk now k) (e : now' = now) : endI R (rowUp Rk 17 (upd (Rk 17) k (b2i (!decide (Rk 17 k = 0) && (decide (Rk 20 k = -1) || decide (now' - Rk 20 k < Rk 13 k)))))) now (k + 1) := by
  subst e
  obtain ⟨h1, h2, h3⟩ := h
  refine ⟨fun j hj => (rowUp_ne hj).trans (h1 j hj), fun j hj => ?_, fun j hj => ?_⟩
  · rw [rowUp_at]
    by_cases c : j = k
    · subst c
      rw [upd_at, h3 j (Nat.le_refl _), h1 20 (by decide), h1 13 (by decide)]
      rfl
    · rw [upd_ne c]
      exact h2 j (by omega)
  · rw [rowUp_at, upd_ne (by omega)]
    exact h3 j (by omega)
theorem end_D {S : PS} {gn : Nat} {sc sc' : Nat → Int32} {R Rk : Nat → Nat → Int32} (h : mS S gn sc R) (he : endI R Rk (nI (s_t S + 1)) (s_C S)) (h0 : sc' 0 = nI (s_t S + 1)) (hs : ∀ k, k ≠ 0 → sc' k = sc k) : mD (tkP S) gn sc' Rk ∧ sc' 22 = nI (s_N S).length ∧ rowN Rk 0 (s_N S) := by
  obtain ⟨⟨a1, a2, a3, a4, a5, a6, a7, a8, a9⟩, b1, b2⟩ := h
  obtain ⟨e1, e2, e3⟩ := he
  refine ⟨⟨h0, (hs _ (by decide)).trans a2, (hs _ (by decide)).trans a3, (hs _ (by decide)).trans a4, (hs _ (by decide)).trans a5, (hs _ (by decide)).trans a6, fun j hj => ?_, ?_, fun j hj => ?_⟩, (hs _ (by decide)).trans b1, b2.same (fun j _ => by rw [e1 23 (by decide)]) (fun j _ => by rw [e1 24 (by decide)])⟩
  · rw [e1 j (fun z => by rw [z] at hj; revert hj; decide)]
    exact a7 j hj
  · exact gR_end (p := fun g => !ovP (s_ar S) (s_t S + 1) g) (q := stays R (nI (s_t S + 1))) a8 (stays_is a8 a7) e2 (e1 18 (by decide)) (e1 19 (by decide)) (e1 20 (by decide))
  · have hj' : s_C S ≤ j := hj
    rw [e3 j hj']
    exact a9 j hj'
theorem passK_keep (S : PS) : ∀ j, s_ar (passK S j) = s_ar S ∧ s_L (passK S j) = s_L S ∧ s_B (passK S j) = s_B S ∧ s_C (passK S j) = s_C S ∧ s_t (passK S j) = s_t S + j
  | 0 => ⟨rfl, rfl, rfl, rfl, rfl⟩
  | j + 1 => by
    obtain ⟨a1, a2, a3, a4, a5⟩ := passK_keep S j
    obtain ⟨b1, b2, b3, b4, b5⟩ := fold_keep (dueP (passK S j)) (tkP (passK S j))
    refine ⟨b1.trans a1, b2.trans a2, b3.trans a3, b4.trans a4, b5.trans ?_⟩
    show s_t (passK S j) + 1 = _
    rw [a5]
    rfl
set_option maxHeartbeats 4000000 in
set_option maxRecDepth 100000 in
theorem c_X8_go (G : XG) {ma ow : Nat → Nat} {sc : Nat → Int32} {R : Nat → Nat → Int32} {h : HM} (hM : mM G ma ow sc R h) {S : PS} {gn : Nat} (hMS : mS S gn sc R) (hI : mI S) (hN9 : (s_N S).length < 1024) (c : Int32) : x_M G yX8_go wsX8_go ({ frames := 7, cells := 0, slots := 0, locals := 159 } : Room) [.ref (ma 30), .int c] h (mP G ma ow (fGo S c) (nI (s_G (begP c.toNatClampNeg S)).length) (iff0 (fGo S c) (begP c.toNatClampNeg S) S) (gn + 1)) 0 0 := by
  refine x_M.of (cc := cX8_go) (maxL := 3) (ret := (some .int)) (ent := [some (.ref (ma 30)), some (.int c), none]) (by decide +kernel) rfl (Nat.le_of_ble_eq_true rfl) rfl rfl ?_
  intro F hE hname
  have hL16 : s_L S ≤ 16 := hI.2.1
  have hC12 : s_C S ≤ 12 := hI.1.2.2.1
  refine x_aload_n hE dX8_go_0 rfl rfl ?_
  refine x_iload_n hE dX8_go_1 rfl ?_
  refine x_callV (ci := 8) (st := []) hE 1 (c_X8_isCue G hM hMS.1.2.2.2.1 (by omega) c) gX8_go_X8_isCue rfl rfl rfl (by decide +kernel) ⟨Nat.le_of_ble_eq_true rfl, Nat.le_of_ble_eq_true rfl⟩ hM.o rfl rfl rfl dX8_go_2 rfl (Nat.le_of_ble_eq_true rfl) ⟨Nat.le_of_ble_eq_true rfl, Nat.le_of_ble_eq_true rfl⟩ (fun v h9 hp => ?_)
  obtain ⟨rfl, rfl⟩ := hp
  refine x_istore_n (L' := [some (.ref (ma 30)), some (.int c), some (.int (b2i (isN c (s_C S))))]) hE dX8_go_5 rfl (Nat.le_of_ble_eq_true rfl) rfl ?_
  refine x_aload_n hE dX8_go_6 rfl rfl ?_
  refine x_iload_n hE dX8_go_7 rfl ?_
  refine x_if_ne (tgt := 15) hE dX8_go_8 (by decide) (fun c8 => ?_) (fun c8 => ?_)
  · have q8 : (isN c (s_C S)) = true := b2i_n0.mp c8
    clear c8
    obtain ⟨k, hk, rfl⟩ := isN_t (by omega) q8
    have ek : (nI k).toNatClampNeg = k := nI_clamp (by omega)
    rw [ek]
    refine x_aload_n hE dX8_go_15 rfl rfl ?_
    refine x_iload_n hE dX8_go_16 rfl ?_
    refine x_callV (ci := 8) (st := [.ref (ma 30)]) hE 1 (c_X8_mayGo G hM hMS.1.2.1 hMS.1.2.2.1 hMS.1.2.2.2.1 hL16 hC12 hk (hMS.1.2.2.2.2.2.2.1.to hI.1.2.1) hI.1.2.2.2.1 hMS.1.2.2.2.2.2.2.2.1) gX8_go_X8_mayGo rfl rfl rfl (by decide +kernel) ⟨Nat.le_of_ble_eq_true rfl, Nat.le_of_ble_eq_true rfl⟩ hM.o rfl rfl rfl dX8_go_17 rfl (Nat.le_of_ble_eq_true rfl) ⟨Nat.le_of_ble_eq_true rfl, Nat.le_of_ble_eq_true rfl⟩ (fun v h3 hp => ?_)
    obtain ⟨rfl, R3, hM3, s3⟩ := hp
    refine x_ieq (y := b2i (canP (s_ar S) (s_L S) (s_B S) (s_G S) k)) (by rw [hMS.1.2.2.2.2.2.2.1.can]) ?_
    have hS3 := hMS.sR s3
    refine x_if_eq (tgt := 27) hE dX8_go_20 (by decide) (fun c20 => ?_) (fun c20 => ?_)
    · have q20 : (canP (s_ar S) (s_L S) (s_B S) (s_G S) k) = false := b2i_0.mp c20
      clear c20
      refine x_iconst (v := nI 2) hE dX8_go_27 (by decide) ?_
      refine x_callV (ci := 8) (st := []) hE 1 (c_X8_can G hM3 (nI 2)) gX8_go_X8_can rfl rfl rfl (by decide +kernel) ⟨Nat.le_of_ble_eq_true rfl, Nat.le_of_ble_eq_true rfl⟩ hM3.o rfl rfl rfl dX8_go_28 rfl (Nat.le_of_ble_eq_true rfl) ⟨Nat.le_of_ble_eq_true rfl, Nat.le_of_ble_eq_true rfl⟩ (fun v hc2 hp => ?_)
      obtain ⟨rfl, hMc1⟩ := hp
      refine x_ieq (y := nI 0) (by decide) ?_
      generalize hssc3 : upd sc 28 (nI 2) = sc3 at hMc1
      have hMS4 : mS S gn sc3 R3 := by rw [← hssc3]; exact hS3.can _
      have e28 : sc3 28 = nI 2 := by rw [← hssc3]; exact upd_at _ _ _
      refine x_if_ne (tgt := 36) hE dX8_go_31 (by decide) (fun c31 => ?_) (fun c31 => ?_)
      · exact absurd c31 (by decide)
      · refine x_iconst (v := nI 0) hE dX8_go_34 (by decide) ?_
        exact x_iret hE dX8_go_35 (mP.no (by unfold fGo; simp [*]) (by decide) hMc1 hMS4 e28 (by omega))
    · have q20 : (canP (s_ar S) (s_L S) (s_B S) (s_G S) k) = true := b2i_n0.mp c20
      clear c20
      refine x_iconst (v := nI 0) hE dX8_go_23 (by decide) ?_
      refine x_goto (tgt := 28) hE dX8_go_24 (by decide) ?_
      refine x_callV (ci := 8) (st := []) hE 1 (c_X8_can G hM3 (nI 0)) gX8_go_X8_can rfl rfl rfl (by decide +kernel) ⟨Nat.le_of_ble_eq_true rfl, Nat.le_of_ble_eq_true rfl⟩ hM3.o rfl rfl rfl dX8_go_28 rfl (Nat.le_of_ble_eq_true rfl) ⟨Nat.le_of_ble_eq_true rfl, Nat.le_of_ble_eq_true rfl⟩ (fun v hc6 hp => ?_)
      obtain ⟨rfl, hMc5⟩ := hp
      refine x_ieq (y := nI 1) (by decide) ?_
      generalize hssc7 : upd sc 28 (nI 0) = sc7 at hMc5
      have hMS8 : mS S gn sc7 R3 := by rw [← hssc7]; exact hS3.can _
      have e28 : sc7 28 = nI 0 := by rw [← hssc7]; exact upd_at _ _ _
      refine x_if_ne (tgt := 36) hE dX8_go_31 (by decide) (fun c31 => ?_) (fun c31 => ?_)
      · refine x_aload_n hE dX8_go_36 rfl rfl ?_
        refine x_iload_n hE dX8_go_37 rfl ?_
        refine x_callV (ci := 8) (st := []) hE 1 (c_X8_goes G hMc5 (by omega : k < 12) hMS8.1.1 hMS8.1.2.2.2.2.1 hMS8.2.1 hN9) gX8_go_X8_goes rfl rfl rfl (by decide +kernel) ⟨Nat.le_of_ble_eq_true rfl, Nat.le_of_ble_eq_true rfl⟩ hMc5.o rfl rfl rfl dX8_go_38 rfl (Nat.le_of_ble_eq_true rfl) ⟨Nat.le_of_ble_eq_true rfl, Nat.le_of_ble_eq_true rfl⟩ (fun v h4 hp => ?_)
        obtain ⟨rfl, R4, sc4, hM4, hg4⟩ := hp
        have hS4 := mS_goes hMS8 hg4 hk hC12 hI.2.2.1
        have z4 := (hg4.2.2.2.2.2.1 28 (by decide) (by decide)).trans e28
        refine x_aload_n hE dX8_go_41 rfl rfl ?_
        refine x_callV (ci := 8) (st := []) hE 0 (c_X8_active G hM4 hS4.1.2.2.2.1 hC12) gX8_go_X8_active rfl rfl rfl (by decide +kernel) ⟨Nat.le_of_ble_eq_true rfl, Nat.le_of_ble_eq_true rfl⟩ hM4.o rfl rfl rfl dX8_go_42 rfl (Nat.le_of_ble_eq_true rfl) ⟨Nat.le_of_ble_eq_true rfl, Nat.le_of_ble_eq_true rfl⟩ (fun v h9 hp => ?_)
        obtain ⟨rfl, rfl⟩ := hp
        refine x_ieq (y := nI (s_G (begP k S)).length) (congrArg nI (actN_is hS4.1.2.2.2.2.2.2.2.1 (gBeg_I hI.1.2.2.2.1 hk))) ?_
        exact x_iret hE dX8_go_45 (mP.ok (by unfold fGo; rw [if_pos q8, ek, if_pos q20]) rfl hM4 hS4 z4 (Nat.le_refl _))
      · exact absurd c31 (by decide)
  · have q8 : (isN c (s_C S)) = false := b2i_0.mp c8
    clear c8
    refine x_iconst (v := nI 1) hE dX8_go_11 (by decide) ?_
    refine x_goto (tgt := 28) hE dX8_go_12 (by decide) ?_
    refine x_callV (ci := 8) (st := []) hE 1 (c_X8_can G hM (nI 1)) gX8_go_X8_can rfl rfl rfl (by decide +kernel) ⟨Nat.le_of_ble_eq_true rfl, Nat.le_of_ble_eq_true rfl⟩ hM.o rfl rfl rfl dX8_go_28 rfl (Nat.le_of_ble_eq_true rfl) ⟨Nat.le_of_ble_eq_true rfl, Nat.le_of_ble_eq_true rfl⟩ (fun v hc10 hp => ?_)
    obtain ⟨rfl, hMc9⟩ := hp
    refine x_ieq (y := nI 0) (by decide) ?_
    generalize hssc11 : upd sc 28 (nI 1) = sc11 at hMc9
    have hMS12 : mS S gn sc11 R := by rw [← hssc11]; exact hMS.can _
    have e28 : sc11 28 = nI 1 := by rw [← hssc11]; exact upd_at _ _ _
    refine x_if_ne (tgt := 36) hE dX8_go_31 (by decide) (fun c31 => ?_) (fun c31 => ?_)
    · exact absurd c31 (by decide)
    · refine x_iconst (v := nI 0) hE dX8_go_34 (by decide) ?_
      exact x_iret hE dX8_go_35 (mP.no (by unfold fGo; simp [*]) (by decide) hMc9 hMS12 e28 (by omega))

set_option maxHeartbeats 4000000 in
set_option maxRecDepth 100000 in
theorem c_X8_release (G : XG) {ma ow : Nat → Nat} {sc : Nat → Int32} {R : Nat → Nat → Int32} {h : HM} (hM : mM G ma ow sc R h) {S : PS} {gn : Nat} (hMS : mS S gn sc R) (hI : mI S) (c : Int32) : x_M G yX8_release wsX8_release ({ frames := 2, cells := 0, slots := 0, locals := 43 } : Room) [.ref (ma 30), .int c] h (mP G ma ow (fRel S c) (b2i (goF (s_G (relP c.toNatClampNeg S)) c.toNatClampNeg).isSome) (iff0 (fRel S c) (relP c.toNatClampNeg S) S) (gn)) 0 0 := by
  refine x_M.of (cc := cX8_release) (maxL := 3) (ret := (some .boolean)) (ent := [some (.ref (ma 30)), some (.int c), none]) (by decide +kernel) rfl (Nat.le_of_ble_eq_true rfl) rfl rfl ?_
  intro F hE hname
  have hinX8 : ∀ w ∈ wsX80, w ∈ wsX8_release := by decide +kernel
  have hL16 : s_L S ≤ 16 := hI.2.1
  have hC12 : s_C S ≤ 12 := hI.1.2.2.1
  refine x_aload_n hE dX8_release_0 rfl rfl ?_
  refine x_iload_n hE dX8_release_1 rfl ?_
  refine x_callV (ci := 8) (st := []) hE 1 (c_X8_isCue G hM hMS.1.2.2.2.1 (by omega) c) gX8_release_X8_isCue rfl rfl rfl (by decide +kernel) ⟨Nat.le_of_ble_eq_true rfl, Nat.le_of_ble_eq_true rfl⟩ hM.o rfl rfl rfl dX8_release_2 rfl (Nat.le_of_ble_eq_true rfl) ⟨Nat.le_of_ble_eq_true rfl, Nat.le_of_ble_eq_true rfl⟩ (fun v h9 hp => ?_)
  obtain ⟨rfl, rfl⟩ := hp
  refine x_istore_n (L' := [some (.ref (ma 30)), some (.int c), some (.int (b2i (isN c (s_C S))))]) hE dX8_release_5 rfl (Nat.le_of_ble_eq_true rfl) rfl ?_
  refine x_aload_n hE dX8_release_6 rfl rfl ?_
  refine x_iload_n hE dX8_release_7 rfl ?_
  refine x_if_ne (tgt := 15) hE dX8_release_8 (by decide) (fun c8 => ?_) (fun c8 => ?_)
  · have q8 : (isN c (s_C S)) = true := b2i_n0.mp c8
    clear c8
    obtain ⟨k, hk, rfl⟩ := isN_t (by omega) q8
    have ek : (nI k).toNatClampNeg = k := nI_clamp (by omega)
    rw [ek]
    refine x_aload_n hE dX8_release_15 rfl rfl ?_
    refine x_get hE hinX8 hM.o rfl 17 (by decide) (List.mem_of_getElem? (i := 1) rfl) rfl dX8_release_16 ?_
    refine x_iload_n hE dX8_release_19 rfl ?_
    refine x_zald (v := b2i (actB (s_G S) k)) hE hM.a17 (vp_in_nI (by omega) (by decide)) ((x_atN _ (by omega)).trans (hMS.1.2.2.2.2.2.2.2.1.1 k hk)) dX8_release_20 ?_
    refine x_if_eq (tgt := 34) hE dX8_release_21 (by decide) (fun c21 => ?_) (fun c21 => ?_)
    · have q21 := b2i_0.mp c21
      have hgo : goF (s_G S) k = none := (goF_act hI.1.2.2.2.1).elim (fun z => z.2) (fun ⟨g, z1, z2, z3, z4⟩ => by rw [q21] at z3; cases z3)
      have hf : fRel S (nI k) = 2 := by unfold fRel; rw [if_pos q8, ek, hgo]
      refine x_iconst (v := nI 2) hE dX8_release_34 (by decide) ?_
      refine x_goto (tgt := 39) hE dX8_release_35 (by decide) ?_
      refine x_callV (ci := 8) (st := []) hE 1 (c_X8_can G hM (nI 2)) gX8_release_X8_can rfl rfl rfl (by decide +kernel) ⟨Nat.le_of_ble_eq_true rfl, Nat.le_of_ble_eq_true rfl⟩ hM.o rfl rfl rfl dX8_release_39 rfl (Nat.le_of_ble_eq_true rfl) ⟨Nat.le_of_ble_eq_true rfl, Nat.le_of_ble_eq_true rfl⟩ (fun v hc2 hp => ?_)
      obtain ⟨rfl, hMc1⟩ := hp
      refine x_ieq (y := nI 0) (by decide) ?_
      generalize hssc3 : upd sc 28 (nI 2) = sc3 at hMc1
      have hMS4 : mS S gn sc3 R := by rw [← hssc3]; exact hMS.can _
      have e28 : sc3 28 = nI 2 := by rw [← hssc3]; exact upd_at _ _ _
      refine x_if_ne (tgt := 47) hE dX8_release_42 (by decide) (fun c42 => ?_) (fun c42 => ?_)
      · exact absurd c42 (by decide)
      · refine x_iconst (v := nI 0) hE dX8_release_45 (by decide) ?_
        exact x_zret hE (Or.inl rfl) dX8_release_46 (mP.no (by first | exact hf | (unfold fRel; simp [*])) (by decide) hMc1 hMS4 e28 (Nat.le_refl _))
    · have q21 := b2i_n0.mp c21
      obtain ⟨g, hgm, hgk, -, hgo⟩ := (goF_act hI.1.2.2.2.1).resolve_left (fun z => by rw [q21] at z; cases z.1)
      have hf : fRel S (nI k) = if relI g.2.2 = -1 then 0 else 2 := by unfold fRel; rw [if_pos q8, ek, hgo]
      have h20 : R 20 k = relI g.2.2 := by have := (hMS.1.2.2.2.2.2.2.2.1.2.1 g hgm).2; rw [hgk] at this; exact this
      refine x_aload_n hE dX8_release_24 rfl rfl ?_
      refine x_get hE hinX8 hM.o rfl 20 (by decide) (List.mem_of_getElem? (i := 2) rfl) rfl dX8_release_25 ?_
      refine x_iload_n hE dX8_release_28 rfl ?_
      refine x_iald (v := relI g.2.2) hE hM.a20 (vp_in_nI (by omega) (by decide)) ((x_atN _ (by omega)).trans h20) dX8_release_29 ?_
      refine x_iconst (v := (-1 : Int32)) hE dX8_release_30 (by decide) ?_
      refine x_icmp_eq (tgt := 38) hE dX8_release_31 (by decide) (fun c31 => ?_) (fun c31 => ?_)
      · rw [if_pos c31] at hf
        refine x_iconst (v := nI 0) hE dX8_release_38 (by decide) ?_
        refine x_callV (ci := 8) (st := []) hE 1 (c_X8_can G hM (nI 0)) gX8_release_X8_can rfl rfl rfl (by decide +kernel) ⟨Nat.le_of_ble_eq_true rfl, Nat.le_of_ble_eq_true rfl⟩ hM.o rfl rfl rfl dX8_release_39 rfl (Nat.le_of_ble_eq_true rfl) ⟨Nat.le_of_ble_eq_true rfl, Nat.le_of_ble_eq_true rfl⟩ (fun v hc6 hp => ?_)
        obtain ⟨rfl, hMc5⟩ := hp
        refine x_ieq (y := nI 1) (by decide) ?_
        generalize hssc7 : upd sc 28 (nI 0) = sc7 at hMc5
        have hMS8 : mS S gn sc7 R := by rw [← hssc7]; exact hMS.can _
        have e28 : sc7 28 = nI 0 := by rw [← hssc7]; exact upd_at _ _ _
        refine x_if_ne (tgt := 47) hE dX8_release_42 (by decide) (fun c42 => ?_) (fun c42 => ?_)
        · refine x_aload_n hE dX8_release_47 rfl rfl ?_
          refine x_get hE hinX8 hMc5.o rfl 20 (by decide) (List.mem_of_getElem? (i := 2) rfl) rfl dX8_release_48 ?_
          refine x_iload_n hE dX8_release_51 rfl ?_
          refine x_aload_n hE dX8_release_52 rfl rfl ?_
          refine x_get hE hinX8 hMc5.o rfl 0 (by decide) (List.mem_of_getElem? (i := 3) rfl) rfl dX8_release_53 ?_
          refine x_ieq (y := nI (s_t S)) (hMS8.1.1) ?_
          refine x_iast (f' := (upd (R 20) k (nI (s_t S)))) hE hMc5.a20 (vp_in_nI (by omega) (by decide)) (x_updN _ (by omega) _) dX8_release_56 ?_
          generalize hhh9 : x_up hc6 (ma 20) (.inl (g_c G 0, 12, .inl (upd (R 20) k (nI (s_t S))))) = h9
          have hM10 : mM G ma ow sc7 (set2 R 20 k (nI (s_t S))) h9 := by rw [← hhh9]; exact hMc5.set (k := 20) (by decide) _
          refine x_aload_n hE dX8_release_57 rfl rfl ?_
          refine x_iload_n hE dX8_release_58 rfl ?_
          refine x_callV (ci := 8) (st := []) hE 1 (c_X8_ends G hM10 (by omega : k < 12)) gX8_release_X8_ends rfl rfl rfl (by decide +kernel) ⟨Nat.le_of_ble_eq_true rfl, Nat.le_of_ble_eq_true rfl⟩ hM10.o rfl rfl rfl dX8_release_59 rfl (Nat.le_of_ble_eq_true rfl) ⟨Nat.le_of_ble_eq_true rfl, Nat.le_of_ble_eq_true rfl⟩ (fun v h5 hp => ?_)
          obtain ⟨rfl, hM5⟩ := hp
          rw [hMS8.1.1] at hM5
          generalize hR5 : rowUp _ 17 _ = R5 at hM5
          obtain ⟨hS5, e5⟩ := mS_rel hMS8 hI hk hR5.symm
          refine x_aload_n hE dX8_release_62 rfl rfl ?_
          refine x_get hE hinX8 hM5.o rfl 17 (by decide) (List.mem_of_getElem? (i := 1) rfl) rfl dX8_release_63 ?_
          refine x_iload_n hE dX8_release_66 rfl ?_
          refine x_zald (v := b2i (goF (s_G (relP k S)) k).isSome) hE hM5.a17 (vp_in_nI (by omega) (by decide)) ((x_atN _ (by omega)).trans e5) dX8_release_67 ?_
          exact x_zret hE (b2i_01 _) dX8_release_68 (mP.ok hf rfl hM5 hS5 e28 (Nat.le_refl _))
        · exact absurd c42 (by decide)
      · rw [if_neg c31] at hf
        refine x_iconst (v := nI 2) hE dX8_release_34 (by decide) ?_
        refine x_goto (tgt := 39) hE dX8_release_35 (by decide) ?_
        refine x_callV (ci := 8) (st := []) hE 1 (c_X8_can G hM (nI 2)) gX8_release_X8_can rfl rfl rfl (by decide +kernel) ⟨Nat.le_of_ble_eq_true rfl, Nat.le_of_ble_eq_true rfl⟩ hM.o rfl rfl rfl dX8_release_39 rfl (Nat.le_of_ble_eq_true rfl) ⟨Nat.le_of_ble_eq_true rfl, Nat.le_of_ble_eq_true rfl⟩ (fun v hc12 hp => ?_)
        obtain ⟨rfl, hMc11⟩ := hp
        refine x_ieq (y := nI 0) (by decide) ?_
        generalize hssc13 : upd sc 28 (nI 2) = sc13 at hMc11
        have hMS14 : mS S gn sc13 R := by rw [← hssc13]; exact hMS.can _
        have e28 : sc13 28 = nI 2 := by rw [← hssc13]; exact upd_at _ _ _
        refine x_if_ne (tgt := 47) hE dX8_release_42 (by decide) (fun c42 => ?_) (fun c42 => ?_)
        · exact absurd c42 (by decide)
        · refine x_iconst (v := nI 0) hE dX8_release_45 (by decide) ?_
          exact x_zret hE (Or.inl rfl) dX8_release_46 (mP.no (by first | exact hf | (unfold fRel; simp [*])) (by decide) hMc11 hMS14 e28 (Nat.le_refl _))
  · have q8 : (isN c (s_C S)) = false := b2i_0.mp c8
    clear c8
    refine x_iconst (v := nI 1) hE dX8_release_11 (by decide) ?_
    refine x_goto (tgt := 39) hE dX8_release_12 (by decide) ?_
    refine x_callV (ci := 8) (st := []) hE 1 (c_X8_can G hM (nI 1)) gX8_release_X8_can rfl rfl rfl (by decide +kernel) ⟨Nat.le_of_ble_eq_true rfl, Nat.le_of_ble_eq_true rfl⟩ hM.o rfl rfl rfl dX8_release_39 rfl (Nat.le_of_ble_eq_true rfl) ⟨Nat.le_of_ble_eq_true rfl, Nat.le_of_ble_eq_true rfl⟩ (fun v hc16 hp => ?_)
    obtain ⟨rfl, hMc15⟩ := hp
    refine x_ieq (y := nI 0) (by decide) ?_
    generalize hssc17 : upd sc 28 (nI 1) = sc17 at hMc15
    have hMS18 : mS S gn sc17 R := by rw [← hssc17]; exact hMS.can _
    have e28 : sc17 28 = nI 1 := by rw [← hssc17]; exact upd_at _ _ _
    refine x_if_ne (tgt := 47) hE dX8_release_42 (by decide) (fun c42 => ?_) (fun c42 => ?_)
    · exact absurd c42 (by decide)
    · refine x_iconst (v := nI 0) hE dX8_release_45 (by decide) ?_
      exact x_zret hE (Or.inl rfl) dX8_release_46 (mP.no (by first | exact hf | (unfold fRel; simp [*])) (by decide) hMc15 hMS18 e28 (Nat.le_refl _))

set_option maxHeartbeats 4000000 in
set_option maxRecDepth 100000 in
theorem c_X8_pass (G : XG) {ma ow : Nat → Nat} {sc : Nat → Int32} {R : Nat → Nat → Int32} {h : HM} (hM : mM G ma ow sc R h) {S : PS} {gn : Nat} (hMS : mS S gn sc R) (hI : mI S) (hpI : ∀ j, j < 20 → pI (passK S j) ∧ (s_N (passK S j)).length ≤ 511) (x : Int32) : x_M G yX8_pass wsX8_pass ({ frames := 8, cells := 0, slots := 0, locals := 183 } : Room) [.ref (ma 30), .int x] h (mP G ma ow (fPass x) (nI (s_t (passK S x.toNatClampNeg))) (iff0 (fPass x) (passK S x.toNatClampNeg) S) (gn + 10220)) 0 0 := by
  refine x_M.of (cc := cX8_pass) (maxL := 4) (ret := (some .int)) (ent := [some (.ref (ma 30)), some (.int x), none, none]) (by decide +kernel) rfl (Nat.le_of_ble_eq_true rfl) rfl rfl ?_
  intro F hE hname
  have hinX8 : ∀ w ∈ wsX80, w ∈ wsX8_pass := by decide +kernel
  have hL16 : s_L S ≤ 16 := hI.2.1
  have hC12 : s_C S ≤ 12 := hI.1.2.2.1
  refine x_aload_n hE dX8_pass_0 rfl rfl ?_
  refine x_iload_n hE dX8_pass_1 rfl ?_
  refine x_iconst (v := nI 1) hE dX8_pass_2 (by decide) ?_
  refine x_bipush (v := nI 20) hE dX8_pass_3 (by decide) ?_
  refine x_callS (st := [.ref (ma 30)]) hE 3 (c_X8_isIn G x (nI 1) (nI 20)) gX8_pass_X8_isIn rfl rfl rfl (by decide +kernel) ⟨Nat.le_of_ble_eq_true rfl, Nat.le_of_ble_eq_true rfl⟩ rfl rfl dX8_pass_5 rfl (Nat.le_of_ble_eq_true rfl) ⟨Nat.le_of_ble_eq_true rfl, Nat.le_of_ble_eq_true rfl⟩ (fun v h9 hp => ?_)
  obtain ⟨rfl, rfl⟩ := hp
  refine x_if_eq (tgt := 15) hE dX8_pass_8 (by decide) (fun c8 => ?_) (fun c8 => ?_)
  · have q8 : (inI x 1 20) = false := b2i_0.mp c8
    clear c8
    refine x_iconst (v := nI 1) hE dX8_pass_15 (by decide) ?_
    refine x_callV (ci := 8) (st := []) hE 1 (c_X8_can G hM (nI 1)) gX8_pass_X8_can rfl rfl rfl (by decide +kernel) ⟨Nat.le_of_ble_eq_true rfl, Nat.le_of_ble_eq_true rfl⟩ hM.o rfl rfl rfl dX8_pass_16 rfl (Nat.le_of_ble_eq_true rfl) ⟨Nat.le_of_ble_eq_true rfl, Nat.le_of_ble_eq_true rfl⟩ (fun v hc2 hp => ?_)
    obtain ⟨rfl, hMc1⟩ := hp
    refine x_ieq (y := nI 0) (by decide) ?_
    generalize hssc3 : upd sc 28 (nI 1) = sc3 at hMc1
    have hMS4 : mS S gn sc3 R := by rw [← hssc3]; exact hMS.can _
    have e28 : sc3 28 = nI 1 := by rw [← hssc3]; exact upd_at _ _ _
    refine x_if_ne (tgt := 24) hE dX8_pass_19 (by decide) (fun c19 => ?_) (fun c19 => ?_)
    · exact absurd c19 (by decide)
    · refine x_iconst (v := nI 0) hE dX8_pass_22 (by decide) ?_
      exact x_iret hE dX8_pass_23 (mP.no (by unfold fPass; simp [*]) (by decide) hMc1 hMS4 e28 (by omega))
  · have q8 : (inI x 1 20) = true := b2i_n0.mp c8
    clear c8
    refine x_iconst (v := nI 0) hE dX8_pass_11 (by decide) ?_
    refine x_goto (tgt := 16) hE dX8_pass_12 (by decide) ?_
    refine x_callV (ci := 8) (st := []) hE 1 (c_X8_can G hM (nI 0)) gX8_pass_X8_can rfl rfl rfl (by decide +kernel) ⟨Nat.le_of_ble_eq_true rfl, Nat.le_of_ble_eq_true rfl⟩ hM.o rfl rfl rfl dX8_pass_16 rfl (Nat.le_of_ble_eq_true rfl) ⟨Nat.le_of_ble_eq_true rfl, Nat.le_of_ble_eq_true rfl⟩ (fun v hc6 hp => ?_)
    obtain ⟨rfl, hMc5⟩ := hp
    refine x_ieq (y := nI 1) (by decide) ?_
    generalize hssc7 : upd sc 28 (nI 0) = sc7 at hMc5
    have hMS8 : mS S gn sc7 R := by rw [← hssc7]; exact hMS.can _
    have e28 : sc7 28 = nI 0 := by rw [← hssc7]; exact upd_at _ _ _
    refine x_if_ne (tgt := 24) hE dX8_pass_19 (by decide) (fun c19 => ?_) (fun c19 => ?_)
    · obtain ⟨X, hX1, hX2, rfl⟩ := inI_is q8 (by decide) (by decide)
      have ek : (nI X).toNatClampNeg = X := nI_clamp (by omega)
      rw [ek]
      refine x_iconst (v := nI 0) hE dX8_pass_24 (by decide) ?_
      refine x_istore_n (L' := [some (.ref (ma 30)), some (.int (nI X)), some (.int (nI 0)), none]) hE dX8_pass_25 rfl (Nat.le_of_ble_eq_true rfl) rfl ?_
      refine x_down (N := X) (P := fun i => ∀ (hi : HM) (sci : Nat → Int32) (Ri : Nat → Nat → Int32) (gni : Nat), mM G ma ow sci Ri hi → mS (passK S i) gni sci Ri → sci 28 = nI 0 → gni ≤ gn + 511 * i → x_W G F (x_Q G F (mP G ma ow (fPass (nI X)) (nI (s_t (passK S X))) (iff0 (fPass (nI X)) (passK S X) S) (gn + 10220)) 0 0) 0 0 hi 26 [some (.ref (ma 30)), some (.int (nI X)), some (.int (nI i)), none] []) (fun i hiN ih => ?_) 0 (by omega) hc6 sc7 R gn hMc5 hMS8 e28 (by omega)
      intro hi sci Ri gni hMi hSi e28i hgi
      obtain ⟨k1, k2, k3, k4, k5⟩ := passK_keep S i
      refine x_iload_n hE dX8_pass_26 rfl ?_
      refine x_iload_n hE dX8_pass_27 rfl ?_
      refine x_icmp_ge (tgt := 72) hE dX8_pass_28 (by decide) (fun c28 => ?_) (fun c28 => ?_)
      · replace c28 := x_nIle c28 (by omega) (by omega)
        obtain rfl : i = X := by omega
        refine x_aload_n hE dX8_pass_72 rfl rfl ?_
        refine x_get hE hinX8 hMi.o rfl 0 (by decide) (List.mem_of_getElem? (i := 1) rfl) rfl dX8_pass_73 ?_
        refine x_ieq (y := nI (s_t (passK S i))) (hSi.1.1) ?_
        exact x_iret hE dX8_pass_76 (mP.ok (by unfold fPass; rw [if_pos q8]) rfl hMi hSi e28i (by omega))
      · replace c28 := x_nInle c28 (by omega) (by omega)
        obtain ⟨hpi, hln⟩ := hpI i (by omega)
        refine x_aload_n hE dX8_pass_31 rfl rfl ?_
        refine x_dup hE dX8_pass_32 rfl ?_
        refine x_get hE hinX8 hMi.o rfl 0 (by decide) (List.mem_of_getElem? (i := 1) rfl) rfl dX8_pass_33 ?_
        refine x_iconst (v := nI 1) hE dX8_pass_36 (by decide) ?_
        refine x_iadd hE dX8_pass_37 ?_
        refine x_ieq (y := nI (s_t (passK S i) + 1)) (by rw [hSi.1.1]; exact nI_1 _) ?_
        refine x_put (fs' := [.int (nI (s_t (passK S i) + 1)), .int (sci 1), .ref (ma 2), .ref (ma 3), .ref (ma 4), .ref (ma 5), .ref (ma 6), .ref (ma 7), .int (sci 8), .ref (ma 9), .int (sci 10), .ref (ma 11), .ref (ma 12), .ref (ma 13), .ref (ma 14), .ref (ma 15), .ref (ma 16), .ref (ma 17), .ref (ma 18), .ref (ma 19), .ref (ma 20), .int (sci 21), .int (sci 22), .ref (ma 23), .ref (ma 24), .int (sci 25), .ref (ma 26), .ref (ma 27), .int (sci 28), .ref (ma 29)]) hE hinX8 tyX8 tyX8_ok nmX8 hMi.o rfl 0 (by decide) (List.mem_of_getElem? (i := 1) rfl) rfl rfl rfl (Nat.le_of_ble_eq_true rfl) rfl dX8_pass_38 ?_
        generalize hhh9 : x_up hi (ma 30) (.inr (8, [.int (nI (s_t (passK S i) + 1)), .int (sci 1), .ref (ma 2), .ref (ma 3), .ref (ma 4), .ref (ma 5), .ref (ma 6), .ref (ma 7), .int (sci 8), .ref (ma 9), .int (sci 10), .ref (ma 11), .ref (ma 12), .ref (ma 13), .ref (ma 14), .ref (ma 15), .ref (ma 16), .ref (ma 17), .ref (ma 18), .ref (ma 19), .ref (ma 20), .int (sci 21), .int (sci 22), .ref (ma 23), .ref (ma 24), .int (sci 25), .ref (ma 26), .ref (ma 27), .int (sci 28), .ref (ma 29)])) = h9
        have hM10 : mM G ma ow (upd sci 0 (nI (s_t (passK S i) + 1))) Ri h9 := by rw [← hhh9]; exact hMi.num (upd sci 0 (nI (s_t (passK S i) + 1)))
        have hm9 := hM10
        generalize hz9 : (upd sci 0 (nI (s_t (passK S i) + 1))) = sc9 at hm9
        have z9 : ∀ k, k ≠ 0 → sc9 k = sci k := fun k a => by rw [← hz9]; exact upd_ne a
        have z0 : sc9 0 = nI (s_t (passK S i) + 1) := by rw [← hz9]; exact upd_at _ _ _
        have z10 : sc9 10 = nI (s_C (passK S i)) := (z9 10 (by decide)).trans hSi.1.2.2.2.1
        have hC9 : s_C (passK S i) ≤ 12 := by rw [k4]; exact hC12
        refine x_iconst (v := nI 0) hE dX8_pass_41 (by decide) ?_
        refine x_istore_n (L' := [some (.ref (ma 30)), some (.int (nI X)), some (.int (nI i)), some (.int (nI 0))]) hE dX8_pass_42 rfl (Nat.le_of_ble_eq_true rfl) rfl ?_
        refine x_down (N := s_C (passK S i)) (P := fun j => ∀ (hj : HM) (Rj : Nat → Nat → Int32), mM G ma ow sc9 Rj hj → endI Ri Rj (nI (s_t (passK S i) + 1)) j → x_W G F (x_Q G F (mP G ma ow (fPass (nI X)) (nI (s_t (passK S X))) (iff0 (fPass (nI X)) (passK S X) S) (gn + 10220)) 0 0) 0 0 hj 43 [some (.ref (ma 30)), some (.int (nI X)), some (.int (nI i)), some (.int (nI j))] []) (fun j hjN ih2 => ?_) 0 (by omega) h9 Ri hm9 ⟨fun _ _ => rfl, fun j hj => absurd hj (by omega), fun _ _ => rfl⟩
        intro hj Rj hMj hej
        refine x_iload_n hE dX8_pass_43 rfl ?_
        refine x_aload_n hE dX8_pass_44 rfl rfl ?_
        refine x_get hE hinX8 hMj.o rfl 10 (by decide) (List.mem_of_getElem? (i := 2) rfl) rfl dX8_pass_45 ?_
        refine x_ieq (y := nI (s_C (passK S i))) (z10) ?_
        refine x_icmp_ge (tgt := 62) hE dX8_pass_48 (by decide) (fun c48 => ?_) (fun c48 => ?_)
        · replace c48 := x_nIle c48 (by omega) (by omega)
          obtain rfl : j = s_C (passK S i) := by omega
          obtain ⟨d1, d2, d3⟩ := end_D hSi hej z0 z9
          refine x_aload_n hE dX8_pass_62 rfl rfl ?_
          refine x_callV (ci := 8) (st := []) hE 0 (c_X8_follows G hMj d1 d2 d3 hpi (by rw [k1, k4]; exact hI.1.2.1) (by rw [k2]; exact hL16) hC9 hln) gX8_pass_X8_follows rfl rfl rfl (by decide +kernel) ⟨Nat.le_of_ble_eq_true rfl, Nat.le_of_ble_eq_true rfl⟩ hMj.o rfl rfl rfl dX8_pass_63 rfl (Nat.le_of_ble_eq_true rfl) ⟨Nat.le_of_ble_eq_true rfl, Nat.le_of_ble_eq_true rfl⟩ (fun v h6 hp => ?_)
          obtain ⟨rfl, R6, sc6, gn6, hM6, d6, n6, g6, e6⟩ := hp
          refine x_iinc (v := nI (i + 1)) (L' := [some (.ref (ma 30)), some (.int (nI X)), some (.int (nI (i + 1))), some (.int (nI (s_C (passK S i))))]) hE dX8_pass_66 rfl (nI_1 _) rfl ?_
          refine x_goto (tgt := 26) hE dX8_pass_69 (by decide) ?_
          refine x_forget (L' := [some (.ref (ma 30)), some (.int (nI X)), some (.int (nI (i + 1))), none]) (And.intro rfl (And.intro rfl (And.intro rfl trivial))) ?_
          exact ih (i + 1) (by omega) (by omega) h6 sc6 R6 gn6 hM6 ⟨d6, n6⟩ (by rw [e6, z9 28 (by decide)]; exact e28i) (by omega)
        · replace c48 := x_nInle c48 (by omega) (by omega)
          refine x_aload_n hE dX8_pass_51 rfl rfl ?_
          refine x_iload_n hE dX8_pass_52 rfl ?_
          refine x_callV (ci := 8) (st := []) hE 1 (c_X8_ends G hMj (by omega : j < 12)) gX8_pass_X8_ends rfl rfl rfl (by decide +kernel) ⟨Nat.le_of_ble_eq_true rfl, Nat.le_of_ble_eq_true rfl⟩ hMj.o rfl rfl rfl dX8_pass_53 rfl (Nat.le_of_ble_eq_true rfl) ⟨Nat.le_of_ble_eq_true rfl, Nat.le_of_ble_eq_true rfl⟩ (fun v h5 hp => ?_)
          obtain ⟨rfl, hM5⟩ := hp
          refine x_iinc (v := nI (j + 1)) (L' := [some (.ref (ma 30)), some (.int (nI X)), some (.int (nI i)), some (.int (nI (j + 1)))]) hE dX8_pass_56 rfl (nI_1 _) rfl ?_
          refine x_goto (tgt := 43) hE dX8_pass_59 (by decide) ?_
          exact ih2 (j + 1) (by omega) (by omega) h5 _ hM5 (endI_s hej z0)
    · exact absurd c19 (by decide)
