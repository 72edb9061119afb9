/-! the model's public methods: what they leave -/
def mS (S : PS) (gn : Nat) (sc : Nat → Int32) (R : Nat → Nat → Int32) : Prop := mD S gn sc R ∧ mN S sc R
def mI (S : PS) : Prop := fI (s_ar S) (s_L S) (s_C S) (s_t S) (s_G S) ∧ s_L S ≤ 16 ∧ cuI (s_ar S) (s_C S) ∧ ∀ g, g ∈ s_G S → ovP (s_ar S) (s_t S) g = false
def iff0 (f : Nat) (S' S : PS) : PS := if f = 0 then S' else S
def mP (G : XG) (ma ow : Nat → Nat) (f : Nat) (a : Int32) (S' : PS) (gb : Nat) : Option Value → HM → Prop := fun v h' => (∃ y, v = some (.int y) ∧ (f = 0 → y = a)) ∧ ∃ (R' : Nat → Nat → Int32) (sc' : Nat → Int32) (gn' : Nat), mM G ma ow sc' R' h' ∧ mS S' gn' sc' R' ∧ sc' 28 = nI f ∧ gn' ≤ gb
theorem mP.ok {G : XG} {ma ow : Nat → Nat} {f : Nat} {a y : Int32} {S S' : PS} {gb gn : Nat} {sc : Nat → Int32} {R : Nat → Nat → Int32} {h : HM} (hf : f = 0) (hy : y = a) (hM : mM G ma ow sc R h) (hS : mS S' gn sc R) (h28 : sc 28 = nI 0) (hg : gn ≤ gb) : mP G ma ow f a (iff0 f S' S) gb (some (.int y)) h := by
  subst hf
  exact ⟨⟨y, rfl, fun _ => hy⟩, R, sc, gn, hM, hS, h28, hg⟩
theorem mP.no {G : XG} {ma ow : Nat → Nat} {f k : Nat} {a y : Int32} {S S' : PS} {gb gn : Nat} {sc : Nat → Int32} {R : Nat → Nat → Int32} {h : HM} (hf : f = k) (hk : k ≠ 0) (hM : mM G ma ow sc R h) (hS : mS S gn sc R) (h28 : sc 28 = nI k) (hg : gn ≤ gb) : mP G ma ow f a (iff0 f S' S) gb (some (.int y)) h := by
  subst hf
  refine ⟨⟨y, rfl, fun z => absurd z hk⟩, R, sc, gn, hM, ?_, h28, hg⟩
  unfold iff0
  rw [if_neg hk]
  exact hS
theorem mS.can {S : PS} {gn : Nat} {sc : Nat → Int32} {R : Nat → Nat → Int32} (h : mS S gn sc R) (x : Int32) : mS S gn (upd sc 28 x) R := ⟨h.1.same (fun k _ b => upd_ne b) (fun _ _ _ => rfl), by rw [upd_ne (by decide)]; exact h.2.1, h.2.2⟩
theorem mS.up {S S' : PS} {gn : Nat} {sc sc' : Nat → Int32} {R R' : Nat → Nat → Int32} (h : mS S gn sc R) (hC : s_C S' = s_C S) (hG : s_G S' = s_G S) (hN : s_N S' = s_N S) (h0 : sc' 0 = nI (s_t S')) (h1 : sc' 1 = nI (s_L S')) (h8 : sc' 8 = s_B S') (h10 : sc' 10 = nI (s_C S')) (h21 : sc' 21 = sc 21) (h22 : sc' 22 = sc 22) (h25 : sc' 25 = nI (s_b S')) (hA : aE (s_ar S') R') (hr : ∀ k, k ∈ [17, 18, 19, 20, 23, 24] → R' k = R k) : mS S' gn sc' R' := by
  obtain ⟨⟨a1, a2, a3, a4, a5, a6, a7, a8, a9⟩, b1, b2⟩ := h
  refine ⟨⟨h0, h1, h8, h10, h21.trans a5, h25, hA, ?_, ?_⟩, ?_, ?_⟩
  · rw [hC, hG]
    exact a8.same (hr 17 (by decide)) (hr 18 (by decide)) (hr 19 (by decide)) (hr 20 (by decide))
  · rw [hC, hr 17 (by decide)]
    exact a9
  · rw [hN, h22]
    exact b1
  · rw [hN]
    exact b2.same (fun j _ => by rw [hr 23 (by decide)]) (fun j _ => by rw [hr 24 (by decide)])
theorem aE.set2 {ar R : Nat → Nat → Int32} (h : aE ar R) (k i : Nat) (x : Int32) : aE (set2 ar k i x) (set2 R k i x) := fun j hj => by
  by_cases e : j = k
  · subst e
    rw [set2_at, set2_at, h j hj]
  · rw [set2_ne e, set2_ne e]
    exact h j hj
theorem s2n {R : Nat → Nat → Int32} {k i j : Nat} {x : Int32} (h : j ≠ k) {f : Nat → Int32} (e : R j = f) : set2 R k i x j = f := (set2_ne h).trans e
theorem gl_m {g : Int32} : glI g = (inI g 0 55 && !decide (nI 6 ≤ g - g / nI 10 * nI 10)) := by
  unfold glI inI
  by_cases h : 0 ≤ g
  · obtain ⟨n, hn, rfl⟩ := nI_of (fun z => x_lt0 z h)
    rw [pk_div hn (by decide) (by decide), pk_mul, pk_sub (Nat.div_mul_le_self n 10)]
    have e0 : (0 : Int32) ≤ nI n ↔ True := ⟨fun _ => trivial, fun _ => h⟩
    have e1 : nI (n / 10) ≤ nI 5 ↔ n / 10 ≤ 5 := nI_leI (by omega) (by decide)
    have e2 : nI (n - n / 10 * 10) ≤ nI 5 ↔ n - n / 10 * 10 ≤ 5 := nI_leI (by omega) (by decide)
    have e3 : nI 0 ≤ nI n ↔ True := ⟨fun _ => trivial, fun _ => h⟩
    have e4 : nI n ≤ nI 55 ↔ n ≤ 55 := nI_leI (by omega) (by decide)
    have e5 : nI 6 ≤ nI (n - n / 10 * 10) ↔ 6 ≤ n - n / 10 * 10 := nI_leI (by decide) (by omega)
    rw [Bool.eq_iff_iff]
    simp only [Bool.and_eq_true, decide_eq_true_iff, Bool.not_eq_true', decide_eq_false_iff_not, e0, e1, e2, e3, e4, e5, true_and]
    omega
  · have h2 : ¬ nI 0 ≤ g := h
    rw [decide_eq_false h, decide_eq_false h2]
    rfl
theorem cnt_ext {p q : Nat → Bool} : ∀ n, (∀ k, k < n → p k = q k) → cnt_ p n = cnt_ q n
  | 0, _ => rfl
  | n + 1, h => by
    unfold cnt_
    rw [cnt_ext n (fun k hk => h k (by omega)), h n (by omega)]
theorem cnt_more {p : Nat → Bool} {L : Nat} (h : ∀ k, L ≤ k → p k = false) : ∀ d, cnt_ p (L + d) = cnt_ p L
  | 0 => rfl
  | d + 1 => by
    show cnt_ p (L + d) + (if p (L + d) then 1 else 0) = _
    rw [cnt_more h d, h _ (by omega)]
    rfl
theorem cnt_us {ar R : Nat → Nat → Int32} {L : Nat} {B : Int32} (hL : L ≤ 16) (h2 : R 2 = ar 2) (h7 : R 7 = ar 7) : cnt_ (fun k => usV B (R 2 k) (R 7 k)) L = cnt_ (usL L ar B) 16 := by
  have e := cnt_more (p := usL L ar B) (L := L) (fun k hk => by unfold usL; rw [decide_eq_false (by omega)]; rfl) (16 - L)
  rw [show L + (16 - L) = 16 by omega] at e
  rw [e]
  refine cnt_ext L (fun k hk => ?_)
  unfold usL
  rw [decide_eq_true hk, h2, h7, Bool.true_and]
set_option maxHeartbeats 4000000 in
set_option maxRecDepth 100000 in
theorem c_X8_lamp (G : XG) {ma ow : Nat → Nat} {sc : Nat → Int32} {R : Nat → Nat → Int32} {h : HM} (hM : mM G ma ow sc R h) {S : PS} {gn : Nat} (hMS : mS S gn sc R) (hI : mI S) (b p g wa ph : Int32) : x_M G yX8_lamp wsX8_lamp ({ frames := 2, cells := 0, slots := 0, locals := 42 } : Room) [.ref (ma 30), .int b, .int p, .int g, .int wa, .int ph] h (mP G ma ow (fHang S b p g wa ph) (nI (s_L S)) (iff0 (fHang S b p g wa ph) (hangP b p g wa ph S) S) (gn)) 0 0 := by
  refine x_M.of (cc := cX8_lamp) (maxL := 7) (ret := (some .int)) (ent := [some (.ref (ma 30)), some (.int b), some (.int p), some (.int g), some (.int wa), some (.int ph), none]) (by decide +kernel) rfl (Nat.le_of_ble_eq_true rfl) rfl rfl ?_
  intro F hE hname
  have hinX8 : ∀ w ∈ wsX80, w ∈ wsX8_lamp := by decide +kernel
  have hL16 : s_L S ≤ 16 := hI.2.1
  have hC12 : s_C S ≤ 12 := hI.1.2.2.1
  refine x_iload_n hE dX8_lamp_0 rfl ?_
  refine x_iconst (v := nI 0) hE dX8_lamp_1 (by decide) ?_
  refine x_iconst (v := nI 3) hE dX8_lamp_2 (by decide) ?_
  refine x_callS (st := []) hE 3 (c_X8_isIn G b (nI 0) (nI 3)) gX8_lamp_X8_isIn rfl rfl rfl (by decide +kernel) ⟨Nat.le_of_ble_eq_true rfl, Nat.le_of_ble_eq_true rfl⟩ rfl rfl dX8_lamp_3 rfl (Nat.le_of_ble_eq_true rfl) ⟨Nat.le_of_ble_eq_true rfl, Nat.le_of_ble_eq_true rfl⟩ (fun v h9 hp => ?_)
  obtain ⟨rfl, rfl⟩ := hp
  refine x_if_eq (tgt := 63) hE dX8_lamp_6 (by decide) (fun c6 => ?_) (fun c6 => ?_)
  · have q6 : (inI b 0 3) = false := b2i_0.mp c6
    clear c6
    refine x_iconst (v := nI 0) hE dX8_lamp_63 (by decide) ?_
    refine x_istore (L' := [some (.ref (ma 30)), some (.int b), some (.int p), some (.int g), some (.int wa), some (.int ph), some (.int (nI 0))]) hE dX8_lamp_64 (Nat.le_of_ble_eq_true rfl) rfl ?_
    refine x_aload_n hE dX8_lamp_66 rfl rfl ?_
    refine x_iload hE dX8_lamp_67 rfl ?_
    refine x_if_ne (tgt := 76) hE dX8_lamp_69 (by decide) (fun c69 => ?_) (fun c69 => ?_)
    · exact absurd c69 (by decide)
    · refine x_iconst (v := nI 1) hE dX8_lamp_72 (by decide) ?_
      refine x_goto (tgt := 90) hE dX8_lamp_73 (by decide) ?_
      refine x_callV (ci := 8) (st := []) hE 1 (c_X8_can G hM (nI 1)) gX8_lamp_X8_can rfl rfl rfl (by decide +kernel) ⟨Nat.le_of_ble_eq_true rfl, Nat.le_of_ble_eq_true rfl⟩ hM.o rfl rfl rfl dX8_lamp_90 rfl (Nat.le_of_ble_eq_true rfl) ⟨Nat.le_of_ble_eq_true rfl, Nat.le_of_ble_eq_true rfl⟩ (fun v hc2 hp => ?_)
      obtain ⟨rfl, hMc1⟩ := hp
      refine x_ieq (y := nI 0) (by decide) ?_
      generalize hssc3 : upd sc 28 (nI 1) = sc3 at hMc1
      have hMS4 : mS S gn sc3 R := by rw [← hssc3]; exact hMS.can _
      have e28 : sc3 28 = nI 1 := by rw [← hssc3]; exact upd_at _ _ _
      refine x_if_ne (tgt := 98) hE dX8_lamp_93 (by decide) (fun c93 => ?_) (fun c93 => ?_)
      · exact absurd c93 (by decide)
      · refine x_iconst (v := nI 0) hE dX8_lamp_96 (by decide) ?_
        exact x_iret hE dX8_lamp_97 (mP.no (by unfold fHang; simp [*]) (by decide) hMc1 hMS4 e28 (Nat.le_refl _))
  · have q6 : (inI b 0 3) = true := b2i_n0.mp c6
    clear c6
    refine x_iload_n hE dX8_lamp_9 rfl ?_
    refine x_iconst (v := nI 0) hE dX8_lamp_10 (by decide) ?_
    refine x_bipush (v := nI 9) hE dX8_lamp_11 (by decide) ?_
    refine x_callS (st := []) hE 3 (c_X8_isIn G p (nI 0) (nI 9)) gX8_lamp_X8_isIn rfl rfl rfl (by decide +kernel) ⟨Nat.le_of_ble_eq_true rfl, Nat.le_of_ble_eq_true rfl⟩ rfl rfl dX8_lamp_13 rfl (Nat.le_of_ble_eq_true rfl) ⟨Nat.le_of_ble_eq_true rfl, Nat.le_of_ble_eq_true rfl⟩ (fun v h9 hp => ?_)
    obtain ⟨rfl, rfl⟩ := hp
    refine x_if_eq (tgt := 63) hE dX8_lamp_16 (by decide) (fun c16 => ?_) (fun c16 => ?_)
    · have q16 : (inI p 0 9) = false := b2i_0.mp c16
      clear c16
      refine x_iconst (v := nI 0) hE dX8_lamp_63 (by decide) ?_
      refine x_istore (L' := [some (.ref (ma 30)), some (.int b), some (.int p), some (.int g), some (.int wa), some (.int ph), some (.int (nI 0))]) hE dX8_lamp_64 (Nat.le_of_ble_eq_true rfl) rfl ?_
      refine x_aload_n hE dX8_lamp_66 rfl rfl ?_
      refine x_iload hE dX8_lamp_67 rfl ?_
      refine x_if_ne (tgt := 76) hE dX8_lamp_69 (by decide) (fun c69 => ?_) (fun c69 => ?_)
      · exact absurd c69 (by decide)
      · refine x_iconst (v := nI 1) hE dX8_lamp_72 (by decide) ?_
        refine x_goto (tgt := 90) hE dX8_lamp_73 (by decide) ?_
        refine x_callV (ci := 8) (st := []) hE 1 (c_X8_can G hM (nI 1)) gX8_lamp_X8_can rfl rfl rfl (by decide +kernel) ⟨Nat.le_of_ble_eq_true rfl, Nat.le_of_ble_eq_true rfl⟩ hM.o rfl rfl rfl dX8_lamp_90 rfl (Nat.le_of_ble_eq_true rfl) ⟨Nat.le_of_ble_eq_true rfl, Nat.le_of_ble_eq_true rfl⟩ (fun v hc6 hp => ?_)
        obtain ⟨rfl, hMc5⟩ := hp
        refine x_ieq (y := nI 0) (by decide) ?_
        generalize hssc7 : upd sc 28 (nI 1) = sc7 at hMc5
        have hMS8 : mS S gn sc7 R := by rw [← hssc7]; exact hMS.can _
        have e28 : sc7 28 = nI 1 := by rw [← hssc7]; exact upd_at _ _ _
        refine x_if_ne (tgt := 98) hE dX8_lamp_93 (by decide) (fun c93 => ?_) (fun c93 => ?_)
        · exact absurd c93 (by decide)
        · refine x_iconst (v := nI 0) hE dX8_lamp_96 (by decide) ?_
          exact x_iret hE dX8_lamp_97 (mP.no (by unfold fHang; simp [*]) (by decide) hMc5 hMS8 e28 (Nat.le_refl _))
    · have q16 : (inI p 0 9) = true := b2i_n0.mp c16
      clear c16
      refine x_iload_n hE dX8_lamp_19 rfl ?_
      refine x_iconst (v := nI 0) hE dX8_lamp_20 (by decide) ?_
      refine x_bipush (v := nI 55) hE dX8_lamp_21 (by decide) ?_
      refine x_callS (st := []) hE 3 (c_X8_isIn G g (nI 0) (nI 55)) gX8_lamp_X8_isIn rfl rfl rfl (by decide +kernel) ⟨Nat.le_of_ble_eq_true rfl, Nat.le_of_ble_eq_true rfl⟩ rfl rfl dX8_lamp_23 rfl (Nat.le_of_ble_eq_true rfl) ⟨Nat.le_of_ble_eq_true rfl, Nat.le_of_ble_eq_true rfl⟩ (fun v h9 hp => ?_)
      obtain ⟨rfl, rfl⟩ := hp
      refine x_if_eq (tgt := 63) hE dX8_lamp_26 (by decide) (fun c26 => ?_) (fun c26 => ?_)
      · have q26 : inI g 0 55 = false := b2i_0.mp c26
        have hgl : glI g = false := by rw [gl_m, q26]; rfl
        refine x_iconst (v := nI 0) hE dX8_lamp_63 (by decide) ?_
        refine x_istore (L' := [some (.ref (ma 30)), some (.int b), some (.int p), some (.int g), some (.int wa), some (.int ph), some (.int (nI 0))]) hE dX8_lamp_64 (Nat.le_of_ble_eq_true rfl) rfl ?_
        refine x_aload_n hE dX8_lamp_66 rfl rfl ?_
        refine x_iload hE dX8_lamp_67 rfl ?_
        refine x_if_ne (tgt := 76) hE dX8_lamp_69 (by decide) (fun c69 => ?_) (fun c69 => ?_)
        · exact absurd c69 (by decide)
        · refine x_iconst (v := nI 1) hE dX8_lamp_72 (by decide) ?_
          refine x_goto (tgt := 90) hE dX8_lamp_73 (by decide) ?_
          refine x_callV (ci := 8) (st := []) hE 1 (c_X8_can G hM (nI 1)) gX8_lamp_X8_can rfl rfl rfl (by decide +kernel) ⟨Nat.le_of_ble_eq_true rfl, Nat.le_of_ble_eq_true rfl⟩ hM.o rfl rfl rfl dX8_lamp_90 rfl (Nat.le_of_ble_eq_true rfl) ⟨Nat.le_of_ble_eq_true rfl, Nat.le_of_ble_eq_true rfl⟩ (fun v hc10 hp => ?_)
          obtain ⟨rfl, hMc9⟩ := hp
          refine x_ieq (y := nI 0) (by decide) ?_
          generalize hssc11 : upd sc 28 (nI 1) = sc11 at hMc9
          have hMS12 : mS S gn sc11 R := by rw [← hssc11]; exact hMS.can _
          have e28 : sc11 28 = nI 1 := by rw [← hssc11]; exact upd_at _ _ _
          refine x_if_ne (tgt := 98) hE dX8_lamp_93 (by decide) (fun c93 => ?_) (fun c93 => ?_)
          · exact absurd c93 (by decide)
          · refine x_iconst (v := nI 0) hE dX8_lamp_96 (by decide) ?_
            exact x_iret hE dX8_lamp_97 (mP.no (by unfold fHang; simp [*]) (by decide) hMc9 hMS12 e28 (Nat.le_refl _))
      · have q26 : inI g 0 55 = true := b2i_n0.mp c26
        refine x_iload_n hE dX8_lamp_29 rfl ?_
        refine x_bipush (v := nI 10) hE dX8_lamp_30 (by decide) ?_
        refine x_irem hE dX8_lamp_32 (by decide) ?_
        refine x_bipush (v := nI 6) hE dX8_lamp_33 (by decide) ?_
        refine x_icmp_ge (tgt := 63) hE dX8_lamp_35 (by decide) (fun c35 => ?_) (fun c35 => ?_)
        · have hgl : glI g = false := by rw [gl_m, q26, decide_eq_true c35]; rfl
          refine x_iconst (v := nI 0) hE dX8_lamp_63 (by decide) ?_
          refine x_istore (L' := [some (.ref (ma 30)), some (.int b), some (.int p), some (.int g), some (.int wa), some (.int ph), some (.int (nI 0))]) hE dX8_lamp_64 (Nat.le_of_ble_eq_true rfl) rfl ?_
          refine x_aload_n hE dX8_lamp_66 rfl rfl ?_
          refine x_iload hE dX8_lamp_67 rfl ?_
          refine x_if_ne (tgt := 76) hE dX8_lamp_69 (by decide) (fun c69 => ?_) (fun c69 => ?_)
          · exact absurd c69 (by decide)
          · refine x_iconst (v := nI 1) hE dX8_lamp_72 (by decide) ?_
            refine x_goto (tgt := 90) hE dX8_lamp_73 (by decide) ?_
            refine x_callV (ci := 8) (st := []) hE 1 (c_X8_can G hM (nI 1)) gX8_lamp_X8_can rfl rfl rfl (by decide +kernel) ⟨Nat.le_of_ble_eq_true rfl, Nat.le_of_ble_eq_true rfl⟩ hM.o rfl rfl rfl dX8_lamp_90 rfl (Nat.le_of_ble_eq_true rfl) ⟨Nat.le_of_ble_eq_true rfl, Nat.le_of_ble_eq_true rfl⟩ (fun v hc14 hp => ?_)
            obtain ⟨rfl, hMc13⟩ := hp
            refine x_ieq (y := nI 0) (by decide) ?_
            generalize hssc15 : upd sc 28 (nI 1) = sc15 at hMc13
            have hMS16 : mS S gn sc15 R := by rw [← hssc15]; exact hMS.can _
            have e28 : sc15 28 = nI 1 := by rw [← hssc15]; exact upd_at _ _ _
            refine x_if_ne (tgt := 98) hE dX8_lamp_93 (by decide) (fun c93 => ?_) (fun c93 => ?_)
            · exact absurd c93 (by decide)
            · refine x_iconst (v := nI 0) hE dX8_lamp_96 (by decide) ?_
              exact x_iret hE dX8_lamp_97 (mP.no (by unfold fHang; simp [*]) (by decide) hMc13 hMS16 e28 (Nat.le_refl _))
        · have hgl : glI g = true := by rw [gl_m, q26, decide_eq_false c35]; rfl
          refine x_iload hE dX8_lamp_38 rfl ?_
          refine x_bipush (v := nI 100) hE dX8_lamp_40 (by decide) ?_
          refine x_sipush (v := nI 2000) hE dX8_lamp_42 (by decide) ?_
          refine x_callS (st := []) hE 3 (c_X8_isIn G wa (nI 100) (nI 2000)) gX8_lamp_X8_isIn rfl rfl rfl (by decide +kernel) ⟨Nat.le_of_ble_eq_true rfl, Nat.le_of_ble_eq_true rfl⟩ rfl rfl dX8_lamp_45 rfl (Nat.le_of_ble_eq_true rfl) ⟨Nat.le_of_ble_eq_true rfl, Nat.le_of_ble_eq_true rfl⟩ (fun v h9 hp => ?_)
          obtain ⟨rfl, rfl⟩ := hp
          refine x_if_eq (tgt := 63) hE dX8_lamp_48 (by decide) (fun c48 => ?_) (fun c48 => ?_)
          · have q48 : (inI wa 100 2000) = false := b2i_0.mp c48
            clear c48
            refine x_iconst (v := nI 0) hE dX8_lamp_63 (by decide) ?_
            refine x_istore (L' := [some (.ref (ma 30)), some (.int b), some (.int p), some (.int g), some (.int wa), some (.int ph), some (.int (nI 0))]) hE dX8_lamp_64 (Nat.le_of_ble_eq_true rfl) rfl ?_
            refine x_aload_n hE dX8_lamp_66 rfl rfl ?_
            refine x_iload hE dX8_lamp_67 rfl ?_
            refine x_if_ne (tgt := 76) hE dX8_lamp_69 (by decide) (fun c69 => ?_) (fun c69 => ?_)
            · exact absurd c69 (by decide)
            · refine x_iconst (v := nI 1) hE dX8_lamp_72 (by decide) ?_
              refine x_goto (tgt := 90) hE dX8_lamp_73 (by decide) ?_
              refine x_callV (ci := 8) (st := []) hE 1 (c_X8_can G hM (nI 1)) gX8_lamp_X8_can rfl rfl rfl (by decide +kernel) ⟨Nat.le_of_ble_eq_true rfl, Nat.le_of_ble_eq_true rfl⟩ hM.o rfl rfl rfl dX8_lamp_90 rfl (Nat.le_of_ble_eq_true rfl) ⟨Nat.le_of_ble_eq_true rfl, Nat.le_of_ble_eq_true rfl⟩ (fun v hc18 hp => ?_)
              obtain ⟨rfl, hMc17⟩ := hp
              refine x_ieq (y := nI 0) (by decide) ?_
              generalize hssc19 : upd sc 28 (nI 1) = sc19 at hMc17
              have hMS20 : mS S gn sc19 R := by rw [← hssc19]; exact hMS.can _
              have e28 : sc19 28 = nI 1 := by rw [← hssc19]; exact upd_at _ _ _
              refine x_if_ne (tgt := 98) hE dX8_lamp_93 (by decide) (fun c93 => ?_) (fun c93 => ?_)
              · exact absurd c93 (by decide)
              · refine x_iconst (v := nI 0) hE dX8_lamp_96 (by decide) ?_
                exact x_iret hE dX8_lamp_97 (mP.no (by unfold fHang; simp [*]) (by decide) hMc17 hMS20 e28 (Nat.le_refl _))
          · have q48 : (inI wa 100 2000) = true := b2i_n0.mp c48
            clear c48
            refine x_iload hE dX8_lamp_51 rfl ?_
            refine x_callS (st := []) hE 1 (c_X8_isPhase G ph) gX8_lamp_X8_isPhase rfl rfl rfl (by decide +kernel) ⟨Nat.le_of_ble_eq_true rfl, Nat.le_of_ble_eq_true rfl⟩ rfl rfl dX8_lamp_53 rfl (Nat.le_of_ble_eq_true rfl) ⟨Nat.le_of_ble_eq_true rfl, Nat.le_of_ble_eq_true rfl⟩ (fun v h9 hp => ?_)
            obtain ⟨rfl, rfl⟩ := hp
            refine x_if_eq (tgt := 63) hE dX8_lamp_56 (by decide) (fun c56 => ?_) (fun c56 => ?_)
            · have q56 : (inI ph 0 2) = false := b2i_0.mp c56
              clear c56
              refine x_iconst (v := nI 0) hE dX8_lamp_63 (by decide) ?_
              refine x_istore (L' := [some (.ref (ma 30)), some (.int b), some (.int p), some (.int g), some (.int wa), some (.int ph), some (.int (nI 0))]) hE dX8_lamp_64 (Nat.le_of_ble_eq_true rfl) rfl ?_
              refine x_aload_n hE dX8_lamp_66 rfl rfl ?_
              refine x_iload hE dX8_lamp_67 rfl ?_
              refine x_if_ne (tgt := 76) hE dX8_lamp_69 (by decide) (fun c69 => ?_) (fun c69 => ?_)
              · exact absurd c69 (by decide)
              · refine x_iconst (v := nI 1) hE dX8_lamp_72 (by decide) ?_
                refine x_goto (tgt := 90) hE dX8_lamp_73 (by decide) ?_
                refine x_callV (ci := 8) (st := []) hE 1 (c_X8_can G hM (nI 1)) gX8_lamp_X8_can rfl rfl rfl (by decide +kernel) ⟨Nat.le_of_ble_eq_true rfl, Nat.le_of_ble_eq_true rfl⟩ hM.o rfl rfl rfl dX8_lamp_90 rfl (Nat.le_of_ble_eq_true rfl) ⟨Nat.le_of_ble_eq_true rfl, Nat.le_of_ble_eq_true rfl⟩ (fun v hc22 hp => ?_)
                obtain ⟨rfl, hMc21⟩ := hp
                refine x_ieq (y := nI 0) (by decide) ?_
                generalize hssc23 : upd sc 28 (nI 1) = sc23 at hMc21
                have hMS24 : mS S gn sc23 R := by rw [← hssc23]; exact hMS.can _
                have e28 : sc23 28 = nI 1 := by rw [← hssc23]; exact upd_at _ _ _
                refine x_if_ne (tgt := 98) hE dX8_lamp_93 (by decide) (fun c93 => ?_) (fun c93 => ?_)
                · exact absurd c93 (by decide)
                · refine x_iconst (v := nI 0) hE dX8_lamp_96 (by decide) ?_
                  exact x_iret hE dX8_lamp_97 (mP.no (by unfold fHang; simp [*]) (by decide) hMc21 hMS24 e28 (Nat.le_refl _))
            · have q56 : (inI ph 0 2) = true := b2i_n0.mp c56
              clear c56
              refine x_iconst (v := nI 1) hE dX8_lamp_59 (by decide) ?_
              refine x_goto (tgt := 64) hE dX8_lamp_60 (by decide) ?_
              refine x_istore (L' := [some (.ref (ma 30)), some (.int b), some (.int p), some (.int g), some (.int wa), some (.int ph), some (.int (nI 1))]) hE dX8_lamp_64 (Nat.le_of_ble_eq_true rfl) rfl ?_
              refine x_aload_n hE dX8_lamp_66 rfl rfl ?_
              refine x_iload hE dX8_lamp_67 rfl ?_
              refine x_if_ne (tgt := 76) hE dX8_lamp_69 (by decide) (fun c69 => ?_) (fun c69 => ?_)
              · refine x_aload_n hE dX8_lamp_76 rfl rfl ?_
                refine x_get hE hinX8 hM.o rfl 1 (by decide) (List.mem_of_getElem? (i := 1) rfl) rfl dX8_lamp_77 ?_
                refine x_ieq (y := nI (s_L S)) (hMS.1.2.1) ?_
                refine x_bipush (v := nI 16) hE dX8_lamp_80 (by decide) ?_
                refine x_icmp_ne (tgt := 89) hE dX8_lamp_82 (by decide) (fun c82 => ?_) (fun c82 => ?_)
                · have c82 : ¬ s_L S = 16 := fun z => c82 (by rw [z])
                  refine x_iconst (v := nI 0) hE dX8_lamp_89 (by decide) ?_
                  refine x_callV (ci := 8) (st := []) hE 1 (c_X8_can G hM (nI 0)) gX8_lamp_X8_can rfl rfl rfl (by decide +kernel) ⟨Nat.le_of_ble_eq_true rfl, Nat.le_of_ble_eq_true rfl⟩ hM.o rfl rfl rfl dX8_lamp_90 rfl (Nat.le_of_ble_eq_true rfl) ⟨Nat.le_of_ble_eq_true rfl, Nat.le_of_ble_eq_true rfl⟩ (fun v hc26 hp => ?_)
                  obtain ⟨rfl, hMc25⟩ := hp
                  refine x_ieq (y := nI 1) (by decide) ?_
                  generalize hssc27 : upd sc 28 (nI 0) = sc27 at hMc25
                  have hMS28 : mS S gn sc27 R := by rw [← hssc27]; exact hMS.can _
                  have e28 : sc27 28 = nI 0 := by rw [← hssc27]; exact upd_at _ _ _
                  refine x_if_ne (tgt := 98) hE dX8_lamp_93 (by decide) (fun c93 => ?_) (fun c93 => ?_)
                  · have hlt : s_L S < 16 := by omega
                    refine x_aload_n hE dX8_lamp_98 rfl rfl ?_
                    refine x_get hE hinX8 hMc25.o rfl 2 (by decide) (List.mem_of_getElem? (i := 2) rfl) rfl dX8_lamp_99 ?_
                    refine x_aload_n hE dX8_lamp_102 rfl rfl ?_
                    refine x_get hE hinX8 hMc25.o rfl 1 (by decide) (List.mem_of_getElem? (i := 1) rfl) rfl dX8_lamp_103 ?_
                    refine x_ieq (y := nI (s_L S)) (hMS28.1.2.1) ?_
                    refine x_iload_n hE dX8_lamp_106 rfl ?_
                    refine x_iast (f' := (upd (R 2) (s_L S) b)) hE hMc25.a2 (vp_in_nI (by omega) (by decide)) (x_updN _ (by omega) _) dX8_lamp_107 ?_
                    generalize hhh29 : x_up hc26 (ma 2) (.inl (g_c G 0, 16, .inl (upd (R 2) (s_L S) b))) = h29
                    have hM30 : mM G ma ow sc27 (set2 R 2 (s_L S) b) h29 := by rw [← hhh29]; exact hMc25.set (k := 2) (by decide) _
                    refine x_aload_n hE dX8_lamp_108 rfl rfl ?_
                    refine x_get hE hinX8 hM30.o rfl 3 (by decide) (List.mem_of_getElem? (i := 3) rfl) rfl dX8_lamp_109 ?_
                    refine x_aload_n hE dX8_lamp_112 rfl rfl ?_
                    refine x_get hE hinX8 hM30.o rfl 1 (by decide) (List.mem_of_getElem? (i := 1) rfl) rfl dX8_lamp_113 ?_
                    refine x_ieq (y := nI (s_L S)) (hMS28.1.2.1) ?_
                    refine x_iload_n hE dX8_lamp_116 rfl ?_
                    refine x_iast (f' := (upd ((set2 R 2 (s_L S) b) 3) (s_L S) p)) hE hM30.a3 (vp_in_nI (by omega) (by decide)) (x_updN _ (by omega) _) dX8_lamp_117 ?_
                    generalize hhh31 : x_up h29 (ma 3) (.inl (g_c G 0, 16, .inl (upd ((set2 R 2 (s_L S) b) 3) (s_L S) p))) = h31
                    have hM32 : mM G ma ow sc27 (set2 (set2 R 2 (s_L S) b) 3 (s_L S) p) h31 := by rw [← hhh31]; exact hM30.set (k := 3) (by decide) _
                    refine x_aload_n hE dX8_lamp_118 rfl rfl ?_
                    refine x_get hE hinX8 hM32.o rfl 4 (by decide) (List.mem_of_getElem? (i := 4) rfl) rfl dX8_lamp_119 ?_
                    refine x_aload_n hE dX8_lamp_122 rfl rfl ?_
                    refine x_get hE hinX8 hM32.o rfl 1 (by decide) (List.mem_of_getElem? (i := 1) rfl) rfl dX8_lamp_123 ?_
                    refine x_ieq (y := nI (s_L S)) (hMS28.1.2.1) ?_
                    refine x_iload_n hE dX8_lamp_126 rfl ?_
                    refine x_iast (f' := (upd ((set2 (set2 R 2 (s_L S) b) 3 (s_L S) p) 4) (s_L S) g)) hE hM32.a4 (vp_in_nI (by omega) (by decide)) (x_updN _ (by omega) _) dX8_lamp_127 ?_
                    generalize hhh33 : x_up h31 (ma 4) (.inl (g_c G 0, 16, .inl (upd ((set2 (set2 R 2 (s_L S) b) 3 (s_L S) p) 4) (s_L S) g))) = h33
                    have hM34 : mM G ma ow sc27 (set2 (set2 (set2 R 2 (s_L S) b) 3 (s_L S) p) 4 (s_L S) g) h33 := by rw [← hhh33]; exact hM32.set (k := 4) (by decide) _
                    refine x_aload_n hE dX8_lamp_128 rfl rfl ?_
                    refine x_get hE hinX8 hM34.o rfl 5 (by decide) (List.mem_of_getElem? (i := 5) rfl) rfl dX8_lamp_129 ?_
                    refine x_aload_n hE dX8_lamp_132 rfl rfl ?_
                    refine x_get hE hinX8 hM34.o rfl 1 (by decide) (List.mem_of_getElem? (i := 1) rfl) rfl dX8_lamp_133 ?_
                    refine x_ieq (y := nI (s_L S)) (hMS28.1.2.1) ?_
                    refine x_iload hE dX8_lamp_136 rfl ?_
                    refine x_iast (f' := (upd ((set2 (set2 (set2 R 2 (s_L S) b) 3 (s_L S) p) 4 (s_L S) g) 5) (s_L S) wa)) hE hM34.a5 (vp_in_nI (by omega) (by decide)) (x_updN _ (by omega) _) dX8_lamp_138 ?_
                    generalize hhh35 : x_up h33 (ma 5) (.inl (g_c G 0, 16, .inl (upd ((set2 (set2 (set2 R 2 (s_L S) b) 3 (s_L S) p) 4 (s_L S) g) 5) (s_L S) wa))) = h35
                    have hM36 : mM G ma ow sc27 (set2 (set2 (set2 (set2 R 2 (s_L S) b) 3 (s_L S) p) 4 (s_L S) g) 5 (s_L S) wa) h35 := by rw [← hhh35]; exact hM34.set (k := 5) (by decide) _
                    refine x_aload_n hE dX8_lamp_139 rfl rfl ?_
                    refine x_get hE hinX8 hM36.o rfl 6 (by decide) (List.mem_of_getElem? (i := 6) rfl) rfl dX8_lamp_140 ?_
                    refine x_aload_n hE dX8_lamp_143 rfl rfl ?_
                    refine x_get hE hinX8 hM36.o rfl 1 (by decide) (List.mem_of_getElem? (i := 1) rfl) rfl dX8_lamp_144 ?_
                    refine x_ieq (y := nI (s_L S)) (hMS28.1.2.1) ?_
                    refine x_iload hE dX8_lamp_147 rfl ?_
                    refine x_iast (f' := (upd ((set2 (set2 (set2 (set2 R 2 (s_L S) b) 3 (s_L S) p) 4 (s_L S) g) 5 (s_L S) wa) 6) (s_L S) ph)) hE hM36.a6 (vp_in_nI (by omega) (by decide)) (x_updN _ (by omega) _) dX8_lamp_149 ?_
                    generalize hhh37 : x_up h35 (ma 6) (.inl (g_c G 0, 16, .inl (upd ((set2 (set2 (set2 (set2 R 2 (s_L S) b) 3 (s_L S) p) 4 (s_L S) g) 5 (s_L S) wa) 6) (s_L S) ph))) = h37
                    have hM38 : mM G ma ow sc27 (set2 (set2 (set2 (set2 (set2 R 2 (s_L S) b) 3 (s_L S) p) 4 (s_L S) g) 5 (s_L S) wa) 6 (s_L S) ph) h37 := by rw [← hhh37]; exact hM36.set (k := 6) (by decide) _
                    refine x_aload_n hE dX8_lamp_150 rfl rfl ?_
                    refine x_dup hE dX8_lamp_151 rfl ?_
                    refine x_get hE hinX8 hM38.o rfl 1 (by decide) (List.mem_of_getElem? (i := 1) rfl) rfl dX8_lamp_152 ?_
                    refine x_iconst (v := nI 1) hE dX8_lamp_155 (by decide) ?_
                    refine x_iadd hE dX8_lamp_156 ?_
                    refine x_ieq (y := nI (s_L S + 1)) (by rw [hMS28.1.2.1]; exact nI_1 _) ?_
                    refine x_put (fs' := [.int (sc27 0), .int (nI (s_L S + 1)), .ref (ma 2), .ref (ma 3), .ref (ma 4), .ref (ma 5), .ref (ma 6), .ref (ma 7), .int (sc27 8), .ref (ma 9), .int (sc27 10), .ref (ma 11), .ref (ma 12), .ref (ma 13), .ref (ma 14), .ref (ma 15), .ref (ma 16), .ref (ma 17), .ref (ma 18), .ref (ma 19), .ref (ma 20), .int (sc27 21), .int (sc27 22), .ref (ma 23), .ref (ma 24), .int (sc27 25), .ref (ma 26), .ref (ma 27), .int (sc27 28), .ref (ma 29)]) hE hinX8 tyX8 tyX8_ok nmX8 hM38.o rfl 1 (by decide) (List.mem_of_getElem? (i := 1) rfl) rfl rfl rfl (Nat.le_of_ble_eq_true rfl) rfl dX8_lamp_157 ?_
                    generalize hhh39 : x_up h37 (ma 30) (.inr (8, [.int (sc27 0), .int (nI (s_L S + 1)), .ref (ma 2), .ref (ma 3), .ref (ma 4), .ref (ma 5), .ref (ma 6), .ref (ma 7), .int (sc27 8), .ref (ma 9), .int (sc27 10), .ref (ma 11), .ref (ma 12), .ref (ma 13), .ref (ma 14), .ref (ma 15), .ref (ma 16), .ref (ma 17), .ref (ma 18), .ref (ma 19), .ref (ma 20), .int (sc27 21), .int (sc27 22), .ref (ma 23), .ref (ma 24), .int (sc27 25), .ref (ma 26), .ref (ma 27), .int (sc27 28), .ref (ma 29)])) = h39
                    have hM40 : mM G ma ow (upd sc27 1 (nI (s_L S + 1))) (set2 (set2 (set2 (set2 (set2 R 2 (s_L S) b) 3 (s_L S) p) 4 (s_L S) g) 5 (s_L S) wa) 6 (s_L S) ph) h39 := by rw [← hhh39]; exact hM38.num (upd sc27 1 (nI (s_L S + 1)))
                    refine x_aload_n hE dX8_lamp_160 rfl rfl ?_
                    refine x_get hE hinX8 hM40.o rfl 1 (by decide) (List.mem_of_getElem? (i := 1) rfl) rfl dX8_lamp_161 ?_
                    refine x_ieq (y := nI (s_L S + 1)) (upd_at _ _ _) ?_
                    refine x_iconst (v := nI 1) hE dX8_lamp_164 (by decide) ?_
                    refine x_isub hE dX8_lamp_165 ?_
                    refine x_ieq (y := nI (s_L S)) (by rw [nI_1 _ |>.symm]; exact Int32.add_sub_cancel _ _) ?_
                    exact x_iret hE dX8_lamp_166 (mP.ok (by unfold fHang; rw [if_pos ⟨q6, q16, hgl, q48, q56⟩, if_neg c82]) rfl hM40 (mS.up hMS28 rfl rfl rfl ((upd_ne (by decide)).trans hMS28.1.1) (upd_at _ _ _) ((upd_ne (by decide)).trans hMS28.1.2.2.1) ((upd_ne (by decide)).trans hMS28.1.2.2.2.1) (upd_ne (by decide)) (upd_ne (by decide)) ((upd_ne (by decide)).trans hMS28.1.2.2.2.2.2.1) (((((hMS28.1.2.2.2.2.2.2.1.set2 2 _ _).set2 3 _ _).set2 4 _ _).set2 5 _ _).set2 6 _ _) (fun k hk => by rcases (show k = 17 ∨ k = 18 ∨ k = 19 ∨ k = 20 ∨ k = 23 ∨ k = 24 by simpa using hk) with rfl | rfl | rfl | rfl | rfl | rfl <;> simp [set2])) ((upd_ne (by decide)).trans e28) (Nat.le_refl _))
                  · exact absurd c93 (by decide)
                · replace c82 := x_nIinj c82 (by omega) (by omega)
                  refine x_iconst (v := nI 2) hE dX8_lamp_85 (by decide) ?_
                  refine x_goto (tgt := 90) hE dX8_lamp_86 (by decide) ?_
                  refine x_callV (ci := 8) (st := []) hE 1 (c_X8_can G hM (nI 2)) gX8_lamp_X8_can rfl rfl rfl (by decide +kernel) ⟨Nat.le_of_ble_eq_true rfl, Nat.le_of_ble_eq_true rfl⟩ hM.o rfl rfl rfl dX8_lamp_90 rfl (Nat.le_of_ble_eq_true rfl) ⟨Nat.le_of_ble_eq_true rfl, Nat.le_of_ble_eq_true rfl⟩ (fun v hc42 hp => ?_)
                  obtain ⟨rfl, hMc41⟩ := hp
                  refine x_ieq (y := nI 0) (by decide) ?_
                  generalize hssc43 : upd sc 28 (nI 2) = sc43 at hMc41
                  have hMS44 : mS S gn sc43 R := by rw [← hssc43]; exact hMS.can _
                  have e28 : sc43 28 = nI 2 := by rw [← hssc43]; exact upd_at _ _ _
                  refine x_if_ne (tgt := 98) hE dX8_lamp_93 (by decide) (fun c93 => ?_) (fun c93 => ?_)
                  · exact absurd c93 (by decide)
                  · refine x_iconst (v := nI 0) hE dX8_lamp_96 (by decide) ?_
                    exact x_iret hE dX8_lamp_97 (mP.no (by unfold fHang; simp [*]) (by decide) hMc41 hMS44 e28 (Nat.le_refl _))
              · exact absurd c69 (by decide)

set_option maxHeartbeats 4000000 in
set_option maxRecDepth 100000 in
theorem c_X8_die (G : XG) {ma ow : Nat → Nat} {sc : Nat → Int32} {R : Nat → Nat → Int32} {h : HM} (hM : mM G ma ow sc R h) {S : PS} {gn : Nat} (hMS : mS S gn sc R) (hI : mI S) (i : Int32) : x_M G yX8_die wsX8_die ({ frames := 2, cells := 0, slots := 0, locals := 43 } : Room) [.ref (ma 30), .int i] h (mP G ma ow (fLamp S i) (s_ar (dieP i.toNatClampNeg S) 7 i.toNatClampNeg) (iff0 (fLamp S i) (dieP i.toNatClampNeg S) S) (gn)) 0 0 := by
  refine x_M.of (cc := cX8_die) (maxL := 2) (ret := (some .boolean)) (ent := [some (.ref (ma 30)), some (.int i)]) (by decide +kernel) rfl (Nat.le_of_ble_eq_true rfl) rfl rfl ?_
  intro F hE hname
  have hinX8 : ∀ w ∈ wsX80, w ∈ wsX8_die := by decide +kernel
  have hL16 : s_L S ≤ 16 := hI.2.1
  have hC12 : s_C S ≤ 12 := hI.1.2.2.1
  refine x_aload_n hE dX8_die_0 rfl rfl ?_
  refine x_aload_n hE dX8_die_1 rfl rfl ?_
  refine x_iload_n hE dX8_die_2 rfl ?_
  refine x_callV (ci := 8) (st := [.ref (ma 30)]) hE 1 (c_X8_isLamp G hM hMS.1.2.1 (by omega) i) gX8_die_X8_isLamp rfl rfl rfl (by decide +kernel) ⟨Nat.le_of_ble_eq_true rfl, Nat.le_of_ble_eq_true rfl⟩ hM.o rfl rfl rfl dX8_die_3 rfl (Nat.le_of_ble_eq_true rfl) ⟨Nat.le_of_ble_eq_true rfl, Nat.le_of_ble_eq_true rfl⟩ (fun v h9 hp => ?_)
  obtain ⟨rfl, rfl⟩ := hp
  refine x_if_eq (tgt := 13) hE dX8_die_6 (by decide) (fun c6 => ?_) (fun c6 => ?_)
  · have q6 : (isN i (s_L S)) = false := b2i_0.mp c6
    clear c6
    refine x_iconst (v := nI 1) hE dX8_die_13 (by decide) ?_
    refine x_callV (ci := 8) (st := []) hE 1 (c_X8_can G hM (nI 1)) gX8_die_X8_can rfl rfl rfl (by decide +kernel) ⟨Nat.le_of_ble_eq_true rfl, Nat.le_of_ble_eq_true rfl⟩ hM.o rfl rfl rfl dX8_die_14 rfl (Nat.le_of_ble_eq_true rfl) ⟨Nat.le_of_ble_eq_true rfl, Nat.le_of_ble_eq_true rfl⟩ (fun v hc2 hp => ?_)
    obtain ⟨rfl, hMc1⟩ := hp
    refine x_ieq (y := nI 0) (by decide) ?_
    generalize hssc3 : upd sc 28 (nI 1) = sc3 at hMc1
    have hMS4 : mS S gn sc3 R := by rw [← hssc3]; exact hMS.can _
    have e28 : sc3 28 = nI 1 := by rw [← hssc3]; exact upd_at _ _ _
    refine x_if_ne (tgt := 22) hE dX8_die_17 (by decide) (fun c17 => ?_) (fun c17 => ?_)
    · exact absurd c17 (by decide)
    · refine x_iconst (v := nI 0) hE dX8_die_20 (by decide) ?_
      exact x_zret hE (Or.inl rfl) dX8_die_21 (mP.no (by unfold fLamp; simp [*]) (by decide) hMc1 hMS4 e28 (Nat.le_refl _))
  · have q6 : (isN i (s_L S)) = true := b2i_n0.mp c6
    clear c6
    refine x_iconst (v := nI 0) hE dX8_die_9 (by decide) ?_
    refine x_goto (tgt := 14) hE dX8_die_10 (by decide) ?_
    refine x_callV (ci := 8) (st := []) hE 1 (c_X8_can G hM (nI 0)) gX8_die_X8_can rfl rfl rfl (by decide +kernel) ⟨Nat.le_of_ble_eq_true rfl, Nat.le_of_ble_eq_true rfl⟩ hM.o rfl rfl rfl dX8_die_14 rfl (Nat.le_of_ble_eq_true rfl) ⟨Nat.le_of_ble_eq_true rfl, Nat.le_of_ble_eq_true rfl⟩ (fun v hc6 hp => ?_)
    obtain ⟨rfl, hMc5⟩ := hp
    refine x_ieq (y := nI 1) (by decide) ?_
    generalize hssc7 : upd sc 28 (nI 0) = sc7 at hMc5
    have hMS8 : mS S gn sc7 R := by rw [← hssc7]; exact hMS.can _
    have e28 : sc7 28 = nI 0 := by rw [← hssc7]; exact upd_at _ _ _
    refine x_if_ne (tgt := 22) hE dX8_die_17 (by decide) (fun c17 => ?_) (fun c17 => ?_)
    · obtain ⟨k, hk, rfl⟩ := isN_t (by omega) q6
      have ek : (nI k).toNatClampNeg = k := nI_clamp (by omega)
      rw [ek]
      refine x_aload_n hE dX8_die_22 rfl rfl ?_
      refine x_get hE hinX8 hMc5.o rfl 7 (by decide) (List.mem_of_getElem? (i := 1) rfl) rfl dX8_die_23 ?_
      refine x_iload_n hE dX8_die_26 rfl ?_
      refine x_aload_n hE dX8_die_27 rfl rfl ?_
      refine x_get hE hinX8 hMc5.o rfl 7 (by decide) (List.mem_of_getElem? (i := 1) rfl) rfl dX8_die_28 ?_
      refine x_iload_n hE dX8_die_31 rfl ?_
      refine x_zald (v := s_ar S 7 k) hE hMc5.a7 (vp_in_nI (by omega) (by decide)) ((x_atN _ (by omega)).trans (congrFun (hMS8.1.2.2.2.2.2.2.1 7 (by decide)) k)) dX8_die_32 ?_
      refine x_if_ne (tgt := 40) hE dX8_die_33 (by decide) (fun c33 => ?_) (fun c33 => ?_)
      · refine x_iconst (v := nI 0) hE dX8_die_40 (by decide) ?_
        refine x_ieq (y := (if s_ar S 7 k = 0 then 1 else 0)) (by rw [if_neg c33]; rfl) ?_
        refine x_zast (f' := (upd (R 7) k (if s_ar S 7 k = 0 then 1 else 0))) hE hMc5.a7 (vp_in_nI (by omega) (by decide)) (by rw [if_neg c33]; rw [nI_clamp (by omega)]; rfl) dX8_die_41 ?_
        generalize hhh9 : x_up hc6 (ma 7) (.inl (g_c G 1, 16, .inl (upd (R 7) k (if s_ar S 7 k = 0 then 1 else 0)))) = h9
        have hM10 : mM G ma ow sc7 (set2 R 7 k (if s_ar S 7 k = 0 then 1 else 0)) h9 := by rw [← hhh9]; exact hMc5.set (k := 7) (by decide) _
        refine x_aload_n hE dX8_die_42 rfl rfl ?_
        refine x_get hE hinX8 hM10.o rfl 7 (by decide) (List.mem_of_getElem? (i := 1) rfl) rfl dX8_die_43 ?_
        refine x_iload_n hE dX8_die_46 rfl ?_
        refine x_zald (v := (if s_ar S 7 k = 0 then 1 else 0)) hE hM10.a7 (vp_in_nI (by omega) (by decide)) ((x_atN _ (by omega)).trans (by rw [set2_at, upd_at])) dX8_die_47 ?_
        exact x_zret hE (by split <;> simp) dX8_die_48 (mP.ok (by unfold fLamp; rw [if_pos q6]) (by show _ = set2 (s_ar S) 7 k _ 7 k; rw [set2_at, upd_at]) hM10 (mS.up hMS8 rfl rfl rfl hMS8.1.1 hMS8.1.2.1 hMS8.1.2.2.1 hMS8.1.2.2.2.1 rfl rfl hMS8.1.2.2.2.2.2.1 (hMS8.1.2.2.2.2.2.2.1.set2 7 _ _) (fun k hk => by rcases (show k = 17 ∨ k = 18 ∨ k = 19 ∨ k = 20 ∨ k = 23 ∨ k = 24 by simpa using hk) with rfl | rfl | rfl | rfl | rfl | rfl <;> simp [set2])) e28 (Nat.le_refl _))
      · refine x_iconst (v := nI 1) hE dX8_die_36 (by decide) ?_
        refine x_goto (tgt := 41) hE dX8_die_37 (by decide) ?_
        refine x_ieq (y := (if s_ar S 7 k = 0 then 1 else 0)) (by rw [if_pos c33]; rfl) ?_
        refine x_zast (f' := (upd (R 7) k (if s_ar S 7 k = 0 then 1 else 0))) hE hMc5.a7 (vp_in_nI (by omega) (by decide)) (by rw [if_pos c33]; rw [nI_clamp (by omega)]; rfl) dX8_die_41 ?_
        generalize hhh11 : x_up hc6 (ma 7) (.inl (g_c G 1, 16, .inl (upd (R 7) k (if s_ar S 7 k = 0 then 1 else 0)))) = h11
        have hM12 : mM G ma ow sc7 (set2 R 7 k (if s_ar S 7 k = 0 then 1 else 0)) h11 := by rw [← hhh11]; exact hMc5.set (k := 7) (by decide) _
        refine x_aload_n hE dX8_die_42 rfl rfl ?_
        refine x_get hE hinX8 hM12.o rfl 7 (by decide) (List.mem_of_getElem? (i := 1) rfl) rfl dX8_die_43 ?_
        refine x_iload_n hE dX8_die_46 rfl ?_
        refine x_zald (v := (if s_ar S 7 k = 0 then 1 else 0)) hE hM12.a7 (vp_in_nI (by omega) (by decide)) ((x_atN _ (by omega)).trans (by rw [set2_at, upd_at])) dX8_die_47 ?_
        exact x_zret hE (by split <;> simp) dX8_die_48 (mP.ok (by unfold fLamp; rw [if_pos q6]) (by show _ = set2 (s_ar S) 7 k _ 7 k; rw [set2_at, upd_at]) hM12 (mS.up hMS8 rfl rfl rfl hMS8.1.1 hMS8.1.2.1 hMS8.1.2.2.1 hMS8.1.2.2.2.1 rfl rfl hMS8.1.2.2.2.2.2.1 (hMS8.1.2.2.2.2.2.2.1.set2 7 _ _) (fun k hk => by rcases (show k = 17 ∨ k = 18 ∨ k = 19 ∨ k = 20 ∨ k = 23 ∨ k = 24 by simpa using hk) with rfl | rfl | rfl | rfl | rfl | rfl <;> simp [set2])) e28 (Nat.le_refl _))
    · exact absurd c17 (by decide)

set_option maxHeartbeats 4000000 in
set_option maxRecDepth 100000 in
theorem c_X8_house (G : XG) {ma ow : Nat → Nat} {sc : Nat → Int32} {R : Nat → Nat → Int32} {h : HM} (hM : mM G ma ow sc R h) {S : PS} {gn : Nat} (hMS : mS S gn sc R) (hI : mI S) (x : Int32) : x_M G yX8_house wsX8_house ({ frames := 1, cells := 0, slots := 0, locals := 22 } : Room) [.ref (ma 30), .int x] h (mP G ma ow (fHouse x) (nI (cnt_ (usL (s_L S) (s_ar S) x) 16)) (iff0 (fHouse x) (houseP x S) S) (gn)) 0 0 := by
  refine x_M.of (cc := cX8_house) (maxL := 4) (ret := (some .int)) (ent := [some (.ref (ma 30)), some (.int x), none, none]) (by decide +kernel) rfl (Nat.le_of_ble_eq_true rfl) rfl rfl ?_
  intro F hE hname
  have hinX8 : ∀ w ∈ wsX80, w ∈ wsX8_house := by decide +kernel
  have hL16 : s_L S ≤ 16 := hI.2.1
  have hC12 : s_C S ≤ 12 := hI.1.2.2.1
  refine x_aload_n hE dX8_house_0 rfl rfl ?_
  refine x_iload_n hE dX8_house_1 rfl ?_
  refine x_iconst (v := nI 0) hE dX8_house_2 (by decide) ?_
  refine x_bipush (v := nI 15) hE dX8_house_3 (by decide) ?_
  refine x_callS (st := [.ref (ma 30)]) hE 3 (c_X8_isIn G x (nI 0) (nI 15)) gX8_house_X8_isIn rfl rfl rfl (by decide +kernel) ⟨Nat.le_of_ble_eq_true rfl, Nat.le_of_ble_eq_true rfl⟩ rfl rfl dX8_house_5 rfl (Nat.le_of_ble_eq_true rfl) ⟨Nat.le_of_ble_eq_true rfl, Nat.le_of_ble_eq_true rfl⟩ (fun v h9 hp => ?_)
  obtain ⟨rfl, rfl⟩ := hp
  refine x_if_eq (tgt := 15) hE dX8_house_8 (by decide) (fun c8 => ?_) (fun c8 => ?_)
  · have q8 : (inI x 0 15) = false := b2i_0.mp c8
    clear c8
    refine x_iconst (v := nI 1) hE dX8_house_15 (by decide) ?_
    refine x_callV (ci := 8) (st := []) hE 1 (c_X8_can G hM (nI 1)) gX8_house_X8_can rfl rfl rfl (by decide +kernel) ⟨Nat.le_of_ble_eq_true rfl, Nat.le_of_ble_eq_true rfl⟩ hM.o rfl rfl rfl dX8_house_16 rfl (Nat.le_of_ble_eq_true rfl) ⟨Nat.le_of_ble_eq_true rfl, Nat.le_of_ble_eq_true rfl⟩ (fun v hc2 hp => ?_)
    obtain ⟨rfl, hMc1⟩ := hp
    refine x_ieq (y := nI 0) (by decide) ?_
    generalize hssc3 : upd sc 28 (nI 1) = sc3 at hMc1
    have hMS4 : mS S gn sc3 R := by rw [← hssc3]; exact hMS.can _
    have e28 : sc3 28 = nI 1 := by rw [← hssc3]; exact upd_at _ _ _
    refine x_if_ne (tgt := 24) hE dX8_house_19 (by decide) (fun c19 => ?_) (fun c19 => ?_)
    · exact absurd c19 (by decide)
    · refine x_iconst (v := nI 0) hE dX8_house_22 (by decide) ?_
      exact x_iret hE dX8_house_23 (mP.no (by unfold fHouse; simp [*]) (by decide) hMc1 hMS4 e28 (Nat.le_refl _))
  · have q8 : (inI x 0 15) = true := b2i_n0.mp c8
    clear c8
    refine x_iconst (v := nI 0) hE dX8_house_11 (by decide) ?_
    refine x_goto (tgt := 16) hE dX8_house_12 (by decide) ?_
    refine x_callV (ci := 8) (st := []) hE 1 (c_X8_can G hM (nI 0)) gX8_house_X8_can rfl rfl rfl (by decide +kernel) ⟨Nat.le_of_ble_eq_true rfl, Nat.le_of_ble_eq_true rfl⟩ hM.o rfl rfl rfl dX8_house_16 rfl (Nat.le_of_ble_eq_true rfl) ⟨Nat.le_of_ble_eq_true rfl, Nat.le_of_ble_eq_true rfl⟩ (fun v hc6 hp => ?_)
    obtain ⟨rfl, hMc5⟩ := hp
    refine x_ieq (y := nI 1) (by decide) ?_
    generalize hssc7 : upd sc 28 (nI 0) = sc7 at hMc5
    have hMS8 : mS S gn sc7 R := by rw [← hssc7]; exact hMS.can _
    have e28 : sc7 28 = nI 0 := by rw [← hssc7]; exact upd_at _ _ _
    refine x_if_ne (tgt := 24) hE dX8_house_19 (by decide) (fun c19 => ?_) (fun c19 => ?_)
    · refine x_aload_n hE dX8_house_24 rfl rfl ?_
      refine x_iload_n hE dX8_house_25 rfl ?_
      refine x_put (fs' := [.int (sc7 0), .int (sc7 1), .ref (ma 2), .ref (ma 3), .ref (ma 4), .ref (ma 5), .ref (ma 6), .ref (ma 7), .int x, .ref (ma 9), .int (sc7 10), .ref (ma 11), .ref (ma 12), .ref (ma 13), .ref (ma 14), .ref (ma 15), .ref (ma 16), .ref (ma 17), .ref (ma 18), .ref (ma 19), .ref (ma 20), .int (sc7 21), .int (sc7 22), .ref (ma 23), .ref (ma 24), .int (sc7 25), .ref (ma 26), .ref (ma 27), .int (sc7 28), .ref (ma 29)]) hE hinX8 tyX8 tyX8_ok nmX8 hMc5.o rfl 8 (by decide) (List.mem_of_getElem? (i := 1) rfl) rfl rfl rfl (Nat.le_of_ble_eq_true rfl) rfl dX8_house_26 ?_
      generalize hhh9 : x_up hc6 (ma 30) (.inr (8, [.int (sc7 0), .int (sc7 1), .ref (ma 2), .ref (ma 3), .ref (ma 4), .ref (ma 5), .ref (ma 6), .ref (ma 7), .int x, .ref (ma 9), .int (sc7 10), .ref (ma 11), .ref (ma 12), .ref (ma 13), .ref (ma 14), .ref (ma 15), .ref (ma 16), .ref (ma 17), .ref (ma 18), .ref (ma 19), .ref (ma 20), .int (sc7 21), .int (sc7 22), .ref (ma 23), .ref (ma 24), .int (sc7 25), .ref (ma 26), .ref (ma 27), .int (sc7 28), .ref (ma 29)])) = h9
      have hM10 : mM G ma ow (upd sc7 8 x) R h9 := by rw [← hhh9]; exact hMc5.num (upd sc7 8 x)
      have hm9 := hM10
      generalize hz9 : (upd sc7 8 x) = sc9 at hm9
      have z9 : ∀ k, k ≠ 8 → sc9 k = sc7 k := fun k a => by rw [← hz9]; exact upd_ne a
      have z8 : sc9 8 = x := by rw [← hz9]; exact upd_at _ _ _
      have hS9 : mS (houseP x S) gn sc9 R := mS.up hMS8 rfl rfl rfl ((z9 0 (by decide)).trans hMS8.1.1) ((z9 1 (by decide)).trans hMS8.1.2.1) z8 ((z9 10 (by decide)).trans hMS8.1.2.2.2.1) (z9 21 (by decide)) (z9 22 (by decide)) ((z9 25 (by decide)).trans hMS8.1.2.2.2.2.2.1) hMS8.1.2.2.2.2.2.2.1 (fun _ _ => rfl)
      have ez : sc9 28 = nI 0 := (z9 28 (by decide)).trans e28
      refine x_iconst (v := nI 0) hE dX8_house_29 (by decide) ?_
      refine x_istore_n (L' := [some (.ref (ma 30)), some (.int x), some (.int (nI 0)), none]) hE dX8_house_30 rfl (Nat.le_of_ble_eq_true rfl) rfl ?_
      refine x_iconst (v := nI 0) hE dX8_house_31 (by decide) ?_
      refine x_istore_n (L' := [some (.ref (ma 30)), some (.int x), some (.int (nI 0)), some (.int (nI 0))]) hE dX8_house_32 rfl (Nat.le_of_ble_eq_true rfl) rfl ?_
      refine x_down (N := s_L S) (P := fun i => x_W G F (x_Q G F (mP G ma ow (fHouse x) (nI (cnt_ (usL (s_L S) (s_ar S) x) 16)) (iff0 (fHouse x) (houseP x S) S) (gn)) 0 0) 0 0 h9 33 [some (.ref (ma 30)), some (.int x), some (.int (nI (cnt_ (fun k => usV x (R 2 k) (R 7 k)) i))), some (.int (nI i))] []) (fun i hiN ih => ?_) 0 (by omega) 
      have hcl := cnt_le (fun k => usV x (R 2 k) (R 7 k)) i
      refine x_iload_n hE dX8_house_33 rfl ?_
      refine x_aload_n hE dX8_house_34 rfl rfl ?_
      refine x_get hE hinX8 hm9.o rfl 1 (by decide) (List.mem_of_getElem? (i := 2) rfl) rfl dX8_house_35 ?_
      refine x_ieq (y := nI (s_L S)) (hS9.1.2.1) ?_
      refine x_icmp_ge (tgt := 63) hE dX8_house_38 (by decide) (fun c38 => ?_) (fun c38 => ?_)
      · replace c38 := x_nIle c38 (by omega) (by omega)
        obtain rfl : i = s_L S := by omega
        refine x_iload_n hE dX8_house_63 rfl ?_
        exact x_iret hE dX8_house_64 (mP.ok (by unfold fHouse; rw [if_pos q8]) (congrArg nI (cnt_us hL16 (hMS8.1.2.2.2.2.2.2.1 2 (by decide)) (hMS8.1.2.2.2.2.2.2.1 7 (by decide)))) hm9 hS9 ez (Nat.le_refl _))
      · replace c38 := x_nInle c38 (by omega) (by omega)
        refine x_iload_n hE dX8_house_41 rfl ?_
        refine x_aload_n hE dX8_house_42 rfl rfl ?_
        refine x_iload_n hE dX8_house_43 rfl ?_
        refine x_callV (ci := 8) (st := [.int (nI (cnt_ (fun k => usV x (R 2 k) (R 7 k)) i))]) hE 1 (c_X8_isUsable G hm9 (by omega : i < 16)) gX8_house_X8_isUsable rfl rfl rfl (by decide +kernel) ⟨Nat.le_of_ble_eq_true rfl, Nat.le_of_ble_eq_true rfl⟩ hm9.o rfl rfl rfl dX8_house_44 rfl (Nat.le_of_ble_eq_true rfl) ⟨Nat.le_of_ble_eq_true rfl, Nat.le_of_ble_eq_true rfl⟩ (fun v h9 hp => ?_)
        obtain ⟨rfl, rfl⟩ := hp
        refine x_ieq (y := b2i (usV x (R 2 i) (R 7 i))) (by rw [z8]) ?_
        refine x_if_eq (tgt := 54) hE dX8_house_47 (by decide) (fun c47 => ?_) (fun c47 => ?_)
        · have e1 : cnt_ (fun k => usV x (R 2 k) (R 7 k)) (i + 1) = cnt_ (fun k => usV x (R 2 k) (R 7 k)) i + 0 := by show cnt_ _ i + (if usV x (R 2 i) (R 7 i) = true then 1 else 0) = _; rw [if_neg (by rw [b2i_0.mp c47]; decide)]
          refine x_iconst (v := nI 0) hE dX8_house_54 (by decide) ?_
          refine x_iadd hE dX8_house_55 ?_
          refine x_ieq (y := nI (cnt_ (fun k => usV x (R 2 k) (R 7 k)) (i + 1))) (by rw [nI_add, e1]) ?_
          refine x_istore_n (L' := [some (.ref (ma 30)), some (.int x), some (.int (nI (cnt_ (fun k => usV x (R 2 k) (R 7 k)) (i + 1)))), some (.int (nI i))]) hE dX8_house_56 rfl (Nat.le_of_ble_eq_true rfl) rfl ?_
          refine x_iinc (v := nI (i + 1)) (L' := [some (.ref (ma 30)), some (.int x), some (.int (nI (cnt_ (fun k => usV x (R 2 k) (R 7 k)) (i + 1)))), some (.int (nI (i + 1)))]) hE dX8_house_57 rfl (nI_1 _) rfl ?_
          refine x_goto (tgt := 33) hE dX8_house_60 (by decide) ?_
          exact ih (i + 1) (by omega) (by omega)
        · have e1 : cnt_ (fun k => usV x (R 2 k) (R 7 k)) (i + 1) = cnt_ (fun k => usV x (R 2 k) (R 7 k)) i + 1 := by show cnt_ _ i + (if usV x (R 2 i) (R 7 i) = true then 1 else 0) = _; rw [if_pos (b2i_n0.mp c47)]
          refine x_iconst (v := nI 1) hE dX8_house_50 (by decide) ?_
          refine x_goto (tgt := 55) hE dX8_house_51 (by decide) ?_
          refine x_iadd hE dX8_house_55 ?_
          refine x_ieq (y := nI (cnt_ (fun k => usV x (R 2 k) (R 7 k)) (i + 1))) (by rw [nI_add, e1]) ?_
          refine x_istore_n (L' := [some (.ref (ma 30)), some (.int x), some (.int (nI (cnt_ (fun k => usV x (R 2 k) (R 7 k)) (i + 1)))), some (.int (nI i))]) hE dX8_house_56 rfl (Nat.le_of_ble_eq_true rfl) rfl ?_
          refine x_iinc (v := nI (i + 1)) (L' := [some (.ref (ma 30)), some (.int x), some (.int (nI (cnt_ (fun k => usV x (R 2 k) (R 7 k)) (i + 1)))), some (.int (nI (i + 1)))]) hE dX8_house_57 rfl (nI_1 _) rfl ?_
          refine x_goto (tgt := 33) hE dX8_house_60 (by decide) ?_
          exact ih (i + 1) (by omega) (by omega)
    · exact absurd c19 (by decide)

set_option maxHeartbeats 4000000 in
set_option maxRecDepth 100000 in
theorem c_X8_power (G : XG) {ma ow : Nat → Nat} {sc : Nat → Int32} {R : Nat → Nat → Int32} {h : HM} (hM : mM G ma ow sc R h) {S : PS} {gn : Nat} (hMS : mS S gn sc R) (hI : mI S) (ph wa : Int32) : x_M G yX8_power wsX8_power ({ frames := 2, cells := 0, slots := 0, locals := 42 } : Room) [.ref (ma 30), .int ph, .int wa] h (mP G ma ow (fPower ph wa) (s_ar S 9 ph.toNatClampNeg) (iff0 (fPower ph wa) (powerP ph wa S) S) (gn)) 0 0 := by
  refine x_M.of (cc := cX8_power) (maxL := 4) (ret := (some .int)) (ent := [some (.ref (ma 30)), some (.int ph), some (.int wa), none]) (by decide +kernel) rfl (Nat.le_of_ble_eq_true rfl) rfl rfl ?_
  intro F hE hname
  have hinX8 : ∀ w ∈ wsX80, w ∈ wsX8_power := by decide +kernel
  have hL16 : s_L S ≤ 16 := hI.2.1
  have hC12 : s_C S ≤ 12 := hI.1.2.2.1
  refine x_aload_n hE dX8_power_0 rfl rfl ?_
  refine x_iload_n hE dX8_power_1 rfl ?_
  refine x_callS (st := [.ref (ma 30)]) hE 1 (c_X8_isPhase G ph) gX8_power_X8_isPhase rfl rfl rfl (by decide +kernel) ⟨Nat.le_of_ble_eq_true rfl, Nat.le_of_ble_eq_true rfl⟩ rfl rfl dX8_power_2 rfl (Nat.le_of_ble_eq_true rfl) ⟨Nat.le_of_ble_eq_true rfl, Nat.le_of_ble_eq_true rfl⟩ (fun v h9 hp => ?_)
  obtain ⟨rfl, rfl⟩ := hp
  refine x_if_ne (tgt := 12) hE dX8_power_5 (by decide) (fun c5 => ?_) (fun c5 => ?_)
  · have q5 : (inI ph 0 2) = true := b2i_n0.mp c5
    clear c5
    refine x_iload_n hE dX8_power_12 rfl ?_
    refine x_iconst (v := nI 0) hE dX8_power_13 (by decide) ?_
    refine x_sipush (v := nI 20000) hE dX8_power_14 (by decide) ?_
    refine x_callS (st := [.ref (ma 30)]) hE 3 (c_X8_isIn G wa (nI 0) (nI 20000)) gX8_power_X8_isIn rfl rfl rfl (by decide +kernel) ⟨Nat.le_of_ble_eq_true rfl, Nat.le_of_ble_eq_true rfl⟩ rfl rfl dX8_power_17 rfl (Nat.le_of_ble_eq_true rfl) ⟨Nat.le_of_ble_eq_true rfl, Nat.le_of_ble_eq_true rfl⟩ (fun v h9 hp => ?_)
    obtain ⟨rfl, rfl⟩ := hp
    refine x_if_eq (tgt := 27) hE dX8_power_20 (by decide) (fun c20 => ?_) (fun c20 => ?_)
    · have q20 : (inI wa 0 20000) = false := b2i_0.mp c20
      clear c20
      refine x_iconst (v := nI 2) hE dX8_power_27 (by decide) ?_
      refine x_callV (ci := 8) (st := []) hE 1 (c_X8_can G hM (nI 2)) gX8_power_X8_can rfl rfl rfl (by decide +kernel) ⟨Nat.le_of_ble_eq_true rfl, Nat.le_of_ble_eq_true rfl⟩ hM.o rfl rfl rfl dX8_power_28 rfl (Nat.le_of_ble_eq_true rfl) ⟨Nat.le_of_ble_eq_true rfl, Nat.le_of_ble_eq_true rfl⟩ (fun v hc2 hp => ?_)
      obtain ⟨rfl, hMc1⟩ := hp
      refine x_ieq (y := nI 0) (by decide) ?_
      generalize hssc3 : upd sc 28 (nI 2) = sc3 at hMc1
      have hMS4 : mS S gn sc3 R := by rw [← hssc3]; exact hMS.can _
      have e28 : sc3 28 = nI 2 := by rw [← hssc3]; exact upd_at _ _ _
      refine x_if_ne (tgt := 36) hE dX8_power_31 (by decide) (fun c31 => ?_) (fun c31 => ?_)
      · exact absurd c31 (by decide)
      · refine x_iconst (v := nI 0) hE dX8_power_34 (by decide) ?_
        exact x_iret hE dX8_power_35 (mP.no (by unfold fPower; simp [*]) (by decide) hMc1 hMS4 e28 (Nat.le_refl _))
    · have q20 : (inI wa 0 20000) = true := b2i_n0.mp c20
      clear c20
      refine x_iconst (v := nI 0) hE dX8_power_23 (by decide) ?_
      refine x_goto (tgt := 28) hE dX8_power_24 (by decide) ?_
      refine x_callV (ci := 8) (st := []) hE 1 (c_X8_can G hM (nI 0)) gX8_power_X8_can rfl rfl rfl (by decide +kernel) ⟨Nat.le_of_ble_eq_true rfl, Nat.le_of_ble_eq_true rfl⟩ hM.o rfl rfl rfl dX8_power_28 rfl (Nat.le_of_ble_eq_true rfl) ⟨Nat.le_of_ble_eq_true rfl, Nat.le_of_ble_eq_true rfl⟩ (fun v hc6 hp => ?_)
      obtain ⟨rfl, hMc5⟩ := hp
      refine x_ieq (y := nI 1) (by decide) ?_
      generalize hssc7 : upd sc 28 (nI 0) = sc7 at hMc5
      have hMS8 : mS S gn sc7 R := by rw [← hssc7]; exact hMS.can _
      have e28 : sc7 28 = nI 0 := by rw [← hssc7]; exact upd_at _ _ _
      refine x_if_ne (tgt := 36) hE dX8_power_31 (by decide) (fun c31 => ?_) (fun c31 => ?_)
      · obtain ⟨k, -, hk, rfl⟩ := inI_is q5 (by decide) (by decide)
        have ek : (nI k).toNatClampNeg = k := nI_clamp (by omega)
        rw [ek]
        refine x_aload_n hE dX8_power_36 rfl rfl ?_
        refine x_get hE hinX8 hMc5.o rfl 9 (by decide) (List.mem_of_getElem? (i := 1) rfl) rfl dX8_power_37 ?_
        refine x_iload_n hE dX8_power_40 rfl ?_
        refine x_iald (v := s_ar S 9 k) hE hMc5.a9 (vp_in_nI (by omega) (by decide)) ((x_atN _ (by omega)).trans (congrFun (hMS8.1.2.2.2.2.2.2.1 9 (by decide)) k)) dX8_power_41 ?_
        refine x_istore_n (L' := [some (.ref (ma 30)), some (.int (nI k)), some (.int wa), some (.int (s_ar S 9 k))]) hE dX8_power_42 rfl (Nat.le_of_ble_eq_true rfl) rfl ?_
        refine x_aload_n hE dX8_power_43 rfl rfl ?_
        refine x_get hE hinX8 hMc5.o rfl 9 (by decide) (List.mem_of_getElem? (i := 1) rfl) rfl dX8_power_44 ?_
        refine x_iload_n hE dX8_power_47 rfl ?_
        refine x_iload_n hE dX8_power_48 rfl ?_
        refine x_iast (f' := (upd (R 9) k wa)) hE hMc5.a9 (vp_in_nI (by omega) (by decide)) (x_updN _ (by omega) _) dX8_power_49 ?_
        generalize hhh9 : x_up hc6 (ma 9) (.inl (g_c G 0, 3, .inl (upd (R 9) k wa))) = h9
        have hM10 : mM G ma ow sc7 (set2 R 9 k wa) h9 := by rw [← hhh9]; exact hMc5.set (k := 9) (by decide) _
        refine x_iload_n hE dX8_power_50 rfl ?_
        exact x_iret hE dX8_power_51 (mP.ok (by unfold fPower; rw [if_pos q5, if_pos q20]) rfl hM10 (mS.up hMS8 rfl rfl rfl hMS8.1.1 hMS8.1.2.1 hMS8.1.2.2.1 hMS8.1.2.2.2.1 rfl rfl hMS8.1.2.2.2.2.2.1 (by unfold powerP; rw [ek]; exact hMS8.1.2.2.2.2.2.2.1.set2 9 _ _) (fun k hk => by rcases (show k = 17 ∨ k = 18 ∨ k = 19 ∨ k = 20 ∨ k = 23 ∨ k = 24 by simpa using hk) with rfl | rfl | rfl | rfl | rfl | rfl <;> simp [set2])) e28 (Nat.le_refl _))
      · exact absurd c31 (by decide)
  · have q5 : (inI ph 0 2) = false := b2i_0.mp c5
    clear c5
    refine x_iconst (v := nI 1) hE dX8_power_8 (by decide) ?_
    refine x_goto (tgt := 28) hE dX8_power_9 (by decide) ?_
    refine x_callV (ci := 8) (st := []) hE 1 (c_X8_can G hM (nI 1)) gX8_power_X8_can rfl rfl rfl (by decide +kernel) ⟨Nat.le_of_ble_eq_true rfl, Nat.le_of_ble_eq_true rfl⟩ hM.o rfl rfl rfl dX8_power_28 rfl (Nat.le_of_ble_eq_true rfl) ⟨Nat.le_of_ble_eq_true rfl, Nat.le_of_ble_eq_true rfl⟩ (fun v hc12 hp => ?_)
    obtain ⟨rfl, hMc11⟩ := hp
    refine x_ieq (y := nI 0) (by decide) ?_
    generalize hssc13 : upd sc 28 (nI 1) = sc13 at hMc11
    have hMS14 : mS S gn sc13 R := by rw [← hssc13]; exact hMS.can _
    have e28 : sc13 28 = nI 1 := by rw [← hssc13]; exact upd_at _ _ _
    refine x_if_ne (tgt := 36) hE dX8_power_31 (by decide) (fun c31 => ?_) (fun c31 => ?_)
    · exact absurd c31 (by decide)
    · refine x_iconst (v := nI 0) hE dX8_power_34 (by decide) ?_
      exact x_iret hE dX8_power_35 (mP.no (by unfold fPower; simp [*]) (by decide) hMc11 hMS14 e28 (Nat.le_refl _))

theorem mS_cue {S : PS} {gn : Nat} {sc sc' : Nat → Int32} {R R' : Nat → Nat → Int32} {so up dn : Int32} (h : mS S gn sc R) (hg : gI (s_C S) (s_G S)) (h0 : ∀ k, k ≠ 10 → sc' k = sc k) (h10 : sc' 10 = nI (s_C S + 1)) (e : R' = set2 (set2 (set2 (set2 (set2 R 11 (s_C S) so) 12 (s_C S) up) 13 (s_C S) dn) 15 (s_C S) (-1)) 20 (s_C S) (-1)) : mS (cueP so up dn S) gn sc' R' := by
  subst e
  obtain ⟨⟨a1, a2, a3, a4, a5, a6, a7, a8, a9⟩, b1, b2⟩ := h
  have hA : aE (s_ar (cueP so up dn S)) (set2 (set2 (set2 (set2 (set2 R 11 (s_C S) so) 12 (s_C S) up) 13 (s_C S) dn) 15 (s_C S) (-1)) 20 (s_C S) (-1)) := fun k hk => by
    rw [set2_ne (fun z => by rw [z] at hk; revert hk; decide)]
    exact ((((a7.set2 11 _ _).set2 12 _ _).set2 13 _ _).set2 15 _ _) k hk
  refine ⟨⟨(h0 _ (by decide)).trans a1, (h0 _ (by decide)).trans a2, (h0 _ (by decide)).trans a3, h10, (h0 _ (by decide)).trans a5, (h0 _ (by decide)).trans a6, hA, ?_, ?_⟩, (h0 _ (by decide)).trans b1, b2.same (fun j _ => rfl) (fun j _ => rfl)⟩
  · obtain ⟨c1, c2, c3⟩ := a8
    refine ⟨fun c hc => ?_, fun g hg1 => ?_, c3⟩
    · show R 17 c = _
      rcases Nat.lt_or_ge c (s_C S) with q | q
      · exact c1 c q
      · rw [a9 c q]
        have : actB (s_G S) c = false := by
          cases z : actB (s_G S) c with
          | false => rfl
          | true => obtain ⟨g, h1, h2⟩ := actB_t.mp z; have := hg.2 g h1; omega
        show (0 : Int32) = b2i (actB (s_G S) c)
        rw [this]
        rfl
    · refine ⟨(c2 g hg1).1, ?_⟩
      have := hg.2 g hg1
      rw [set2_at, upd_ne (by omega)]
      exact (c2 g hg1).2
  · intro k hk
    have hk' : s_C S + 1 ≤ k := hk
    exact a9 k (by omega)
set_option maxHeartbeats 4000000 in
set_option maxRecDepth 100000 in
theorem c_X8_cue (G : XG) {ma ow : Nat → Nat} {sc : Nat → Int32} {R : Nat → Nat → Int32} {h : HM} (hM : mM G ma ow sc R h) {S : PS} {gn : Nat} (hMS : mS S gn sc R) (hI : mI S) (so up dn : Int32) : x_M G yX8_cue wsX8_cue ({ frames := 1, cells := 0, slots := 0, locals := 22 } : Room) [.ref (ma 30), .int so, .int up, .int dn] h (mP G ma ow (fCue S so up dn) (nI (s_C S)) (iff0 (fCue S so up dn) (cueP so up dn S) S) (gn)) 0 0 := by
  refine x_M.of (cc := cX8_cue) (maxL := 5) (ret := (some .int)) (ent := [some (.ref (ma 30)), some (.int so), some (.int up), some (.int dn), none]) (by decide +kernel) rfl (Nat.le_of_ble_eq_true rfl) rfl rfl ?_
  intro F hE hname
  have hinX8 : ∀ w ∈ wsX80, w ∈ wsX8_cue := by decide +kernel
  have hL16 : s_L S ≤ 16 := hI.2.1
  have hC12 : s_C S ≤ 12 := hI.1.2.2.1
  refine x_iload_n hE dX8_cue_0 rfl ?_
  refine x_iconst (v := nI 0) hE dX8_cue_1 (by decide) ?_
  refine x_iconst (v := nI 1) hE dX8_cue_2 (by decide) ?_
  refine x_callS (st := []) hE 3 (c_X8_isIn G so (nI 0) (nI 1)) gX8_cue_X8_isIn rfl rfl rfl (by decide +kernel) ⟨Nat.le_of_ble_eq_true rfl, Nat.le_of_ble_eq_true rfl⟩ rfl rfl dX8_cue_3 rfl (Nat.le_of_ble_eq_true rfl) ⟨Nat.le_of_ble_eq_true rfl, Nat.le_of_ble_eq_true rfl⟩ (fun v h9 hp => ?_)
  obtain ⟨rfl, rfl⟩ := hp
  refine x_if_eq (tgt := 33) hE dX8_cue_6 (by decide) (fun c6 => ?_) (fun c6 => ?_)
  · have q6 : (inI so 0 1) = false := b2i_0.mp c6
    clear c6
    refine x_iconst (v := nI 0) hE dX8_cue_33 (by decide) ?_
    refine x_istore (L' := [some (.ref (ma 30)), some (.int so), some (.int up), some (.int dn), some (.int (nI 0))]) hE dX8_cue_34 (Nat.le_of_ble_eq_true rfl) rfl ?_
    refine x_aload_n hE dX8_cue_36 rfl rfl ?_
    refine x_iload hE dX8_cue_37 rfl ?_
    refine x_if_ne (tgt := 46) hE dX8_cue_39 (by decide) (fun c39 => ?_) (fun c39 => ?_)
    · exact absurd c39 (by decide)
    · refine x_iconst (v := nI 1) hE dX8_cue_42 (by decide) ?_
      refine x_goto (tgt := 60) hE dX8_cue_43 (by decide) ?_
      refine x_callV (ci := 8) (st := []) hE 1 (c_X8_can G hM (nI 1)) gX8_cue_X8_can rfl rfl rfl (by decide +kernel) ⟨Nat.le_of_ble_eq_true rfl, Nat.le_of_ble_eq_true rfl⟩ hM.o rfl rfl rfl dX8_cue_60 rfl (Nat.le_of_ble_eq_true rfl) ⟨Nat.le_of_ble_eq_true rfl, Nat.le_of_ble_eq_true rfl⟩ (fun v hc2 hp => ?_)
      obtain ⟨rfl, hMc1⟩ := hp
      refine x_ieq (y := nI 0) (by decide) ?_
      generalize hssc3 : upd sc 28 (nI 1) = sc3 at hMc1
      have hMS4 : mS S gn sc3 R := by rw [← hssc3]; exact hMS.can _
      have e28 : sc3 28 = nI 1 := by rw [← hssc3]; exact upd_at _ _ _
      refine x_if_ne (tgt := 68) hE dX8_cue_63 (by decide) (fun c63 => ?_) (fun c63 => ?_)
      · exact absurd c63 (by decide)
      · refine x_iconst (v := nI 0) hE dX8_cue_66 (by decide) ?_
        exact x_iret hE dX8_cue_67 (mP.no (by unfold fCue; simp [*]) (by decide) hMc1 hMS4 e28 (Nat.le_refl _))
  · have q6 : (inI so 0 1) = true := b2i_n0.mp c6
    clear c6
    refine x_iload_n hE dX8_cue_9 rfl ?_
    refine x_iconst (v := nI 0) hE dX8_cue_10 (by decide) ?_
    refine x_bipush (v := nI 60) hE dX8_cue_11 (by decide) ?_
    refine x_callS (st := []) hE 3 (c_X8_isIn G up (nI 0) (nI 60)) gX8_cue_X8_isIn rfl rfl rfl (by decide +kernel) ⟨Nat.le_of_ble_eq_true rfl, Nat.le_of_ble_eq_true rfl⟩ rfl rfl dX8_cue_13 rfl (Nat.le_of_ble_eq_true rfl) ⟨Nat.le_of_ble_eq_true rfl, Nat.le_of_ble_eq_true rfl⟩ (fun v h9 hp => ?_)
    obtain ⟨rfl, rfl⟩ := hp
    refine x_if_eq (tgt := 33) hE dX8_cue_16 (by decide) (fun c16 => ?_) (fun c16 => ?_)
    · have q16 : (inI up 0 60) = false := b2i_0.mp c16
      clear c16
      refine x_iconst (v := nI 0) hE dX8_cue_33 (by decide) ?_
      refine x_istore (L' := [some (.ref (ma 30)), some (.int so), some (.int up), some (.int dn), some (.int (nI 0))]) hE dX8_cue_34 (Nat.le_of_ble_eq_true rfl) rfl ?_
      refine x_aload_n hE dX8_cue_36 rfl rfl ?_
      refine x_iload hE dX8_cue_37 rfl ?_
      refine x_if_ne (tgt := 46) hE dX8_cue_39 (by decide) (fun c39 => ?_) (fun c39 => ?_)
      · exact absurd c39 (by decide)
      · refine x_iconst (v := nI 1) hE dX8_cue_42 (by decide) ?_
        refine x_goto (tgt := 60) hE dX8_cue_43 (by decide) ?_
        refine x_callV (ci := 8) (st := []) hE 1 (c_X8_can G hM (nI 1)) gX8_cue_X8_can rfl rfl rfl (by decide +kernel) ⟨Nat.le_of_ble_eq_true rfl, Nat.le_of_ble_eq_true rfl⟩ hM.o rfl rfl rfl dX8_cue_60 rfl (Nat.le_of_ble_eq_true rfl) ⟨Nat.le_of_ble_eq_true rfl, Nat.le_of_ble_eq_true rfl⟩ (fun v hc6 hp => ?_)
        obtain ⟨rfl, hMc5⟩ := hp
        refine x_ieq (y := nI 0) (by decide) ?_
        generalize hssc7 : upd sc 28 (nI 1) = sc7 at hMc5
        have hMS8 : mS S gn sc7 R := by rw [← hssc7]; exact hMS.can _
        have e28 : sc7 28 = nI 1 := by rw [← hssc7]; exact upd_at _ _ _
        refine x_if_ne (tgt := 68) hE dX8_cue_63 (by decide) (fun c63 => ?_) (fun c63 => ?_)
        · exact absurd c63 (by decide)
        · refine x_iconst (v := nI 0) hE dX8_cue_66 (by decide) ?_
          exact x_iret hE dX8_cue_67 (mP.no (by unfold fCue; simp [*]) (by decide) hMc5 hMS8 e28 (Nat.le_refl _))
    · have q16 : (inI up 0 60) = true := b2i_n0.mp c16
      clear c16
      refine x_iload_n hE dX8_cue_19 rfl ?_
      refine x_iconst (v := nI 0) hE dX8_cue_20 (by decide) ?_
      refine x_bipush (v := nI 60) hE dX8_cue_21 (by decide) ?_
      refine x_callS (st := []) hE 3 (c_X8_isIn G dn (nI 0) (nI 60)) gX8_cue_X8_isIn rfl rfl rfl (by decide +kernel) ⟨Nat.le_of_ble_eq_true rfl, Nat.le_of_ble_eq_true rfl⟩ rfl rfl dX8_cue_23 rfl (Nat.le_of_ble_eq_true rfl) ⟨Nat.le_of_ble_eq_true rfl, Nat.le_of_ble_eq_true rfl⟩ (fun v h9 hp => ?_)
      obtain ⟨rfl, rfl⟩ := hp
      refine x_if_eq (tgt := 33) hE dX8_cue_26 (by decide) (fun c26 => ?_) (fun c26 => ?_)
      · have q26 : (inI dn 0 60) = false := b2i_0.mp c26
        clear c26
        refine x_iconst (v := nI 0) hE dX8_cue_33 (by decide) ?_
        refine x_istore (L' := [some (.ref (ma 30)), some (.int so), some (.int up), some (.int dn), some (.int (nI 0))]) hE dX8_cue_34 (Nat.le_of_ble_eq_true rfl) rfl ?_
        refine x_aload_n hE dX8_cue_36 rfl rfl ?_
        refine x_iload hE dX8_cue_37 rfl ?_
        refine x_if_ne (tgt := 46) hE dX8_cue_39 (by decide) (fun c39 => ?_) (fun c39 => ?_)
        · exact absurd c39 (by decide)
        · refine x_iconst (v := nI 1) hE dX8_cue_42 (by decide) ?_
          refine x_goto (tgt := 60) hE dX8_cue_43 (by decide) ?_
          refine x_callV (ci := 8) (st := []) hE 1 (c_X8_can G hM (nI 1)) gX8_cue_X8_can rfl rfl rfl (by decide +kernel) ⟨Nat.le_of_ble_eq_true rfl, Nat.le_of_ble_eq_true rfl⟩ hM.o rfl rfl rfl dX8_cue_60 rfl (Nat.le_of_ble_eq_true rfl) ⟨Nat.le_of_ble_eq_true rfl, Nat.le_of_ble_eq_true rfl⟩ (fun v hc10 hp => ?_)
          obtain ⟨rfl, hMc9⟩ := hp
          refine x_ieq (y := nI 0) (by decide) ?_
          generalize hssc11 : upd sc 28 (nI 1) = sc11 at hMc9
          have hMS12 : mS S gn sc11 R := by rw [← hssc11]; exact hMS.can _
          have e28 : sc11 28 = nI 1 := by rw [← hssc11]; exact upd_at _ _ _
          refine x_if_ne (tgt := 68) hE dX8_cue_63 (by decide) (fun c63 => ?_) (fun c63 => ?_)
          · exact absurd c63 (by decide)
          · refine x_iconst (v := nI 0) hE dX8_cue_66 (by decide) ?_
            exact x_iret hE dX8_cue_67 (mP.no (by unfold fCue; simp [*]) (by decide) hMc9 hMS12 e28 (Nat.le_refl _))
      · have q26 : (inI dn 0 60) = true := b2i_n0.mp c26
        clear c26
        refine x_iconst (v := nI 1) hE dX8_cue_29 (by decide) ?_
        refine x_goto (tgt := 34) hE dX8_cue_30 (by decide) ?_
        refine x_istore (L' := [some (.ref (ma 30)), some (.int so), some (.int up), some (.int dn), some (.int (nI 1))]) hE dX8_cue_34 (Nat.le_of_ble_eq_true rfl) rfl ?_
        refine x_aload_n hE dX8_cue_36 rfl rfl ?_
        refine x_iload hE dX8_cue_37 rfl ?_
        refine x_if_ne (tgt := 46) hE dX8_cue_39 (by decide) (fun c39 => ?_) (fun c39 => ?_)
        · refine x_aload_n hE dX8_cue_46 rfl rfl ?_
          refine x_get hE hinX8 hM.o rfl 10 (by decide) (List.mem_of_getElem? (i := 1) rfl) rfl dX8_cue_47 ?_
          refine x_ieq (y := nI (s_C S)) (hMS.1.2.2.2.1) ?_
          refine x_bipush (v := nI 12) hE dX8_cue_50 (by decide) ?_
          refine x_icmp_ne (tgt := 59) hE dX8_cue_52 (by decide) (fun c52 => ?_) (fun c52 => ?_)
          · have c52 : ¬ s_C S = 12 := fun z => c52 (by rw [z])
            refine x_iconst (v := nI 0) hE dX8_cue_59 (by decide) ?_
            refine x_callV (ci := 8) (st := []) hE 1 (c_X8_can G hM (nI 0)) gX8_cue_X8_can rfl rfl rfl (by decide +kernel) ⟨Nat.le_of_ble_eq_true rfl, Nat.le_of_ble_eq_true rfl⟩ hM.o rfl rfl rfl dX8_cue_60 rfl (Nat.le_of_ble_eq_true rfl) ⟨Nat.le_of_ble_eq_true rfl, Nat.le_of_ble_eq_true rfl⟩ (fun v hc14 hp => ?_)
            obtain ⟨rfl, hMc13⟩ := hp
            refine x_ieq (y := nI 1) (by decide) ?_
            generalize hssc15 : upd sc 28 (nI 0) = sc15 at hMc13
            have hMS16 : mS S gn sc15 R := by rw [← hssc15]; exact hMS.can _
            have e28 : sc15 28 = nI 0 := by rw [← hssc15]; exact upd_at _ _ _
            refine x_if_ne (tgt := 68) hE dX8_cue_63 (by decide) (fun c63 => ?_) (fun c63 => ?_)
            · have hlt : s_C S < 12 := by omega
              refine x_aload_n hE dX8_cue_68 rfl rfl ?_
              refine x_get hE hinX8 hMc13.o rfl 11 (by decide) (List.mem_of_getElem? (i := 2) rfl) rfl dX8_cue_69 ?_
              refine x_aload_n hE dX8_cue_72 rfl rfl ?_
              refine x_get hE hinX8 hMc13.o rfl 10 (by decide) (List.mem_of_getElem? (i := 1) rfl) rfl dX8_cue_73 ?_
              refine x_ieq (y := nI (s_C S)) (hMS16.1.2.2.2.1) ?_
              refine x_iload_n hE dX8_cue_76 rfl ?_
              refine x_iast (f' := (upd (R 11) (s_C S) so)) hE hMc13.a11 (vp_in_nI (by omega) (by decide)) (x_updN _ (by omega) _) dX8_cue_77 ?_
              generalize hhh17 : x_up hc14 (ma 11) (.inl (g_c G 0, 12, .inl (upd (R 11) (s_C S) so))) = h17
              have hM18 : mM G ma ow sc15 (set2 R 11 (s_C S) so) h17 := by rw [← hhh17]; exact hMc13.set (k := 11) (by decide) _
              refine x_aload_n hE dX8_cue_78 rfl rfl ?_
              refine x_get hE hinX8 hM18.o rfl 12 (by decide) (List.mem_of_getElem? (i := 3) rfl) rfl dX8_cue_79 ?_
              refine x_aload_n hE dX8_cue_82 rfl rfl ?_
              refine x_get hE hinX8 hM18.o rfl 10 (by decide) (List.mem_of_getElem? (i := 1) rfl) rfl dX8_cue_83 ?_
              refine x_ieq (y := nI (s_C S)) (hMS16.1.2.2.2.1) ?_
              refine x_iload_n hE dX8_cue_86 rfl ?_
              refine x_iast (f' := (upd ((set2 R 11 (s_C S) so) 12) (s_C S) up)) hE hM18.a12 (vp_in_nI (by omega) (by decide)) (x_updN _ (by omega) _) dX8_cue_87 ?_
              generalize hhh19 : x_up h17 (ma 12) (.inl (g_c G 0, 12, .inl (upd ((set2 R 11 (s_C S) so) 12) (s_C S) up))) = h19
              have hM20 : mM G ma ow sc15 (set2 (set2 R 11 (s_C S) so) 12 (s_C S) up) h19 := by rw [← hhh19]; exact hM18.set (k := 12) (by decide) _
              refine x_aload_n hE dX8_cue_88 rfl rfl ?_
              refine x_get hE hinX8 hM20.o rfl 13 (by decide) (List.mem_of_getElem? (i := 4) rfl) rfl dX8_cue_89 ?_
              refine x_aload_n hE dX8_cue_92 rfl rfl ?_
              refine x_get hE hinX8 hM20.o rfl 10 (by decide) (List.mem_of_getElem? (i := 1) rfl) rfl dX8_cue_93 ?_
              refine x_ieq (y := nI (s_C S)) (hMS16.1.2.2.2.1) ?_
              refine x_iload_n hE dX8_cue_96 rfl ?_
              refine x_iast (f' := (upd ((set2 (set2 R 11 (s_C S) so) 12 (s_C S) up) 13) (s_C S) dn)) hE hM20.a13 (vp_in_nI (by omega) (by decide)) (x_updN _ (by omega) _) dX8_cue_97 ?_
              generalize hhh21 : x_up h19 (ma 13) (.inl (g_c G 0, 12, .inl (upd ((set2 (set2 R 11 (s_C S) so) 12 (s_C S) up) 13) (s_C S) dn))) = h21
              have hM22 : mM G ma ow sc15 (set2 (set2 (set2 R 11 (s_C S) so) 12 (s_C S) up) 13 (s_C S) dn) h21 := by rw [← hhh21]; exact hM20.set (k := 13) (by decide) _
              refine x_aload_n hE dX8_cue_98 rfl rfl ?_
              refine x_get hE hinX8 hM22.o rfl 15 (by decide) (List.mem_of_getElem? (i := 5) rfl) rfl dX8_cue_99 ?_
              refine x_aload_n hE dX8_cue_102 rfl rfl ?_
              refine x_get hE hinX8 hM22.o rfl 10 (by decide) (List.mem_of_getElem? (i := 1) rfl) rfl dX8_cue_103 ?_
              refine x_ieq (y := nI (s_C S)) (hMS16.1.2.2.2.1) ?_
              refine x_iconst (v := (-1 : Int32)) hE dX8_cue_106 (by decide) ?_
              refine x_ieq (y := (-1)) (rfl) ?_
              refine x_iast (f' := (upd ((set2 (set2 (set2 R 11 (s_C S) so) 12 (s_C S) up) 13 (s_C S) dn) 15) (s_C S) (-1))) hE hM22.a15 (vp_in_nI (by omega) (by decide)) (x_updN _ (by omega) _) dX8_cue_107 ?_
              generalize hhh23 : x_up h21 (ma 15) (.inl (g_c G 0, 12, .inl (upd ((set2 (set2 (set2 R 11 (s_C S) so) 12 (s_C S) up) 13 (s_C S) dn) 15) (s_C S) (-1)))) = h23
              have hM24 : mM G ma ow sc15 (set2 (set2 (set2 (set2 R 11 (s_C S) so) 12 (s_C S) up) 13 (s_C S) dn) 15 (s_C S) (-1)) h23 := by rw [← hhh23]; exact hM22.set (k := 15) (by decide) _
              refine x_aload_n hE dX8_cue_108 rfl rfl ?_
              refine x_get hE hinX8 hM24.o rfl 20 (by decide) (List.mem_of_getElem? (i := 6) rfl) rfl dX8_cue_109 ?_
              refine x_aload_n hE dX8_cue_112 rfl rfl ?_
              refine x_get hE hinX8 hM24.o rfl 10 (by decide) (List.mem_of_getElem? (i := 1) rfl) rfl dX8_cue_113 ?_
              refine x_ieq (y := nI (s_C S)) (hMS16.1.2.2.2.1) ?_
              refine x_iconst (v := (-1 : Int32)) hE dX8_cue_116 (by decide) ?_
              refine x_ieq (y := (-1)) (rfl) ?_
              refine x_iast (f' := (upd ((set2 (set2 (set2 (set2 R 11 (s_C S) so) 12 (s_C S) up) 13 (s_C S) dn) 15 (s_C S) (-1)) 20) (s_C S) (-1))) hE hM24.a20 (vp_in_nI (by omega) (by decide)) (x_updN _ (by omega) _) dX8_cue_117 ?_
              generalize hhh25 : x_up h23 (ma 20) (.inl (g_c G 0, 12, .inl (upd ((set2 (set2 (set2 (set2 R 11 (s_C S) so) 12 (s_C S) up) 13 (s_C S) dn) 15 (s_C S) (-1)) 20) (s_C S) (-1)))) = h25
              have hM26 : mM G ma ow sc15 (set2 (set2 (set2 (set2 (set2 R 11 (s_C S) so) 12 (s_C S) up) 13 (s_C S) dn) 15 (s_C S) (-1)) 20 (s_C S) (-1)) h25 := by rw [← hhh25]; exact hM24.set (k := 20) (by decide) _
              refine x_aload_n hE dX8_cue_118 rfl rfl ?_
              refine x_dup hE dX8_cue_119 rfl ?_
              refine x_get hE hinX8 hM26.o rfl 10 (by decide) (List.mem_of_getElem? (i := 1) rfl) rfl dX8_cue_120 ?_
              refine x_iconst (v := nI 1) hE dX8_cue_123 (by decide) ?_
              refine x_iadd hE dX8_cue_124 ?_
              refine x_ieq (y := nI (s_C S + 1)) (by rw [hMS16.1.2.2.2.1]; exact nI_1 _) ?_
              refine x_put (fs' := [.int (sc15 0), .int (sc15 1), .ref (ma 2), .ref (ma 3), .ref (ma 4), .ref (ma 5), .ref (ma 6), .ref (ma 7), .int (sc15 8), .ref (ma 9), .int (nI (s_C S + 1)), .ref (ma 11), .ref (ma 12), .ref (ma 13), .ref (ma 14), .ref (ma 15), .ref (ma 16), .ref (ma 17), .ref (ma 18), .ref (ma 19), .ref (ma 20), .int (sc15 21), .int (sc15 22), .ref (ma 23), .ref (ma 24), .int (sc15 25), .ref (ma 26), .ref (ma 27), .int (sc15 28), .ref (ma 29)]) hE hinX8 tyX8 tyX8_ok nmX8 hM26.o rfl 10 (by decide) (List.mem_of_getElem? (i := 1) rfl) rfl rfl rfl (Nat.le_of_ble_eq_true rfl) rfl dX8_cue_125 ?_
              generalize hhh27 : x_up h25 (ma 30) (.inr (8, [.int (sc15 0), .int (sc15 1), .ref (ma 2), .ref (ma 3), .ref (ma 4), .ref (ma 5), .ref (ma 6), .ref (ma 7), .int (sc15 8), .ref (ma 9), .int (nI (s_C S + 1)), .ref (ma 11), .ref (ma 12), .ref (ma 13), .ref (ma 14), .ref (ma 15), .ref (ma 16), .ref (ma 17), .ref (ma 18), .ref (ma 19), .ref (ma 20), .int (sc15 21), .int (sc15 22), .ref (ma 23), .ref (ma 24), .int (sc15 25), .ref (ma 26), .ref (ma 27), .int (sc15 28), .ref (ma 29)])) = h27
              have hM28 : mM G ma ow (upd sc15 10 (nI (s_C S + 1))) (set2 (set2 (set2 (set2 (set2 R 11 (s_C S) so) 12 (s_C S) up) 13 (s_C S) dn) 15 (s_C S) (-1)) 20 (s_C S) (-1)) h27 := by rw [← hhh27]; exact hM26.num (upd sc15 10 (nI (s_C S + 1)))
              refine x_aload_n hE dX8_cue_128 rfl rfl ?_
              refine x_get hE hinX8 hM28.o rfl 10 (by decide) (List.mem_of_getElem? (i := 1) rfl) rfl dX8_cue_129 ?_
              refine x_ieq (y := nI (s_C S + 1)) (upd_at _ _ _) ?_
              refine x_iconst (v := nI 1) hE dX8_cue_132 (by decide) ?_
              refine x_isub hE dX8_cue_133 ?_
              refine x_ieq (y := nI (s_C S)) (by rw [nI_1 _ |>.symm]; exact Int32.add_sub_cancel _ _) ?_
              exact x_iret hE dX8_cue_134 (mP.ok (by unfold fCue; rw [if_pos ⟨q6, q16, q26⟩, if_neg c52]) rfl hM28 (mS_cue hMS16 hI.1.2.2.2.1 (fun k a => upd_ne a) (upd_at _ _ _) rfl) ((upd_ne (by decide)).trans e28) (Nat.le_refl _))
            · exact absurd c63 (by decide)
          · replace c52 := x_nIinj c52 (by omega) (by omega)
            refine x_iconst (v := nI 2) hE dX8_cue_55 (by decide) ?_
            refine x_goto (tgt := 60) hE dX8_cue_56 (by decide) ?_
            refine x_callV (ci := 8) (st := []) hE 1 (c_X8_can G hM (nI 2)) gX8_cue_X8_can rfl rfl rfl (by decide +kernel) ⟨Nat.le_of_ble_eq_true rfl, Nat.le_of_ble_eq_true rfl⟩ hM.o rfl rfl rfl dX8_cue_60 rfl (Nat.le_of_ble_eq_true rfl) ⟨Nat.le_of_ble_eq_true rfl, Nat.le_of_ble_eq_true rfl⟩ (fun v hc30 hp => ?_)
            obtain ⟨rfl, hMc29⟩ := hp
            refine x_ieq (y := nI 0) (by decide) ?_
            generalize hssc31 : upd sc 28 (nI 2) = sc31 at hMc29
            have hMS32 : mS S gn sc31 R := by rw [← hssc31]; exact hMS.can _
            have e28 : sc31 28 = nI 2 := by rw [← hssc31]; exact upd_at _ _ _
            refine x_if_ne (tgt := 68) hE dX8_cue_63 (by decide) (fun c63 => ?_) (fun c63 => ?_)
            · exact absurd c63 (by decide)
            · refine x_iconst (v := nI 0) hE dX8_cue_66 (by decide) ?_
              exact x_iret hE dX8_cue_67 (mP.no (by unfold fCue; simp [*]) (by decide) hMc29 hMS32 e28 (Nat.le_refl _))
        · exact absurd c39 (by decide)

set_option maxHeartbeats 4000000 in
set_option maxRecDepth 100000 in
theorem c_X8_level (G : XG) {ma ow : Nat → Nat} {sc : Nat → Int32} {R : Nat → Nat → Int32} {h : HM} (hM : mM G ma ow sc R h) {S : PS} {gn : Nat} (hMS : mS S gn sc R) (hI : mI S) (c i x : Int32) : x_M G yX8_level wsX8_level ({ frames := 2, cells := 0, slots := 0, locals := 43 } : Room) [.ref (ma 30), .int c, .int i, .int x] h (mP G ma ow (fLevel S c i x) (s_ar S 14 (16 * c.toNatClampNeg + i.toNatClampNeg)) (iff0 (fLevel S c i x) (levelP c.toNatClampNeg i.toNatClampNeg x S) S) (gn)) 0 0 := by
  refine x_M.of (cc := cX8_level) (maxL := 6) (ret := (some .int)) (ent := [some (.ref (ma 30)), some (.int c), some (.int i), some (.int x), none, none]) (by decide +kernel) rfl (Nat.le_of_ble_eq_true rfl) rfl rfl ?_
  intro F hE hname
  have hinX8 : ∀ w ∈ wsX80, w ∈ wsX8_level := by decide +kernel
  have hL16 : s_L S ≤ 16 := hI.2.1
  have hC12 : s_C S ≤ 12 := hI.1.2.2.1
  refine x_aload_n hE dX8_level_0 rfl rfl ?_
  refine x_iload_n hE dX8_level_1 rfl ?_
  refine x_callV (ci := 8) (st := []) hE 1 (c_X8_isCue G hM hMS.1.2.2.2.1 (by omega) c) gX8_level_X8_isCue rfl rfl rfl (by decide +kernel) ⟨Nat.le_of_ble_eq_true rfl, Nat.le_of_ble_eq_true rfl⟩ hM.o rfl rfl rfl dX8_level_2 rfl (Nat.le_of_ble_eq_true rfl) ⟨Nat.le_of_ble_eq_true rfl, Nat.le_of_ble_eq_true rfl⟩ (fun v h9 hp => ?_)
  obtain ⟨rfl, rfl⟩ := hp
  refine x_if_eq (tgt := 20) hE dX8_level_5 (by decide) (fun c5 => ?_) (fun c5 => ?_)
  · have q5 : (isN c (s_C S)) = false := b2i_0.mp c5
    clear c5
    refine x_iconst (v := nI 0) hE dX8_level_20 (by decide) ?_
    refine x_istore (L' := [some (.ref (ma 30)), some (.int c), some (.int i), some (.int x), some (.int (nI 0)), none]) hE dX8_level_21 (Nat.le_of_ble_eq_true rfl) rfl ?_
    refine x_aload_n hE dX8_level_23 rfl rfl ?_
    refine x_iload hE dX8_level_24 rfl ?_
    refine x_if_ne (tgt := 33) hE dX8_level_26 (by decide) (fun c26 => ?_) (fun c26 => ?_)
    · exact absurd c26 (by decide)
    · refine x_iconst (v := nI 1) hE dX8_level_29 (by decide) ?_
      refine x_goto (tgt := 48) hE dX8_level_30 (by decide) ?_
      refine x_callV (ci := 8) (st := []) hE 1 (c_X8_can G hM (nI 1)) gX8_level_X8_can rfl rfl rfl (by decide +kernel) ⟨Nat.le_of_ble_eq_true rfl, Nat.le_of_ble_eq_true rfl⟩ hM.o rfl rfl rfl dX8_level_48 rfl (Nat.le_of_ble_eq_true rfl) ⟨Nat.le_of_ble_eq_true rfl, Nat.le_of_ble_eq_true rfl⟩ (fun v hc2 hp => ?_)
      obtain ⟨rfl, hMc1⟩ := hp
      refine x_ieq (y := nI 0) (by decide) ?_
      generalize hssc3 : upd sc 28 (nI 1) = sc3 at hMc1
      have hMS4 : mS S gn sc3 R := by rw [← hssc3]; exact hMS.can _
      have e28 : sc3 28 = nI 1 := by rw [← hssc3]; exact upd_at _ _ _
      refine x_if_ne (tgt := 56) hE dX8_level_51 (by decide) (fun c51 => ?_) (fun c51 => ?_)
      · exact absurd c51 (by decide)
      · refine x_iconst (v := nI 0) hE dX8_level_54 (by decide) ?_
        exact x_iret hE dX8_level_55 (mP.no (by unfold fLevel; simp [*]) (by decide) hMc1 hMS4 e28 (Nat.le_refl _))
  · have q5 : (isN c (s_C S)) = true := b2i_n0.mp c5
    clear c5
    refine x_aload_n hE dX8_level_8 rfl rfl ?_
    refine x_iload_n hE dX8_level_9 rfl ?_
    refine x_callV (ci := 8) (st := []) hE 1 (c_X8_isLamp G hM hMS.1.2.1 (by omega) i) gX8_level_X8_isLamp rfl rfl rfl (by decide +kernel) ⟨Nat.le_of_ble_eq_true rfl, Nat.le_of_ble_eq_true rfl⟩ hM.o rfl rfl rfl dX8_level_10 rfl (Nat.le_of_ble_eq_true rfl) ⟨Nat.le_of_ble_eq_true rfl, Nat.le_of_ble_eq_true rfl⟩ (fun v h9 hp => ?_)
    obtain ⟨rfl, rfl⟩ := hp
    refine x_if_eq (tgt := 20) hE dX8_level_13 (by decide) (fun c13 => ?_) (fun c13 => ?_)
    · have q13 : (isN i (s_L S)) = false := b2i_0.mp c13
      clear c13
      refine x_iconst (v := nI 0) hE dX8_level_20 (by decide) ?_
      refine x_istore (L' := [some (.ref (ma 30)), some (.int c), some (.int i), some (.int x), some (.int (nI 0)), none]) hE dX8_level_21 (Nat.le_of_ble_eq_true rfl) rfl ?_
      refine x_aload_n hE dX8_level_23 rfl rfl ?_
      refine x_iload hE dX8_level_24 rfl ?_
      refine x_if_ne (tgt := 33) hE dX8_level_26 (by decide) (fun c26 => ?_) (fun c26 => ?_)
      · exact absurd c26 (by decide)
      · refine x_iconst (v := nI 1) hE dX8_level_29 (by decide) ?_
        refine x_goto (tgt := 48) hE dX8_level_30 (by decide) ?_
        refine x_callV (ci := 8) (st := []) hE 1 (c_X8_can G hM (nI 1)) gX8_level_X8_can rfl rfl rfl (by decide +kernel) ⟨Nat.le_of_ble_eq_true rfl, Nat.le_of_ble_eq_true rfl⟩ hM.o rfl rfl rfl dX8_level_48 rfl (Nat.le_of_ble_eq_true rfl) ⟨Nat.le_of_ble_eq_true rfl, Nat.le_of_ble_eq_true rfl⟩ (fun v hc6 hp => ?_)
        obtain ⟨rfl, hMc5⟩ := hp
        refine x_ieq (y := nI 0) (by decide) ?_
        generalize hssc7 : upd sc 28 (nI 1) = sc7 at hMc5
        have hMS8 : mS S gn sc7 R := by rw [← hssc7]; exact hMS.can _
        have e28 : sc7 28 = nI 1 := by rw [← hssc7]; exact upd_at _ _ _
        refine x_if_ne (tgt := 56) hE dX8_level_51 (by decide) (fun c51 => ?_) (fun c51 => ?_)
        · exact absurd c51 (by decide)
        · refine x_iconst (v := nI 0) hE dX8_level_54 (by decide) ?_
          exact x_iret hE dX8_level_55 (mP.no (by unfold fLevel; simp [*]) (by decide) hMc5 hMS8 e28 (Nat.le_refl _))
    · have q13 : (isN i (s_L S)) = true := b2i_n0.mp c13
      clear c13
      refine x_iconst (v := nI 1) hE dX8_level_16 (by decide) ?_
      refine x_goto (tgt := 21) hE dX8_level_17 (by decide) ?_
      refine x_istore (L' := [some (.ref (ma 30)), some (.int c), some (.int i), some (.int x), some (.int (nI 1)), none]) hE dX8_level_21 (Nat.le_of_ble_eq_true rfl) rfl ?_
      refine x_aload_n hE dX8_level_23 rfl rfl ?_
      refine x_iload hE dX8_level_24 rfl ?_
      refine x_if_ne (tgt := 33) hE dX8_level_26 (by decide) (fun c26 => ?_) (fun c26 => ?_)
      · refine x_iload_n hE dX8_level_33 rfl ?_
        refine x_iconst (v := nI 0) hE dX8_level_34 (by decide) ?_
        refine x_bipush (v := nI 100) hE dX8_level_35 (by decide) ?_
        refine x_callS (st := [.ref (ma 30)]) hE 3 (c_X8_isIn G x (nI 0) (nI 100)) gX8_level_X8_isIn rfl rfl rfl (by decide +kernel) ⟨Nat.le_of_ble_eq_true rfl, Nat.le_of_ble_eq_true rfl⟩ rfl rfl dX8_level_37 rfl (Nat.le_of_ble_eq_true rfl) ⟨Nat.le_of_ble_eq_true rfl, Nat.le_of_ble_eq_true rfl⟩ (fun v h9 hp => ?_)
        obtain ⟨rfl, rfl⟩ := hp
        refine x_if_eq (tgt := 47) hE dX8_level_40 (by decide) (fun c40 => ?_) (fun c40 => ?_)
        · have q40 : (inI x 0 100) = false := b2i_0.mp c40
          clear c40
          refine x_iconst (v := nI 2) hE dX8_level_47 (by decide) ?_
          refine x_callV (ci := 8) (st := []) hE 1 (c_X8_can G hM (nI 2)) gX8_level_X8_can rfl rfl rfl (by decide +kernel) ⟨Nat.le_of_ble_eq_true rfl, Nat.le_of_ble_eq_true rfl⟩ hM.o rfl rfl rfl dX8_level_48 rfl (Nat.le_of_ble_eq_true rfl) ⟨Nat.le_of_ble_eq_true rfl, Nat.le_of_ble_eq_true rfl⟩ (fun v hc10 hp => ?_)
          obtain ⟨rfl, hMc9⟩ := hp
          refine x_ieq (y := nI 0) (by decide) ?_
          generalize hssc11 : upd sc 28 (nI 2) = sc11 at hMc9
          have hMS12 : mS S gn sc11 R := by rw [← hssc11]; exact hMS.can _
          have e28 : sc11 28 = nI 2 := by rw [← hssc11]; exact upd_at _ _ _
          refine x_if_ne (tgt := 56) hE dX8_level_51 (by decide) (fun c51 => ?_) (fun c51 => ?_)
          · exact absurd c51 (by decide)
          · refine x_iconst (v := nI 0) hE dX8_level_54 (by decide) ?_
            exact x_iret hE dX8_level_55 (mP.no (by unfold fLevel; simp [*]) (by decide) hMc9 hMS12 e28 (Nat.le_refl _))
        · have q40 : (inI x 0 100) = true := b2i_n0.mp c40
          clear c40
          refine x_iconst (v := nI 0) hE dX8_level_43 (by decide) ?_
          refine x_goto (tgt := 48) hE dX8_level_44 (by decide) ?_
          refine x_callV (ci := 8) (st := []) hE 1 (c_X8_can G hM (nI 0)) gX8_level_X8_can rfl rfl rfl (by decide +kernel) ⟨Nat.le_of_ble_eq_true rfl, Nat.le_of_ble_eq_true rfl⟩ hM.o rfl rfl rfl dX8_level_48 rfl (Nat.le_of_ble_eq_true rfl) ⟨Nat.le_of_ble_eq_true rfl, Nat.le_of_ble_eq_true rfl⟩ (fun v hc14 hp => ?_)
          obtain ⟨rfl, hMc13⟩ := hp
          refine x_ieq (y := nI 1) (by decide) ?_
          generalize hssc15 : upd sc 28 (nI 0) = sc15 at hMc13
          have hMS16 : mS S gn sc15 R := by rw [← hssc15]; exact hMS.can _
          have e28 : sc15 28 = nI 0 := by rw [← hssc15]; exact upd_at _ _ _
          refine x_if_ne (tgt := 56) hE dX8_level_51 (by decide) (fun c51 => ?_) (fun c51 => ?_)
          · obtain ⟨k, hk, rfl⟩ := isN_t (by omega) q5
            have ek : (nI k).toNatClampNeg = k := nI_clamp (by omega)
            rw [ek]
            obtain ⟨j, hj, rfl⟩ := isN_t (by omega) q13
            have ej : (nI j).toNatClampNeg = j := nI_clamp (by omega)
            rw [ej]
            refine x_aload_n hE dX8_level_56 rfl rfl ?_
            refine x_get hE hinX8 hMc13.o rfl 14 (by decide) (List.mem_of_getElem? (i := 1) rfl) rfl dX8_level_57 ?_
            refine x_bipush (v := nI 16) hE dX8_level_60 (by decide) ?_
            refine x_iload_n hE dX8_level_62 rfl ?_
            refine x_imul hE dX8_level_63 ?_
            refine x_ieq (y := nI (16 * k)) (pk_mul 16 k) ?_
            refine x_iload_n hE dX8_level_64 rfl ?_
            refine x_iadd hE dX8_level_65 ?_
            refine x_ieq (y := nI (16 * k + j)) (nI_add _ _) ?_
            refine x_iald (v := s_ar S 14 (16 * k + j)) hE hMc13.a14 (vp_in_nI (by omega) (by decide)) ((x_atN _ (by omega)).trans (congrFun (hMS16.1.2.2.2.2.2.2.1 14 (by decide)) (16 * k + j))) dX8_level_66 ?_
            refine x_istore (L' := [some (.ref (ma 30)), some (.int (nI k)), some (.int (nI j)), some (.int x), some (.int (nI 1)), some (.int (s_ar S 14 (16 * k + j)))]) hE dX8_level_67 (Nat.le_of_ble_eq_true rfl) rfl ?_
            refine x_aload_n hE dX8_level_69 rfl rfl ?_
            refine x_get hE hinX8 hMc13.o rfl 14 (by decide) (List.mem_of_getElem? (i := 1) rfl) rfl dX8_level_70 ?_
            refine x_bipush (v := nI 16) hE dX8_level_73 (by decide) ?_
            refine x_iload_n hE dX8_level_75 rfl ?_
            refine x_imul hE dX8_level_76 ?_
            refine x_ieq (y := nI (16 * k)) (pk_mul 16 k) ?_
            refine x_iload_n hE dX8_level_77 rfl ?_
            refine x_iadd hE dX8_level_78 ?_
            refine x_ieq (y := nI (16 * k + j)) (nI_add _ _) ?_
            refine x_iload_n hE dX8_level_79 rfl ?_
            refine x_iast (f' := (upd (R 14) (16 * k + j) x)) hE hMc13.a14 (vp_in_nI (by omega) (by decide)) (x_updN _ (by omega) _) dX8_level_80 ?_
            generalize hhh17 : x_up hc14 (ma 14) (.inl (g_c G 0, 192, .inl (upd (R 14) (16 * k + j) x))) = h17
            have hM18 : mM G ma ow sc15 (set2 R 14 (16 * k + j) x) h17 := by rw [← hhh17]; exact hMc13.set (k := 14) (by decide) _
            refine x_iload hE dX8_level_81 rfl ?_
            exact x_iret hE dX8_level_83 (mP.ok (by unfold fLevel; rw [if_pos ⟨q5, q13⟩, if_pos q40]) rfl hM18 (mS.up hMS16 rfl rfl rfl hMS16.1.1 hMS16.1.2.1 hMS16.1.2.2.1 hMS16.1.2.2.2.1 rfl rfl hMS16.1.2.2.2.2.2.1 (hMS16.1.2.2.2.2.2.2.1.set2 14 _ _) (fun k hk => by rcases (show k = 17 ∨ k = 18 ∨ k = 19 ∨ k = 20 ∨ k = 23 ∨ k = 24 by simpa using hk) with rfl | rfl | rfl | rfl | rfl | rfl <;> simp [set2])) e28 (Nat.le_refl _))
          · exact absurd c51 (by decide)
      · exact absurd c26 (by decide)

set_option maxHeartbeats 4000000 in
set_option maxRecDepth 100000 in
theorem c_X8_follow (G : XG) {ma ow : Nat → Nat} {sc : Nat → Int32} {R : Nat → Nat → Int32} {h : HM} (hM : mM G ma ow sc R h) {S : PS} {gn : Nat} (hMS : mS S gn sc R) (hI : mI S) (c o t : Int32) : x_M G yX8_follow wsX8_follow ({ frames := 2, cells := 0, slots := 0, locals := 43 } : Room) [.ref (ma 30), .int c, .int o, .int t] h (mP G ma ow (fFollow S c o t) (s_ar S 15 c.toNatClampNeg) (iff0 (fFollow S c o t) (followP c.toNatClampNeg o t S) S) (gn)) 0 0 := by
  refine x_M.of (cc := cX8_follow) (maxL := 6) (ret := (some .int)) (ent := [some (.ref (ma 30)), some (.int c), some (.int o), some (.int t), none, none]) (by decide +kernel) rfl (Nat.le_of_ble_eq_true rfl) rfl rfl ?_
  intro F hE hname
  have hinX8 : ∀ w ∈ wsX80, w ∈ wsX8_follow := by decide +kernel
  have hL16 : s_L S ≤ 16 := hI.2.1
  have hC12 : s_C S ≤ 12 := hI.1.2.2.1
  refine x_aload_n hE dX8_follow_0 rfl rfl ?_
  refine x_iload_n hE dX8_follow_1 rfl ?_
  refine x_callV (ci := 8) (st := []) hE 1 (c_X8_isCue G hM hMS.1.2.2.2.1 (by omega) c) gX8_follow_X8_isCue rfl rfl rfl (by decide +kernel) ⟨Nat.le_of_ble_eq_true rfl, Nat.le_of_ble_eq_true rfl⟩ hM.o rfl rfl rfl dX8_follow_2 rfl (Nat.le_of_ble_eq_true rfl) ⟨Nat.le_of_ble_eq_true rfl, Nat.le_of_ble_eq_true rfl⟩ (fun v h9 hp => ?_)
  obtain ⟨rfl, rfl⟩ := hp
  refine x_if_eq (tgt := 25) hE dX8_follow_5 (by decide) (fun c5 => ?_) (fun c5 => ?_)
  · have q5 : (isN c (s_C S)) = false := b2i_0.mp c5
    clear c5
    refine x_iconst (v := nI 0) hE dX8_follow_25 (by decide) ?_
    refine x_istore (L' := [some (.ref (ma 30)), some (.int c), some (.int o), some (.int t), some (.int (nI 0)), none]) hE dX8_follow_26 (Nat.le_of_ble_eq_true rfl) rfl ?_
    refine x_aload_n hE dX8_follow_28 rfl rfl ?_
    refine x_iload hE dX8_follow_29 rfl ?_
    refine x_if_ne (tgt := 38) hE dX8_follow_31 (by decide) (fun c31 => ?_) (fun c31 => ?_)
    · exact absurd c31 (by decide)
    · refine x_iconst (v := nI 1) hE dX8_follow_34 (by decide) ?_
      refine x_goto (tgt := 53) hE dX8_follow_35 (by decide) ?_
      refine x_callV (ci := 8) (st := []) hE 1 (c_X8_can G hM (nI 1)) gX8_follow_X8_can rfl rfl rfl (by decide +kernel) ⟨Nat.le_of_ble_eq_true rfl, Nat.le_of_ble_eq_true rfl⟩ hM.o rfl rfl rfl dX8_follow_53 rfl (Nat.le_of_ble_eq_true rfl) ⟨Nat.le_of_ble_eq_true rfl, Nat.le_of_ble_eq_true rfl⟩ (fun v hc2 hp => ?_)
      obtain ⟨rfl, hMc1⟩ := hp
      refine x_ieq (y := nI 0) (by decide) ?_
      generalize hssc3 : upd sc 28 (nI 1) = sc3 at hMc1
      have hMS4 : mS S gn sc3 R := by rw [← hssc3]; exact hMS.can _
      have e28 : sc3 28 = nI 1 := by rw [← hssc3]; exact upd_at _ _ _
      refine x_if_ne (tgt := 61) hE dX8_follow_56 (by decide) (fun c56 => ?_) (fun c56 => ?_)
      · exact absurd c56 (by decide)
      · refine x_iconst (v := nI 0) hE dX8_follow_59 (by decide) ?_
        exact x_iret hE dX8_follow_60 (mP.no (by unfold fFollow; simp [*]) (by decide) hMc1 hMS4 e28 (Nat.le_refl _))
  · have q5 : (isN c (s_C S)) = true := b2i_n0.mp c5
    clear c5
    refine x_iload_n hE dX8_follow_8 rfl ?_
    refine x_iconst (v := (-1 : Int32)) hE dX8_follow_9 (by decide) ?_
    refine x_ieq (y := (-1)) (rfl) ?_
    refine x_icmp_eq (tgt := 21) hE dX8_follow_10 (by decide) (fun c10 => ?_) (fun c10 => ?_)
    · have ho : isN o (s_C S) = true ∨ o = -1 := Or.inr c10
      refine x_iconst (v := nI 1) hE dX8_follow_21 (by decide) ?_
      refine x_goto (tgt := 26) hE dX8_follow_22 (by decide) ?_
      refine x_istore (L' := [some (.ref (ma 30)), some (.int c), some (.int o), some (.int t), some (.int (nI 1)), none]) hE dX8_follow_26 (Nat.le_of_ble_eq_true rfl) rfl ?_
      refine x_aload_n hE dX8_follow_28 rfl rfl ?_
      refine x_iload hE dX8_follow_29 rfl ?_
      refine x_if_ne (tgt := 38) hE dX8_follow_31 (by decide) (fun c31 => ?_) (fun c31 => ?_)
      · refine x_iload_n hE dX8_follow_38 rfl ?_
        refine x_iconst (v := nI 1) hE dX8_follow_39 (by decide) ?_
        refine x_bipush (v := nI 60) hE dX8_follow_40 (by decide) ?_
        refine x_callS (st := [.ref (ma 30)]) hE 3 (c_X8_isIn G t (nI 1) (nI 60)) gX8_follow_X8_isIn rfl rfl rfl (by decide +kernel) ⟨Nat.le_of_ble_eq_true rfl, Nat.le_of_ble_eq_true rfl⟩ rfl rfl dX8_follow_42 rfl (Nat.le_of_ble_eq_true rfl) ⟨Nat.le_of_ble_eq_true rfl, Nat.le_of_ble_eq_true rfl⟩ (fun v h9 hp => ?_)
        obtain ⟨rfl, rfl⟩ := hp
        refine x_if_eq (tgt := 52) hE dX8_follow_45 (by decide) (fun c45 => ?_) (fun c45 => ?_)
        · have q45 : (inI t 1 60) = false := b2i_0.mp c45
          clear c45
          refine x_iconst (v := nI 2) hE dX8_follow_52 (by decide) ?_
          refine x_callV (ci := 8) (st := []) hE 1 (c_X8_can G hM (nI 2)) gX8_follow_X8_can rfl rfl rfl (by decide +kernel) ⟨Nat.le_of_ble_eq_true rfl, Nat.le_of_ble_eq_true rfl⟩ hM.o rfl rfl rfl dX8_follow_53 rfl (Nat.le_of_ble_eq_true rfl) ⟨Nat.le_of_ble_eq_true rfl, Nat.le_of_ble_eq_true rfl⟩ (fun v hc6 hp => ?_)
          obtain ⟨rfl, hMc5⟩ := hp
          refine x_ieq (y := nI 0) (by decide) ?_
          generalize hssc7 : upd sc 28 (nI 2) = sc7 at hMc5
          have hMS8 : mS S gn sc7 R := by rw [← hssc7]; exact hMS.can _
          have e28 : sc7 28 = nI 2 := by rw [← hssc7]; exact upd_at _ _ _
          refine x_if_ne (tgt := 61) hE dX8_follow_56 (by decide) (fun c56 => ?_) (fun c56 => ?_)
          · exact absurd c56 (by decide)
          · refine x_iconst (v := nI 0) hE dX8_follow_59 (by decide) ?_
            exact x_iret hE dX8_follow_60 (mP.no (by unfold fFollow; simp [*]) (by decide) hMc5 hMS8 e28 (Nat.le_refl _))
        · have q45 : (inI t 1 60) = true := b2i_n0.mp c45
          clear c45
          refine x_iconst (v := nI 0) hE dX8_follow_48 (by decide) ?_
          refine x_goto (tgt := 53) hE dX8_follow_49 (by decide) ?_
          refine x_callV (ci := 8) (st := []) hE 1 (c_X8_can G hM (nI 0)) gX8_follow_X8_can rfl rfl rfl (by decide +kernel) ⟨Nat.le_of_ble_eq_true rfl, Nat.le_of_ble_eq_true rfl⟩ hM.o rfl rfl rfl dX8_follow_53 rfl (Nat.le_of_ble_eq_true rfl) ⟨Nat.le_of_ble_eq_true rfl, Nat.le_of_ble_eq_true rfl⟩ (fun v hc10 hp => ?_)
          obtain ⟨rfl, hMc9⟩ := hp
          refine x_ieq (y := nI 1) (by decide) ?_
          generalize hssc11 : upd sc 28 (nI 0) = sc11 at hMc9
          have hMS12 : mS S gn sc11 R := by rw [← hssc11]; exact hMS.can _
          have e28 : sc11 28 = nI 0 := by rw [← hssc11]; exact upd_at _ _ _
          refine x_if_ne (tgt := 61) hE dX8_follow_56 (by decide) (fun c56 => ?_) (fun c56 => ?_)
          · obtain ⟨k, hk, rfl⟩ := isN_t (by omega) q5
            have ek : (nI k).toNatClampNeg = k := nI_clamp (by omega)
            rw [ek]
            refine x_aload_n hE dX8_follow_61 rfl rfl ?_
            refine x_get hE hinX8 hMc9.o rfl 15 (by decide) (List.mem_of_getElem? (i := 1) rfl) rfl dX8_follow_62 ?_
            refine x_iload_n hE dX8_follow_65 rfl ?_
            refine x_iald (v := s_ar S 15 k) hE hMc9.a15 (vp_in_nI (by omega) (by decide)) ((x_atN _ (by omega)).trans (congrFun (hMS12.1.2.2.2.2.2.2.1 15 (by decide)) k)) dX8_follow_66 ?_
            refine x_istore (L' := [some (.ref (ma 30)), some (.int (nI k)), some (.int o), some (.int t), some (.int (nI 1)), some (.int (s_ar S 15 k))]) hE dX8_follow_67 (Nat.le_of_ble_eq_true rfl) rfl ?_
            refine x_aload_n hE dX8_follow_69 rfl rfl ?_
            refine x_get hE hinX8 hMc9.o rfl 15 (by decide) (List.mem_of_getElem? (i := 1) rfl) rfl dX8_follow_70 ?_
            refine x_iload_n hE dX8_follow_73 rfl ?_
            refine x_iload_n hE dX8_follow_74 rfl ?_
            refine x_iast (f' := (upd (R 15) k o)) hE hMc9.a15 (vp_in_nI (by omega) (by decide)) (x_updN _ (by omega) _) dX8_follow_75 ?_
            generalize hhh13 : x_up hc10 (ma 15) (.inl (g_c G 0, 12, .inl (upd (R 15) k o))) = h13
            have hM14 : mM G ma ow sc11 (set2 R 15 k o) h13 := by rw [← hhh13]; exact hMc9.set (k := 15) (by decide) _
            refine x_aload_n hE dX8_follow_76 rfl rfl ?_
            refine x_get hE hinX8 hM14.o rfl 16 (by decide) (List.mem_of_getElem? (i := 2) rfl) rfl dX8_follow_77 ?_
            refine x_iload_n hE dX8_follow_80 rfl ?_
            refine x_iload_n hE dX8_follow_81 rfl ?_
            refine x_iast (f' := (upd ((set2 R 15 k o) 16) k t)) hE hM14.a16 (vp_in_nI (by omega) (by decide)) (x_updN _ (by omega) _) dX8_follow_82 ?_
            generalize hhh15 : x_up h13 (ma 16) (.inl (g_c G 0, 12, .inl (upd ((set2 R 15 k o) 16) k t))) = h15
            have hM16 : mM G ma ow sc11 (set2 (set2 R 15 k o) 16 k t) h15 := by rw [← hhh15]; exact hM14.set (k := 16) (by decide) _
            refine x_iload hE dX8_follow_83 rfl ?_
            exact x_iret hE dX8_follow_85 (mP.ok (by unfold fFollow; rw [if_pos ⟨q5, ho⟩, if_pos q45]) rfl hM16 (mS.up hMS12 rfl rfl rfl hMS12.1.1 hMS12.1.2.1 hMS12.1.2.2.1 hMS12.1.2.2.2.1 rfl rfl hMS12.1.2.2.2.2.2.1 ((hMS12.1.2.2.2.2.2.2.1.set2 15 _ _).set2 16 _ _) (fun k hk => by rcases (show k = 17 ∨ k = 18 ∨ k = 19 ∨ k = 20 ∨ k = 23 ∨ k = 24 by simpa using hk) with rfl | rfl | rfl | rfl | rfl | rfl <;> simp [set2])) e28 (Nat.le_refl _))
          · exact absurd c56 (by decide)
      · exact absurd c31 (by decide)
    · refine x_aload_n hE dX8_follow_13 rfl rfl ?_
      refine x_iload_n hE dX8_follow_14 rfl ?_
      refine x_callV (ci := 8) (st := []) hE 1 (c_X8_isCue G hM hMS.1.2.2.2.1 (by omega) o) gX8_follow_X8_isCue rfl rfl rfl (by decide +kernel) ⟨Nat.le_of_ble_eq_true rfl, Nat.le_of_ble_eq_true rfl⟩ hM.o rfl rfl rfl dX8_follow_15 rfl (Nat.le_of_ble_eq_true rfl) ⟨Nat.le_of_ble_eq_true rfl, Nat.le_of_ble_eq_true rfl⟩ (fun v h9 hp => ?_)
      obtain ⟨rfl, rfl⟩ := hp
      refine x_if_eq (tgt := 25) hE dX8_follow_18 (by decide) (fun c18 => ?_) (fun c18 => ?_)
      · have q18 : isN o (s_C S) = false := b2i_0.mp c18
        have ho : ¬ (isN o (s_C S) = true ∨ o = -1) := fun z => z.elim (fun a => by rw [q18] at a; cases a) c10
        refine x_iconst (v := nI 0) hE dX8_follow_25 (by decide) ?_
        refine x_istore (L' := [some (.ref (ma 30)), some (.int c), some (.int o), some (.int t), some (.int (nI 0)), none]) hE dX8_follow_26 (Nat.le_of_ble_eq_true rfl) rfl ?_
        refine x_aload_n hE dX8_follow_28 rfl rfl ?_
        refine x_iload hE dX8_follow_29 rfl ?_
        refine x_if_ne (tgt := 38) hE dX8_follow_31 (by decide) (fun c31 => ?_) (fun c31 => ?_)
        · exact absurd c31 (by decide)
        · refine x_iconst (v := nI 1) hE dX8_follow_34 (by decide) ?_
          refine x_goto (tgt := 53) hE dX8_follow_35 (by decide) ?_
          refine x_callV (ci := 8) (st := []) hE 1 (c_X8_can G hM (nI 1)) gX8_follow_X8_can rfl rfl rfl (by decide +kernel) ⟨Nat.le_of_ble_eq_true rfl, Nat.le_of_ble_eq_true rfl⟩ hM.o rfl rfl rfl dX8_follow_53 rfl (Nat.le_of_ble_eq_true rfl) ⟨Nat.le_of_ble_eq_true rfl, Nat.le_of_ble_eq_true rfl⟩ (fun v hc18 hp => ?_)
          obtain ⟨rfl, hMc17⟩ := hp
          refine x_ieq (y := nI 0) (by decide) ?_
          generalize hssc19 : upd sc 28 (nI 1) = sc19 at hMc17
          have hMS20 : mS S gn sc19 R := by rw [← hssc19]; exact hMS.can _
          have e28 : sc19 28 = nI 1 := by rw [← hssc19]; exact upd_at _ _ _
          refine x_if_ne (tgt := 61) hE dX8_follow_56 (by decide) (fun c56 => ?_) (fun c56 => ?_)
          · exact absurd c56 (by decide)
          · refine x_iconst (v := nI 0) hE dX8_follow_59 (by decide) ?_
            exact x_iret hE dX8_follow_60 (mP.no (by unfold fFollow; simp [*]) (by decide) hMc17 hMS20 e28 (Nat.le_refl _))
      · have q18 : isN o (s_C S) = true := b2i_n0.mp c18
        have ho : isN o (s_C S) = true ∨ o = -1 := Or.inl q18
        refine x_iconst (v := nI 1) hE dX8_follow_21 (by decide) ?_
        refine x_goto (tgt := 26) hE dX8_follow_22 (by decide) ?_
        refine x_istore (L' := [some (.ref (ma 30)), some (.int c), some (.int o), some (.int t), some (.int (nI 1)), none]) hE dX8_follow_26 (Nat.le_of_ble_eq_true rfl) rfl ?_
        refine x_aload_n hE dX8_follow_28 rfl rfl ?_
        refine x_iload hE dX8_follow_29 rfl ?_
        refine x_if_ne (tgt := 38) hE dX8_follow_31 (by decide) (fun c31 => ?_) (fun c31 => ?_)
        · refine x_iload_n hE dX8_follow_38 rfl ?_
          refine x_iconst (v := nI 1) hE dX8_follow_39 (by decide) ?_
          refine x_bipush (v := nI 60) hE dX8_follow_40 (by decide) ?_
          refine x_callS (st := [.ref (ma 30)]) hE 3 (c_X8_isIn G t (nI 1) (nI 60)) gX8_follow_X8_isIn rfl rfl rfl (by decide +kernel) ⟨Nat.le_of_ble_eq_true rfl, Nat.le_of_ble_eq_true rfl⟩ rfl rfl dX8_follow_42 rfl (Nat.le_of_ble_eq_true rfl) ⟨Nat.le_of_ble_eq_true rfl, Nat.le_of_ble_eq_true rfl⟩ (fun v h9 hp => ?_)
          obtain ⟨rfl, rfl⟩ := hp
          refine x_if_eq (tgt := 52) hE dX8_follow_45 (by decide) (fun c45 => ?_) (fun c45 => ?_)
          · have q45 : (inI t 1 60) = false := b2i_0.mp c45
            clear c45
            refine x_iconst (v := nI 2) hE dX8_follow_52 (by decide) ?_
            refine x_callV (ci := 8) (st := []) hE 1 (c_X8_can G hM (nI 2)) gX8_follow_X8_can rfl rfl rfl (by decide +kernel) ⟨Nat.le_of_ble_eq_true rfl, Nat.le_of_ble_eq_true rfl⟩ hM.o rfl rfl rfl dX8_follow_53 rfl (Nat.le_of_ble_eq_true rfl) ⟨Nat.le_of_ble_eq_true rfl, Nat.le_of_ble_eq_true rfl⟩ (fun v hc22 hp => ?_)
            obtain ⟨rfl, hMc21⟩ := hp
            refine x_ieq (y := nI 0) (by decide) ?_
            generalize hssc23 : upd sc 28 (nI 2) = sc23 at hMc21
            have hMS24 : mS S gn sc23 R := by rw [← hssc23]; exact hMS.can _
            have e28 : sc23 28 = nI 2 := by rw [← hssc23]; exact upd_at _ _ _
            refine x_if_ne (tgt := 61) hE dX8_follow_56 (by decide) (fun c56 => ?_) (fun c56 => ?_)
            · exact absurd c56 (by decide)
            · refine x_iconst (v := nI 0) hE dX8_follow_59 (by decide) ?_
              exact x_iret hE dX8_follow_60 (mP.no (by unfold fFollow; simp [*]) (by decide) hMc21 hMS24 e28 (Nat.le_refl _))
          · have q45 : (inI t 1 60) = true := b2i_n0.mp c45
            clear c45
            refine x_iconst (v := nI 0) hE dX8_follow_48 (by decide) ?_
            refine x_goto (tgt := 53) hE dX8_follow_49 (by decide) ?_
            refine x_callV (ci := 8) (st := []) hE 1 (c_X8_can G hM (nI 0)) gX8_follow_X8_can rfl rfl rfl (by decide +kernel) ⟨Nat.le_of_ble_eq_true rfl, Nat.le_of_ble_eq_true rfl⟩ hM.o rfl rfl rfl dX8_follow_53 rfl (Nat.le_of_ble_eq_true rfl) ⟨Nat.le_of_ble_eq_true rfl, Nat.le_of_ble_eq_true rfl⟩ (fun v hc26 hp => ?_)
            obtain ⟨rfl, hMc25⟩ := hp
            refine x_ieq (y := nI 1) (by decide) ?_
            generalize hssc27 : upd sc 28 (nI 0) = sc27 at hMc25
            have hMS28 : mS S gn sc27 R := by rw [← hssc27]; exact hMS.can _
            have e28 : sc27 28 = nI 0 := by rw [← hssc27]; exact upd_at _ _ _
            refine x_if_ne (tgt := 61) hE dX8_follow_56 (by decide) (fun c56 => ?_) (fun c56 => ?_)
            · obtain ⟨k, hk, rfl⟩ := isN_t (by omega) q5
              have ek : (nI k).toNatClampNeg = k := nI_clamp (by omega)
              rw [ek]
              refine x_aload_n hE dX8_follow_61 rfl rfl ?_
              refine x_get hE hinX8 hMc25.o rfl 15 (by decide) (List.mem_of_getElem? (i := 1) rfl) rfl dX8_follow_62 ?_
              refine x_iload_n hE dX8_follow_65 rfl ?_
              refine x_iald (v := s_ar S 15 k) hE hMc25.a15 (vp_in_nI (by omega) (by decide)) ((x_atN _ (by omega)).trans (congrFun (hMS28.1.2.2.2.2.2.2.1 15 (by decide)) k)) dX8_follow_66 ?_
              refine x_istore (L' := [some (.ref (ma 30)), some (.int (nI k)), some (.int o), some (.int t), some (.int (nI 1)), some (.int (s_ar S 15 k))]) hE dX8_follow_67 (Nat.le_of_ble_eq_true rfl) rfl ?_
              refine x_aload_n hE dX8_follow_69 rfl rfl ?_
              refine x_get hE hinX8 hMc25.o rfl 15 (by decide) (List.mem_of_getElem? (i := 1) rfl) rfl dX8_follow_70 ?_
              refine x_iload_n hE dX8_follow_73 rfl ?_
              refine x_iload_n hE dX8_follow_74 rfl ?_
              refine x_iast (f' := (upd (R 15) k o)) hE hMc25.a15 (vp_in_nI (by omega) (by decide)) (x_updN _ (by omega) _) dX8_follow_75 ?_
              generalize hhh29 : x_up hc26 (ma 15) (.inl (g_c G 0, 12, .inl (upd (R 15) k o))) = h29
              have hM30 : mM G ma ow sc27 (set2 R 15 k o) h29 := by rw [← hhh29]; exact hMc25.set (k := 15) (by decide) _
              refine x_aload_n hE dX8_follow_76 rfl rfl ?_
              refine x_get hE hinX8 hM30.o rfl 16 (by decide) (List.mem_of_getElem? (i := 2) rfl) rfl dX8_follow_77 ?_
              refine x_iload_n hE dX8_follow_80 rfl ?_
              refine x_iload_n hE dX8_follow_81 rfl ?_
              refine x_iast (f' := (upd ((set2 R 15 k o) 16) k t)) hE hM30.a16 (vp_in_nI (by omega) (by decide)) (x_updN _ (by omega) _) dX8_follow_82 ?_
              generalize hhh31 : x_up h29 (ma 16) (.inl (g_c G 0, 12, .inl (upd ((set2 R 15 k o) 16) k t))) = h31
              have hM32 : mM G ma ow sc27 (set2 (set2 R 15 k o) 16 k t) h31 := by rw [← hhh31]; exact hM30.set (k := 16) (by decide) _
              refine x_iload hE dX8_follow_83 rfl ?_
              exact x_iret hE dX8_follow_85 (mP.ok (by unfold fFollow; rw [if_pos ⟨q5, ho⟩, if_pos q45]) rfl hM32 (mS.up hMS28 rfl rfl rfl hMS28.1.1 hMS28.1.2.1 hMS28.1.2.2.1 hMS28.1.2.2.2.1 rfl rfl hMS28.1.2.2.2.2.2.1 ((hMS28.1.2.2.2.2.2.2.1.set2 15 _ _).set2 16 _ _) (fun k hk => by rcases (show k = 17 ∨ k = 18 ∨ k = 19 ∨ k = 20 ∨ k = 23 ∨ k = 24 by simpa using hk) with rfl | rfl | rfl | rfl | rfl | rfl <;> simp [set2])) e28 (Nat.le_refl _))
            · exact absurd c56 (by decide)
        · exact absurd c31 (by decide)
