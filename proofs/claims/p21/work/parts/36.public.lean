def fPower (ph wa : Int32) : Nat := if inI ph 0 2 = true then (if inI wa 0 20000 = true then 0 else 2) else 1
def set2 (ar : Nat → Nat → Int32) (r i : Nat) (x : Int32) : Nat → Nat → Int32 := fun k => if k = r then upd (ar r) i x else ar k
def powerP (ph wa : Int32) (S : PS) : PS := (set2 (s_ar S) 9 ph.toNatClampNeg wa, s_L S, s_B S, s_C S, s_t S, s_b S, s_G S, s_N S, s_H S, s_n S)
theorem set2_ne {ar : Nat → Nat → Int32} {r i k : Nat} {x : Int32} (h : k ≠ r) : set2 ar r i x k = ar k := by unfold set2; rw [if_neg h]
theorem set2_at {ar : Nat → Nat → Int32} {r i : Nat} {x : Int32} : set2 ar r i x r = upd (ar r) i x := by unfold set2; rw [if_pos rfl]
/-- what a cue's rows hang on -/
def sameL (ar ar' : Nat → Nat → Int32) : Prop := ar' 2 = ar 2 ∧ ar' 3 = ar 3 ∧ ar' 4 = ar 4 ∧ ar' 7 = ar 7
theorem arrF_same {ar ar' : Nat → Nat → Int32} (h : sameL ar ar') (L : Nat) (B : Int32) (told : Nat → Int32) : ∀ n, arrF L ar' B told n = arrF L ar B told n
  | 0 => rfl
  | n + 1 => by
    obtain ⟨h2, h3, h4, h7⟩ := h
    have ih := arrF_same (ar := ar) (ar' := ar') ⟨h2, h3, h4, h7⟩ L B told n
    have hc : ∀ lvl m, candS L ar' B told lvl m = candS L ar B told lvl m := fun lvl m => by funext k; unfold candS; rw [h2, h4, h7]
    have hd : ∀ m, distS ar' m = distS ar m := fun m => by funext k; unfold distS; rw [h2, h3]
    have hn : ∀ lvl m, nearS L ar' B told lvl m = nearS L ar B told lvl m := fun lvl m => by unfold nearS; rw [hc, hd]
    simp only [arrF, ih, h2, h7, hn]
theorem powF_set {ar : Nat → Nat → Int32} {k : Nat} {x : Int32} (hk : k < 3) : upd (powF ar) k x = powF (set2 ar 9 k x) := by
  funext j
  unfold powF
  rw [set2_at]
  unfold upd
  by_cases e : j = k
  · subst e
    simp only [if_true]
    rw [if_pos hk]
  · simp only [if_neg e]

theorem sameP {ar : Nat → Nat → Int32} (k : Nat) (wa : Int32) : sameL ar (set2 ar 9 k wa) := ⟨set2_ne (by decide), set2_ne (by decide), set2_ne (by decide), set2_ne (by decide)⟩
theorem riW.same {G : XG} {ad : Nat → Nat} {ar ar' : Nat → Nat → Int32} {L : Nat} {B : Int32} {h : HM} (hs : sameL ar ar') (h5 : ar' 5 = ar 5) (h6 : ar' 6 = ar 6) (hR : riW G ad ar L B h) : riW G ad ar' L B h := by
  obtain ⟨h2, h3, h4, h7⟩ := hs
  refine ⟨hR.1, hR.2.1, hR.2.2.1, fun i hi => ?_⟩
  have := hR.2.2.2 i hi
  unfold lampE at this ⊢
  rw [h2, h3, h4, h5, h6, h7]
  exact this
theorem cuE0.same {G : XG} {ad : Nat → Nat} {ar ar' : Nat → Nat → Int32} {i : Nat} {sf vf : Nat → Int32} {h : HM} (e : ar' 11 i = ar 11 i ∧ ar' 12 i = ar 12 i ∧ ar' 13 i = ar 13 i ∧ toldF ar' i = toldF ar i ∧ ar' 15 i = ar 15 i ∧ ar' 16 i = ar 16 i) (hE : cuE0 G ad ar i sf vf h) : cuE0 G ad ar' i sf vf h := by
  obtain ⟨e1, e2, e3, e4, e5, e6⟩ := e
  unfold cuE0 at hE ⊢
  rw [e1, e2, e3, e4, e5, e6]
  exact hE
theorem cuW.same {G : XG} {ad : Nat → Nat} {ar ar' : Nat → Nat → Int32} {L C : Nat} {B : Int32} {h : HM} (hs : sameL ar ar') (he : ∀ i, i < C → ar' 11 i = ar 11 i ∧ ar' 12 i = ar 12 i ∧ ar' 13 i = ar 13 i ∧ toldF ar' i = toldF ar i ∧ ar' 15 i = ar 15 i ∧ ar' 16 i = ar 16 i) (hC : cuW G ad ar L B C h) : cuW G ad ar' L B C h := by
  refine ⟨hC.1, hC.2.1, fun i hi => ?_⟩
  have h1 := cuE0.same (he i hi) (hC.2.2 i hi)
  unfold cuE
  rw [arrF_same hs, (he i hi).2.2.2.1]
  exact h1

set_option maxHeartbeats 4000000 in
set_option maxRecDepth 100000 in
theorem c_X7_power (G : XG) {ad ow : Nat → Nat} {eA : Nat} {A1 P1 : List Nat} {c1 : Nat → GC} {A2 P2 : List Nat} {c2 : Nat → GC} {RY : List Nat} {S : PS} {h : HM} (hW : cW G ad ow eA A1 P1 c1 A2 P2 c2 RY S h) (ph wa : Int32) : y_M G yX7_power wsX7_power ({ frames := 6, cells := 1, slots := 6, locals := 90 } : Room) [.ref (ad 0), .int ph, .int wa] h (fun v h' => fPower ph wa = 0 ∧ v = some (.int (s_ar S 9 ph.toNatClampNeg)) ∧ cW G ad ow eA A1 P1 c1 A2 P2 c2 RY (powerP ph wa S) h') (fun E => (fPower ph wa = 1 ∧ E = xIO) ∨ (fPower ph wa = 2 ∧ E = xIA)) 1 6 := by
  refine y_M.of (cc := cX7_power) (maxL := 4) (ret := (some .int)) (ent := [some (.ref (ad 0)), some (.int ph), some (.int wa), none]) (by decide +kernel) rfl (Nat.le_of_ble_eq_true rfl) rfl rfl ?_
  intro F hE hname hT hX
  have hinX7 : ∀ w ∈ wsX70, w ∈ wsX7_power := by decide +kernel
  obtain ⟨hB, hR, hC, hp, hl, hr, hw, hI, hO⟩ := hW
  refine x_iload_n hE dX7_power_0 rfl ?_
  refine x_callS (st := []) hE 1 (c_X7_isPhase G ph) gX7_power_X7_isPhase rfl rfl rfl (by decide +kernel) ⟨Nat.le_of_ble_eq_true rfl, Nat.le_of_ble_eq_true rfl⟩ rfl rfl dX7_power_1 rfl (Nat.le_of_ble_eq_true rfl) ⟨Nat.le_of_ble_eq_true rfl, Nat.le_of_ble_eq_true rfl⟩ (fun v h9 hp => ?_)
  obtain ⟨rfl, rfl⟩ := hp
  refine x_if_ne (tgt := 17) hE dX7_power_4 (by decide) (fun c4 => ?_) (fun c4 => ?_)
  · have q1 : inI ph 0 2 = true := b2i_n0.mp c4
    obtain ⟨k, -, hk, rfl⟩ := inI_is q1 (by decide) (by decide)
    have ek : (nI k).toNatClampNeg = k := nI_clamp (by omega)
    refine x_iload_n hE dX7_power_17 rfl ?_
    refine x_iconst (v := nI 0) hE dX7_power_18 (by decide) ?_
    refine x_sipush (v := nI 20000) hE dX7_power_19 (by decide) ?_
    refine x_callS (st := []) hE 3 (c_X7_isWithin G wa (nI 0) (nI 20000)) gX7_power_X7_isWithin rfl rfl rfl (by decide +kernel) ⟨Nat.le_of_ble_eq_true rfl, Nat.le_of_ble_eq_true rfl⟩ rfl rfl dX7_power_22 rfl (Nat.le_of_ble_eq_true rfl) ⟨Nat.le_of_ble_eq_true rfl, Nat.le_of_ble_eq_true rfl⟩ (fun v h9 hp => ?_)
    obtain ⟨rfl, rfl⟩ := hp
    refine x_if_ne (tgt := 38) hE dX7_power_25 (by decide) (fun c25 => ?_) (fun c25 => ?_)
    · have q2 : inI wa 0 20000 = true := b2i_n0.mp c25
      refine x_aload_n hE dX7_power_38 rfl rfl ?_
      refine x_get hE hinX7 hB rfl 2 (by decide) (List.mem_of_getElem? (i := 5) rfl) rfl dX7_power_39 ?_
      refine x_iload_n hE dX7_power_42 rfl ?_
      refine x_iald (v := s_ar S 9 k) hE hp (vp_in_nI (by omega) (by decide)) ((x_atN _ (by omega)).trans (if_pos (by omega))) dX7_power_43 ?_
      refine x_istore_n (L' := [some (.ref (ad 0)), some (.int (nI k)), some (.int wa), some (.int (s_ar S 9 k))]) hE dX7_power_44 rfl (Nat.le_of_ble_eq_true rfl) rfl ?_
      refine x_aload_n hE dX7_power_45 rfl rfl ?_
      refine x_get hE hinX7 hB rfl 2 (by decide) (List.mem_of_getElem? (i := 5) rfl) rfl dX7_power_46 ?_
      refine x_iload_n hE dX7_power_49 rfl ?_
      refine x_iload_n hE dX7_power_50 rfl ?_
      refine x_iast (f' := (powF (set2 (s_ar S) 9 k wa))) hE hp (vp_in_nI (by omega) (by decide)) ((x_updN _ (by omega) _).trans (powF_set (by omega))) dX7_power_51 ?_
      generalize hhh1 : x_up h (ad 4) (.inl (g_c G 0, 3, .inl (powF (set2 (s_ar S) 9 k wa)))) = h1
      have hc2 : h1 (ad 4) = some (.inl (g_c G 0, 3, .inl (powF (set2 (s_ar S) 9 k wa)))) := by rw [← hhh1]; exact x_up_eq _ _ _
      have hc3 : h1 (ad 0) = some (.inr (7, [.ref (ad 1), .ref (ad 3), .ref (ad 4), .ref (ad 5), .ref (ad 7), .ref (ad 9), .ref (ad 13), .int (nI (s_C S)), .int (nI (s_t S)), .int (nI (s_b S))])) := by rw [← hhh1, x_up_ne (adne hO (by decide : 0 < 14) (by decide : 4 < 14) (by decide))]; exact hB
      have f1 : frO ow [4] h h1 := by rw [← hhh1]; exact (x_fr.refl h).up (by show ow (ad 4) ∈ _; rw [hO.1 4 (by decide)]; decide)
      have hB1 := hB.fr hO f1 (by decide)
      have hR1 := hR.fr hO f1 (by decide) (by decide) (fun i hi => by intro z; simp at z <;> omega)
      have hC1 := hC.fr hO f1 (by decide) (fun i hi => by intro z; simp at z <;> omega)
      have hl1 := hl.fr hO f1 (by decide) (by decide) (by decide)
      have hr1 := hr.fr f1 (hO.1 7 (by decide)) (hO.1 8 (by decide)) hO.2.2.2.2.2 (by decide) (by decide) (by decide)
      have hw1 := hw.fr hO f1 (by decide) (by decide) (by decide) (by decide)
      have hI1 := hI.fr hO f1 (by decide) (by decide)
      refine x_iload_n hE dX7_power_52 rfl ?_
      refine x_widen (k := 1) (n := 6) (Nat.le_of_ble_eq_true rfl) (Nat.le_of_ble_eq_true rfl) ?_
      exact y_ret (x_iret hE dX7_power_53 (⟨by unfold fPower; rw [if_pos q1, if_pos q2], by rw [ek], by unfold cW powerP; rw [ek]; exact ⟨hB1, riW.same (sameP k wa) rfl rfl hR1, cuW.same (sameP k wa) (fun i _ => ⟨rfl, rfl, rfl, rfl, rfl, rfl⟩) hC1, hc2, hl1, hr1, hw1, hI1, hO⟩⟩))
    · exact y_IA hE hT hX (List.mem_of_getElem? (i := 3) rfl) (List.mem_of_getElem? (i := 3) rfl) (List.mem_of_getElem? (i := 4) rfl) (fun w hw => List.mem_cons_of_mem _ (List.mem_append_right _ hw)) rfl dX7_power_28 dX7_power_31 dX7_power_32 dX7_power_34 dX7_power_37 (Nat.le_of_ble_eq_true rfl) (Nat.le_of_ble_eq_true rfl) ⟨by decide, by decide⟩ ⟨by decide, by decide⟩ (Or.inr ⟨by unfold fPower; rw [if_pos q1, if_neg (by rw [show inI wa 0 20000 = false from b2i_0.mp c25]; decide)], rfl⟩)
  · exact y_IO hE hT hX (List.mem_of_getElem? (i := 2) rfl) (List.mem_of_getElem? (i := 1) rfl) (List.mem_of_getElem? (i := 2) rfl) (fun w hw => List.mem_cons_of_mem _ (List.mem_append_left _ (List.mem_append_right _ hw))) rfl dX7_power_7 dX7_power_10 dX7_power_11 dX7_power_13 dX7_power_16 (Nat.le_of_ble_eq_true rfl) (Nat.le_of_ble_eq_true rfl) ⟨by decide, by decide⟩ ⟨by decide, by decide⟩ (Or.inl ⟨by unfold fPower; rw [if_neg (by rw [show inI ph 0 2 = false from b2i_0.mp c4]; decide)], rfl⟩)
