set_option maxHeartbeats 4000000 in
set_option maxRecDepth 100000 in
theorem c_X7_shines (G : XG) {ad ow : Nat → Nat} {eA : Nat} {A1 P1 : List Nat} {c1 : Nat → GC} {A2 P2 : List Nat} {c2 : Nat → GC} {RY : List Nat} {S : PS} {h : HM} (hW : cW G ad ow eA A1 P1 c1 A2 P2 c2 RY S h) (c i : Int32) : y_M G yX7_shines wsX7_shines ({ frames := 6, cells := 1, slots := 6, locals := 90 } : Room) [.ref (ad 0), .int c, .int i] h (fun v h' => fShines S c i = 0 ∧ v = some (.int (shiP S c.toNatClampNeg i.toNatClampNeg)) ∧ cW G ad ow eA A1 P1 c1 A2 P2 c2 RY S h') (fun E => fShines S c i = 1 ∧ E = xIO) 1 6 := by
  refine y_M.of (cc := cX7_shines) (maxL := 4) (ret := (some .int)) (ent := [some (.ref (ad 0)), some (.int c), some (.int i), none]) (by decide +kernel) rfl (Nat.le_of_ble_eq_true rfl) rfl rfl ?_
  intro F hE hname hT hX
  have hinX7 : ∀ w ∈ wsX70, w ∈ wsX7_shines := by decide +kernel
  have hW0 := hW
  obtain ⟨hB, hR, hC, hp, hl, hr, hw, hI, hO⟩ := hW0
  refine x_aload_n hE dX7_shines_0 rfl rfl ?_
  refine x_iload_n hE dX7_shines_1 rfl ?_
  refine x_callV (ci := 7) (st := []) hE 1 (c_X7_cueAt G hB hC.1 c) gX7_shines_X7_cueAt rfl rfl rfl (by decide +kernel) ⟨Nat.le_of_ble_eq_true rfl, Nat.le_of_ble_eq_true rfl⟩ hB rfl rfl rfl dX7_shines_2 rfl (Nat.le_of_ble_eq_true rfl) ⟨Nat.le_of_ble_eq_true rfl, Nat.le_of_ble_eq_true rfl⟩ (fun v h9 hp => ?_)
  obtain ⟨rfl, rfl⟩ := hp
  rcases sel_n (x := c) (f := fun i => ad (100 + 4 * i)) hC.2.1 (by decide : 12 < 2 ^ 31) with ⟨hq, k, hk1, hk, hz⟩ | ⟨hq, hz⟩
  · subst hk
    refine x_qref (q := (ad (100 + 4 * k))) (hz) ?_
    refine x_astore_n (L' := [some (.ref (ad 0)), some (.int (nI k)), some (.int i), some (.ref (ad (100 + 4 * k)))]) hE dX7_shines_5 rfl (Nat.le_of_ble_eq_true rfl) rfl rfl ?_
    refine x_aload_n hE dX7_shines_6 rfl rfl ?_
    refine x_ifnull hE dX7_shines_7 ?_
    have hC12 := hC.2.1
    refine x_aload_n hE dX7_shines_10 rfl rfl ?_
    refine x_get hE hinX7 hB rfl 0 (by decide) (List.mem_of_getElem? (i := 3) rfl) rfl dX7_shines_11 ?_
    refine x_iload_n hE dX7_shines_14 rfl ?_
    refine x_callV (ci := 5) (st := []) hE 1 (c_X5_lampAt G hR.1 hR.2.1 i) gX7_shines_X5_lampAt rfl rfl rfl (by decide +kernel) ⟨Nat.le_of_ble_eq_true rfl, Nat.le_of_ble_eq_true rfl⟩ hR.1 rfl rfl rfl dX7_shines_15 rfl (Nat.le_of_ble_eq_true rfl) ⟨Nat.le_of_ble_eq_true rfl, Nat.le_of_ble_eq_true rfl⟩ (fun v h9 hp => ?_)
    obtain ⟨rfl, rfl⟩ := hp
    rcases sel_n (x := i) (f := fun i => ad (20 + i)) hR.2.2.1 (by decide : 16 < 2 ^ 31) with ⟨hq2, j, hj1, hj, hz2⟩ | ⟨hq2, hz2⟩
    · subst hj
      refine x_qref (q := (ad (20 + j))) (hz2) ?_
      refine x_ifnonnull (tgt := 31) hE dX7_shines_18 (by decide) ?_
      have hL16 := hR.2.2.1
      refine x_aload_n hE dX7_shines_31 rfl rfl ?_
      refine x_iload_n hE dX7_shines_32 rfl ?_
      refine x_callV (ci := 0) (st := []) hE 1 (c_X0_shinerFor G (hC.2.2 k hk1).1 (hC.2.2 k hk1).2.2.1 (by omega : j < 16)) gX7_shines_X0_shinerFor rfl rfl rfl (by decide +kernel) ⟨Nat.le_of_ble_eq_true rfl, Nat.le_of_ble_eq_true rfl⟩ (hC.2.2 k hk1).1 rfl rfl rfl dX7_shines_33 rfl (Nat.le_of_ble_eq_true rfl) ⟨Nat.le_of_ble_eq_true rfl, Nat.le_of_ble_eq_true rfl⟩ (fun v h9 hp => ?_)
      obtain ⟨rfl, rfl⟩ := hp
      refine x_widen (k := 1) (n := 6) (Nat.le_of_ble_eq_true rfl) (Nat.le_of_ble_eq_true rfl) ?_
      exact y_ret (x_iret hE dX7_shines_36 (⟨by unfold fShines; rw [if_pos ⟨hq, hq2⟩], by rw [nI_clamp (by omega), nI_clamp (by omega)]; rfl, hW⟩))
    · refine x_qnull (hz2) ?_
      refine x_ifnonnullN hE dX7_shines_18 ?_
      exact y_IO hE hT hX (List.mem_of_getElem? (i := 6) rfl) (List.mem_of_getElem? (i := 1) rfl) (List.mem_of_getElem? (i := 2) rfl) (fun w hw => List.mem_cons_of_mem _ (List.mem_append_right _ hw)) rfl dX7_shines_21 dX7_shines_24 dX7_shines_25 dX7_shines_27 dX7_shines_30 (Nat.le_of_ble_eq_true rfl) (Nat.le_of_ble_eq_true rfl) ⟨by decide, by decide⟩ ⟨by decide, by decide⟩ (⟨by unfold fShines; rw [if_neg (by rw [hq2]; simp)], rfl⟩)
  · refine x_qnull (hz) ?_
    refine x_astore_n (L' := [some (.ref (ad 0)), some (.int c), some (.int i), some (.null)]) hE dX7_shines_5 rfl (Nat.le_of_ble_eq_true rfl) rfl rfl ?_
    refine x_aload_n hE dX7_shines_6 rfl rfl ?_
    refine x_ifnullN (tgt := 21) hE dX7_shines_7 (by decide) ?_
    exact y_IO hE hT hX (List.mem_of_getElem? (i := 6) rfl) (List.mem_of_getElem? (i := 1) rfl) (List.mem_of_getElem? (i := 2) rfl) (fun w hw => List.mem_cons_of_mem _ (List.mem_append_right _ hw)) rfl dX7_shines_21 dX7_shines_24 dX7_shines_25 dX7_shines_27 dX7_shines_30 (Nat.le_of_ble_eq_true rfl) (Nat.le_of_ble_eq_true rfl) ⟨by decide, by decide⟩ ⟨by decide, by decide⟩ (⟨by unfold fShines; rw [if_neg (by rw [hq]; simp)], rfl⟩)

def fPlay (S : PS) (c wh : Int32) : Nat := if isN c (s_C S) = true then (if inI wh 0 3 = true then 0 else 2) else 1
/-- a cue's going -/
def goF (GL : List GG) (c : Nat) : Option GG := GL.find? (fun g => decide (g.1 = c))
def playP (S : PS) (c wh : Nat) : Int32 := match goF (s_G S) c with
  | none => if wh = 0 ∨ wh = 1 then 0 else -1
  | some g => if wh = 0 then 1 else if wh = 1 then (if relI g.2.2 = -1 then 0 else 1) else if wh = 2 then nI g.2.1 else nI (masP (s_ar S) (s_t S) g).toNat
theorem goF_none {GL : List GG} {c : Nat} (h : ∀ g, g ∈ GL → g.1 ≠ c) : goF GL c = none := List.find?_eq_none.mpr (fun g hg => by simpa using h g hg)
theorem goF_some {GL : List GG} {c : Nat} {g : GG} (hn : (GL.map Prod.fst).Nodup) (hg : g ∈ GL) (hc : g.1 = c) : goF GL c = some g := by
  induction GL with
  | nil => simp at hg
  | cons a GL ih =>
    rw [List.map_cons] at hn
    obtain ⟨h1, h2⟩ := List.nodup_cons.mp hn
    unfold goF
    rcases List.mem_cons.mp hg with rfl | hg
    · rw [List.find?_cons_of_pos (by simp [hc])]
    · have : ¬ a.1 = c := fun z => h1 (by rw [z, ← hc]; exact List.mem_map.mpr ⟨g, hg, rfl⟩)
      rw [List.find?_cons_of_neg (by simp [this])]
      exact ih h2 hg
theorem goR_is {ad ow : Nat → Nat} {eA : Nat} {Q1 Q2 A1 : List Nat} {c1 : Nat → GC} {L C c : Nat} {GL : List GG} {o : Option Nat} (hO : oW ad ow eA Q1 Q2 L C) (hA : A1.map c1 = GL.map (embG ad)) (hg : gI C GL) (hc : c < C) (h : goR A1 c1 (ad (100 + 4 * c)) o) : (o = none ∧ goF GL c = none) ∨ ∃ (k x : Nat) (g : GG), A1[k]? = some x ∧ g ∈ GL ∧ c1 x = embG ad g ∧ g.1 = c ∧ o = some x ∧ goF GL c = some g := by
  rcases h with ⟨h1, h2⟩ | ⟨k, x, h1, h2, h3⟩
  · refine Or.inl ⟨h1, goF_none (fun g hg1 z => ?_)⟩
    have h3 : embG ad g ∈ A1.map c1 := by rw [hA]; exact List.mem_map.mpr ⟨g, hg1, rfl⟩
    obtain ⟨x, hx, e⟩ := List.mem_map.mp h3
    exact h2 x hx (by rw [e, ← z]; rfl)
  · obtain ⟨g, hgk, e⟩ := map_at hA h1
    have hm := List.mem_of_getElem? hgk
    have ec : g.1 = c := emb_inj hO (hg.2 g hm) hc (Option.some.inj ((congrArg Prod.fst e).symm.trans h2))
    exact Or.inr ⟨k, x, g, h1, hm, e, ec, h3, goF_some hg.1 hm ec⟩
set_option maxHeartbeats 4000000 in
set_option maxRecDepth 100000 in
theorem c_X7_playing (G : XG) {ad ow : Nat → Nat} {eA : Nat} {A1 P1 : List Nat} {c1 : Nat → GC} {A2 P2 : List Nat} {c2 : Nat → GC} {RY : List Nat} {S : PS} {h : HM} (hW : cW G ad ow eA A1 P1 c1 A2 P2 c2 RY S h) (hf : fI (s_ar S) (s_L S) (s_C S) (s_t S) (s_G S)) (c wh : Int32) : y_M G yX7_playing wsX7_playing ({ frames := 6, cells := 1, slots := 6, locals := 90 } : Room) [.ref (ad 0), .int c, .int wh] h (fun v h' => fPlay S c wh = 0 ∧ v = some (.int (playP S c.toNatClampNeg wh.toNatClampNeg)) ∧ cW G ad ow eA A1 P1 c1 A2 P2 c2 RY S h') (fun E => (fPlay S c wh = 1 ∧ E = xIO) ∨ (fPlay S c wh = 2 ∧ E = xIA)) 1 6 := by
  refine y_M.of (cc := cX7_playing) (maxL := 5) (ret := (some .int)) (ent := [some (.ref (ad 0)), some (.int c), some (.int wh), none, none]) (by decide +kernel) rfl (Nat.le_of_ble_eq_true rfl) rfl rfl ?_
  intro F hE hname hT hX
  have hinX1 : ∀ w ∈ wsX10, w ∈ wsX7_playing := by decide +kernel
  have hinX7 : ∀ w ∈ wsX70, w ∈ wsX7_playing := by decide +kernel
  have hW0 := hW
  obtain ⟨hB, hR, hC, hp, hl, hr, hw, hI, hO⟩ := hW0
  refine x_aload_n hE dX7_playing_0 rfl rfl ?_
  refine x_iload_n hE dX7_playing_1 rfl ?_
  refine x_callV (ci := 7) (st := []) hE 1 (c_X7_cueAt G hB hC.1 c) gX7_playing_X7_cueAt rfl rfl rfl (by decide +kernel) ⟨Nat.le_of_ble_eq_true rfl, Nat.le_of_ble_eq_true rfl⟩ hB rfl rfl rfl dX7_playing_2 rfl (Nat.le_of_ble_eq_true rfl) ⟨Nat.le_of_ble_eq_true rfl, Nat.le_of_ble_eq_true rfl⟩ (fun v h9 hp => ?_)
  obtain ⟨rfl, rfl⟩ := hp
  rcases sel_n (x := c) (f := fun i => ad (100 + 4 * i)) hC.2.1 (by decide : 12 < 2 ^ 31) with ⟨hq, k, hk1, hk, hz⟩ | ⟨hq, hz⟩
  · subst hk
    refine x_qref (q := (ad (100 + 4 * k))) (hz) ?_
    refine x_astore_n (L' := [some (.ref (ad 0)), some (.int (nI k)), some (.int wh), some (.ref (ad (100 + 4 * k))), none]) hE dX7_playing_5 rfl (Nat.le_of_ble_eq_true rfl) rfl rfl ?_
    refine x_aload_n hE dX7_playing_6 rfl rfl ?_
    refine x_ifnonnull (tgt := 20) hE dX7_playing_7 (by decide) ?_
    have hC12 := hC.2.1
    refine x_iload_n hE dX7_playing_20 rfl ?_
    refine x_iconst (v := nI 0) hE dX7_playing_21 (by decide) ?_
    refine x_iconst (v := nI 3) hE dX7_playing_22 (by decide) ?_
    refine x_callS (st := []) hE 3 (c_X7_isWithin G wh (nI 0) (nI 3)) gX7_playing_X7_isWithin rfl rfl rfl (by decide +kernel) ⟨Nat.le_of_ble_eq_true rfl, Nat.le_of_ble_eq_true rfl⟩ rfl rfl dX7_playing_23 rfl (Nat.le_of_ble_eq_true rfl) ⟨Nat.le_of_ble_eq_true rfl, Nat.le_of_ble_eq_true rfl⟩ (fun v h9 hp => ?_)
    obtain ⟨rfl, rfl⟩ := hp
    refine x_if_ne (tgt := 39) hE dX7_playing_26 (by decide) (fun cc => ?_) (fun cc => ?_)
    · have q1 : inI wh 0 3 = true := b2i_n0.mp cc
      obtain ⟨x, -, hx3, rfl⟩ := inI_is q1 (by decide) (by decide)
      have ek : (nI k).toNatClampNeg = k := nI_clamp (by omega)
      have ex : (nI x).toNatClampNeg = x := nI_clamp (by omega)
      have ef : fPlay S (nI k) (nI x) = 0 := by unfold fPlay; rw [if_pos hq, if_pos q1]
      rw [ek, ex]
      refine x_aload_n hE dX7_playing_39 rfl rfl ?_
      refine x_get hE hinX7 hB rfl 3 (by decide) (List.mem_of_getElem? (i := 5) rfl) rfl dX7_playing_40 ?_
      refine x_aload_n hE dX7_playing_43 rfl rfl ?_
      refine x_callV (ci := 2) (st := []) hE 1 (c_X2_goingOf G hl.1) gX7_playing_X2_goingOf rfl rfl rfl (by decide +kernel) ⟨Nat.le_of_ble_eq_true rfl, Nat.le_of_ble_eq_true rfl⟩ hl.1.1 rfl rfl rfl dX7_playing_44 rfl (Nat.le_of_ble_eq_true rfl) ⟨Nat.le_of_ble_eq_true rfl, Nat.le_of_ble_eq_true rfl⟩ (fun v h9 hp => ?_)
      obtain ⟨⟨go, rfl, hgo⟩, rfl⟩ := hp
      have hgr := goR_is hO hl.2 hf.2.2.2.1 hk1 hgo
      rcases hgr with ⟨hgo1, hgo2⟩ | ⟨kk, y, g, hy, hgm, hyg, hgc, hgo1, hgo2⟩
      · subst hgo1
        have ep : playP S k x = if x = 0 ∨ x = 1 then 0 else -1 := by unfold playP; rw [hgo2]
        refine x_astore (L' := [some (.ref (ad 0)), some (.int (nI k)), some (.int (nI x)), some (.ref (ad (100 + 4 * k))), some (.null)]) hE dX7_playing_47 (Nat.le_of_ble_eq_true rfl) rfl rfl ?_
        refine x_aload hE dX7_playing_49 rfl rfl ?_
        refine x_ifnonnullN hE dX7_playing_51 ?_
        have u0 : nI x = 0 ↔ x = 0 := up0 (by omega)
        have u1 : nI x = nI 1 ↔ x = 1 := nI_eq (by omega) (by omega)
        refine x_iload_n hE dX7_playing_54 rfl ?_
        refine x_if_eq (tgt := 63) hE dX7_playing_55 (by decide) (fun c55 => ?_) (fun c55 => ?_)
        · refine x_iconst (v := nI 0) hE dX7_playing_63 (by decide) ?_
          refine x_goto (tgt := 68) hE dX7_playing_64 (by decide) ?_
          refine x_widen (k := 1) (n := 6) (Nat.le_of_ble_eq_true rfl) (Nat.le_of_ble_eq_true rfl) ?_
          exact y_ret (x_iret hE dX7_playing_68 (⟨ef, by rw [ep]; rw [if_pos (by first | omega | (rw [u0] at c55; omega) | (rw [u0] at c55; rw [u1] at c60; omega))]; rfl, hW⟩))
        · refine x_iload_n hE dX7_playing_58 rfl ?_
          refine x_iconst (v := nI 1) hE dX7_playing_59 (by decide) ?_
          refine x_icmp_ne (tgt := 67) hE dX7_playing_60 (by decide) (fun c60 => ?_) (fun c60 => ?_)
          · refine x_iconst (v := (-1 : Int32)) hE dX7_playing_67 (by decide) ?_
            refine x_widen (k := 1) (n := 6) (Nat.le_of_ble_eq_true rfl) (Nat.le_of_ble_eq_true rfl) ?_
            exact y_ret (x_iret hE dX7_playing_68 (⟨ef, by rw [ep]; rw [if_neg (by first | omega | (rw [u0] at c55; omega) | (rw [u0] at c55; rw [u1] at c60; omega))], hW⟩))
          · replace c60 := x_nIinj c60 (by omega) (by omega)
            refine x_iconst (v := nI 0) hE dX7_playing_63 (by decide) ?_
            refine x_goto (tgt := 68) hE dX7_playing_64 (by decide) ?_
            refine x_widen (k := 1) (n := 6) (Nat.le_of_ble_eq_true rfl) (Nat.le_of_ble_eq_true rfl) ?_
            exact y_ret (x_iret hE dX7_playing_68 (⟨ef, by rw [ep]; rw [if_pos (by first | omega | (rw [u0] at c55; omega) | (rw [u0] at c55; rw [u1] at c60; omega))]; rfl, hW⟩))
      · subst hgo1
        refine x_qref (q := y) (rfl) ?_
        have hyc : h y = some (.inr (1, [.ref (ad (100 + 4 * k)), .int (nI g.2.1), .int (relI g.2.2)])) := by have z := hl.1.at hy; rw [hyg] at z; rw [← hgc]; exact z
        refine x_astore (L' := [some (.ref (ad 0)), some (.int (nI k)), some (.int (nI x)), some (.ref (ad (100 + 4 * k))), some (.ref y)]) hE dX7_playing_47 (Nat.le_of_ble_eq_true rfl) rfl rfl ?_
        refine x_aload hE dX7_playing_49 rfl rfl ?_
        refine x_ifnonnull (tgt := 69) hE dX7_playing_51 (by decide) ?_
        refine x_iload_n hE dX7_playing_69 rfl ?_
        have ep : playP S k x = if x = 0 then 1 else if x = 1 then (if relI g.2.2 = -1 then 0 else 1) else if x = 2 then nI g.2.1 else nI (masP (s_ar S) (s_t S) g).toNat := by unfold playP; rw [hgo2]
        rcases (show x = 0 ∨ x = 1 ∨ x = 2 ∨ x = 3 by omega) with rfl | rfl | rfl | rfl
        · refine x_tableIn (off := 26) (tgt := 96) hE dX7_playing_70 (by decide) (by decide) (by decide) (by decide) ?_
          refine x_iconst (v := nI 1) hE dX7_playing_96 (by decide) ?_
          refine x_widen (k := 1) (n := 6) (Nat.le_of_ble_eq_true rfl) (Nat.le_of_ble_eq_true rfl) ?_
          exact y_ret (x_iret hE dX7_playing_97 (⟨ef, by rw [ep]; rfl, hW⟩))
        · refine x_tableIn (off := 28) (tgt := 98) hE dX7_playing_70 (by decide) (by decide) (by decide) (by decide) ?_
          refine x_aload hE dX7_playing_98 rfl rfl ?_
          refine x_callV (ci := 1) (st := []) hE 0 (c_X1_isReleased G (cu := some (ad (100 + 4 * k))) hyc) gX7_playing_X1_isReleased rfl rfl rfl (by decide +kernel) ⟨Nat.le_of_ble_eq_true rfl, Nat.le_of_ble_eq_true rfl⟩ hyc rfl rfl rfl dX7_playing_100 rfl (Nat.le_of_ble_eq_true rfl) ⟨Nat.le_of_ble_eq_true rfl, Nat.le_of_ble_eq_true rfl⟩ (fun v h9 hp => ?_)
          obtain ⟨rfl, rfl⟩ := hp
          refine x_if_eq (tgt := 110) hE dX7_playing_103 (by decide) (fun c103 => ?_) (fun c103 => ?_)
          · refine x_iconst (v := nI 0) hE dX7_playing_110 (by decide) ?_
            refine x_widen (k := 1) (n := 6) (Nat.le_of_ble_eq_true rfl) (Nat.le_of_ble_eq_true rfl) ?_
            exact y_ret (x_iret hE dX7_playing_111 (⟨ef, by rw [ep, if_neg (by decide), if_pos rfl, if_pos (by have := b2i_0.mp c103; simpa using this)]; rfl, hW⟩))
          · refine x_iconst (v := nI 1) hE dX7_playing_106 (by decide) ?_
            refine x_goto (tgt := 111) hE dX7_playing_107 (by decide) ?_
            refine x_widen (k := 1) (n := 6) (Nat.le_of_ble_eq_true rfl) (Nat.le_of_ble_eq_true rfl) ?_
            exact y_ret (x_iret hE dX7_playing_111 (⟨ef, by rw [ep, if_neg (by decide), if_pos rfl, if_neg (by have := b2i_n0.mp c103; simpa using this)]; rfl, hW⟩))
        · refine x_tableIn (off := 42) (tgt := 112) hE dX7_playing_70 (by decide) (by decide) (by decide) (by decide) ?_
          refine x_aload hE dX7_playing_112 rfl rfl ?_
          refine x_get hE hinX1 hyc rfl 1 (by decide) (List.mem_of_getElem? (i := 6) rfl) rfl dX7_playing_114 ?_
          refine x_widen (k := 1) (n := 6) (Nat.le_of_ble_eq_true rfl) (Nat.le_of_ble_eq_true rfl) ?_
          exact y_ret (x_iret hE dX7_playing_117 (⟨ef, by rw [ep, if_neg (by decide), if_neg (by decide), if_pos rfl], hW⟩))
        · refine x_tableOut (tgt := 118) hE dX7_playing_70 (by decide) (by decide) ?_
          refine x_aload hE dX7_playing_118 rfl rfl ?_
          refine x_aload_n hE dX7_playing_120 rfl rfl ?_
          refine x_get hE hinX7 hB rfl 8 (by decide) (List.mem_of_getElem? (i := 7) rfl) rfl dX7_playing_121 ?_
          refine x_callV (ci := 1) (st := []) hE 1 (c_X1_master G hyc (hC.2.2 k hk1).1 (now := nI (s_t S))) gX7_playing_X1_master rfl rfl rfl (by decide +kernel) ⟨Nat.le_of_ble_eq_true rfl, Nat.le_of_ble_eq_true rfl⟩ hyc rfl rfl rfl dX7_playing_124 rfl (Nat.le_of_ble_eq_true rfl) ⟨Nat.le_of_ble_eq_true rfl, Nat.le_of_ble_eq_true rfl⟩ (fun v h9 hp => ?_)
          obtain ⟨rfl, rfl⟩ := hp
          refine x_fq (y := (fB (masP (s_ar S) (s_t S) g).toNat)) (by rw [fB_of]; unfold masP; rw [hgc]) ?_
          have hm := masP_is (hf.2.2.2.2 g hgm)
          have hb := lvI.bits (K := 1) ⟨hm.1, by rw [show ((1 : Nat) : Int) = 1 from rfl, Int.one_mul]; exact hm.2.1, hm.2.2⟩ (by decide)
          refine x_callS (st := []) hE 1 (c_X7_bitsOf G (X := (masP (s_ar S) (s_t S) g).toNat) (hb.elim (fun z => Or.inl (by rw [z]; exact fB_nat (by decide))) Or.inr)) gX7_playing_X7_bitsOf rfl rfl rfl (by decide +kernel) ⟨Nat.le_of_ble_eq_true rfl, Nat.le_of_ble_eq_true rfl⟩ rfl rfl dX7_playing_127 rfl (Nat.le_of_ble_eq_true rfl) ⟨Nat.le_of_ble_eq_true rfl, Nat.le_of_ble_eq_true rfl⟩ (fun v h9 hp => ?_)
          obtain ⟨rfl, rfl⟩ := hp
          refine x_widen (k := 1) (n := 6) (Nat.le_of_ble_eq_true rfl) (Nat.le_of_ble_eq_true rfl) ?_
          exact y_ret (x_iret hE dX7_playing_130 (⟨ef, by rw [ep, if_neg (by decide), if_neg (by decide), if_neg (by decide)], hW⟩))
    · exact y_IA hE hT hX (List.mem_of_getElem? (i := 13) rfl) (List.mem_of_getElem? (i := 3) rfl) (List.mem_of_getElem? (i := 4) rfl) (fun w hw => List.mem_cons_of_mem _ (List.mem_append_right _ hw)) rfl dX7_playing_29 dX7_playing_32 dX7_playing_33 dX7_playing_35 dX7_playing_38 (Nat.le_of_ble_eq_true rfl) (Nat.le_of_ble_eq_true rfl) ⟨by decide, by decide⟩ ⟨by decide, by decide⟩ (Or.inr ⟨by unfold fPlay; rw [if_pos hq, if_neg (by rw [show inI wh 0 3 = false from b2i_0.mp cc]; decide)], rfl⟩)
  · refine x_qnull (hz) ?_
    refine x_astore_n (L' := [some (.ref (ad 0)), some (.int c), some (.int wh), some (.null), none]) hE dX7_playing_5 rfl (Nat.le_of_ble_eq_true rfl) rfl rfl ?_
    refine x_aload_n hE dX7_playing_6 rfl rfl ?_
    refine x_ifnonnullN hE dX7_playing_7 ?_
    exact y_IO hE hT hX (List.mem_of_getElem? (i := 8) rfl) (List.mem_of_getElem? (i := 1) rfl) (List.mem_of_getElem? (i := 2) rfl) (fun w hw => List.mem_cons_of_mem _ (List.mem_append_left _ (List.mem_append_right _ hw))) rfl dX7_playing_10 dX7_playing_13 dX7_playing_14 dX7_playing_16 dX7_playing_19 (Nat.le_of_ble_eq_true rfl) (Nat.le_of_ble_eq_true rfl) ⟨by decide, by decide⟩ ⟨by decide, by decide⟩ (Or.inl ⟨by unfold fPlay; rw [if_neg (by rw [hq]; decide)], rfl⟩)
