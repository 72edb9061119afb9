theorem sR.go {R R' : Nat → Nat → Int32} {t : Nat} {g : GG} (h : sR R R') (hg : goI R t g) : goI R' t g := by
  unfold goI at *
  rw [h 12 (by decide) (by decide) (by decide), h 13 (by decide) (by decide) (by decide)]
  exact hg
theorem sR.mas {R R' : Nat → Nat → Int32} (h : sR R R') (t : Nat) (g : GG) : masP R' t g = masP R t g := by
  unfold masP
  rw [h 12 (by decide) (by decide) (by decide), h 13 (by decide) (by decide) (by decide)]
def mixO (R : Nat → Nat → Int32) (L : Nat) (B : Int32) (t i of : Nat) : UInt32 → GG → UInt32 := if of = 0 then mixHG R L B t i else mixLG R L B t i
def lvS (R : Nat → Nat → Int32) (L : Nat) (B : Int32) (t i : Nat) (GL : List GG) : Nat → UInt32
  | 0 => FP.fconst0
  | n + 1 => GL.foldl (mixO R L B t i n) (lvS R L B t i GL n)
theorem lvS_2 {R : Nat → Nat → Int32} {L t i : Nat} {B : Int32} {GL : List GG} : lvS R L B t i GL 2 = mixG R L B t GL i := rfl
theorem gI_len {C : Nat} {GL : List GG} (hI : gI C GL) : GL.length ≤ C := by
  have := nd_len C (GL.map Prod.fst) hI.1 (fun x hx => by obtain ⟨g, h1, rfl⟩ := List.mem_map.mp hx; exact hI.2 g h1)
  rw [List.length_map] at this
  exact this
theorem mixO_lv {R : Nat → Nat → Int32} {L C t i : Nat} {B : Int32} {GL pre post : List GG} (hf : fI R L C t GL) (hs : GL = pre ++ post) : lvI 100 (pre.foldl (mixO R L B t i 0) (lvS R L B t i GL 0)) ∧ lvI 3900 (pre.foldl (mixO R L B t i 1) (lvS R L B t i GL 1)) := by
  have hl := gI_len hf.2.2.2.1
  have h12 := hf.2.2.1
  have hb : ∀ g, g ∈ GL → g.1 < C ∧ goI R t g := fun g h => ⟨hf.2.2.2.1.2 g h, hf.2.2.2.2 g h⟩
  have hp : ∀ g, g ∈ pre → g.1 < C ∧ goI R t g := fun g h => hb g (by rw [hs]; exact List.mem_append_left _ h)
  have hlp : pre.length ≤ GL.length := by rw [hs, List.length_append]; omega
  exact ⟨mixH_fold hf.2.1 pre _ hp (lvI_zero 100), (mixL_fold hf.2.1 pre 100 _ hp (mixH_fold hf.2.1 GL _ hb (lvI_zero 100)) (by omega)).up (by omega)⟩
theorem mixO_n {R : Nat → Nat → Int32} {L t i of : Nat} {B : Int32} {l : UInt32} {g : GG} (ho : of < 2) (h : ¬ (R 11 g.1 = nI of ∧ 0 < levP R L B g.1 i)) : List.foldl (mixO R L B t i of) l [g] = l := by
  show mixO R L B t i of l g = l
  rcases (by omega : of = 0 ∨ of = 1) with z | z
  · subst z
    exact if_neg h
  · subst z
    exact if_neg h
theorem mixO_1 {R : Nat → Nat → Int32} {L t i : Nat} {B : Int32} {l : UInt32} {g : GG} (h : R 11 g.1 = nI 1 ∧ 0 < levP R L B g.1 i) : List.foldl (mixO R L B t i 1) l [g] = FP.fadd l (FP.fmul (masP R t g) (FP.fsub (FP.i2f (levP R L B g.1 i)) l)) := if_pos h
theorem mixO_0y {R : Nat → Nat → Int32} {L t i : Nat} {B : Int32} {l : UInt32} {g : GG} (h : R 11 g.1 = nI 0 ∧ 0 < levP R L B g.1 i) (h2 : 0 < Op.cmpValue (FP.fcmp (FP.fmul (masP R t g) (FP.i2f (levP R L B g.1 i))) l) .l) : List.foldl (mixO R L B t i 0) l [g] = FP.fmul (masP R t g) (FP.i2f (levP R L B g.1 i)) := (if_pos h).trans (if_pos h2)
theorem mixO_0n {R : Nat → Nat → Int32} {L t i : Nat} {B : Int32} {l : UInt32} {g : GG} (h : R 11 g.1 = nI 0 ∧ 0 < levP R L B g.1 i) (h2 : ¬ 0 < Op.cmpValue (FP.fcmp (FP.fmul (masP R t g) (FP.i2f (levP R L B g.1 i))) l) .l) : List.foldl (mixO R L B t i 0) l [g] = l := (if_pos h).trans (if_neg h2)
set_option maxHeartbeats 4000000 in
set_option maxRecDepth 100000 in
theorem c_X8_levelNow (G : XG) {ma ow : Nat → Nat} {sc : Nat → Int32} {R : Nat → Nat → Int32} {h : HM} (hM : mM G ma ow sc R h) {L C gn t i : Nat} {B : Int32} {GL : List GG} (hn : sc 1 = nI L) (hB : sc 8 = B) (hb : L ≤ 16) (hnC : sc 10 = nI C) (ht : sc 0 = nI t) (hf : fI R L C t GL) (hr : gR R C gn GL) (hgn : gn ≤ 2 ^ 30) (hiL : i < L) : x_M G yX8_levelNow wsX8_levelNow ({ frames := 4, cells := 0, slots := 0, locals := 90 } : Room) [.ref (ma 30), .int (nI i)] h (fun v h' => v = some (.float (mixG R L B t GL i)) ∧ ∃ R' : Nat → Nat → Int32, mM G ma ow sc R' h' ∧ sR R R') 0 0 := by
  refine x_M.of (cc := cX8_levelNow) (maxL := 7) (ret := (some .float)) (ent := [some (.ref (ma 30)), some (.int (nI i)), none, none, none, none, none]) (by decide +kernel) rfl (Nat.le_of_ble_eq_true rfl) rfl rfl ?_
  intro F hE hname
  have hinX8 : ∀ w ∈ wsX80, w ∈ wsX8_levelNow := by decide +kernel
  obtain ⟨hla, hto, h12, hg, hgo⟩ := id hf
  refine x_fconst0 hE dX8_levelNow_0 ?_
  refine x_fstore_n (L' := [some (.ref (ma 30)), some (.int (nI i)), some (.float FP.fconst0), none, none, none, none]) hE dX8_levelNow_1 rfl (Nat.le_of_ble_eq_true rfl) rfl ?_
  refine x_iconst (v := nI 0) hE dX8_levelNow_2 (by decide) ?_
  refine x_istore_n (L' := [some (.ref (ma 30)), some (.int (nI i)), some (.float FP.fconst0), some (.int (nI 0)), none, none, none]) hE dX8_levelNow_3 rfl (Nat.le_of_ble_eq_true rfl) rfl ?_
  refine x_down (N := 2) (P := fun of => ∀ (hi : HM) (Ro : Nat → Nat → Int32), mM G ma ow sc Ro hi → sR R Ro → x_W G F (x_Q G F (fun v h' => v = some (.float (mixG R L B t GL i)) ∧ ∃ R' : Nat → Nat → Int32, mM G ma ow sc R' h' ∧ sR R R') 0 0) 0 0 hi 4 [some (.ref (ma 30)), some (.int (nI i)), some (.float (lvS R L B t i GL of)), some (.int (nI of)), none, none, none] []) (fun of hofN ih => ?_) 0 (by omega) h R hM (sR.refl R)
  intro hi Ro hMi ho
  refine x_iload_n hE dX8_levelNow_4 rfl ?_
  refine x_iconst (v := nI 1) hE dX8_levelNow_5 (by decide) ?_
  refine x_icmp_gt (tgt := 130) hE dX8_levelNow_6 (by decide) (fun c6 => ?_) (fun c6 => ?_)
  · replace c6 := (nI_ltp (a := 1) (b := of) (by omega) (by omega)).mp c6
    obtain rfl : of = 2 := by omega
    refine x_fload_n hE dX8_levelNow_130 rfl ?_
    exact x_fret hE dX8_levelNow_131 (⟨by rw [lvS_2], Ro, hMi, ho⟩)
  · have hof : of < 2 := Nat.lt_of_not_le (fun z => c6 ((nI_ltp (a := 1) (b := of) (by omega) (by omega)).mpr (by omega)))
    clear c6
    refine x_aload_n hE dX8_levelNow_9 rfl rfl ?_
    refine x_iconst (v := (-1 : Int32)) hE dX8_levelNow_10 (by decide) ?_
    refine x_callV (ci := 8) (st := []) hE 1 (c_X8_after G hMi hnC h12 (-1)) gX8_levelNow_X8_after rfl rfl rfl (by decide +kernel) ⟨Nat.le_of_ble_eq_true rfl, Nat.le_of_ble_eq_true rfl⟩ hMi.o rfl rfl rfl dX8_levelNow_11 rfl (Nat.le_of_ble_eq_true rfl) ⟨Nat.le_of_ble_eq_true rfl, Nat.le_of_ble_eq_true rfl⟩ (fun v h2 hp => ?_)
    obtain ⟨⟨f, rfl, haf⟩, rfl⟩ := hp
    obtain rfl := aft_all (ho.gR hr) hg hgn haf
    clear haf
    refine x_istore (L' := [some (.ref (ma 30)), some (.int (nI i)), some (.float (lvS R L B t i GL of)), some (.int (nI of)), some (.int (hdI GL)), none, none]) hE dX8_levelNow_14 (Nat.le_of_ble_eq_true rfl) rfl ?_
    suffices H : ∀ (post pre : List GG) (hi : HM) (Ri : Nat → Nat → Int32) (l : UInt32), GL = pre ++ post → mM G ma ow sc Ri hi → sR R Ri → l = pre.foldl (mixO R L B t i of) (lvS R L B t i GL of) → x_W G F (x_Q G F (fun v h' => v = some (.float (mixG R L B t GL i)) ∧ ∃ R' : Nat → Nat → Int32, mM G ma ow sc R' h' ∧ sR R R') 0 0) 0 0 hi 16 [some (.ref (ma 30)), some (.int (nI i)), some (.float l), some (.int (nI of)), some (.int (hdI post)), none, none] [] from H GL [] hi Ro _ rfl hMi ho rfl
    clear hMi ho
    intro post
    induction post with
    | nil =>
        intro pre hk Rk l hs hMk hk2 el
        obtain rfl : GL = pre := by rw [hs, List.append_nil]
        refine x_iload hE dX8_levelNow_16 rfl ?_
        refine x_iconst (v := (-1 : Int32)) hE dX8_levelNow_18 (by decide) ?_
        refine x_icmp_eq (tgt := 124) hE dX8_levelNow_19 (by decide) (fun c19 => ?_) (fun c19 => ?_)
        · subst el
          refine x_iinc (v := nI (of + 1)) (L' := [some (.ref (ma 30)), some (.int (nI i)), some (.float (lvS R L B t i GL (of + 1))), some (.int (nI (of + 1))), some (.int (-1)), none, none]) hE dX8_levelNow_124 rfl (nI_1 _) rfl ?_
          refine x_goto (tgt := 4) hE dX8_levelNow_127 (by decide) ?_
          refine x_forget (L' := [some (.ref (ma 30)), some (.int (nI i)), some (.float (lvS R L B t i GL (of + 1))), some (.int (nI (of + 1))), none, none, none]) (And.intro rfl (And.intro rfl (And.intro rfl (And.intro rfl trivial)))) ?_
          exact ih (of + 1) (by omega) (by omega) hk Rk hMk hk2
        · exact absurd rfl c19
    | cons g post ihp =>
        skip
        intro pre hk Rk l hs hMk hk2 el
        have hgm : g ∈ GL := by rw [hs]; simp
        have hgc := hg.2 g hgm
        refine x_iload hE dX8_levelNow_16 rfl ?_
        refine x_iconst (v := (-1 : Int32)) hE dX8_levelNow_18 (by decide) ?_
        refine x_icmp_eq (tgt := 124) hE dX8_levelNow_19 (by decide) (fun c19 => ?_) (fun c19 => ?_)
        · exact absurd c19.symm (nm1 (by omega))
        · refine x_aload_n hE dX8_levelNow_22 rfl rfl ?_
          refine x_iload hE dX8_levelNow_23 rfl ?_
          refine x_callV (ci := 8) (st := []) hE 1 (c_X8_finds G hMk hn hB hb (by omega : g.1 < 12) (fun j hj => by rw [hk2 14 (by decide) (by decide) (by decide)]; exact hto _ j hgc hj)) gX8_levelNow_X8_finds rfl rfl rfl (by decide +kernel) ⟨Nat.le_of_ble_eq_true rfl, Nat.le_of_ble_eq_true rfl⟩ hMk.o rfl rfl rfl dX8_levelNow_25 rfl (Nat.le_of_ble_eq_true rfl) ⟨Nat.le_of_ble_eq_true rfl, Nat.le_of_ble_eq_true rfl⟩ (fun v h1 hp => ?_)
          obtain ⟨rfl, I, Sh, hM1, hIS⟩ := hp
          generalize hR1 : rowUp (rowUp Rk 26 I) 27 Sh = R1 at hM1
          have s1 : sR R R1 := by rw [← hR1]; exact (hk2.up (Or.inl rfl)).up (Or.inr (Or.inl rfl))
          have i26 : R1 26 i = levP R L B g.1 i := by rw [← hk2.lev, ← hR1]; exact (hIS i hiL).1
          clear hIS
          obtain ⟨lv, hlv, elv⟩ := levP_is (L := L) (B := B) hto hgc i
          have hgk := s1.go (hgo g hgm)
          have hr1 := s1.gR hr
          have hms := masM_is hgk (hr1.2.1 g hgm).1 (hr1.2.1 g hgm).2
          rw [← ht, s1.mas] at hms
          have hmI := masP_is (hgo g hgm)
          refine x_aload_n hE dX8_levelNow_28 rfl rfl ?_
          refine x_get hE hinX8 hM1.o rfl 11 (by decide) (List.mem_of_getElem? (i := 1) rfl) rfl dX8_levelNow_29 ?_
          refine x_iload hE dX8_levelNow_32 rfl ?_
          refine x_iald (v := R 11 g.1) hE hM1.a11 (vp_in_nI (by omega) (by decide)) ((x_atN _ (by omega)).trans (congrFun (s1 11 (by decide) (by decide) (by decide)) g.1)) dX8_levelNow_34 ?_
          refine x_iload_n hE dX8_levelNow_35 rfl ?_
          refine x_icmp_ne (tgt := 48) hE dX8_levelNow_36 (by decide) (fun c36 => ?_) (fun c36 => ?_)
          · refine x_iconst (v := nI 0) hE dX8_levelNow_48 (by decide) ?_
            refine x_istore (L' := [some (.ref (ma 30)), some (.int (nI i)), some (.float l), some (.int (nI of)), some (.int (nI g.1)), some (.int (nI 0)), none]) hE dX8_levelNow_49 (Nat.le_of_ble_eq_true rfl) rfl ?_
            refine x_iload hE dX8_levelNow_51 rfl ?_
            refine x_if_le (tgt := 108) hE dX8_levelNow_53 (by decide) (fun c53 => ?_) (fun c53 => ?_)
            · refine x_aload_n hE dX8_levelNow_108 rfl rfl ?_
              refine x_aload_n hE dX8_levelNow_109 rfl rfl ?_
              refine x_get hE hinX8 hM1.o rfl 19 (by decide) (List.mem_of_getElem? (i := 3) rfl) rfl dX8_levelNow_110 ?_
              refine x_iload hE dX8_levelNow_113 rfl ?_
              refine x_iald (v := R1 19 g.1) hE hM1.a19 (vp_in_nI (by omega) (by decide)) (x_atN _ (by omega)) dX8_levelNow_115 ?_
              refine x_callV (ci := 8) (st := []) hE 1 (c_X8_after G hM1 hnC h12 (R1 19 g.1)) gX8_levelNow_X8_after rfl rfl rfl (by decide +kernel) ⟨Nat.le_of_ble_eq_true rfl, Nat.le_of_ble_eq_true rfl⟩ hM1.o rfl rfl rfl dX8_levelNow_116 rfl (Nat.le_of_ble_eq_true rfl) ⟨Nat.le_of_ble_eq_true rfl, Nat.le_of_ble_eq_true rfl⟩ (fun v h2 hp => ?_)
              obtain ⟨⟨f, rfl, haf⟩, rfl⟩ := hp
              obtain rfl := aft_next hr1 hg hgn hs haf
              clear haf
              refine x_istore (L' := [some (.ref (ma 30)), some (.int (nI i)), some (.float l), some (.int (nI of)), some (.int (hdI post)), some (.int (nI 0)), none]) hE dX8_levelNow_119 (Nat.le_of_ble_eq_true rfl) rfl ?_
              refine x_goto (tgt := 16) hE dX8_levelNow_121 (by decide) ?_
              refine x_forget (L' := [some (.ref (ma 30)), some (.int (nI i)), some (.float l), some (.int (nI of)), some (.int (hdI post)), none, none]) (And.intro rfl (And.intro rfl (And.intro rfl (And.intro rfl (And.intro rfl trivial))))) ?_
              exact ihp (pre ++ [g]) h1 R1 _ (by rw [hs]; simp) hM1 s1 (by rw [List.foldl_append, ← el]; exact (mixO_n hof (fun z => c36 z.1)).symm)
            · exact absurd (i32_le_refl _) c53
          · refine x_aload_n hE dX8_levelNow_39 rfl rfl ?_
            refine x_get hE hinX8 hM1.o rfl 26 (by decide) (List.mem_of_getElem? (i := 2) rfl) rfl dX8_levelNow_40 ?_
            refine x_iload_n hE dX8_levelNow_43 rfl ?_
            refine x_iald (v := levP R L B g.1 i) hE hM1.a26 (vp_in_nI (by omega) (by decide)) ((x_atN _ (by omega)).trans i26) dX8_levelNow_44 ?_
            refine x_goto (tgt := 49) hE dX8_levelNow_45 (by decide) ?_
            refine x_istore (L' := [some (.ref (ma 30)), some (.int (nI i)), some (.float l), some (.int (nI of)), some (.int (nI g.1)), some (.int (levP R L B g.1 i)), none]) hE dX8_levelNow_49 (Nat.le_of_ble_eq_true rfl) rfl ?_
            refine x_iload hE dX8_levelNow_51 rfl ?_
            refine x_if_le (tgt := 108) hE dX8_levelNow_53 (by decide) (fun c53 => ?_) (fun c53 => ?_)
            · refine x_aload_n hE dX8_levelNow_108 rfl rfl ?_
              refine x_aload_n hE dX8_levelNow_109 rfl rfl ?_
              refine x_get hE hinX8 hM1.o rfl 19 (by decide) (List.mem_of_getElem? (i := 3) rfl) rfl dX8_levelNow_110 ?_
              refine x_iload hE dX8_levelNow_113 rfl ?_
              refine x_iald (v := R1 19 g.1) hE hM1.a19 (vp_in_nI (by omega) (by decide)) (x_atN _ (by omega)) dX8_levelNow_115 ?_
              refine x_callV (ci := 8) (st := []) hE 1 (c_X8_after G hM1 hnC h12 (R1 19 g.1)) gX8_levelNow_X8_after rfl rfl rfl (by decide +kernel) ⟨Nat.le_of_ble_eq_true rfl, Nat.le_of_ble_eq_true rfl⟩ hM1.o rfl rfl rfl dX8_levelNow_116 rfl (Nat.le_of_ble_eq_true rfl) ⟨Nat.le_of_ble_eq_true rfl, Nat.le_of_ble_eq_true rfl⟩ (fun v h2 hp => ?_)
              obtain ⟨⟨f, rfl, haf⟩, rfl⟩ := hp
              obtain rfl := aft_next hr1 hg hgn hs haf
              clear haf
              refine x_istore (L' := [some (.ref (ma 30)), some (.int (nI i)), some (.float l), some (.int (nI of)), some (.int (hdI post)), some (.int (levP R L B g.1 i)), none]) hE dX8_levelNow_119 (Nat.le_of_ble_eq_true rfl) rfl ?_
              refine x_goto (tgt := 16) hE dX8_levelNow_121 (by decide) ?_
              refine x_forget (L' := [some (.ref (ma 30)), some (.int (nI i)), some (.float l), some (.int (nI of)), some (.int (hdI post)), none, none]) (And.intro rfl (And.intro rfl (And.intro rfl (And.intro rfl (And.intro rfl trivial))))) ?_
              exact ihp (pre ++ [g]) h1 R1 _ (by rw [hs]; simp) hM1 s1 (by rw [List.foldl_append, ← el]; exact (mixO_n hof (fun z => (x_lei.mp z.2) c53)).symm)
            · have c54 := x_lei.mpr c53
              have hl1 : 1 ≤ lv := lev_pos hlv (by rw [← elv]; exact c54)
              have hmm := (ms_mul hmI hl1 hlv).1
              rw [← elv] at hmm
              refine x_iload_n hE dX8_levelNow_56 rfl ?_
              refine x_if_ne (tgt := 73) hE dX8_levelNow_57 (by decide) (fun c57 => ?_) (fun c57 => ?_)
              · obtain rfl : of = 1 := (by omega : of = 0 ∨ of = 1).elim (fun z => absurd (by rw [z]; rfl) c57) id
                have hlt := late_is (mixO_lv (i := i) (B := B) hf hs).2 hmI hl1 hlv (by omega)
                rw [← elv, ← el] at hlt
                refine x_fload_n hE dX8_levelNow_73 rfl ?_
                refine x_aload_n hE dX8_levelNow_74 rfl rfl ?_
                refine x_iload hE dX8_levelNow_75 rfl ?_
                refine x_callV (ci := 8) (st := [.float l]) hE 1 (c_X8_master G hM1 (by omega : g.1 < 12) hms.2) gX8_levelNow_X8_master rfl rfl rfl (by decide +kernel) ⟨Nat.le_of_ble_eq_true rfl, Nat.le_of_ble_eq_true rfl⟩ hM1.o rfl rfl rfl dX8_levelNow_77 rfl (Nat.le_of_ble_eq_true rfl) ⟨Nat.le_of_ble_eq_true rfl, Nat.le_of_ble_eq_true rfl⟩ (fun v h9 hp => ?_)
                obtain ⟨rfl, rfl⟩ := hp
                refine x_fq (y := (masP R t g)) (hms.1) ?_
                refine x_iload hE dX8_levelNow_80 rfl ?_
                refine x_i2f hE dX8_levelNow_82 ?_
                refine x_fload_n hE dX8_levelNow_83 rfl ?_
                refine x_fsub hE dX8_levelNow_84 (vf_of hlt.1) ?_
                refine x_fmul hE dX8_levelNow_85 (vf_of hlt.2.1) ?_
                refine x_fadd hE dX8_levelNow_86 (vf_of hlt.2.2.1) ?_
                refine x_fstore (L' := [some (.ref (ma 30)), some (.int (nI i)), some (.float l), some (.int (nI 1)), some (.int (nI g.1)), some (.int (levP R L B g.1 i)), some (.float (FP.fadd l (FP.fmul (masP R t g) (FP.fsub (FP.i2f (levP R L B g.1 i)) l))))]) hE dX8_levelNow_87 (Nat.le_of_ble_eq_true rfl) rfl ?_
                refine x_iload_n hE dX8_levelNow_89 rfl ?_
                refine x_iconst (v := nI 1) hE dX8_levelNow_90 (by decide) ?_
                refine x_icmp_eq (tgt := 101) hE dX8_levelNow_91 (by decide) (fun c91 => ?_) (fun c91 => ?_)
                · refine x_fload hE dX8_levelNow_101 rfl ?_
                  refine x_goto (tgt := 107) hE dX8_levelNow_103 (by decide) ?_
                  refine x_fstore_n (L' := [some (.ref (ma 30)), some (.int (nI i)), some (.float (FP.fadd l (FP.fmul (masP R t g) (FP.fsub (FP.i2f (levP R L B g.1 i)) l)))), some (.int (nI 1)), some (.int (nI g.1)), some (.int (levP R L B g.1 i)), some (.float (FP.fadd l (FP.fmul (masP R t g) (FP.fsub (FP.i2f (levP R L B g.1 i)) l))))]) hE dX8_levelNow_107 rfl (Nat.le_of_ble_eq_true rfl) rfl ?_
                  refine x_aload_n hE dX8_levelNow_108 rfl rfl ?_
                  refine x_aload_n hE dX8_levelNow_109 rfl rfl ?_
                  refine x_get hE hinX8 hM1.o rfl 19 (by decide) (List.mem_of_getElem? (i := 3) rfl) rfl dX8_levelNow_110 ?_
                  refine x_iload hE dX8_levelNow_113 rfl ?_
                  refine x_iald (v := R1 19 g.1) hE hM1.a19 (vp_in_nI (by omega) (by decide)) (x_atN _ (by omega)) dX8_levelNow_115 ?_
                  refine x_callV (ci := 8) (st := []) hE 1 (c_X8_after G hM1 hnC h12 (R1 19 g.1)) gX8_levelNow_X8_after rfl rfl rfl (by decide +kernel) ⟨Nat.le_of_ble_eq_true rfl, Nat.le_of_ble_eq_true rfl⟩ hM1.o rfl rfl rfl dX8_levelNow_116 rfl (Nat.le_of_ble_eq_true rfl) ⟨Nat.le_of_ble_eq_true rfl, Nat.le_of_ble_eq_true rfl⟩ (fun v h2 hp => ?_)
                  obtain ⟨⟨f, rfl, haf⟩, rfl⟩ := hp
                  obtain rfl := aft_next hr1 hg hgn hs haf
                  clear haf
                  refine x_istore (L' := [some (.ref (ma 30)), some (.int (nI i)), some (.float (FP.fadd l (FP.fmul (masP R t g) (FP.fsub (FP.i2f (levP R L B g.1 i)) l)))), some (.int (nI 1)), some (.int (hdI post)), some (.int (levP R L B g.1 i)), some (.float (FP.fadd l (FP.fmul (masP R t g) (FP.fsub (FP.i2f (levP R L B g.1 i)) l))))]) hE dX8_levelNow_119 (Nat.le_of_ble_eq_true rfl) rfl ?_
                  refine x_goto (tgt := 16) hE dX8_levelNow_121 (by decide) ?_
                  refine x_forget (L' := [some (.ref (ma 30)), some (.int (nI i)), some (.float (FP.fadd l (FP.fmul (masP R t g) (FP.fsub (FP.i2f (levP R L B g.1 i)) l)))), some (.int (nI 1)), some (.int (hdI post)), none, none]) (And.intro rfl (And.intro rfl (And.intro rfl (And.intro rfl (And.intro rfl trivial))))) ?_
                  exact ihp (pre ++ [g]) h1 R1 _ (by rw [hs]; simp) hM1 s1 (by rw [List.foldl_append, ← el]; exact (mixO_1 ⟨c36, c54⟩).symm)
                · exact absurd rfl c91
              · obtain rfl : of = 0 := x_nIinj (a := of) (b := 0) c57 (by omega) (by omega)
                refine x_aload_n hE dX8_levelNow_60 rfl rfl ?_
                refine x_iload hE dX8_levelNow_61 rfl ?_
                refine x_callV (ci := 8) (st := []) hE 1 (c_X8_master G hM1 (by omega : g.1 < 12) hms.2) gX8_levelNow_X8_master rfl rfl rfl (by decide +kernel) ⟨Nat.le_of_ble_eq_true rfl, Nat.le_of_ble_eq_true rfl⟩ hM1.o rfl rfl rfl dX8_levelNow_63 rfl (Nat.le_of_ble_eq_true rfl) ⟨Nat.le_of_ble_eq_true rfl, Nat.le_of_ble_eq_true rfl⟩ (fun v h9 hp => ?_)
                obtain ⟨rfl, rfl⟩ := hp
                refine x_fq (y := (masP R t g)) (hms.1) ?_
                refine x_iload hE dX8_levelNow_66 rfl ?_
                refine x_i2f hE dX8_levelNow_68 ?_
                refine x_fmul hE dX8_levelNow_69 (vf_of hmm) ?_
                refine x_goto (tgt := 87) hE dX8_levelNow_70 (by decide) ?_
                refine x_fstore (L' := [some (.ref (ma 30)), some (.int (nI i)), some (.float l), some (.int (nI 0)), some (.int (nI g.1)), some (.int (levP R L B g.1 i)), some (.float (FP.fmul (masP R t g) (FP.i2f (levP R L B g.1 i))))]) hE dX8_levelNow_87 (Nat.le_of_ble_eq_true rfl) rfl ?_
                refine x_iload_n hE dX8_levelNow_89 rfl ?_
                refine x_iconst (v := nI 1) hE dX8_levelNow_90 (by decide) ?_
                refine x_icmp_eq (tgt := 101) hE dX8_levelNow_91 (by decide) (fun c91 => ?_) (fun c91 => ?_)
                · exact absurd c91 (by decide)
                · refine x_fload hE dX8_levelNow_94 rfl ?_
                  refine x_fload_n hE dX8_levelNow_96 rfl ?_
                  refine x_fcmp hE dX8_levelNow_97 ?_
                  refine x_if_le (tgt := 106) hE dX8_levelNow_98 (by decide) (fun c98 => ?_) (fun c98 => ?_)
                  · refine x_fload_n hE dX8_levelNow_106 rfl ?_
                    refine x_fstore_n (L' := [some (.ref (ma 30)), some (.int (nI i)), some (.float l), some (.int (nI 0)), some (.int (nI g.1)), some (.int (levP R L B g.1 i)), some (.float (FP.fmul (masP R t g) (FP.i2f (levP R L B g.1 i))))]) hE dX8_levelNow_107 rfl (Nat.le_of_ble_eq_true rfl) rfl ?_
                    refine x_aload_n hE dX8_levelNow_108 rfl rfl ?_
                    refine x_aload_n hE dX8_levelNow_109 rfl rfl ?_
                    refine x_get hE hinX8 hM1.o rfl 19 (by decide) (List.mem_of_getElem? (i := 3) rfl) rfl dX8_levelNow_110 ?_
                    refine x_iload hE dX8_levelNow_113 rfl ?_
                    refine x_iald (v := R1 19 g.1) hE hM1.a19 (vp_in_nI (by omega) (by decide)) (x_atN _ (by omega)) dX8_levelNow_115 ?_
                    refine x_callV (ci := 8) (st := []) hE 1 (c_X8_after G hM1 hnC h12 (R1 19 g.1)) gX8_levelNow_X8_after rfl rfl rfl (by decide +kernel) ⟨Nat.le_of_ble_eq_true rfl, Nat.le_of_ble_eq_true rfl⟩ hM1.o rfl rfl rfl dX8_levelNow_116 rfl (Nat.le_of_ble_eq_true rfl) ⟨Nat.le_of_ble_eq_true rfl, Nat.le_of_ble_eq_true rfl⟩ (fun v h2 hp => ?_)
                    obtain ⟨⟨f, rfl, haf⟩, rfl⟩ := hp
                    obtain rfl := aft_next hr1 hg hgn hs haf
                    clear haf
                    refine x_istore (L' := [some (.ref (ma 30)), some (.int (nI i)), some (.float l), some (.int (nI 0)), some (.int (hdI post)), some (.int (levP R L B g.1 i)), some (.float (FP.fmul (masP R t g) (FP.i2f (levP R L B g.1 i))))]) hE dX8_levelNow_119 (Nat.le_of_ble_eq_true rfl) rfl ?_
                    refine x_goto (tgt := 16) hE dX8_levelNow_121 (by decide) ?_
                    refine x_forget (L' := [some (.ref (ma 30)), some (.int (nI i)), some (.float l), some (.int (nI 0)), some (.int (hdI post)), none, none]) (And.intro rfl (And.intro rfl (And.intro rfl (And.intro rfl (And.intro rfl trivial))))) ?_
                    exact ihp (pre ++ [g]) h1 R1 _ (by rw [hs]; simp) hM1 s1 (by rw [List.foldl_append, ← el]; exact (mixO_0n ⟨c36, c54⟩ (fun z => (x_lei.mp z) c98)).symm)
                  · refine x_fload hE dX8_levelNow_101 rfl ?_
                    refine x_goto (tgt := 107) hE dX8_levelNow_103 (by decide) ?_
                    refine x_fstore_n (L' := [some (.ref (ma 30)), some (.int (nI i)), some (.float (FP.fmul (masP R t g) (FP.i2f (levP R L B g.1 i)))), some (.int (nI 0)), some (.int (nI g.1)), some (.int (levP R L B g.1 i)), some (.float (FP.fmul (masP R t g) (FP.i2f (levP R L B g.1 i))))]) hE dX8_levelNow_107 rfl (Nat.le_of_ble_eq_true rfl) rfl ?_
                    refine x_aload_n hE dX8_levelNow_108 rfl rfl ?_
                    refine x_aload_n hE dX8_levelNow_109 rfl rfl ?_
                    refine x_get hE hinX8 hM1.o rfl 19 (by decide) (List.mem_of_getElem? (i := 3) rfl) rfl dX8_levelNow_110 ?_
                    refine x_iload hE dX8_levelNow_113 rfl ?_
                    refine x_iald (v := R1 19 g.1) hE hM1.a19 (vp_in_nI (by omega) (by decide)) (x_atN _ (by omega)) dX8_levelNow_115 ?_
                    refine x_callV (ci := 8) (st := []) hE 1 (c_X8_after G hM1 hnC h12 (R1 19 g.1)) gX8_levelNow_X8_after rfl rfl rfl (by decide +kernel) ⟨Nat.le_of_ble_eq_true rfl, Nat.le_of_ble_eq_true rfl⟩ hM1.o rfl rfl rfl dX8_levelNow_116 rfl (Nat.le_of_ble_eq_true rfl) ⟨Nat.le_of_ble_eq_true rfl, Nat.le_of_ble_eq_true rfl⟩ (fun v h2 hp => ?_)
                    obtain ⟨⟨f, rfl, haf⟩, rfl⟩ := hp
                    obtain rfl := aft_next hr1 hg hgn hs haf
                    clear haf
                    refine x_istore (L' := [some (.ref (ma 30)), some (.int (nI i)), some (.float (FP.fmul (masP R t g) (FP.i2f (levP R L B g.1 i)))), some (.int (nI 0)), some (.int (hdI post)), some (.int (levP R L B g.1 i)), some (.float (FP.fmul (masP R t g) (FP.i2f (levP R L B g.1 i))))]) hE dX8_levelNow_119 (Nat.le_of_ble_eq_true rfl) rfl ?_
                    refine x_goto (tgt := 16) hE dX8_levelNow_121 (by decide) ?_
                    refine x_forget (L' := [some (.ref (ma 30)), some (.int (nI i)), some (.float (FP.fmul (masP R t g) (FP.i2f (levP R L B g.1 i)))), some (.int (nI 0)), some (.int (hdI post)), none, none]) (And.intro rfl (And.intro rfl (And.intro rfl (And.intro rfl (And.intro rfl trivial))))) ?_
                    exact ihp (pre ++ [g]) h1 R1 _ (by rw [hs]; simp) hM1 s1 (by rw [List.foldl_append, ← el]; exact (mixO_0y ⟨c36, c54⟩ (x_lei.mpr c98)).symm)
