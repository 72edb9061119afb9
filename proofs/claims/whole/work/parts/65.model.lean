theorem sR.fI {R R' : Nat → Nat → Int32} {L C t : Nat} {GL : List GG} (h : sR R R') (hf : fI R L C t GL) : fI R' L C t GL := by
  obtain ⟨h1, h2, h3, h4, h5⟩ := hf
  refine ⟨?_, ?_, h3, h4, fun g hg => h.go (h5 g hg)⟩
  · unfold laI
    rw [h 5 (by decide) (by decide) (by decide)]
    exact h1
  · unfold toI
    rw [h 14 (by decide) (by decide) (by decide)]
    exact h2
theorem sR.mix {R R' : Nat → Nat → Int32} (h : sR R R') (L : Nat) (B : Int32) (t i : Nat) (GL : List GG) : mixG R' L B t GL i = mixG R L B t GL i := by
  have e1 : mixHG R' L B t i = mixHG R L B t i := by
    funext l g
    unfold mixHG
    rw [h.mas, h.lev, h 11 (by decide) (by decide) (by decide)]
  have e2 : mixLG R' L B t i = mixLG R L B t i := by
    funext l g
    unfold mixLG
    rw [h.mas, h.lev, h 11 (by decide) (by decide) (by decide)]
  unfold mixG
  rw [e1, e2]
theorem ldN_end {ar : Nat → Nat → Int32} {L t : Nat} {B : Int32} {GL : List GG} {ph : Int32} : ∀ d, ldN ar L B t GL ph (L + d) = ldN ar L B t GL ph L
  | 0 => rfl
  | d + 1 => by rw [← ldN_end d]; exact ldN_n (n := L + d) (fun z => absurd z.1 (by omega))
theorem ldN_16 {ar : Nat → Nat → Int32} {L t : Nat} {B : Int32} {GL : List GG} {ph : Int32} (h : L ≤ 16) : ldN ar L B t GL ph 16 = ldN ar L B t GL ph L := by
  have := ldN_end (ar := ar) (L := L) (t := t) (B := B) (GL := GL) (ph := ph) (16 - L)
  rw [show L + (16 - L) = 16 by omega] at this
  exact this
set_option maxHeartbeats 4000000 in
set_option maxRecDepth 100000 in
theorem c_X8_load (G : XG) {ma ow : Nat → Nat} {sc : Nat → Int32} {R : Nat → Nat → Int32} {h : HM} (hM : mM G ma ow sc R h) {L C gn t : Nat} {B : Int32} {GL : List GG} (hn : sc 1 = nI L) (hB : sc 8 = B) (hb : L ≤ 16) (hnC : sc 10 = nI C) (ht : sc 0 = nI t) (hf : fI R L C t GL) (hr : gR R C gn GL) (hgn : gn ≤ 2 ^ 30) (ph : Int32) : x_M G yX8_load wsX8_load ({ frames := 5, cells := 0, slots := 0, locals := 116 } : Room) [.ref (ma 30), .int ph] h (fun v h' => v = some (.float (ldN R L B t GL ph L)) ∧ ∃ R' : Nat → Nat → Int32, mM G ma ow sc R' h' ∧ sR R R') 0 0 := by
  refine x_M.of (cc := cX8_load) (maxL := 4) (ret := (some .float)) (ent := [some (.ref (ma 30)), some (.int ph), none, none]) (by decide +kernel) rfl (Nat.le_of_ble_eq_true rfl) rfl rfl ?_
  intro F hE hname
  have hinX8 : ∀ w ∈ wsX80, w ∈ wsX8_load := by decide +kernel
  refine x_fconst0 hE dX8_load_0 ?_
  refine x_fstore_n (L' := [some (.ref (ma 30)), some (.int ph), some (.float FP.fconst0), none]) hE dX8_load_1 rfl (Nat.le_of_ble_eq_true rfl) rfl ?_
  refine x_iconst (v := nI 0) hE dX8_load_2 (by decide) ?_
  refine x_istore_n (L' := [some (.ref (ma 30)), some (.int ph), some (.float FP.fconst0), some (.int (nI 0))]) hE dX8_load_3 rfl (Nat.le_of_ble_eq_true rfl) rfl ?_
  refine x_down (N := L) (P := fun i => ∀ (hi : HM) (Ro : Nat → Nat → Int32), mM G ma ow sc Ro hi → sR R Ro → x_W G F (x_Q G F (fun v h' => v = some (.float (ldN R L B t GL ph L)) ∧ ∃ R' : Nat → Nat → Int32, mM G ma ow sc R' h' ∧ sR R R') 0 0) 0 0 hi 4 [some (.ref (ma 30)), some (.int ph), some (.float (ldN R L B t GL ph i)), some (.int (nI i))] []) (fun i hiN ih => ?_) 0 (by omega) h R hM (sR.refl R)
  intro hi Ro hMi ho
  refine x_iload_n hE dX8_load_4 rfl ?_
  refine x_aload_n hE dX8_load_5 rfl rfl ?_
  refine x_get hE hinX8 hMi.o rfl 1 (by decide) (List.mem_of_getElem? (i := 1) rfl) rfl dX8_load_6 ?_
  refine x_ieq (y := nI L) (hn) ?_
  refine x_icmp_ge (tgt := 47) hE dX8_load_9 (by decide) (fun c9 => ?_) (fun c9 => ?_)
  · replace c9 := x_nIle c9 (by omega) (by omega)
    obtain rfl : i = L := by omega
    refine x_fload_n hE dX8_load_47 rfl ?_
    exact x_fret hE dX8_load_48 (⟨rfl, Ro, hMi, ho⟩)
  · replace c9 := x_nInle c9 (by omega) (by omega)
    refine x_aload_n hE dX8_load_12 rfl rfl ?_
    refine x_get hE hinX8 hMi.o rfl 6 (by decide) (List.mem_of_getElem? (i := 2) rfl) rfl dX8_load_13 ?_
    refine x_iload_n hE dX8_load_16 rfl ?_
    refine x_iald (v := R 6 i) hE hMi.a6 (vp_in_nI (by omega) (by decide)) ((x_atN _ (by omega)).trans (congrFun (ho 6 (by decide) (by decide) (by decide)) i)) dX8_load_17 ?_
    refine x_iload_n hE dX8_load_18 rfl ?_
    refine x_icmp_ne (tgt := 41) hE dX8_load_19 (by decide) (fun c19 => ?_) (fun c19 => ?_)
    · refine x_iinc (v := nI (i + 1)) (L' := [some (.ref (ma 30)), some (.int ph), some (.float (ldN R L B t GL ph i)), some (.int (nI (i + 1)))]) hE dX8_load_41 rfl (nI_1 _) rfl ?_
      refine x_goto (tgt := 4) hE dX8_load_44 (by decide) ?_
      have e2 := ih (i + 1) (by omega) (by omega) hi Ro hMi ho
      rw [ldN_n (fun z => c19 z.2)] at e2
      exact e2
    · refine x_fload_n hE dX8_load_22 rfl ?_
      refine x_aload_n hE dX8_load_23 rfl rfl ?_
      refine x_get hE hinX8 hMi.o rfl 5 (by decide) (List.mem_of_getElem? (i := 3) rfl) rfl dX8_load_24 ?_
      refine x_iload_n hE dX8_load_27 rfl ?_
      refine x_iald (v := R 5 i) hE hMi.a5 (vp_in_nI (by omega) (by decide)) ((x_atN _ (by omega)).trans (congrFun (ho 5 (by decide) (by decide) (by decide)) i)) dX8_load_28 ?_
      refine x_i2f hE dX8_load_29 ?_
      refine x_aload_n hE dX8_load_30 rfl rfl ?_
      refine x_iload_n hE dX8_load_31 rfl ?_
      refine x_callV (ci := 8) (st := [.float (FP.i2f (R 5 i)), .float (ldN R L B t GL ph i)]) hE 1 (c_X8_levelNow G hMi hn hB hb hnC ht (ho.fI hf) (ho.gR hr) hgn (by omega : i < L)) gX8_load_X8_levelNow rfl rfl rfl (by decide +kernel) ⟨Nat.le_of_ble_eq_true rfl, Nat.le_of_ble_eq_true rfl⟩ hMi.o rfl rfl rfl dX8_load_32 rfl (Nat.le_of_ble_eq_true rfl) ⟨Nat.le_of_ble_eq_true rfl, Nat.le_of_ble_eq_true rfl⟩ (fun v h3 hp => ?_)
      obtain ⟨rfl, R3, hM3, s3⟩ := hp
      have s4 := ho.trans s3
      refine x_fq (y := (mixG R L B t GL i)) (ho.mix L B t i GL) ?_
      obtain ⟨w9, hw1, hw2, hw3⟩ := hf.1 i (by omega)
      have hld := load_is (ldN_is (B := B) (ph := ph) hf i (by omega)) (mixG_lv (L := L) (i := i) (B := B) hf.2.1 hf.2.2.1 hf.2.2.2.1 hf.2.2.2.2) hw1 hw2 (by omega)
      rw [← hw3] at hld
      refine x_fmul hE dX8_load_35 (vf_of hld.1) ?_
      refine x_ldcf (v := (1120403456)) hE (List.mem_of_getElem? (i := 4) rfl) dX8_load_36 ?_
      refine x_fq (y := c100) (rfl) ?_
      refine x_fdiv hE dX8_load_38 (vf_of hld.2.1) ?_
      refine x_fadd hE dX8_load_39 (vf_of hld.2.2.1) ?_
      refine x_fstore_n (L' := [some (.ref (ma 30)), some (.int ph), some (.float (FP.fadd (ldN R L B t GL ph i) (FP.fdiv (FP.fmul (FP.i2f (R 5 i)) (mixG R L B t GL i)) c100))), some (.int (nI i))]) hE dX8_load_40 rfl (Nat.le_of_ble_eq_true rfl) rfl ?_
      refine x_iinc (v := nI (i + 1)) (L' := [some (.ref (ma 30)), some (.int ph), some (.float (FP.fadd (ldN R L B t GL ph i) (FP.fdiv (FP.fmul (FP.i2f (R 5 i)) (mixG R L B t GL i)) c100))), some (.int (nI (i + 1)))]) hE dX8_load_41 rfl (nI_1 _) rfl ?_
      refine x_goto (tgt := 4) hE dX8_load_44 (by decide) ?_
      have e2 := ih (i + 1) (by omega) (by omega) h3 R3 hM3 s4
      rw [ldN_y ⟨by omega, c19⟩] at e2
      exact e2
