set_option maxHeartbeats 4000000 in
set_option maxRecDepth 100000 in
theorem c_X7_loadNow (G : XG) {ad ow : Nat → Nat} {eA : Nat} {A1 P1 : List Nat} {c1 : Nat → GC} {A2 P2 : List Nat} {c2 : Nat → GC} {RY : List Nat} {S : PS} {h : HM} (hW : cW G ad ow eA A1 P1 c1 A2 P2 c2 RY S h) (hf : fI (s_ar S) (s_L S) (s_C S) (s_t S) (s_G S)) (ph : Int32) : x_M G yX7_loadNow wsX7_loadNow ({ frames := 3, cells := 0, slots := 0, locals := 69 } : Room) [.ref (ad 0), .int ph] h (x_is (some (.float (ldN (s_ar S) (s_L S) (s_B S) (s_t S) (s_G S) ph 16))) h) 0 0 := by
  refine x_M.of (cc := cX7_loadNow) (maxL := 5) (ret := (some .float)) (ent := [some (.ref (ad 0)), some (.int ph), none, none, none]) (by decide +kernel) rfl (Nat.le_of_ble_eq_true rfl) rfl rfl ?_
  intro F hE hname
  have hinX4 : ∀ w ∈ wsX40, w ∈ wsX7_loadNow := by decide +kernel
  have hinX7 : ∀ w ∈ wsX70, w ∈ wsX7_loadNow := by decide +kernel
  obtain ⟨hB, hR, hC, hp, hl, hr, hw, hI, hO⟩ := hW
  have hL := hR.2.2.1
  have hK := goK_of (ar := s_ar S) (L := s_L S) (B := s_B S) hO hC hl.2 hf.2.2.2.1.2
  refine x_fconst0 hE dX7_loadNow_0 ?_
  refine x_fstore_n (L' := [some (.ref (ad 0)), some (.int ph), some (.float FP.fconst0), none, none]) hE dX7_loadNow_1 rfl (Nat.le_of_ble_eq_true rfl) rfl ?_
  refine x_iconst (v := nI 0) hE dX7_loadNow_2 (by decide) ?_
  refine x_istore_n (L' := [some (.ref (ad 0)), some (.int ph), some (.float FP.fconst0), some (.int (nI 0)), none]) hE dX7_loadNow_3 rfl (Nat.le_of_ble_eq_true rfl) rfl ?_
  refine x_down (N := 16) (P := fun i => x_W G F (x_Q G F (x_is (some (.float (ldN (s_ar S) (s_L S) (s_B S) (s_t S) (s_G S) ph 16))) h) 0 0) 0 0 h 4 [some (.ref (ad 0)), some (.int ph), some (.float (ldN (s_ar S) (s_L S) (s_B S) (s_t S) (s_G S) ph i)), some (.int (nI i)), none] []) (fun i hiN ih => ?_) 0 (by omega) 
  refine x_iload_n hE dX7_loadNow_4 rfl ?_
  refine x_bipush (v := nI 16) hE dX7_loadNow_5 (by decide) ?_
  refine x_icmp_ge (tgt := 66) hE dX7_loadNow_7 (by decide) (fun c7 => ?_) (fun c7 => ?_)
  · replace c7 := x_nIle c7 (by omega) (by omega)
    obtain rfl : i = 16 := by omega
    refine x_fload_n hE dX7_loadNow_66 rfl ?_
    exact x_fret hE dX7_loadNow_67 (⟨rfl, rfl⟩)
  · replace c7 := x_nInle c7 (by omega) (by omega)
    refine x_aload_n hE dX7_loadNow_10 rfl rfl ?_
    refine x_get hE hinX7 hB rfl 0 (by decide) (List.mem_of_getElem? (i := 1) rfl) rfl dX7_loadNow_11 ?_
    refine x_iload_n hE dX7_loadNow_14 rfl ?_
    refine x_callV (ci := 5) (st := []) hE 1 (c_X5_lampAt G hR.1 hR.2.1 (nI i)) gX7_loadNow_X5_lampAt rfl rfl rfl (by decide +kernel) ⟨Nat.le_of_ble_eq_true rfl, Nat.le_of_ble_eq_true rfl⟩ hR.1 rfl rfl rfl dX7_loadNow_15 rfl (Nat.le_of_ble_eq_true rfl) ⟨Nat.le_of_ble_eq_true rfl, Nat.le_of_ble_eq_true rfl⟩ (fun v h9 hp => ?_)
    obtain ⟨rfl, rfl⟩ := hp
    rcases Nat.lt_or_ge i (s_L S) with hi2 | hi2
    · refine x_qref (q := (ad (20 + i))) ((lampF_sel (by omega) (by decide)).trans (lampF_in hi2)) ?_
      refine x_astore (L' := [some (.ref (ad 0)), some (.int ph), some (.float (ldN (s_ar S) (s_L S) (s_B S) (s_t S) (s_G S) ph i)), some (.int (nI i)), some (.ref (ad (20 + i)))]) hE dX7_loadNow_18 (Nat.le_of_ble_eq_true rfl) rfl rfl ?_
      refine x_aload hE dX7_loadNow_20 rfl rfl ?_
      refine x_ifnull hE dX7_loadNow_22 ?_
      refine x_aload hE dX7_loadNow_25 rfl rfl ?_
      refine x_get hE hinX4 (hR.2.2.2 i hi2) rfl 4 (by decide) (List.mem_of_getElem? (i := 2) rfl) rfl dX7_loadNow_27 ?_
      refine x_iload_n hE dX7_loadNow_30 rfl ?_
      refine x_icmp_ne (tgt := 60) hE dX7_loadNow_31 (by decide) (fun c31 => ?_) (fun c31 => ?_)
      · have e1 : ldN (s_ar S) (s_L S) (s_B S) (s_t S) (s_G S) ph (i + 1) = (ldN (s_ar S) (s_L S) (s_B S) (s_t S) (s_G S) ph i) := ldN_n (fun z => c31 z.2)
        refine x_iinc (v := nI (i + 1)) (L' := [some (.ref (ad 0)), some (.int ph), some (.float (ldN (s_ar S) (s_L S) (s_B S) (s_t S) (s_G S) ph i)), some (.int (nI (i + 1))), some (.ref (ad (20 + i)))]) hE dX7_loadNow_60 rfl (nI_1 _) rfl ?_
        refine x_goto (tgt := 4) hE dX7_loadNow_63 (by decide) ?_
        have e2 := ih (i + 1) (by omega) (by omega)
        rw [e1] at e2
        refine x_forget (L' := [some (.ref (ad 0)), some (.int ph), some (.float (ldN (s_ar S) (s_L S) (s_B S) (s_t S) (s_G S) ph i)), some (.int (nI (i + 1))), none]) (And.intro rfl (And.intro rfl (And.intro rfl (And.intro rfl trivial)))) ?_
        exact e2
      · obtain ⟨wa, wa1, wa2, hwa⟩ := hf.1 i hi2
        have hml := mixG_lv (L := s_L S) (B := s_B S) (i := i) hf.2.1 hf.2.2.1 hf.2.2.2.1 hf.2.2.2.2
        obtain ⟨q1, q2, q3, -⟩ := load_is (ldN_is (B := s_B S) (ph := ph) hf i (by omega)) hml wa1 wa2 (by omega)
        rw [← hwa] at q1 q2 q3
        refine x_fload_n hE dX7_loadNow_34 rfl ?_
        refine x_aload hE dX7_loadNow_35 rfl rfl ?_
        refine x_get hE hinX4 (hR.2.2.2 i hi2) rfl 3 (by decide) (List.mem_of_getElem? (i := 3) rfl) rfl dX7_loadNow_37 ?_
        refine x_i2f hE dX7_loadNow_40 ?_
        refine x_aload_n hE dX7_loadNow_41 rfl rfl ?_
        refine x_get hE hinX7 hB rfl 3 (by decide) (List.mem_of_getElem? (i := 4) rfl) rfl dX7_loadNow_42 ?_
        refine x_iload_n hE dX7_loadNow_45 rfl ?_
        refine x_aload_n hE dX7_loadNow_46 rfl rfl ?_
        refine x_get hE hinX7 hB rfl 8 (by decide) (List.mem_of_getElem? (i := 5) rfl) rfl dX7_loadNow_47 ?_
        refine x_callV (ci := 2) (st := [.float (FP.i2f (s_ar S 5 i)), .float (ldN (s_ar S) (s_L S) (s_B S) (s_t S) (s_G S) ph i)]) hE 2 (c_X2_mix G hl.1 (now := nI (s_t S)) hK (by omega : i < 16) (mas_mg hO hl.2 hf)) gX7_loadNow_X2_mix rfl rfl rfl (by decide +kernel) ⟨Nat.le_of_ble_eq_true rfl, Nat.le_of_ble_eq_true rfl⟩ hl.1.1 rfl rfl rfl dX7_loadNow_50 rfl (Nat.le_of_ble_eq_true rfl) ⟨Nat.le_of_ble_eq_true rfl, Nat.le_of_ble_eq_true rfl⟩ (fun v h9 hp => ?_)
        obtain ⟨rfl, rfl⟩ := hp
        refine x_fq (y := (mixG (s_ar S) (s_L S) (s_B S) (s_t S) (s_G S) i)) (mixG_of hO hl.2 hf.2.2.2.1.2 _ _) ?_
        refine x_fmul hE dX7_loadNow_53 (vf_of q1) ?_
        refine x_ldcwf (v := (1120403456)) hE (List.mem_of_getElem? (i := 6) rfl) dX7_loadNow_54 ?_
        refine x_fq (y := c100) (rfl) ?_
        refine x_fdiv hE dX7_loadNow_57 (vf_of q2) ?_
        refine x_fadd hE dX7_loadNow_58 (vf_of q3) ?_
        refine x_fstore_n (L' := [some (.ref (ad 0)), some (.int ph), some (.float (FP.fadd (ldN (s_ar S) (s_L S) (s_B S) (s_t S) (s_G S) ph i) (FP.fdiv (FP.fmul (FP.i2f (s_ar S 5 i)) (mixG (s_ar S) (s_L S) (s_B S) (s_t S) (s_G S) i)) c100))), some (.int (nI i)), some (.ref (ad (20 + i)))]) hE dX7_loadNow_59 rfl (Nat.le_of_ble_eq_true rfl) rfl ?_
        refine x_iinc (v := nI (i + 1)) (L' := [some (.ref (ad 0)), some (.int ph), some (.float (FP.fadd (ldN (s_ar S) (s_L S) (s_B S) (s_t S) (s_G S) ph i) (FP.fdiv (FP.fmul (FP.i2f (s_ar S 5 i)) (mixG (s_ar S) (s_L S) (s_B S) (s_t S) (s_G S) i)) c100))), some (.int (nI (i + 1))), some (.ref (ad (20 + i)))]) hE dX7_loadNow_60 rfl (nI_1 _) rfl ?_
        refine x_goto (tgt := 4) hE dX7_loadNow_63 (by decide) ?_
        have e2 := ih (i + 1) (by omega) (by omega)
        rw [ldN_y ⟨hi2, c31⟩] at e2
        refine x_forget (L' := [some (.ref (ad 0)), some (.int ph), some (.float (FP.fadd (ldN (s_ar S) (s_L S) (s_B S) (s_t S) (s_G S) ph i) (FP.fdiv (FP.fmul (FP.i2f (s_ar S 5 i)) (mixG (s_ar S) (s_L S) (s_B S) (s_t S) (s_G S) i)) c100))), some (.int (nI (i + 1))), none]) (And.intro rfl (And.intro rfl (And.intro rfl (And.intro rfl trivial)))) ?_
        exact e2
    · refine x_qnull ((lampF_sel (by omega) (by decide)).trans (lampF_out hi2)) ?_
      refine x_astore (L' := [some (.ref (ad 0)), some (.int ph), some (.float (ldN (s_ar S) (s_L S) (s_B S) (s_t S) (s_G S) ph i)), some (.int (nI i)), some (.null)]) hE dX7_loadNow_18 (Nat.le_of_ble_eq_true rfl) rfl rfl ?_
      refine x_aload hE dX7_loadNow_20 rfl rfl ?_
      refine x_ifnullN (tgt := 60) hE dX7_loadNow_22 (by decide) ?_
      have e1 : ldN (s_ar S) (s_L S) (s_B S) (s_t S) (s_G S) ph (i + 1) = (ldN (s_ar S) (s_L S) (s_B S) (s_t S) (s_G S) ph i) := ldN_n (fun z => absurd z.1 (by omega))
      refine x_iinc (v := nI (i + 1)) (L' := [some (.ref (ad 0)), some (.int ph), some (.float (ldN (s_ar S) (s_L S) (s_B S) (s_t S) (s_G S) ph i)), some (.int (nI (i + 1))), some (.null)]) hE dX7_loadNow_60 rfl (nI_1 _) rfl ?_
      refine x_goto (tgt := 4) hE dX7_loadNow_63 (by decide) ?_
      have e2 := ih (i + 1) (by omega) (by omega)
      rw [e1] at e2
      refine x_forget (L' := [some (.ref (ad 0)), some (.int ph), some (.float (ldN (s_ar S) (s_L S) (s_B S) (s_t S) (s_G S) ph i)), some (.int (nI (i + 1))), none]) (And.intro rfl (And.intro rfl (And.intro rfl (And.intro rfl trivial)))) ?_
      exact e2
