set_option maxHeartbeats 4000000 in
set_option maxRecDepth 100000 in
theorem c_X2_greatestUnreleased (G : XG) {o w : Nat} {AL SP : List Nat} {ct : Nat → GC} {h : HM} (hW : goW G o w AL SP ct h) {K : CK} (hK : goK G h AL ct K) {lamp : Nat} (hl : lamp < 16) : x_M G yX2_greatestUnreleased wsX2_greatestUnreleased ({ frames := 2, cells := 0, slots := 0, locals := 42 } : Room) [.ref o, .int (nI lamp)] h (x_is (some (.int (AL.foldl (grtS ct K lamp) (nI 0)))) h) 0 0 := by
  refine x_M.of (cc := cX2_greatestUnreleased) (maxL := 5) (ret := (some .int)) (ent := [some (.ref o), some (.int (nI lamp)), none, none, none]) (by decide +kernel) rfl (Nat.le_of_ble_eq_true rfl) rfl rfl ?_
  intro F hE hname
  have hinX2 : ∀ w ∈ wsX20, w ∈ wsX2_greatestUnreleased := by decide +kernel
  obtain ⟨ho, hw, hlen, hnd, hgo⟩ := id hW
  have hle := hW.le
  refine x_iconst (v := nI 0) hE dX2_greatestUnreleased_0 (by decide) ?_
  refine x_istore_n (L' := [some (.ref o), some (.int (nI lamp)), some (.int (nI 0)), none, none]) hE dX2_greatestUnreleased_1 rfl (Nat.le_of_ble_eq_true rfl) rfl ?_
  refine x_iconst (v := nI 0) hE dX2_greatestUnreleased_2 (by decide) ?_
  refine x_istore_n (L' := [some (.ref o), some (.int (nI lamp)), some (.int (nI 0)), some (.int (nI 0)), none]) hE dX2_greatestUnreleased_3 rfl (Nat.le_of_ble_eq_true rfl) rfl ?_
  refine x_down (N := AL.length) (P := fun i => x_W G F (x_Q G F (x_is (some (.int (AL.foldl (grtS ct K lamp) (nI 0)))) h) 0 0) 0 0 h 4 [some (.ref o), some (.int (nI lamp)), some (.int ((AL.take i).foldl (grtS ct K lamp) (nI 0))), some (.int (nI i)), none] []) (fun i hiN ih => ?_) 0 (by omega) 
  refine x_iload_n hE dX2_greatestUnreleased_4 rfl ?_
  refine x_aload_n hE dX2_greatestUnreleased_5 rfl rfl ?_
  refine x_get hE hinX2 ho rfl 1 (by decide) (List.mem_of_getElem? (i := 1) rfl) rfl dX2_greatestUnreleased_6 ?_
  refine x_icmp_ge (tgt := 49) hE dX2_greatestUnreleased_9 (by decide) (fun c9 => ?_) (fun c9 => ?_)
  · replace c9 := x_nIle c9 (by omega) (by omega)
    obtain rfl : i = AL.length := by omega
    refine x_iload_n hE dX2_greatestUnreleased_49 rfl ?_
    exact x_iret hE dX2_greatestUnreleased_50 (⟨by rw [List.take_length], rfl⟩)
  · replace c9 := x_nInle c9 (by omega) (by omega)
    refine x_aload_n hE dX2_greatestUnreleased_12 rfl rfl ?_
    refine x_iload_n hE dX2_greatestUnreleased_13 rfl ?_
    refine x_callV (ci := 2) (st := []) hE 1 (c_X2_at G hW (nI i)) gX2_greatestUnreleased_X2_at rfl rfl rfl (by decide +kernel) ⟨Nat.le_of_ble_eq_true rfl, Nat.le_of_ble_eq_true rfl⟩ ho rfl rfl rfl dX2_greatestUnreleased_14 rfl (Nat.le_of_ble_eq_true rfl) ⟨Nat.le_of_ble_eq_true rfl, Nat.le_of_ble_eq_true rfl⟩ (fun v h9 hp => ?_)
    obtain ⟨rfl, rfl⟩ := hp
    obtain ⟨x, hx⟩ := x_get_lt c9
    refine x_qref (q := x) (hW.sel hx) ?_
    have hxc := hW.at hx
    have hxm := List.mem_of_getElem? hx
    obtain ⟨b, hcb, nu, de, fo, tA, sA, vA, hb, hvA⟩ := hK x hxm
    rw [hcb] at hxc
    refine x_astore (L' := [some (.ref o), some (.int (nI lamp)), some (.int ((AL.take i).foldl (grtS ct K lamp) (nI 0))), some (.int (nI i)), some (.ref x)]) hE dX2_greatestUnreleased_17 (Nat.le_of_ble_eq_true rfl) rfl rfl ?_
    refine x_aload hE dX2_greatestUnreleased_19 rfl rfl ?_
    refine x_ifnull hE dX2_greatestUnreleased_21 ?_
    refine x_aload hE dX2_greatestUnreleased_24 rfl rfl ?_
    refine x_callV (ci := 1) (st := []) hE 0 (c_X1_isReleased G (cu := some b) hxc) gX2_greatestUnreleased_X1_isReleased rfl rfl rfl (by decide +kernel) ⟨Nat.le_of_ble_eq_true rfl, Nat.le_of_ble_eq_true rfl⟩ hxc rfl rfl rfl dX2_greatestUnreleased_26 rfl (Nat.le_of_ble_eq_true rfl) ⟨Nat.le_of_ble_eq_true rfl, Nat.le_of_ble_eq_true rfl⟩ (fun v h9 hp => ?_)
    obtain ⟨rfl, rfl⟩ := hp
    refine x_if_ne (tgt := 43) hE dX2_greatestUnreleased_29 (by decide) (fun c29 => ?_) (fun c29 => ?_)
    · have hr : ¬ (ct x).2.2 = -1 := by have := b2i_n0.mp c29; simpa using this
      refine x_iinc (v := nI (i + 1)) (L' := [some (.ref o), some (.int (nI lamp)), some (.int ((AL.take i).foldl (grtS ct K lamp) (nI 0))), some (.int (nI (i + 1))), some (.ref x)]) hE dX2_greatestUnreleased_43 rfl (nI_1 _) rfl ?_
      refine x_goto (tgt := 4) hE dX2_greatestUnreleased_46 (by decide) ?_
      refine x_Leq (L' := [some (.ref o), some (.int (nI lamp)), some (.int ((AL.take (i + 1)).foldl (grtS ct K lamp) (nI 0))), some (.int (nI (i + 1))), some (.ref x)]) (by rw [take_s _ _ hx]; simp only [grtS, if_neg hr]) ?_
      refine x_forget (L' := [some (.ref o), some (.int (nI lamp)), some (.int ((AL.take (i + 1)).foldl (grtS ct K lamp) (nI 0))), some (.int (nI (i + 1))), none]) (And.intro rfl (And.intro rfl (And.intro rfl (And.intro rfl trivial)))) ?_
      exact ih (i + 1) (by omega) (by omega)
    · have hr : (ct x).2.2 = -1 := by have := b2i_0.mp c29; simpa using this
      refine x_iload_n hE dX2_greatestUnreleased_32 rfl ?_
      refine x_aload hE dX2_greatestUnreleased_33 rfl rfl ?_
      refine x_iload_n hE dX2_greatestUnreleased_35 rfl ?_
      refine x_callV (ci := 1) (st := [.int ((AL.take i).foldl (grtS ct K lamp) (nI 0))]) hE 1 (c_X1_levelFor G hxc hb hvA hl) gX2_greatestUnreleased_X1_levelFor rfl rfl rfl (by decide +kernel) ⟨Nat.le_of_ble_eq_true rfl, Nat.le_of_ble_eq_true rfl⟩ hxc rfl rfl rfl dX2_greatestUnreleased_36 rfl (Nat.le_of_ble_eq_true rfl) ⟨Nat.le_of_ble_eq_true rfl, Nat.le_of_ble_eq_true rfl⟩ (fun v h9 hp => ?_)
      obtain ⟨rfl, rfl⟩ := hp
      refine x_max hE (List.mem_of_getElem? (i := 2) rfl) (List.mem_of_getElem? (i := 3) rfl) (List.mem_of_getElem? (i := 4) rfl) (List.mem_of_getElem? (i := 5) rfl) rfl (Nat.le_of_ble_eq_true rfl) (Nat.le_of_ble_eq_true rfl) ⟨by decide, by decide⟩ dX2_greatestUnreleased_39 ?_
      refine x_istore_n (L' := [some (.ref o), some (.int (nI lamp)), some (.int (if ((AL.take i).foldl (grtS ct K lamp) (nI 0)) < ((K b).2.2.2 lamp) then ((K b).2.2.2 lamp) else ((AL.take i).foldl (grtS ct K lamp) (nI 0)))), some (.int (nI i)), some (.ref x)]) hE dX2_greatestUnreleased_42 rfl (Nat.le_of_ble_eq_true rfl) rfl ?_
      refine x_iinc (v := nI (i + 1)) (L' := [some (.ref o), some (.int (nI lamp)), some (.int (if ((AL.take i).foldl (grtS ct K lamp) (nI 0)) < ((K b).2.2.2 lamp) then ((K b).2.2.2 lamp) else ((AL.take i).foldl (grtS ct K lamp) (nI 0)))), some (.int (nI (i + 1))), some (.ref x)]) hE dX2_greatestUnreleased_43 rfl (nI_1 _) rfl ?_
      refine x_goto (tgt := 4) hE dX2_greatestUnreleased_46 (by decide) ?_
      refine x_Leq (L' := [some (.ref o), some (.int (nI lamp)), some (.int ((AL.take (i + 1)).foldl (grtS ct K lamp) (nI 0))), some (.int (nI (i + 1))), some (.ref x)]) (by rw [take_s _ _ hx]; simp only [grtS, if_pos hr, maxI, gLev_is hcb]) ?_
      refine x_forget (L' := [some (.ref o), some (.int (nI lamp)), some (.int ((AL.take (i + 1)).foldl (grtS ct K lamp) (nI 0))), some (.int (nI (i + 1))), none]) (And.intro rfl (And.intro rfl (And.intro rfl (And.intro rfl trivial)))) ?_
      exact ih (i + 1) (by omega) (by omega)

set_option maxHeartbeats 4000000 in
set_option maxRecDepth 100000 in
theorem c_X2_mix (G : XG) {o w : Nat} {AL SP : List Nat} {ct : Nat → GC} {h : HM} (hW : goW G o w AL SP ct h) {K : CK} (hK : goK G h AL ct K) {lamp : Nat} {now : Int32} (hl : lamp < 16) (hm : ∀ x, x ∈ AL → mg (gMas ct K now x) < 128 * 2 ^ 23) : x_M G yX2_mix wsX2_mix ({ frames := 2, cells := 0, slots := 0, locals := 43 } : Room) [.ref o, .int (nI lamp), .int now] h (x_is (some (.float (mixS ct K now lamp AL))) h) 0 0 := by
  refine x_M.of (cc := cX2_mix) (maxL := 7) (ret := (some .float)) (ent := [some (.ref o), some (.int (nI lamp)), some (.int now), none, none, none, none]) (by decide +kernel) rfl (Nat.le_of_ble_eq_true rfl) rfl rfl ?_
  intro F hE hname
  have hinX2 : ∀ w ∈ wsX20, w ∈ wsX2_mix := by decide +kernel
  obtain ⟨ho, hw, hlen, hnd, hgo⟩ := id hW
  have hle := hW.le
  refine x_fconst0 hE dX2_mix_0 ?_
  refine x_fstore_n (L' := [some (.ref o), some (.int (nI lamp)), some (.int now), some (.float FP.fconst0), none, none, none]) hE dX2_mix_1 rfl (Nat.le_of_ble_eq_true rfl) rfl ?_
  refine x_iconst (v := nI 0) hE dX2_mix_2 (by decide) ?_
  refine x_istore (L' := [some (.ref o), some (.int (nI lamp)), some (.int now), some (.float FP.fconst0), some (.int (nI 0)), none, none]) hE dX2_mix_3 (Nat.le_of_ble_eq_true rfl) rfl ?_
  refine x_down (N := AL.length) (P := fun i => mg ((AL.take i).foldl (mixH ct K now lamp) FP.fconst0) < 162 * 2 ^ 23 → x_W G F (x_Q G F (x_is (some (.float (mixS ct K now lamp AL))) h) 0 0) 0 0 h 5 [some (.ref o), some (.int (nI lamp)), some (.int now), some (.float ((AL.take i).foldl (mixH ct K now lamp) FP.fconst0)), some (.int (nI i)), none, none] []) (fun i hiN ih => ?_) 0 (by omega) (show mg FP.fconst0 < 162 * 2 ^ 23 by decide)
  intro hl1
  refine x_iload hE dX2_mix_5 rfl ?_
  refine x_aload_n hE dX2_mix_7 rfl rfl ?_
  refine x_get hE hinX2 ho rfl 1 (by decide) (List.mem_of_getElem? (i := 1) rfl) rfl dX2_mix_8 ?_
  refine x_icmp_ge (tgt := 81) hE dX2_mix_11 (by decide) (fun c11 => ?_) (fun c11 => ?_)
  · replace c11 := x_nIle c11 (by omega) (by omega)
    obtain rfl : i = AL.length := by omega
    rw [List.take_length] at hl1 ⊢
    refine x_iconst (v := nI 0) hE dX2_mix_81 (by decide) ?_
    refine x_istore (L' := [some (.ref o), some (.int (nI lamp)), some (.int now), some (.float (AL.foldl (mixH ct K now lamp) FP.fconst0)), some (.int (nI 0)), none, none]) hE dX2_mix_82 (Nat.le_of_ble_eq_true rfl) rfl ?_
    clear ih hiN
    refine x_down (N := AL.length) (P := fun i => mg ((AL.take i).foldl (mixL ct K now lamp) (AL.foldl (mixH ct K now lamp) FP.fconst0)) < (162 + 6 * i) * 2 ^ 23 → x_W G F (x_Q G F (x_is (some (.float (mixS ct K now lamp AL))) h) 0 0) 0 0 h 84 [some (.ref o), some (.int (nI lamp)), some (.int now), some (.float ((AL.take i).foldl (mixL ct K now lamp) (AL.foldl (mixH ct K now lamp) FP.fconst0))), some (.int (nI i)), none, none] []) (fun i hiN ih => ?_) 0 (by omega) hl1
    intro hl2
    refine x_iload hE dX2_mix_84 rfl ?_
    refine x_aload_n hE dX2_mix_86 rfl rfl ?_
    refine x_get hE hinX2 ho rfl 1 (by decide) (List.mem_of_getElem? (i := 1) rfl) rfl dX2_mix_87 ?_
    refine x_icmp_ge (tgt := 149) hE dX2_mix_90 (by decide) (fun c90 => ?_) (fun c90 => ?_)
    · replace c90 := x_nIle c90 (by omega) (by omega)
      obtain rfl : i = AL.length := by omega
      refine x_fload_n hE dX2_mix_149 rfl ?_
      exact x_fret hE dX2_mix_150 (⟨by rw [List.take_length]; rfl, rfl⟩)
    · replace c90 := x_nInle c90 (by omega) (by omega)
      refine x_aload_n hE dX2_mix_93 rfl rfl ?_
      refine x_iload hE dX2_mix_94 rfl ?_
      refine x_callV (ci := 2) (st := []) hE 1 (c_X2_at G hW (nI i)) gX2_mix_X2_at rfl rfl rfl (by decide +kernel) ⟨Nat.le_of_ble_eq_true rfl, Nat.le_of_ble_eq_true rfl⟩ ho rfl rfl rfl dX2_mix_96 rfl (Nat.le_of_ble_eq_true rfl) ⟨Nat.le_of_ble_eq_true rfl, Nat.le_of_ble_eq_true rfl⟩ (fun v h9 hp => ?_)
      obtain ⟨rfl, rfl⟩ := hp
      obtain ⟨x, hx⟩ := x_get_lt c90
      refine x_qref (q := x) (hW.sel hx) ?_
      have hxc := hW.at hx
      have hxm := List.mem_of_getElem? hx
      obtain ⟨b, hcb, nu, de, fo, tA, sA, vA, hb, hvA⟩ := hK x hxm
      rw [hcb] at hxc
      refine x_astore (L' := [some (.ref o), some (.int (nI lamp)), some (.int now), some (.float ((AL.take i).foldl (mixL ct K now lamp) (AL.foldl (mixH ct K now lamp) FP.fconst0))), some (.int (nI i)), some (.ref x), none]) hE dX2_mix_99 (Nat.le_of_ble_eq_true rfl) rfl rfl ?_
      refine x_aload hE dX2_mix_101 rfl rfl ?_
      refine x_ifnull hE dX2_mix_103 ?_
      refine x_aload hE dX2_mix_106 rfl rfl ?_
      refine x_iconst (v := nI 1) hE dX2_mix_108 (by decide) ?_
      refine x_callV (ci := 1) (st := []) hE 1 (c_X1_isOf G (x := nI 1) hxc hb) gX2_mix_X1_isOf rfl rfl rfl (by decide +kernel) ⟨Nat.le_of_ble_eq_true rfl, Nat.le_of_ble_eq_true rfl⟩ hxc rfl rfl rfl dX2_mix_109 rfl (Nat.le_of_ble_eq_true rfl) ⟨Nat.le_of_ble_eq_true rfl, Nat.le_of_ble_eq_true rfl⟩ (fun v h9 hp => ?_)
      obtain ⟨rfl, rfl⟩ := hp
      refine x_if_eq (tgt := 143) hE dX2_mix_112 (by decide) (fun c112 => ?_) (fun c112 => ?_)
      · have hs : ¬ (K b).1 = nI 1 := by have := b2i_0.mp c112; simpa using this
        have hm : mixL ct K now lamp ((AL.take i).foldl (mixL ct K now lamp) (AL.foldl (mixH ct K now lamp) FP.fconst0)) x = (AL.take i).foldl (mixL ct K now lamp) (AL.foldl (mixH ct K now lamp) FP.fconst0) := mixL_no hcb (Or.inl hs)
        refine x_iinc (v := nI (i + 1)) (L' := [some (.ref o), some (.int (nI lamp)), some (.int now), some (.float ((AL.take i).foldl (mixL ct K now lamp) (AL.foldl (mixH ct K now lamp) FP.fconst0))), some (.int (nI (i + 1))), some (.ref x), none]) hE dX2_mix_143 rfl (nI_1 _) rfl ?_
        refine x_goto (tgt := 84) hE dX2_mix_146 (by decide) ?_
        have e1 := take_s (mixL ct K now lamp) (AL.foldl (mixH ct K now lamp) FP.fconst0) hx
        refine x_Leq (L' := [some (.ref o), some (.int (nI lamp)), some (.int now), some (.float ((AL.take (i + 1)).foldl (mixL ct K now lamp) (AL.foldl (mixH ct K now lamp) FP.fconst0))), some (.int (nI (i + 1))), some (.ref x), none]) (by rw [e1]; rw [hm]) ?_
        refine x_forget (L' := [some (.ref o), some (.int (nI lamp)), some (.int now), some (.float ((AL.take (i + 1)).foldl (mixL ct K now lamp) (AL.foldl (mixH ct K now lamp) FP.fconst0))), some (.int (nI (i + 1))), none, none]) (And.intro rfl (And.intro rfl (And.intro rfl (And.intro rfl (And.intro rfl trivial))))) ?_
        exact ih (i + 1) (by omega) (by omega) (by rw [e1]; rw [hm]; exact fp_le hl2 (by omega))
      · have hs : (K b).1 = nI 1 := by have := b2i_n0.mp c112; simpa using this
        refine x_aload hE dX2_mix_115 rfl rfl ?_
        refine x_iload_n hE dX2_mix_117 rfl ?_
        refine x_callV (ci := 1) (st := []) hE 1 (c_X1_levelFor G hxc hb hvA hl) gX2_mix_X1_levelFor rfl rfl rfl (by decide +kernel) ⟨Nat.le_of_ble_eq_true rfl, Nat.le_of_ble_eq_true rfl⟩ hxc rfl rfl rfl dX2_mix_118 rfl (Nat.le_of_ble_eq_true rfl) ⟨Nat.le_of_ble_eq_true rfl, Nat.le_of_ble_eq_true rfl⟩ (fun v h9 hp => ?_)
        obtain ⟨rfl, rfl⟩ := hp
        refine x_if_le (tgt := 143) hE dX2_mix_121 (by decide) (fun c121 => ?_) (fun c121 => ?_)
        · have hm : mixL ct K now lamp ((AL.take i).foldl (mixL ct K now lamp) (AL.foldl (mixH ct K now lamp) FP.fconst0)) x = (AL.take i).foldl (mixL ct K now lamp) (AL.foldl (mixH ct K now lamp) FP.fconst0) := mixL_no hcb (Or.inr c121)
          refine x_iinc (v := nI (i + 1)) (L' := [some (.ref o), some (.int (nI lamp)), some (.int now), some (.float ((AL.take i).foldl (mixL ct K now lamp) (AL.foldl (mixH ct K now lamp) FP.fconst0))), some (.int (nI (i + 1))), some (.ref x), none]) hE dX2_mix_143 rfl (nI_1 _) rfl ?_
          refine x_goto (tgt := 84) hE dX2_mix_146 (by decide) ?_
          have e1 := take_s (mixL ct K now lamp) (AL.foldl (mixH ct K now lamp) FP.fconst0) hx
          refine x_Leq (L' := [some (.ref o), some (.int (nI lamp)), some (.int now), some (.float ((AL.take (i + 1)).foldl (mixL ct K now lamp) (AL.foldl (mixH ct K now lamp) FP.fconst0))), some (.int (nI (i + 1))), some (.ref x), none]) (by rw [e1]; rw [hm]) ?_
          refine x_forget (L' := [some (.ref o), some (.int (nI lamp)), some (.int now), some (.float ((AL.take (i + 1)).foldl (mixL ct K now lamp) (AL.foldl (mixH ct K now lamp) FP.fconst0))), some (.int (nI (i + 1))), none, none]) (And.intro rfl (And.intro rfl (And.intro rfl (And.intro rfl (And.intro rfl trivial))))) ?_
          exact ih (i + 1) (by omega) (by omega) (by rw [e1]; rw [hm]; exact fp_le hl2 (by omega))
        · refine x_fload_n hE dX2_mix_124 rfl ?_
          refine x_aload hE dX2_mix_125 rfl rfl ?_
          refine x_iload_n hE dX2_mix_127 rfl ?_
          refine x_callV (ci := 1) (st := [.float ((AL.take i).foldl (mixL ct K now lamp) (AL.foldl (mixH ct K now lamp) FP.fconst0))]) hE 1 (c_X1_master G hxc hb) gX2_mix_X1_master rfl rfl rfl (by decide +kernel) ⟨Nat.le_of_ble_eq_true rfl, Nat.le_of_ble_eq_true rfl⟩ hxc rfl rfl rfl dX2_mix_128 rfl (Nat.le_of_ble_eq_true rfl) ⟨Nat.le_of_ble_eq_true rfl, Nat.le_of_ble_eq_true rfl⟩ (fun v h9 hp => ?_)
          obtain ⟨rfl, rfl⟩ := hp
          refine x_aload hE dX2_mix_131 rfl rfl ?_
          refine x_iload_n hE dX2_mix_133 rfl ?_
          refine x_callV (ci := 1) (st := [.float (masterG (K b).2.1 (K b).2.2.1 (ct x).2.1 (ct x).2.2 now), .float ((AL.take i).foldl (mixL ct K now lamp) (AL.foldl (mixH ct K now lamp) FP.fconst0))]) hE 1 (c_X1_levelFor G hxc hb hvA hl) gX2_mix_X1_levelFor rfl rfl rfl (by decide +kernel) ⟨Nat.le_of_ble_eq_true rfl, Nat.le_of_ble_eq_true rfl⟩ hxc rfl rfl rfl dX2_mix_134 rfl (Nat.le_of_ble_eq_true rfl) ⟨Nat.le_of_ble_eq_true rfl, Nat.le_of_ble_eq_true rfl⟩ (fun v h9 hp => ?_)
          obtain ⟨rfl, rfl⟩ := hp
          refine x_i2f hE dX2_mix_137 ?_
          refine x_fload_n hE dX2_mix_138 rfl ?_
          have hmx := hm x hxm
          rw [gMas_is hcb] at hmx
          have f1 := fp_sub (fp_le (fp_i2f ((K b).2.2.2 lamp)) (Nat.le_add_right 160 (2 + 6 * i))) (fp_le hl2 (by omega : 162 + 6 * i ≤ 160 + (2 + 6 * i))) (by omega)
          refine x_fsub hE dX2_mix_139 f1.1 ?_
          have f2 := fp_mul hmx f1.2 (by decide) (by omega) (by omega)
          refine x_fmul hE dX2_mix_140 f2.1 ?_
          have f3 := fp_add (fp_le hl2 (by omega : 162 + 6 * i ≤ 166 + 6 * i)) (fp_le f2.2 (by omega : 128 + (160 + (2 + 6 * i) + 2) - 129 + 3 ≤ 166 + 6 * i)) (by omega)
          refine x_fadd hE dX2_mix_141 f3.1 ?_
          have hm2 : mixL ct K now lamp ((AL.take i).foldl (mixL ct K now lamp) (AL.foldl (mixH ct K now lamp) FP.fconst0)) x = FP.fadd ((AL.take i).foldl (mixL ct K now lamp) (AL.foldl (mixH ct K now lamp) FP.fconst0)) (FP.fmul (masterG (K b).2.1 (K b).2.2.1 (ct x).2.1 (ct x).2.2 now) (FP.fsub (FP.i2f ((K b).2.2.2 lamp)) ((AL.take i).foldl (mixL ct K now lamp) (AL.foldl (mixH ct K now lamp) FP.fconst0)))) := mixL_is hcb hs c121
          refine x_fstore_n (L' := [some (.ref o), some (.int (nI lamp)), some (.int now), some (.float (FP.fadd ((AL.take i).foldl (mixL ct K now lamp) (AL.foldl (mixH ct K now lamp) FP.fconst0)) (FP.fmul (masterG (K b).2.1 (K b).2.2.1 (ct x).2.1 (ct x).2.2 now) (FP.fsub (FP.i2f ((K b).2.2.2 lamp)) ((AL.take i).foldl (mixL ct K now lamp) (AL.foldl (mixH ct K now lamp) FP.fconst0)))))), some (.int (nI i)), some (.ref x), none]) hE dX2_mix_142 rfl (Nat.le_of_ble_eq_true rfl) rfl ?_
          refine x_iinc (v := nI (i + 1)) (L' := [some (.ref o), some (.int (nI lamp)), some (.int now), some (.float (FP.fadd ((AL.take i).foldl (mixL ct K now lamp) (AL.foldl (mixH ct K now lamp) FP.fconst0)) (FP.fmul (masterG (K b).2.1 (K b).2.2.1 (ct x).2.1 (ct x).2.2 now) (FP.fsub (FP.i2f ((K b).2.2.2 lamp)) ((AL.take i).foldl (mixL ct K now lamp) (AL.foldl (mixH ct K now lamp) FP.fconst0)))))), some (.int (nI (i + 1))), some (.ref x), none]) hE dX2_mix_143 rfl (nI_1 _) rfl ?_
          refine x_goto (tgt := 84) hE dX2_mix_146 (by decide) ?_
          have e1 := take_s (mixL ct K now lamp) (AL.foldl (mixH ct K now lamp) FP.fconst0) hx
          refine x_Leq (L' := [some (.ref o), some (.int (nI lamp)), some (.int now), some (.float ((AL.take (i + 1)).foldl (mixL ct K now lamp) (AL.foldl (mixH ct K now lamp) FP.fconst0))), some (.int (nI (i + 1))), some (.ref x), none]) (by rw [e1]; rw [hm2]) ?_
          refine x_forget (L' := [some (.ref o), some (.int (nI lamp)), some (.int now), some (.float ((AL.take (i + 1)).foldl (mixL ct K now lamp) (AL.foldl (mixH ct K now lamp) FP.fconst0))), some (.int (nI (i + 1))), none, none]) (And.intro rfl (And.intro rfl (And.intro rfl (And.intro rfl (And.intro rfl trivial))))) ?_
          exact ih (i + 1) (by omega) (by omega) (by rw [e1]; rw [hm2]; exact fp_le f3.2 (by omega))
  · replace c11 := x_nInle c11 (by omega) (by omega)
    refine x_aload_n hE dX2_mix_14 rfl rfl ?_
    refine x_iload hE dX2_mix_15 rfl ?_
    refine x_callV (ci := 2) (st := []) hE 1 (c_X2_at G hW (nI i)) gX2_mix_X2_at rfl rfl rfl (by decide +kernel) ⟨Nat.le_of_ble_eq_true rfl, Nat.le_of_ble_eq_true rfl⟩ ho rfl rfl rfl dX2_mix_17 rfl (Nat.le_of_ble_eq_true rfl) ⟨Nat.le_of_ble_eq_true rfl, Nat.le_of_ble_eq_true rfl⟩ (fun v h9 hp => ?_)
    obtain ⟨rfl, rfl⟩ := hp
    obtain ⟨x, hx⟩ := x_get_lt c11
    refine x_qref (q := x) (hW.sel hx) ?_
    have hxc := hW.at hx
    have hxm := List.mem_of_getElem? hx
    obtain ⟨b, hcb, nu, de, fo, tA, sA, vA, hb, hvA⟩ := hK x hxm
    rw [hcb] at hxc
    refine x_astore (L' := [some (.ref o), some (.int (nI lamp)), some (.int now), some (.float ((AL.take i).foldl (mixH ct K now lamp) FP.fconst0)), some (.int (nI i)), some (.ref x), none]) hE dX2_mix_20 (Nat.le_of_ble_eq_true rfl) rfl rfl ?_
    refine x_aload hE dX2_mix_22 rfl rfl ?_
    refine x_ifnull hE dX2_mix_24 ?_
    refine x_aload hE dX2_mix_27 rfl rfl ?_
    refine x_iconst (v := nI 0) hE dX2_mix_29 (by decide) ?_
    refine x_callV (ci := 1) (st := []) hE 1 (c_X1_isOf G (x := nI 0) hxc hb) gX2_mix_X1_isOf rfl rfl rfl (by decide +kernel) ⟨Nat.le_of_ble_eq_true rfl, Nat.le_of_ble_eq_true rfl⟩ hxc rfl rfl rfl dX2_mix_30 rfl (Nat.le_of_ble_eq_true rfl) ⟨Nat.le_of_ble_eq_true rfl, Nat.le_of_ble_eq_true rfl⟩ (fun v h9 hp => ?_)
    obtain ⟨rfl, rfl⟩ := hp
    refine x_if_eq (tgt := 75) hE dX2_mix_33 (by decide) (fun c33 => ?_) (fun c33 => ?_)
    · have hs : ¬ (K b).1 = nI 0 := by have := b2i_0.mp c33; simpa using this
      have hm : mixH ct K now lamp ((AL.take i).foldl (mixH ct K now lamp) FP.fconst0) x = (AL.take i).foldl (mixH ct K now lamp) FP.fconst0 := mixH_no hcb (Or.inl hs)
      refine x_iinc (v := nI (i + 1)) (L' := [some (.ref o), some (.int (nI lamp)), some (.int now), some (.float ((AL.take i).foldl (mixH ct K now lamp) FP.fconst0)), some (.int (nI (i + 1))), some (.ref x), none]) hE dX2_mix_75 rfl (nI_1 _) rfl ?_
      refine x_goto (tgt := 5) hE dX2_mix_78 (by decide) ?_
      have e1 := take_s (mixH ct K now lamp) FP.fconst0 hx
      refine x_Leq (L' := [some (.ref o), some (.int (nI lamp)), some (.int now), some (.float ((AL.take (i + 1)).foldl (mixH ct K now lamp) FP.fconst0)), some (.int (nI (i + 1))), some (.ref x), none]) (by rw [e1]; rw [hm]) ?_
      refine x_forget (L' := [some (.ref o), some (.int (nI lamp)), some (.int now), some (.float ((AL.take (i + 1)).foldl (mixH ct K now lamp) FP.fconst0)), some (.int (nI (i + 1))), none, none]) (And.intro rfl (And.intro rfl (And.intro rfl (And.intro rfl (And.intro rfl trivial))))) ?_
      exact ih (i + 1) (by omega) (by omega) (by rw [e1]; rw [hm]; exact hl1)
    · have hs : (K b).1 = nI 0 := by have := b2i_n0.mp c33; simpa using this
      refine x_aload hE dX2_mix_36 rfl rfl ?_
      refine x_iload_n hE dX2_mix_38 rfl ?_
      refine x_callV (ci := 1) (st := []) hE 1 (c_X1_levelFor G hxc hb hvA hl) gX2_mix_X1_levelFor rfl rfl rfl (by decide +kernel) ⟨Nat.le_of_ble_eq_true rfl, Nat.le_of_ble_eq_true rfl⟩ hxc rfl rfl rfl dX2_mix_39 rfl (Nat.le_of_ble_eq_true rfl) ⟨Nat.le_of_ble_eq_true rfl, Nat.le_of_ble_eq_true rfl⟩ (fun v h9 hp => ?_)
      obtain ⟨rfl, rfl⟩ := hp
      refine x_if_le (tgt := 75) hE dX2_mix_42 (by decide) (fun c42 => ?_) (fun c42 => ?_)
      · have hm : mixH ct K now lamp ((AL.take i).foldl (mixH ct K now lamp) FP.fconst0) x = (AL.take i).foldl (mixH ct K now lamp) FP.fconst0 := mixH_no hcb (Or.inr c42)
        refine x_iinc (v := nI (i + 1)) (L' := [some (.ref o), some (.int (nI lamp)), some (.int now), some (.float ((AL.take i).foldl (mixH ct K now lamp) FP.fconst0)), some (.int (nI (i + 1))), some (.ref x), none]) hE dX2_mix_75 rfl (nI_1 _) rfl ?_
        refine x_goto (tgt := 5) hE dX2_mix_78 (by decide) ?_
        have e1 := take_s (mixH ct K now lamp) FP.fconst0 hx
        refine x_Leq (L' := [some (.ref o), some (.int (nI lamp)), some (.int now), some (.float ((AL.take (i + 1)).foldl (mixH ct K now lamp) FP.fconst0)), some (.int (nI (i + 1))), some (.ref x), none]) (by rw [e1]; rw [hm]) ?_
        refine x_forget (L' := [some (.ref o), some (.int (nI lamp)), some (.int now), some (.float ((AL.take (i + 1)).foldl (mixH ct K now lamp) FP.fconst0)), some (.int (nI (i + 1))), none, none]) (And.intro rfl (And.intro rfl (And.intro rfl (And.intro rfl (And.intro rfl trivial))))) ?_
        exact ih (i + 1) (by omega) (by omega) (by rw [e1]; rw [hm]; exact hl1)
      · refine x_aload hE dX2_mix_45 rfl rfl ?_
        refine x_iload_n hE dX2_mix_47 rfl ?_
        refine x_callV (ci := 1) (st := []) hE 1 (c_X1_master G hxc hb) gX2_mix_X1_master rfl rfl rfl (by decide +kernel) ⟨Nat.le_of_ble_eq_true rfl, Nat.le_of_ble_eq_true rfl⟩ hxc rfl rfl rfl dX2_mix_48 rfl (Nat.le_of_ble_eq_true rfl) ⟨Nat.le_of_ble_eq_true rfl, Nat.le_of_ble_eq_true rfl⟩ (fun v h9 hp => ?_)
        obtain ⟨rfl, rfl⟩ := hp
        refine x_aload hE dX2_mix_51 rfl rfl ?_
        refine x_iload_n hE dX2_mix_53 rfl ?_
        refine x_callV (ci := 1) (st := [.float (masterG (K b).2.1 (K b).2.2.1 (ct x).2.1 (ct x).2.2 now)]) hE 1 (c_X1_levelFor G hxc hb hvA hl) gX2_mix_X1_levelFor rfl rfl rfl (by decide +kernel) ⟨Nat.le_of_ble_eq_true rfl, Nat.le_of_ble_eq_true rfl⟩ hxc rfl rfl rfl dX2_mix_54 rfl (Nat.le_of_ble_eq_true rfl) ⟨Nat.le_of_ble_eq_true rfl, Nat.le_of_ble_eq_true rfl⟩ (fun v h9 hp => ?_)
        obtain ⟨rfl, rfl⟩ := hp
        refine x_i2f hE dX2_mix_57 ?_
        have hmx := hm x hxm
        rw [gMas_is hcb] at hmx
        have f2 := fp_mul hmx (fp_i2f ((K b).2.2.2 lamp)) (by decide) (by decide) (by decide)
        refine x_fmul hE dX2_mix_58 f2.1 ?_
        refine x_fstore (L' := [some (.ref o), some (.int (nI lamp)), some (.int now), some (.float ((AL.take i).foldl (mixH ct K now lamp) FP.fconst0)), some (.int (nI i)), some (.ref x), some (.float (FP.fmul (masterG (K b).2.1 (K b).2.2.1 (ct x).2.1 (ct x).2.2 now) (FP.i2f ((K b).2.2.2 lamp))))]) hE dX2_mix_59 (Nat.le_of_ble_eq_true rfl) rfl ?_
        refine x_fload hE dX2_mix_61 rfl ?_
        refine x_fload_n hE dX2_mix_63 rfl ?_
        refine x_fcmp hE dX2_mix_64 ?_
        refine x_if_le (tgt := 73) hE dX2_mix_65 (by decide) (fun c65 => ?_) (fun c65 => ?_)
        · have hm2 : mixH ct K now lamp ((AL.take i).foldl (mixH ct K now lamp) FP.fconst0) x = (AL.take i).foldl (mixH ct K now lamp) FP.fconst0 := mixH_le hcb c65
          refine x_fload_n hE dX2_mix_73 rfl ?_
          refine x_fstore_n (L' := [some (.ref o), some (.int (nI lamp)), some (.int now), some (.float ((AL.take i).foldl (mixH ct K now lamp) FP.fconst0)), some (.int (nI i)), some (.ref x), some (.float (FP.fmul (masterG (K b).2.1 (K b).2.2.1 (ct x).2.1 (ct x).2.2 now) (FP.i2f ((K b).2.2.2 lamp))))]) hE dX2_mix_74 rfl (Nat.le_of_ble_eq_true rfl) rfl ?_
          refine x_iinc (v := nI (i + 1)) (L' := [some (.ref o), some (.int (nI lamp)), some (.int now), some (.float ((AL.take i).foldl (mixH ct K now lamp) FP.fconst0)), some (.int (nI (i + 1))), some (.ref x), some (.float (FP.fmul (masterG (K b).2.1 (K b).2.2.1 (ct x).2.1 (ct x).2.2 now) (FP.i2f ((K b).2.2.2 lamp))))]) hE dX2_mix_75 rfl (nI_1 _) rfl ?_
          refine x_goto (tgt := 5) hE dX2_mix_78 (by decide) ?_
          have e1 := take_s (mixH ct K now lamp) FP.fconst0 hx
          refine x_Leq (L' := [some (.ref o), some (.int (nI lamp)), some (.int now), some (.float ((AL.take (i + 1)).foldl (mixH ct K now lamp) FP.fconst0)), some (.int (nI (i + 1))), some (.ref x), some (.float (FP.fmul (masterG (K b).2.1 (K b).2.2.1 (ct x).2.1 (ct x).2.2 now) (FP.i2f ((K b).2.2.2 lamp))))]) (by rw [e1]; rw [hm2]) ?_
          refine x_forget (L' := [some (.ref o), some (.int (nI lamp)), some (.int now), some (.float ((AL.take (i + 1)).foldl (mixH ct K now lamp) FP.fconst0)), some (.int (nI (i + 1))), none, none]) (And.intro rfl (And.intro rfl (And.intro rfl (And.intro rfl (And.intro rfl trivial))))) ?_
          exact ih (i + 1) (by omega) (by omega) (by rw [e1]; rw [hm2]; exact hl1)
        · have hm2 : mixH ct K now lamp ((AL.take i).foldl (mixH ct K now lamp) FP.fconst0) x = FP.fmul (masterG (K b).2.1 (K b).2.2.1 (ct x).2.1 (ct x).2.2 now) (FP.i2f ((K b).2.2.2 lamp)) := mixH_gt hcb hs c42 c65
          refine x_fload hE dX2_mix_68 rfl ?_
          refine x_goto (tgt := 74) hE dX2_mix_70 (by decide) ?_
          refine x_fstore_n (L' := [some (.ref o), some (.int (nI lamp)), some (.int now), some (.float (FP.fmul (masterG (K b).2.1 (K b).2.2.1 (ct x).2.1 (ct x).2.2 now) (FP.i2f ((K b).2.2.2 lamp)))), some (.int (nI i)), some (.ref x), some (.float (FP.fmul (masterG (K b).2.1 (K b).2.2.1 (ct x).2.1 (ct x).2.2 now) (FP.i2f ((K b).2.2.2 lamp))))]) hE dX2_mix_74 rfl (Nat.le_of_ble_eq_true rfl) rfl ?_
          refine x_iinc (v := nI (i + 1)) (L' := [some (.ref o), some (.int (nI lamp)), some (.int now), some (.float (FP.fmul (masterG (K b).2.1 (K b).2.2.1 (ct x).2.1 (ct x).2.2 now) (FP.i2f ((K b).2.2.2 lamp)))), some (.int (nI (i + 1))), some (.ref x), some (.float (FP.fmul (masterG (K b).2.1 (K b).2.2.1 (ct x).2.1 (ct x).2.2 now) (FP.i2f ((K b).2.2.2 lamp))))]) hE dX2_mix_75 rfl (nI_1 _) rfl ?_
          refine x_goto (tgt := 5) hE dX2_mix_78 (by decide) ?_
          have e1 := take_s (mixH ct K now lamp) FP.fconst0 hx
          refine x_Leq (L' := [some (.ref o), some (.int (nI lamp)), some (.int now), some (.float ((AL.take (i + 1)).foldl (mixH ct K now lamp) FP.fconst0)), some (.int (nI (i + 1))), some (.ref x), some (.float (FP.fmul (masterG (K b).2.1 (K b).2.2.1 (ct x).2.1 (ct x).2.2 now) (FP.i2f ((K b).2.2.2 lamp))))]) (by rw [e1]; rw [hm2]) ?_
          refine x_forget (L' := [some (.ref o), some (.int (nI lamp)), some (.int now), some (.float ((AL.take (i + 1)).foldl (mixH ct K now lamp) FP.fconst0)), some (.int (nI (i + 1))), none, none]) (And.intro rfl (And.intro rfl (And.intro rfl (And.intro rfl (And.intro rfl trivial))))) ?_
          exact ih (i + 1) (by omega) (by omega) (by rw [e1]; rw [hm2]; exact f2.2)

set_option maxHeartbeats 4000000 in
set_option maxRecDepth 100000 in
theorem c_X2_init (G : XG) {o : Nat} {h : HM} (ho : h o = some (.inr (2, [.null, .int 0]))) : x_M G yX2_init wsX2_init ({ frames := 2, cells := 13, slots := 48, locals := 40 } : Room) [.ref o] h (fun v h' => v = none ∧ ∃ (w : Nat) (SP : List Nat), goW G o w [] SP (fun _ => (none, 0, -1)) h' ∧ x_fr (fun z => z = o) h h' ∧ h w = none ∧ ∀ x, x ∈ SP → h x = none) 13 48 := by
  refine x_M.of (cc := cX2_init) (maxL := 2) (ret := none) (ent := [some (.ref o), none]) (by decide +kernel) rfl (Nat.le_of_ble_eq_true rfl) rfl rfl ?_
  intro F hE hname
  have hinX1 : ∀ w ∈ wsX10, w ∈ wsX2_init := by decide +kernel
  have hinX2 : ∀ w ∈ wsX20, w ∈ wsX2_init := by decide +kernel
  refine x_aload_n hE dX2_init_0 rfl rfl ?_
  refine x_objinit hE (List.mem_of_getElem? (i := 1) rfl) (List.mem_of_getElem? (i := 2) rfl) (List.mem_of_getElem? (i := 3) rfl) rfl (Nat.le_of_ble_eq_true rfl) (Nat.le_of_ble_eq_true rfl) dX2_init_1 ?_
  refine x_aload_n hE dX2_init_4 rfl rfl ?_
  refine x_bipush (v := nI 12) hE dX2_init_5 (by decide) ?_
  refine x_newr (t0 := 5) (cA := g_c G 5) hE (List.mem_of_getElem? (i := 4) rfl) hE.2.2.2.2.2.2.1.2.2.2 rfl (nI_pos (by decide)) (nI_clamp (by decide)) (by decide) (Nat.le_of_ble_eq_true rfl) (Nat.le_of_ble_eq_true rfl) dX2_init_7 (fun r hr0 => ?_)
  generalize hhh1 : x_up h r (.inl (g_c G 5, 12, .inr (.inr (.inr (.inr (fun _ => none)))))) = h1
  have hc2 : h1 r = some (.inl (g_c G 5, 12, .inr (.inr (.inr (.inr (fun _ => none)))))) := by rw [← hhh1]; exact x_up_eq _ _ _
  have hc3 : h1 o = some (.inr (2, [.null, .int 0])) := by rw [← hhh1, x_up_ne (x_none_ne hr0 ho)]; exact ho
  have hf1 : x_fr (fun z => z = o) h h1 := by rw [← hhh1]; exact (x_fr.refl h).new hr0
  refine x_putF (fs' := [.ref r, .int 0]) hE hinX2 tyX2 tyX2_ok nmX2 hc3 rfl 0 (by decide) (List.mem_of_getElem? (i := 5) rfl) rfl hname rfl rfl rfl (Nat.le_of_ble_eq_true rfl) rfl dX2_init_10 ?_
  generalize hhh4 : x_up h1 o (.inr (2, [.ref r, .int 0])) = h4
  have hc5 : h4 o = some (.inr (2, [.ref r, .int 0])) := by rw [← hhh4]; exact x_up_eq _ _ _
  have hc6 : h4 r = some (.inl (g_c G 5, 12, .inr (.inr (.inr (.inr (fun _ => none)))))) := by rw [← hhh4, x_up_ne (Ne.symm (x_none_ne hr0 ho))]; exact hc2
  have hf2 : x_fr (fun z => z = o) h h4 := by rw [← hhh4]; exact hf1.up rfl
  have hr1 := hr0
  refine x_iconst (v := nI 0) hE dX2_init_13 (by decide) ?_
  refine x_istore_n (L' := [some (.ref o), some (.int (nI 0))]) hE dX2_init_14 rfl (Nat.le_of_ble_eq_true rfl) rfl ?_
  have hnor := (x_none_ne hr0 ho)
  refine x_down (N := 12) (P := fun i => ∀ (h3 : HM) (S : List Nat), h3 o = some (.inr (2, [.ref r, .int 0])) → h3 r = some (.inl (g_c G 5, 12, .inr (.inr (.inr (.inr (rowF S)))))) → x_fr (fun z => z = o) h h3 → S.length = i → S.Nodup → (∀ x, x ∈ S → h3 x = some (goE (none, 0, -1))) → (∀ x, x ∈ S → h x = none) → x_W G F (x_Q G F (fun v h' => v = none ∧ ∃ (w : Nat) (SP : List Nat), goW G o w [] SP (fun _ => (none, 0, -1)) h' ∧ x_fr (fun z => z = o) h h' ∧ h w = none ∧ ∀ x, x ∈ SP → h x = none) 13 48) (1 + i) (12 + 3 * i) h3 15 [some (.ref o), some (.int (nI i))] []) (fun i hiN ih => ?_) 0 (by omega) _ [] hc5 hc6 hf2 rfl List.nodup_nil (fun x hx => absurd hx List.not_mem_nil) (fun x hx => absurd hx List.not_mem_nil)
  intro h3 S ho3 hr3 hf3 hS0 hS2 hS3 hS4
  refine x_iload_n hE dX2_init_15 rfl ?_
  refine x_aload_n hE dX2_init_16 rfl rfl ?_
  refine x_get hE hinX2 ho3 rfl 0 (by decide) (List.mem_of_getElem? (i := 5) rfl) rfl dX2_init_17 ?_
  refine x_alen (t0 := 5) hE hr3 rfl dX2_init_20 ?_
  refine x_icmp_ge (tgt := 43) hE dX2_init_21 (by decide) (fun c21 => ?_) (fun c21 => ?_)
  · replace c21 := x_nIle c21 (by omega) (by omega)
    obtain rfl : i = 12 := by omega
    exact x_vret hE dX2_init_43 (⟨rfl, r, S, ⟨ho3, hr3, hS0, hS2, hS3⟩, hf3, hr1, hS4⟩)
  · replace c21 := x_nInle c21 (by omega) (by omega)
    refine x_aload_n hE dX2_init_24 rfl rfl ?_
    refine x_get hE hinX2 ho3 rfl 0 (by decide) (List.mem_of_getElem? (i := 5) rfl) rfl dX2_init_25 ?_
    refine x_iload_n hE dX2_init_28 rfl ?_
    refine x_new (ci := 1) (fs := [.null, .int 0, .int 0]) hE hinX1 tyX1 tyX1_ok (List.mem_of_getElem? (i := 4) rfl) (List.mem_of_getElem? (i := 6) rfl) (List.mem_of_getElem? (i := 7) rfl) rfl (fun j hj => by rcases (show j = 0 ∨ j = 1 ∨ j = 2 by omega) with rfl | rfl | rfl <;> rfl) (show 1 + i + 1 ≤ 13 by omega) (show 12 + 3 * i + 3 ≤ 48 by omega) dX2_init_29 (fun q hq0 => ?_)
    generalize hhh7 : x_up h3 q (.inr (1, [.null, .int 0, .int 0])) = h7
    have hc8 : h7 q = some (.inr (1, [.null, .int 0, .int 0])) := by rw [← hhh7]; exact x_up_eq _ _ _
    have hc9 : h7 o = some (.inr (2, [.ref r, .int 0])) := by rw [← hhh7, x_up_ne (x_none_ne hq0 ho3)]; exact ho3
    have hc10 : h7 r = some (.inl (g_c G 5, 12, .inr (.inr (.inr (.inr (rowF S)))))) := by rw [← hhh7, x_up_ne (x_none_ne hq0 hr3)]; exact hr3
    have hf4 : x_fr (fun z => z = o) h h7 := by rw [← hhh7]; exact hf3.new hq0
    have hqh : h q = none := hf3.none1 ho3 hq0
    have hqS : ∀ x, x ∈ S → x ≠ q := fun x hx => x_none_ne hq0 (hS3 x hx)
    refine x_dup hE dX2_init_32 rfl ?_
    refine x_callI (st := [.ref q, .int (nI i), .ref r]) hE 0 (c_X1_init G hc8) gX2_init_X1_init rfl rfl rfl (List.mem_of_getElem? (i := 7) rfl) (List.mem_of_getElem? (i := 8) rfl) (List.mem_of_getElem? (i := 9) rfl) rfl (by decide +kernel) ⟨Nat.le_of_ble_eq_true rfl, Nat.le_of_ble_eq_true rfl⟩ rfl rfl dX2_init_33 rfl (Nat.le_of_ble_eq_true rfl) ⟨(show 1 + i + 1 + 0 ≤ 13 by omega), (show 12 + 3 * i + 3 + 0 ≤ 48 by omega)⟩ (fun v h9 hp => ?_)
    obtain ⟨rfl, rfl⟩ := hp
    generalize hhh11 : x_up h7 q (.inr (1, [.null, .int 0, .int (-1)])) = h11
    have hc12 : h11 q = some (.inr (1, [.null, .int 0, .int (-1)])) := by rw [← hhh11]; exact x_up_eq _ _ _
    have hc13 : h11 o = some (.inr (2, [.ref r, .int 0])) := by rw [← hhh11, x_up_ne (x_none_ne hq0 ho3)]; exact hc9
    have hc14 : h11 r = some (.inl (g_c G 5, 12, .inr (.inr (.inr (.inr (rowF S)))))) := by rw [← hhh11, x_up_ne (x_none_ne hq0 hr3)]; exact hc10
    have hf5 : x_fr (fun z => z = o) h h11 := by rw [← hhh11]; exact hf4.upn hqh
    refine x_aast (t0 := 5) (f' := va_up (rowF S) i (some q)) hE hc14 rfl hc12 rfl (vp_in_nI (by omega) (by decide)) (x_upN _ (by omega) _) dX2_init_36 ?_
    have hSi : S.length = i := hS0
    have hrow : va_up (rowF S) i (some q) = rowF (S ++ [q]) := row_push hS0
    rw [hrow]
    generalize hhh15 : x_up h11 r (.inl (g_c G 5, 12, .inr (.inr (.inr (.inr (rowF (S ++ [q]))))))) = h15
    have hc16 : h15 r = some (.inl (g_c G 5, 12, .inr (.inr (.inr (.inr (rowF (S ++ [q]))))))) := by rw [← hhh15]; exact x_up_eq _ _ _
    have hc17 : h15 q = some (.inr (1, [.null, .int 0, .int (-1)])) := by rw [← hhh15, x_up_ne (Ne.symm (x_none_ne hq0 hr3))]; exact hc12
    have hc18 : h15 o = some (.inr (2, [.ref r, .int 0])) := by rw [← hhh15, x_up_ne (x_none_ne hr0 ho)]; exact hc13
    have hf6 : x_fr (fun z => z = o) h h15 := by rw [← hhh15]; exact hf5.upn hr1
    have hS3n : ∀ x, x ∈ S ++ [q] → h15 x = some (goE (none, 0, -1)) := by
      intro x hx
      rcases List.mem_append.mp hx with z | z
      · have hxr : x ≠ r := fun e => by have z1 := hS3 x z; rw [e, hr3] at z1; simp [goE] at z1
        rw [← hhh15, x_up_ne hxr, ← hhh11, x_up_ne (hqS x z), ← hhh7, x_up_ne (hqS x z)]; exact hS3 x z
      · rw [List.mem_singleton.mp z]; exact hc17
    refine x_iinc (v := nI (i + 1)) (L' := [some (.ref o), some (.int (nI (i + 1)))]) hE dX2_init_37 rfl (nI_1 _) rfl ?_
    refine x_goto (tgt := 15) hE dX2_init_40 (by decide) ?_
    exact ih (i + 1) (by omega) (by omega) _ (S ++ [q]) hc18 hc16 hf6 (by rw [List.length_append, hS0]; rfl) (nodup_push hS2 hqS) hS3n (fun x hx => (List.mem_append.mp hx).elim (hS4 x) (fun z => by rw [List.mem_singleton.mp z]; exact hqh))
