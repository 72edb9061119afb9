/-! the invariant over a release and the calls that tell -/
theorem fallG_pair {c t : Nat} {GL : List GG} : fallG c t GL = GL.map (fun g => if g.1 = c then (g.1, g.2.1, t + 1) else g) := rfl
theorem fall_filter {p : GG → Bool} {c t : Nat} {RT : List GG} (h : ∀ x, x ∈ RT → x.1 = c → p x = true) : (fallG c t RT).filter p = (fallG c t (RT.filter p)).filter p := by
  rw [fallG_pair, fallG_pair, List.filter_map, List.filter_map, List.filter_filter]
  congr 1
  refine List.filter_congr (fun x hx => ?_)
  by_cases e : x.1 = c
  · rw [h x hx e, Bool.and_true]
  · show p (if x.1 = c then _ else x) = (p (if x.1 = c then _ else x) && p x)
    rw [if_neg e, Bool.and_self]
theorem cI_rel {S : PS} {c : Nat} {g0 : GG} (h : cI S) (hc : c < s_C S) (ht : s_t S < 2 ^ 20) (hl : (s_H S).length < 122880) (hg0 : g0 ∈ s_G S) (hk0 : g0.1 = c) : cI (relP c S) := by
  have heI := h.eI (by omega)
  have hov0 := h.none
  obtain ⟨⟨f1, f2, f3, f4, f5⟩, h2, h3, h4, h5, h6, h7, h8, h9, r1, r2⟩ := h
  have hcp := h7.next h8 hl
  have hgR : gI (s_C S) (rtP (s_H S)) := rt_I (s_H S) [] (gI_nil _) (fun e he => (heI e he).1)
  refine ⟨⟨f1, f2, f3, (fallG_I f4).filter _, fun g hg => ?_⟩, h2, h3, h4, h5, h6, hcp.2.2.1, ?_, fun e he => ?_, ?_, fun g hg => ?_⟩
  · have hg' := List.mem_filter.mp hg
    have hz : ovP (s_ar S) (s_t S) g = false := by simpa using hg'.2
    obtain ⟨x, hx, e1, e2, e3⟩ := fall_mem hg'.1
    obtain ⟨a1, ⟨d, hd, e13, a2⟩, a3, a4, a5, a6⟩ := f5 x hx
    rw [e1] at a1 e13
    rcases e3 with ⟨b1, b2⟩ | ⟨b1, b2⟩
    · have hz2 := (ov_iff (t := s_t S) (by omega) (by omega) hd e13).mp hz
      refine ⟨a1, ⟨d, hd, e13, hz2⟩, by show g.2.1 ≤ s_t S; omega, by show g.2.2 ≤ s_t S + 1; omega, fun _ => by omega, a6⟩
    · rw [b2.symm] at a2 a4 a5
      rw [e2] at a3 a5
      exact ⟨a1, ⟨d, hd, e13, a2⟩, a3, a4, a5, a6⟩
  · show (s_H S ++ [entF (nI (s_t S)) (nI c) (nI 1)]).length ≤ grw (s_n S) (s_H S).length
    rw [List.length_append]
    exact hcp.2.2.2.1
  · have he' : e ∈ s_H S ++ [entF (nI (s_t S)) (nI c) (nI 1)] := he
    rcases List.mem_append.mp he' with z | z
    · exact h9 e z
    · rw [List.mem_singleton.mp z]
      exact ⟨s_t S, c, 1, Nat.le_refl _, hc, by decide, ent_is (by omega) (by omega) (by decide)⟩
  · show (rtP (s_H S ++ [entF (nI (s_t S)) (nI c) (nI 1)])).filter (fun g => !ovP (s_ar S) (s_t S) g) = (fallG c (s_t S) (s_G S)).filter (fun g => !ovP (s_ar S) (s_t S) g)
    rw [rt_release (by omega) (by omega), fall_filter (fun x hx e => ?_), r1]
    have hg1 : g0 ∈ rtP (s_H S) := by
      rw [← r1] at hg0
      exact (List.mem_filter.mp hg0).1
    have e1 := goF_some hgR.1 hx e
    have e2 := goF_some hgR.1 hg1 hk0
    have e3 : x = g0 := Option.some.inj (e1.symm.trans e2)
    rw [e3, hov0 g0 hg0]
    rfl
  · have hg' : g ∈ rtP (s_H S ++ [entF (nI (s_t S)) (nI c) (nI 1)]) := hg
    rw [rt_release (by omega) (by omega)] at hg'
    obtain ⟨x, hx, e1, e2, e3⟩ := fall_mem hg'
    have := r2 x hx
    refine ⟨by rw [← e1]; exact this.1, ?_⟩
    show g.2.2 ≤ s_t S + 1
    rcases e3 with z | z
    · omega
    · rw [z.2]; exact this.2
theorem iI_rel {S : PS} {k : Nat} {c : Int32} (h : iI S k) (hk : k ≤ 511) (hf : fRel S c = 0) : iI (relP c.toNatClampNeg S) (k + 1) := by
  have a := h.2.2.2
  have b := h.2.2.1
  have t := h.2.1
  have hC := h.1.1.2.2.1
  unfold fRel at hf
  by_cases q : isN c (s_C S) = true
  · rw [if_pos q] at hf
    obtain ⟨j, hj, rfl⟩ := isN_t (by omega) q
    rw [nI_clamp (by omega)] at hf ⊢
    rcases goF_act (c := j) h.1.1.2.2.2.1 with ⟨z1, z2⟩ | ⟨g, z1, z2, z3, z4⟩
    · rw [z2] at hf
      cases hf
    · refine ⟨cI_rel h.1 hj (by omega) (by omega) z1 z2, by show s_t S ≤ _; omega, by show (s_N S).length ≤ _; omega, ?_⟩
      show (s_H S ++ [_]).length ≤ _
      rw [List.length_append, List.length_singleton]
      omega
  · rw [if_neg q] at hf
    cases hf
theorem iI_goS {S : PS} {k : Nat} {c : Int32} (h : iI S k) (hk : k ≤ 511) (hf : fGo S c = 0) : iI (begP c.toNatClampNeg S) (k + 1) := by
  have hC := h.1.1.2.2.1
  unfold fGo at hf
  by_cases q : isN c (s_C S) = true
  · obtain ⟨j, hj, rfl⟩ := isN_t (by omega) q
    rw [nI_clamp (by omega)]
    exact iI_go h hk hj
  · rw [if_neg q] at hf
    cases hf
theorem iI_passS {S : PS} {k : Nat} {x : Int32} (h : iI S k) (hk : k ≤ 511) (hf : fPass x = 0) : iI (passK S x.toNatClampNeg) (k + 1) := by
  unfold fPass at hf
  by_cases q : inI x 1 20 = true
  · obtain ⟨j, _, hj, rfl⟩ := inI_is q (by decide) (by decide)
    rw [nI_clamp (by omega)]
    exact iI_pass h hk hj
  · rw [if_neg q] at hf
    cases hf
/-! the calls that tell -/
theorem ov_same {ar ar' : Nat → Nat → Int32} {t : Nat} {g : GG} (e : ar' 13 g.1 = ar 13 g.1) : ovP ar' t g = ovP ar t g := by
  unfold ovP
  rw [e]
theorem cI_set {S S' : PS} (h : cI S) (hC : s_C S ≤ s_C S') (ht : s_t S' = s_t S) (hG : s_G S' = s_G S) (hN : s_N S' = s_N S) (hH : s_H S' = s_H S) (hn : s_n S' = s_n S) (l1 : laI (s_ar S') (s_L S')) (l2 : toI (s_ar S') (s_C S')) (l3 : s_C S' ≤ 12) (l4 : s_L S' ≤ 16) (l5 : cuI (s_ar S') (s_C S')) (l6 : zI (s_ar S') (s_L S') (s_C S')) (l7 : upI (s_ar S') (s_C S')) (e : ∀ c, c < s_C S → s_ar S' 12 c = s_ar S 12 c ∧ s_ar S' 13 c = s_ar S 13 c) : cI S' := by
  obtain ⟨⟨f1, f2, f3, f4, f5⟩, h2, h3, h4, h5, h6, h7, h8, h9, r1, r2⟩ := h
  refine ⟨⟨l1, l2, l3, ?_, fun g hg => ?_⟩, l4, l5, l6, l7, fun x hx => ?_, by rw [hn]; exact h7, by rw [hn, hH]; exact h8, fun x hx => ?_, ?_, fun g hg => ?_⟩
  · rw [hG]
    exact ⟨f4.1, fun g hg => by have := f4.2 g hg; omega⟩
  · rw [hG] at hg
    have hgc := e g.1 (f4.2 g hg)
    obtain ⟨⟨u, hu, e12⟩, ⟨d, hd, e13, a2⟩, a3⟩ := f5 g hg
    rw [ht]
    exact ⟨⟨u, hu, hgc.1.trans e12⟩, ⟨d, hd, hgc.2.trans e13, a2⟩, a3⟩
  · rw [hN] at hx
    rw [ht]
    have := h6 x hx
    exact ⟨by omega, this.2⟩
  · rw [hH] at hx
    rw [ht]
    exact (h9 x hx).up (Nat.le_refl _) hC
  · rw [hH, hG, ht, ← r1]
    refine List.filter_congr (fun g hg => ?_)
    rw [ov_same (e g.1 (r2 g hg).1).2]
  · rw [hH] at hg
    rw [ht]
    have := r2 g hg
    exact ⟨by omega, this.2⟩
theorem iI_of {S S' : PS} {k : Nat} (h : iI S k) (h' : cI S') (ht : s_t S' = s_t S) (hN : s_N S' = s_N S) (hH : s_H S' = s_H S) : iI S' (k + 1) := by
  obtain ⟨_, a, b, c⟩ := h
  exact ⟨h', by omega, by rw [hN]; omega, by rw [hH]; omega⟩
section SN
variable {ar : Nat → Nat → Int32} {k i L C : Nat} {x : Int32}
theorem la_ne (h : laI ar L) (n : 5 ≠ k) : laI (set2 ar k i x) L := by unfold laI; rw [set2_ne n]; exact h
theorem to_ne (h : toI ar C) (n : 14 ≠ k) : toI (set2 ar k i x) C := by unfold toI; rw [set2_ne n]; exact h
theorem cu_ne (h : cuI ar C) (n : 15 ≠ k) (m : 16 ≠ k) : cuI (set2 ar k i x) C := by unfold cuI; rw [set2_ne n, set2_ne m]; exact h
theorem z_ne (h : zI ar L C) (n : 16 ≠ k) (m : 14 ≠ k) (o : 7 ≠ k) : zI (set2 ar k i x) L C := by unfold zI; rw [set2_ne n, set2_ne m, set2_ne o]; exact h
theorem up_ne (h : upI ar C) (n : 12 ≠ k) (m : 13 ≠ k) : upI (set2 ar k i x) C := by unfold upI; rw [set2_ne n, set2_ne m]; exact h
end SN
theorem iI_power {S : PS} {k : Nat} {ph wa : Int32} (h : iI S k) : iI (powerP ph wa S) (k + 1) := by
  obtain ⟨⟨f1, f2, f3, f4, f5⟩, h2, h3, h4, h5, _⟩ := h.1
  exact iI_of h (cI_set h.1 (Nat.le_refl _) rfl rfl rfl rfl rfl (la_ne f1 (by decide)) (to_ne f2 (by decide)) f3 h2 (cu_ne h3 (by decide) (by decide)) (z_ne h4 (by decide) (by decide) (by decide)) (up_ne h5 (by decide) (by decide)) (fun c _ => ⟨rfl, rfl⟩)) rfl rfl rfl
theorem iI_house {S : PS} {k : Nat} {x : Int32} (h : iI S k) : iI (houseP x S) (k + 1) := by
  obtain ⟨⟨f1, f2, f3, f4, f5⟩, h2, h3, h4, h5, _⟩ := h.1
  exact iI_of h (cI_set h.1 (Nat.le_refl _) rfl rfl rfl rfl rfl f1 f2 f3 h2 h3 h4 h5 (fun c _ => ⟨rfl, rfl⟩)) rfl rfl rfl
theorem iI_die {S : PS} {k : Nat} {i : Int32} (h : iI S k) (hf : fLamp S i = 0) : iI (dieP i.toNatClampNeg S) (k + 1) := by
  obtain ⟨⟨f1, f2, f3, f4, f5⟩, h2, h3, ⟨z1, z2, z3⟩, h5, _⟩ := h.1
  unfold fLamp at hf
  by_cases q : isN i (s_L S) = true
  · obtain ⟨j, hj, rfl⟩ := isN_t (by omega) q
    rw [nI_clamp (by omega)]
    refine iI_of h (cI_set h.1 (Nat.le_refl _) rfl rfl rfl rfl rfl (la_ne f1 (by decide)) (to_ne f2 (by decide)) f3 h2 (cu_ne h3 (by decide) (by decide)) ⟨?_, ?_, ?_⟩ (up_ne h5 (by decide) (by decide)) (fun c _ => ⟨rfl, rfl⟩)) rfl rfl rfl
    · intro i hi
      exact z1 i hi
    · intro i hi
      exact z2 i hi
    · intro i hi
      have hi' : s_L S ≤ i := hi
      show set2 (s_ar S) 7 j _ 7 i = 0
      rw [set2_at, upd_ne (by omega)]
      exact z3 i hi'
  · rw [if_neg q] at hf
    cases hf
theorem iI_level {S : PS} {k : Nat} {c i x : Int32} (h : iI S k) (hf : fLevel S c i x = 0) : iI (levelP c.toNatClampNeg i.toNatClampNeg x S) (k + 1) := by
  obtain ⟨⟨f1, f2, f3, f4, f5⟩, h2, h3, ⟨z1, z2, z3⟩, h5, _⟩ := h.1
  unfold fLevel at hf
  by_cases q : isN c (s_C S) = true ∧ isN i (s_L S) = true
  · rw [if_pos q] at hf
    by_cases q2 : inI x 0 100 = true
    · obtain ⟨a, ha, rfl⟩ := isN_t (by omega) q.1
      obtain ⟨b, hb, rfl⟩ := isN_t (by omega) q.2
      obtain ⟨v, _, hv, rfl⟩ := inI_is q2 (by decide) (by decide)
      rw [nI_clamp (by omega), nI_clamp (by omega)]
      refine iI_of h (cI_set h.1 (Nat.le_refl _) rfl rfl rfl rfl rfl (la_ne f1 (by decide)) ?_ f3 h2 (cu_ne h3 (by decide) (by decide)) ⟨?_, ?_, ?_⟩ (up_ne h5 (by decide) (by decide)) (fun c _ => ⟨rfl, rfl⟩)) rfl rfl rfl
      · intro c' i' hc' hi'
        show ∃ w, w ≤ 100 ∧ set2 (s_ar S) 14 (16 * a + b) (nI v) 14 (16 * c' + i') = nI w
        rw [set2_at]
        by_cases e : 16 * c' + i' = 16 * a + b
        · exact ⟨v, hv, by rw [e, upd_at]⟩
        · rw [upd_ne e]
          exact f2 c' i' hc' hi'
      · intro i hi
        exact z1 i hi
      · intro i hi
        have hi' : 16 * s_C S ≤ i := hi
        show set2 (s_ar S) 14 (16 * a + b) (nI v) 14 i = 0
        rw [set2_at, upd_ne (by omega)]
        exact z2 i hi'
      · intro i hi
        exact z3 i hi
    · rw [if_neg q2] at hf
      cases hf
  · rw [if_neg q] at hf
    cases hf
theorem iI_follow {S : PS} {k : Nat} {c o t : Int32} (h : iI S k) (hf : fFollow S c o t = 0) : iI (followP c.toNatClampNeg o t S) (k + 1) := by
  obtain ⟨⟨f1, f2, f3, f4, f5⟩, h2, h3, ⟨z1, z2, z3⟩, h5, _⟩ := h.1
  unfold fFollow at hf
  by_cases q : isN c (s_C S) = true ∧ (isN o (s_C S) = true ∨ o = -1)
  · rw [if_pos q] at hf
    by_cases q2 : inI t 1 60 = true
    · obtain ⟨a, ha, rfl⟩ := isN_t (by omega) q.1
      obtain ⟨v, hv1, hv, rfl⟩ := inI_is q2 (by decide) (by decide)
      rw [nI_clamp (by omega)]
      have e15 : s_ar (followP a o (nI v) S) 15 = upd (s_ar S 15) a o := rfl
      have e16 : s_ar (followP a o (nI v) S) 16 = upd (s_ar S 16) a (nI v) := by
        show set2 (set2 (s_ar S) 15 a o) 16 a (nI v) 16 = _
        rw [set2_at, set2_ne (by decide)]
      refine iI_of h (cI_set h.1 (Nat.le_refl _) rfl rfl rfl rfl rfl (la_ne (la_ne f1 (by decide)) (by decide)) (to_ne (to_ne f2 (by decide)) (by decide)) f3 h2 ?_ ⟨?_, ?_, ?_⟩ (up_ne (up_ne h5 (by decide) (by decide)) (by decide) (by decide)) (fun c _ => ⟨rfl, rfl⟩)) rfl rfl rfl
      · intro i hi
        rw [e15, e16]
        by_cases e : i = a
        · subst e
          rw [upd_at, upd_at]
          rcases q.2 with w | w
          · obtain ⟨b, hb, rfl⟩ := isN_t (by omega) w
            exact Or.inr ⟨b, v, hb, hv1, hv, rfl, rfl⟩
          · exact Or.inl w
        · rw [upd_ne e, upd_ne e]
          exact h3 i hi
      · intro i hi
        have hi' : s_C S ≤ i := hi
        rw [e16, upd_ne (by omega)]
        exact z1 i hi'
      · intro i hi
        exact z2 i hi
      · intro i hi
        exact z3 i hi
    · rw [if_neg q2] at hf
      cases hf
  · rw [if_neg q] at hf
    cases hf
theorem iI_hang {S : PS} {k : Nat} {b p g w ph : Int32} (h : iI S k) (hf : fHang S b p g w ph = 0) : iI (hangP b p g w ph S) (k + 1) := by
  obtain ⟨⟨f1, f2, f3, f4, f5⟩, h2, h3, ⟨z1, z2, z3⟩, h5, _⟩ := h.1
  unfold fHang at hf
  by_cases q : inI b 0 3 = true ∧ inI p 0 9 = true ∧ glI g = true ∧ inI w 100 2000 = true ∧ inI ph 0 2 = true
  · rw [if_pos q] at hf
    by_cases q2 : s_L S = 16
    · rw [if_pos q2] at hf
      cases hf
    · obtain ⟨v, hv1, hv, rfl⟩ := inI_is q.2.2.2.1 (by decide) (by decide)
      have e5 : s_ar (hangP b p g (nI v) ph S) 5 = upd (s_ar S 5) (s_L S) (nI v) := by
        show lampR (s_ar S) (s_L S) b p g (nI v) ph 5 = _
        unfold lampR
        rw [set2_ne (by decide), set2_at, set2_ne (by decide), set2_ne (by decide), set2_ne (by decide)]
      have en : ∀ j, j ∈ [7, 12, 13, 14, 15, 16] → s_ar (hangP b p g (nI v) ph S) j = s_ar S j := fun j hj => by
        show lampR (s_ar S) (s_L S) b p g (nI v) ph j = _
        unfold lampR
        rcases (show j = 7 ∨ j = 12 ∨ j = 13 ∨ j = 14 ∨ j = 15 ∨ j = 16 by simpa using hj) with rfl | rfl | rfl | rfl | rfl | rfl <;> (rw [set2_ne (by decide), set2_ne (by decide), set2_ne (by decide), set2_ne (by decide), set2_ne (by decide)])
      refine iI_of h (cI_set h.1 (Nat.le_refl _) rfl rfl rfl rfl rfl ?_ ?_ f3 (by show s_L S + 1 ≤ 16; omega) ?_ ⟨?_, ?_, ?_⟩ ?_ (fun c _ => ⟨congrFun (en 12 (by decide)) c, congrFun (en 13 (by decide)) c⟩)) rfl rfl rfl
      · intro i hi
        have hi' : i < s_L S + 1 := hi
        rw [e5]
        by_cases e : i = s_L S
        · exact ⟨v, hv1, hv, by rw [e, upd_at]⟩
        · rw [upd_ne e]
          exact f1 i (by omega)
      · unfold toI
        rw [en 14 (by decide)]
        exact f2
      · unfold cuI
        rw [en 15 (by decide), en 16 (by decide)]
        exact h3
      · rw [en 16 (by decide)]
        exact z1
      · rw [en 14 (by decide)]
        exact z2
      · intro i hi
        have hi' : s_L S + 1 ≤ i := hi
        rw [en 7 (by decide)]
        exact z3 i (by omega)
      · unfold upI
        rw [en 12 (by decide), en 13 (by decide)]
        exact h5
  · rw [if_neg q] at hf
    cases hf
theorem iI_cue {S : PS} {k : Nat} {so up dn : Int32} (h : iI S k) (hf : fCue S so up dn = 0) : iI (cueP so up dn S) (k + 1) := by
  obtain ⟨⟨f1, f2, f3, f4, f5⟩, h2, h3, ⟨z1, z2, z3⟩, h5, _⟩ := h.1
  unfold fCue at hf
  by_cases q : inI so 0 1 = true ∧ inI up 0 60 = true ∧ inI dn 0 60 = true
  · rw [if_pos q] at hf
    by_cases q2 : s_C S = 12
    · rw [if_pos q2] at hf
      cases hf
    · obtain ⟨u, _, hu, rfl⟩ := inI_is q.2.1 (by decide) (by decide)
      obtain ⟨d, _, hd, rfl⟩ := inI_is q.2.2 (by decide) (by decide)
      have e12 : s_ar (cueP so (nI u) (nI d) S) 12 = upd (s_ar S 12) (s_C S) (nI u) := by
        show set2 (set2 (set2 (set2 (s_ar S) 11 (s_C S) so) 12 (s_C S) (nI u)) 13 (s_C S) (nI d)) 15 (s_C S) (-1) 12 = _
        rw [set2_ne (by decide), set2_ne (by decide), set2_at, set2_ne (by decide)]
      have e13 : s_ar (cueP so (nI u) (nI d) S) 13 = upd (s_ar S 13) (s_C S) (nI d) := by
        show set2 (set2 (set2 (set2 (s_ar S) 11 (s_C S) so) 12 (s_C S) (nI u)) 13 (s_C S) (nI d)) 15 (s_C S) (-1) 13 = _
        rw [set2_ne (by decide), set2_at, set2_ne (by decide), set2_ne (by decide)]
      have e15 : s_ar (cueP so (nI u) (nI d) S) 15 = upd (s_ar S 15) (s_C S) (-1) := by
        show set2 (set2 (set2 (set2 (s_ar S) 11 (s_C S) so) 12 (s_C S) (nI u)) 13 (s_C S) (nI d)) 15 (s_C S) (-1) 15 = _
        rw [set2_at, set2_ne (by decide), set2_ne (by decide), set2_ne (by decide)]
      have en : ∀ j, j ∈ [5, 7, 14, 16] → s_ar (cueP so (nI u) (nI d) S) j = s_ar S j := fun j hj => by
        show set2 (set2 (set2 (set2 (s_ar S) 11 (s_C S) so) 12 (s_C S) (nI u)) 13 (s_C S) (nI d)) 15 (s_C S) (-1) j = _
        rcases (show j = 5 ∨ j = 7 ∨ j = 14 ∨ j = 16 by simpa using hj) with rfl | rfl | rfl | rfl <;> (rw [set2_ne (by decide), set2_ne (by decide), set2_ne (by decide), set2_ne (by decide)])
      refine iI_of h (cI_set h.1 (by show s_C S ≤ s_C S + 1; omega) rfl rfl rfl rfl rfl ?_ ?_ (by show s_C S + 1 ≤ 12; omega) h2 ?_ ⟨?_, ?_, ?_⟩ ?_ (fun c hc => ⟨by rw [e12, upd_ne (by omega)], by rw [e13, upd_ne (by omega)]⟩)) rfl rfl rfl
      · unfold laI
        rw [en 5 (by decide)]
        exact f1
      · intro c i hc hi
        have hc' : c < s_C S + 1 := hc
        rw [en 14 (by decide)]
        rcases Nat.lt_or_ge c (s_C S) with z | z
        · exact f2 c i z hi
        · exact ⟨0, by decide, z2 _ (by omega)⟩
      · intro i hi
        have hi' : i < s_C S + 1 := hi
        rw [e15, en 16 (by decide)]
        by_cases e : i = s_C S
        · exact Or.inl (by rw [e, upd_at])
        · rw [upd_ne e]
          rcases h3 i (by omega) with w | ⟨j, d2, w1, w2⟩
          · exact Or.inl w
          · exact Or.inr ⟨j, d2, by show j < s_C S + 1; omega, w2⟩
      · intro i hi
        have hi' : s_C S + 1 ≤ i := hi
        rw [en 16 (by decide)]
        exact z1 i (by omega)
      · intro i hi
        have hi' : 16 * (s_C S + 1) ≤ i := hi
        rw [en 14 (by decide)]
        exact z2 i (by omega)
      · rw [en 7 (by decide)]
        exact z3
      · intro c hc
        have hc' : c < s_C S + 1 := hc
        rw [e12, e13]
        by_cases e : c = s_C S
        · subst e
          rw [upd_at, upd_at]
          exact ⟨⟨u, hu, rfl⟩, d, hd, rfl⟩
        · rw [upd_ne e, upd_ne e]
          exact h5 c (by omega)
  · rw [if_neg q] at hf
    cases hf
theorem iI_iff {S S' : PS} {f k : Nat} (h : iI S k) (h' : f = 0 → iI S' (k + 1)) : iI (iff0 f S' S) (k + 1) := by
  unfold iff0
  split
  · exact h' (by assumption)
  · exact h.up
theorem iI_0 : iI PS0 0 := by
  refine ⟨⟨⟨fun i hi => absurd hi (Nat.not_lt_zero i), fun c i hc => absurd hc (Nat.not_lt_zero c), by decide, gI_nil 0, fun g hg => ?_⟩, by decide, fun i hi => absurd hi (Nat.not_lt_zero i), ⟨fun i _ => rfl, fun i _ => rfl, fun i _ => rfl⟩, fun c hc => absurd hc (Nat.not_lt_zero c), fun x hx => ?_, Or.inr (Or.inl rfl), by decide, fun e he => ?_, rfl, fun g hg => ?_⟩, by decide, by decide, by decide⟩
  · exact absurd (show g ∈ ([] : List GG) from hg) (by simp)
  · exact absurd (show x ∈ ([] : List (Nat × Nat)) from hx) (by simp)
  · exact absurd (show e ∈ ([] : List Int32) from he) (by simp)
  · exact absurd (show g ∈ ([] : List GG) from hg) (by simp)
