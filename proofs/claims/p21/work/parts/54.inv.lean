/-! the invariant over a begin, a bar, a tick -/
theorem beg_filter {p : GG → Bool} {c t : Nat} {GL : List GG} (hp : p (c, t, 0) = true) : (gBeg c t GL).filter p = gBeg c t (GL.filter p) := by
  unfold gBeg
  rw [List.filter_append, List.filter_filter, List.filter_filter, List.filter_cons_of_pos hp, List.filter_nil]
  congr 1
  refine List.filter_congr (fun g _ => ?_)
  exact Bool.and_comm _ _
theorem beg_mem {c t : Nat} {GL : List GG} {g : GG} (h : g ∈ gBeg c t GL) : g ∈ GL ∨ g = (c, t, 0) := by
  unfold gBeg at h
  rcases List.mem_append.mp h with z | z
  · exact Or.inl (List.mem_filter.mp z).1
  · exact Or.inr (List.mem_singleton.mp z)
theorem cI_beg {S : PS} {c : Nat} (h : cI S) (hc : c < s_C S) (ht : s_t S < 2 ^ 20) (hlen : (strF (entB (s_t S) c) (s_H S)).length < 122880) : cI (begP c S) := by
  obtain ⟨⟨f1, f2, f3, f4, f5⟩, h2, h3, h4, h5, h6, h7, h8, h9, r1, r2⟩ := h
  have hsl := strF_len (entB (s_t S) c) (s_H S)
  have hcp := h7.next (c := (strF (entB (s_t S) c) (s_H S)).length) (by omega) hlen
  have hov : (!ovP (s_ar S) (s_t S) (c, s_t S, 0)) = true := by
    unfold ovP
    rw [decide_eq_true (show relI ((c, s_t S, 0) : GG).2.2 = -1 from rfl)]
    rfl
  refine ⟨⟨f1, f2, f3, gBeg_I f4 hc, fun g hg => ?_⟩, h2, h3, h4, h5, fun x hx => ?_, hcp.2.2.1, ?_, fun e he => ?_, ?_, fun g hg => ?_⟩
  · rcases beg_mem hg with z | rfl
    · exact f5 g z
    · obtain ⟨u, d, hd, e13⟩ := h5 c hc
      exact ⟨u, ⟨d, hd, e13, fun z => absurd rfl z⟩, Nat.le_refl _, Nat.zero_le _, fun z => absurd rfl z, by show s_t S < _; omega⟩
  · have hx' : x ∈ nxP (s_ar S) c (s_t S) (s_N S) := hx
    unfold nxP at hx'
    by_cases e : s_ar S 15 c = -1
    · rw [if_pos e] at hx'
      exact h6 x hx'
    · rw [if_neg e] at hx'
      rcases List.mem_append.mp hx' with z | z
      · exact h6 x z
      · rw [List.mem_singleton] at z
        obtain ⟨j, d, q1, q2, q3, q4, q5⟩ := (h3 c hc).resolve_left e
        subst z
        rw [q4, q5, nI_clamp (by omega), nI_clamp (by omega)]
        exact ⟨q1, by show s_t S < s_t S + d; omega, by show s_t S + d ≤ s_t S + 60; omega⟩
  · show (strF (entB (s_t S) c) (s_H S) ++ [entB (s_t S) c]).length ≤ grw (s_n S) (strF (entB (s_t S) c) (s_H S)).length
    rw [List.length_append]
    exact hcp.2.2.2.1
  · have he' : e ∈ strF (entB (s_t S) c) (s_H S) ++ [entB (s_t S) c] := he
    rcases List.mem_append.mp he' with z | z
    · exact h9 e (strF_mem z)
    · rw [List.mem_singleton.mp z]
      exact entB_en (Nat.le_refl _) (by omega) hc f3
  · show (rtP (strF (entB (s_t S) c) (s_H S) ++ [entB (s_t S) c])).filter _ = gBeg c (s_t S) (s_G S)
    rw [rt_begin (by omega) (by omega), ← r1]
    exact beg_filter hov
  · have hg' : g ∈ rtP (strF (entB (s_t S) c) (s_H S) ++ [entB (s_t S) c]) := hg
    rw [rt_begin (by omega) (by omega)] at hg'
    rcases beg_mem hg' with z | rfl
    · exact r2 g z
    · exact ⟨hc, Nat.zero_le _⟩
theorem cI_bar {S : PS} (h : cI S) : cI (barP S) := h
theorem cI_tk {S : PS} (h : cI S) (ht : s_t S + 1 < 2 ^ 20) : cI (tkP S) := by
  obtain ⟨⟨f1, f2, f3, f4, f5⟩, h2, h3, h4, h5, h6, h7, h8, h9, r1, r2⟩ := h
  refine ⟨⟨f1, f2, f3, f4.filter _, fun g hg => ?_⟩, h2, h3, h4, h5, fun x hx => ?_, h7, h8, fun e he => (h9 e he).up (by show s_t S ≤ s_t S + 1; omega) (Nat.le_refl _), ?_, fun g hg => ⟨(r2 g hg).1, by have := (r2 g hg).2; show _ ≤ s_t S + 1 + 1; omega⟩⟩
  · have hg' := List.mem_filter.mp hg
    obtain ⟨a1, ⟨d, hd, e13, a2⟩, a3, a4, a5, a6⟩ := f5 g hg'.1
    have hz : ovP (s_ar S) (s_t S + 1) g = false := by simpa using hg'.2
    have hz2 := (ov_iff (t := s_t S + 1) (by omega) (by omega) hd e13).mp hz
    exact ⟨a1, ⟨d, hd, e13, hz2⟩, by show g.2.1 ≤ s_t S + 1; omega, by show g.2.2 ≤ s_t S + 1 + 1; omega, a5, by show s_t S + 1 < _; omega⟩
  · have hx' : x ∈ (s_N S).filter (fun x => !decide (x.2 = s_t S + 1)) := hx
    have h1 := List.mem_filter.mp hx'
    have h2 : ¬ x.2 = s_t S + 1 := by simpa using h1.2
    have h3 := h6 x h1.1
    exact ⟨h3.1, by show s_t S + 1 < x.2; omega, by show x.2 ≤ s_t S + 1 + 60; omega⟩
  · show (rtP (s_H S)).filter (fun g => !ovP (s_ar S) (s_t S + 1) g) = (s_G S).filter (fun g => !ovP (s_ar S) (s_t S + 1) g)
    rw [← r1, List.filter_filter]
    refine List.filter_congr (fun g hg => ?_)
    obtain ⟨_, d, hd, e13⟩ := h5 g.1 (r2 g hg).1
    cases z : ovP (s_ar S) (s_t S) g with
    | false => simp
    | true =>
      rw [ov_mono (by omega) (r2 g hg).2 hd e13 z]
      rfl
/-! the entries of one tick -/
theorem erase_nd {c : Nat} : ∀ {l : List Nat} {k : Nat}, l.Nodup → l[k]? = some c → l.eraseIdx k = l.filter (fun x => !decide (x = c))
  | [], k, _, h => by simp at h
  | a :: l, 0, hn, h => by
    cases h
    have h1 := (List.nodup_cons.mp hn).1
    rw [List.eraseIdx_cons_zero, List.filter_cons_of_neg (by simp)]
    refine (List.filter_eq_self.mpr (fun x hx => ?_)).symm
    have : ¬ x = c := fun z => h1 (z ▸ hx)
    simp [this]
  | a :: l, k + 1, hn, h => by
    obtain ⟨h1, h2⟩ := List.nodup_cons.mp hn
    rw [List.getElem?_cons_succ] at h
    have hne : ¬ a = c := fun z => h1 (by rw [z]; exact List.mem_of_getElem? h)
    rw [List.eraseIdx_cons_succ, List.filter_cons_of_pos (by simp [hne]), erase_nd h2 h]
theorem entB_tick {t c : Nat} (ht : t < 2 ^ 25) (hc : c < 16) : eTick (entB t c) = nI t := by
  rw [entB_is ht hc, ent_tick (by omega)]
  congr 1
  omega
theorem strF_blk {P : List Int32} {cs : List Nat} {t C c : Nat} (hP : ∀ e, e ∈ P → hEn t C e) (hC : C ≤ 12) (ht : t + 1 < 2 ^ 24) (hn : cs.Nodup) (hcs : ∀ x, x ∈ cs → x < 12) (hc : c < 12) : strF (entB (t + 1) c) (P ++ cs.map (entB (t + 1))) = P ++ (cs.filter (fun x => !decide (x = c))).map (entB (t + 1)) := by
  rcases strF_is (entB (t + 1) c) (P ++ cs.map (entB (t + 1))) with ⟨j, h1, h2⟩ | ⟨h1, h2⟩
  · rw [h2]
    rcases Nat.lt_or_ge j P.length with z | z
    · rw [List.getElem?_append_left z] at h1
      have h3 := (hP _ (List.mem_of_getElem? h1)).facts hC (by omega)
      rw [(entB_facts (by omega) hc).2.1] at h3
      omega
    · rw [List.getElem?_append_right z, List.getElem?_map] at h1
      cases h3 : cs[j - P.length]? with
      | none => rw [h3] at h1; cases h1
      | some x =>
        rw [h3] at h1
        have e1 : entB (t + 1) x = entB (t + 1) c := Option.some.inj h1
        have e2 : x = c := entB_inj (by omega) (hcs x (List.mem_of_getElem? h3)) hc e1
        subst e2
        rw [List.eraseIdx_append_of_length_le z, ← map_eraseIdx', erase_nd hn h3]
  · rw [h1]
    congr 2
    refine (List.filter_eq_self.mpr (fun x hx => ?_)).symm
    have : ¬ x = c := fun z => by
      subst z
      obtain ⟨j, hj⟩ := List.getElem?_of_mem hx
      refine h2 (P.length + j) (entB (t + 1) x) ?_ (fun i y hi hy => ?_) rfl
      · rw [List.getElem?_append_right (by omega), show P.length + j - P.length = j by omega, List.getElem?_map, hj]
        rfl
      · rw [List.getElem?_append_right (by omega), List.getElem?_map] at hy
        cases h3 : cs[i - P.length]? with
        | none => rw [h3] at hy; cases hy
        | some w =>
          rw [h3] at hy
          have e1 : entB (t + 1) w = y := Option.some.inj hy
          rw [← e1, entB_tick (by omega) (by have := hcs w (List.mem_of_getElem? h3); omega), entB_tick (by omega) (by omega)]
    simp [this]
