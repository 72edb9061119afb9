/-! the state's steps: a going begins -/
def gBeg (c t : Nat) (GL : List GG) : List GG := GL.filter (fun g => !decide (g.1 = c)) ++ [(c, t, 0)]
def nxP (ar : Nat → Nat → Int32) (c t : Nat) (NL : List (Nat × Nat)) : List (Nat × Nat) := if ar 15 c = -1 then NL else NL ++ [((ar 15 c).toNatClampNeg, t + (ar 16 c).toNatClampNeg)]
abbrev entB (t c : Nat) : Int32 := entF (nI t) (nI c) 0
def begP (c : Nat) (S : PS) : PS := (s_ar S, s_L S, s_B S, s_C S, s_t S, s_b S, gBeg c (s_t S) (s_G S), nxP (s_ar S) c (s_t S) (s_N S), strF (entB (s_t S) c) (s_H S) ++ [entB (s_t S) c], grw (s_n S) (strF (entB (s_t S) c) (s_H S)).length)
/-- the cues' rows, by what may stand in them -/
def cuI (ar : Nat → Nat → Int32) (C : Nat) : Prop := ∀ i, i < C → ar 15 i = -1 ∨ ∃ j d, j < C ∧ 1 ≤ d ∧ d ≤ 60 ∧ ar 15 i = nI j ∧ ar 16 i = nI d
/-- the goings: a cue once, and only cues that are there -/
def gI (C : Nat) (GL : List GG) : Prop := (GL.map Prod.fst).Nodup ∧ ∀ g, g ∈ GL → g.1 < C
theorem nd_len : ∀ (n : Nat) (l : List Nat), l.Nodup → (∀ x, x ∈ l → x < n) → l.length ≤ n
  | 0, [], _, _ => Nat.le_refl 0
  | 0, x :: l, _, h => absurd (h x List.mem_cons_self) (Nat.not_lt_zero x)
  | n + 1, l, hd, h => by
    have ih := nd_len n (l.filter (fun x => !decide (x = n))) (hd.filter _) (fun x hx => by
      have h1 := List.mem_filter.mp hx
      have h2 := h x h1.1
      have h3 : ¬ x = n := by simpa using h1.2
      omega)
    have key : ∀ l : List Nat, l.Nodup → l.length ≤ (l.filter (fun x => !decide (x = n))).length + 1 := by
      intro l
      induction l with
      | nil => intro _; simp
      | cons a l ihl =>
        intro hn
        obtain ⟨h1, h2⟩ := List.nodup_cons.mp hn
        by_cases e : a = n
        · subst e
          have e2 : l.filter (fun x => !decide (x = a)) = l := List.filter_eq_self.mpr (fun x hx => by
            have : ¬ x = a := fun z => h1 (z ▸ hx)
            simp [this])
          rw [List.filter_cons_of_neg (by simp), e2]
          simp
        · rw [List.filter_cons_of_pos (by simp [e])]
          have := ihl h2
          simp only [List.length_cons]
          omega
    have := key l hd
    omega
theorem gI.len {C c : Nat} {GL : List GG} (h : gI C GL) (hc : c < C) (hn : ∀ g, g ∈ GL → g.1 ≠ c) : GL.length < C := by
  have h1 : (c :: GL.map Prod.fst).Nodup := List.nodup_cons.mpr ⟨fun z => by
    obtain ⟨g, hg, e⟩ := List.mem_map.mp z
    exact hn g hg e, h.1⟩
  have h2 := nd_len C _ h1 (fun x hx => by
    rcases List.mem_cons.mp hx with rfl | hx
    · exact hc
    · obtain ⟨g, hg, e⟩ := List.mem_map.mp hx
      rw [← e]
      exact h.2 g hg)
  simp only [List.length_cons, List.length_map] at h2
  omega
theorem gBeg_I {C c t : Nat} {GL : List GG} (h : gI C GL) (hc : c < C) : gI C (gBeg c t GL) := by
  unfold gBeg
  refine ⟨?_, fun g hg => ?_⟩
  · rw [List.map_append]
    refine nodup_push ?_ (fun x hx => ?_)
    · have : (GL.filter (fun g => !decide (g.1 = c))).map Prod.fst = (GL.map Prod.fst).filter (fun x => !decide (x = c)) := by rw [List.filter_map]; rfl
      rw [this]
      exact h.1.filter _
    · obtain ⟨g, hg, e⟩ := List.mem_map.mp hx
      have := (List.mem_filter.mp hg).2
      rw [← e]
      simpa using this
  · rcases List.mem_append.mp hg with h1 | h1
    · exact h.2 g (List.mem_filter.mp h1).1
    · rw [List.mem_singleton.mp h1]
      exact hc
theorem erase_fst {c : Nat} : ∀ {GL : List GG} {k : Nat} {g : GG}, (GL.map Prod.fst).Nodup → GL[k]? = some g → g.1 = c → GL.eraseIdx k = GL.filter (fun g => !decide (g.1 = c))
  | [], k, g, _, h, _ => by simp at h
  | a :: GL, 0, g, hn, h, e => by
    cases h
    rw [List.map_cons] at hn
    have h1 := (List.nodup_cons.mp hn).1
    rw [List.filter_cons_of_neg (by simp [e])]
    refine (List.filter_eq_self.mpr (fun x hx => ?_)).symm
    have : ¬ x.1 = c := fun z => h1 (by rw [e, ← z]; exact List.mem_map.mpr ⟨x, hx, rfl⟩)
    simp [this]
  | a :: GL, k + 1, g, hn, h, e => by
    rw [List.map_cons] at hn
    obtain ⟨h1, h2⟩ := List.nodup_cons.mp hn
    rw [List.getElem?_cons_succ] at h
    have hne : ¬ a.1 = c := fun z => h1 (by rw [z, ← e]; exact List.mem_map.mpr ⟨g, List.mem_of_getElem? h, rfl⟩)
    rw [List.eraseIdx_cons_succ, List.filter_cons_of_pos (by simp [hne]), erase_fst h2 h e]
theorem map_eraseIdx' {α β : Type} (f : α → β) : ∀ (l : List α) (k : Nat), (l.eraseIdx k).map f = (l.map f).eraseIdx k
  | [], _ => by simp
  | a :: l, 0 => by simp
  | a :: l, k + 1 => by simp [map_eraseIdx' f l k]
theorem map_up {ct : Nat → GC} {y : Nat} {v : GC} {l : List Nat} (h : y ∉ l) : l.map (va_up ct y v) = l.map ct := List.map_congr_left (fun x hx => by
  have : ¬ x = y := fun z => h (z ▸ hx)
  simp [va_up, this])
theorem nodup_eraseIdx {l : List Nat} {k y : Nat} (h : l.Nodup) (hy : l[k]? = some y) : y ∉ l.eraseIdx k := by
  intro z
  obtain ⟨j, hj⟩ := List.getElem?_of_mem z
  rcases erase_get hj with ⟨h1, h2⟩ | ⟨h1, h2⟩
  · have := (List.getElem?_inj (get_lt hy) h).mp (hy.trans h2.symm)
    omega
  · have := (List.getElem?_inj (get_lt hy) h).mp (hy.trans h2.symm)
    omega
/-- an address's cue -/
theorem emb_inj {ad ow : Nat → Nat} {eA : Nat} {Q1 Q2 : List Nat} {L C a b : Nat} (hO : oW ad ow eA Q1 Q2 L C) (ha : a < C) (hb : b < C) (e : ad (100 + 4 * a) = ad (100 + 4 * b)) : a = b := by
  have := congrArg ow e
  rw [hO.2.2.1 _ (by omega), hO.2.2.1 _ (by omega)] at this
  omega
theorem beg_map {ad ow : Nat → Nat} {eA : Nat} {Q1 Q2 A1 P1 A2 P2 : List Nat} {c1 : Nat → GC} {L C c t y : Nat} {GL : List GG} (hO : oW ad ow eA Q1 Q2 L C) (hA : A1.map c1 = GL.map (embG ad)) (hg : gI C GL) (hc : c < C) (hn : (A1 ++ P1).Nodup) (hb : bgR A1 P1 c1 (ad (100 + 4 * c)) A2 P2 y) : A2.map (va_up c1 y (some (ad (100 + 4 * c)), nI t, -1)) = (gBeg c t GL).map (embG ad) := by
  unfold gBeg
  rw [List.map_append]
  rcases hb with ⟨k, h1, h2, rfl, rfl⟩ | ⟨h1, rfl, rfl⟩
  · have hnA := (List.nodup_append.mp hn).1
    have hk : (GL.map (embG ad))[k]? = some (c1 y) := by rw [← hA, List.getElem?_map, h1]; rfl
    rw [List.getElem?_map] at hk
    cases hg1 : GL[k]? with
    | none => rw [hg1] at hk; cases hk
    | some g =>
      rw [hg1] at hk
      have e1 : embG ad g = c1 y := Option.some.inj hk
      have e2 : g.1 = c := emb_inj hO (hg.2 g (List.mem_of_getElem? hg1)) hc (Option.some.inj ((congrArg Prod.fst e1).trans h2))
      rw [List.map_append, map_up (nodup_eraseIdx hnA h1), map_eraseIdx', hA, ← map_eraseIdx', erase_fst hg.1 hg1 e2]
      congr 1
      simp [va_up, embG, relI]
  · have hy : y ∉ A1 := fun z => (List.nodup_append.mp hn).2.2 y z y List.mem_cons_self rfl
    have e2 : GL.filter (fun g => !decide (g.1 = c)) = GL := List.filter_eq_self.mpr (fun g hg1 => by
      have h3 : embG ad g ∈ A1.map c1 := by rw [hA]; exact List.mem_map.mpr ⟨g, hg1, rfl⟩
      obtain ⟨x, hx, e⟩ := List.mem_map.mp h3
      have : ¬ g.1 = c := fun z => h1 x hx (by rw [e, ← z]; rfl)
      simp [this])
    rw [List.map_append, map_up hy, hA, e2]
    congr 1
    simp [va_up, embG, relI]
theorem bgR.mem {A1 P1 A2 P2 : List Nat} {c1 : Nat → GC} {b y : Nat} (hb : bgR A1 P1 c1 b A2 P2 y) : ∀ x, x ∈ A2 ++ P2 → x ∈ A1 ++ P1 := by
  intro x hx
  rcases hb with ⟨k, h1, h2, rfl, rfl⟩ | ⟨h1, rfl, rfl⟩
  · rcases List.mem_append.mp hx with h | h
    · rcases List.mem_append.mp h with h | h
      · exact List.mem_append_left _ (List.mem_of_mem_eraseIdx h)
      · rw [List.mem_singleton.mp h]
        exact List.mem_append_left _ (List.mem_of_getElem? h1)
    · exact List.mem_append_right _ h
  · rw [List.append_assoc] at hx
    exact hx
theorem beg_cap {ad ow : Nat → Nat} {eA : Nat} {Q1 Q2 A1 : List Nat} {c1 : Nat → GC} {L C c : Nat} {GL : List GG} (hA : A1.map c1 = GL.map (embG ad)) (hg : gI C GL) (hc : c < C) (h12 : C ≤ 12) (hn : ∀ x, x ∈ A1 → ¬ (c1 x).1 = some (ad (100 + 4 * c))) : A1.length < 12 := by
  have e : A1.length = GL.length := by have := congrArg List.length hA; simpa using this
  have := hg.len hc (fun g hg1 z => by
    have h3 : embG ad g ∈ A1.map c1 := by rw [hA]; exact List.mem_map.mpr ⟨g, hg1, rfl⟩
    obtain ⟨x, hx, e⟩ := List.mem_map.mp h3
    exact hn x hx (by rw [e, ← z]; rfl))
  omega
theorem oW.lists {ad ow : Nat → Nat} {eA : Nat} {Q1 Q2 R1 R2 : List Nat} {L C : Nat} (hO : oW ad ow eA Q1 Q2 L C) (h1 : ∀ x, x ∈ R1 → x ∈ Q1) (h2 : ∀ x, x ∈ R2 → x ∈ Q2) : oW ad ow eA R1 R2 L C := ⟨hO.1, hO.2.1, hO.2.2.1, hO.2.2.2.1, fun x hx => hO.2.2.2.2.1 x (h1 x hx), fun x hx => hO.2.2.2.2.2 x (h2 x hx)⟩
/-- every cell of the book is there -/
def oX (ad : Nat → Nat) (Q1 Q2 : List Nat) (L C : Nat) (h : HM) : Prop := (∀ i, i < 14 → ∃ e, h (ad i) = some e) ∧ (∀ i, i < L → ∃ e, h (ad (20 + i)) = some e) ∧ (∀ i, i < 4 * C → ∃ e, h (ad (100 + i)) = some e) ∧ (∀ x, x ∈ Q1 → ∃ e, h x = some e) ∧ ∀ x, x ∈ Q2 → ∃ e, h x = some e
theorem oX.of {G : XG} {ad : Nat → Nat} {eA : Nat} {A1 P1 A2 P2 : List Nat} {c1 c2 : Nat → GC} {RY : List Nat} {ar : Nat → Nat → Int32} {L C t b n : Nat} {B : Int32} {GL : List GG} {NL : List (Nat × Nat)} {HL : List Int32} {h : HM} (hB : cB ad C t b h) (hR : riW G ad ar L B h) (hC : cuW G ad ar L B C h) (hp : poW G ad ar h) (hl : liW G ad A1 P1 c1 GL h) (hr : goW G (ad 7) (ad 8) A2 P2 c2 h) (hw : waW G ad NL RY h) (hI : hiW G (ad 13) eA HL n h) : oX ad (A1 ++ P1) (A2 ++ P2) L C h := by
  obtain ⟨hw1, -, -, nf, df, yf, hw2, hw3, hw4, -⟩ := hw
  refine ⟨fun i hi => ?_, fun i hi => ⟨_, hR.2.2.2 i hi⟩, fun i hi => ?_, fun x hx => ⟨_, hl.1.2.2.2.2 x hx⟩, fun x hx => ⟨_, hr.2.2.2.2 x hx⟩⟩
  · rcases (show i = 0 ∨ i = 1 ∨ i = 2 ∨ i = 3 ∨ i = 4 ∨ i = 5 ∨ i = 6 ∨ i = 7 ∨ i = 8 ∨ i = 9 ∨ i = 10 ∨ i = 11 ∨ i = 12 ∨ i = 13 by omega) with rfl | rfl | rfl | rfl | rfl | rfl | rfl | rfl | rfl | rfl | rfl | rfl | rfl | rfl
    · exact ⟨_, hB⟩
    · exact ⟨_, hR.1⟩
    · exact ⟨_, hR.2.1⟩
    · exact ⟨_, hC.1⟩
    · exact ⟨_, hp⟩
    · exact ⟨_, hl.1.1⟩
    · exact ⟨_, hl.1.2.1⟩
    · exact ⟨_, hr.1⟩
    · exact ⟨_, hr.2.1⟩
    · exact ⟨_, hw1⟩
    · exact ⟨_, hw2⟩
    · exact ⟨_, hw3⟩
    · exact ⟨_, hw4⟩
    · exact ⟨_, hI.1⟩
  · have hE := hC.2.2 (i / 4) (by omega)
    rcases (show i = 4 * (i / 4) ∨ i = 4 * (i / 4) + 1 ∨ i = 4 * (i / 4) + 2 ∨ i = 4 * (i / 4) + 3 by omega) with e | e | e | e
    · rw [e]; exact ⟨_, hE.1⟩
    · rw [e]; exact ⟨_, hE.2.1⟩
    · rw [e]; exact ⟨_, hE.2.2.1⟩
    · rw [e]; exact ⟨_, hE.2.2.2⟩
/-- a new row for the entries -/
theorem oW.newE {ad ow : Nat → Nat} {eA q : Nat} {Q1 Q2 : List Nat} {L C : Nat} {h : HM} (hO : oW ad ow eA Q1 Q2 L C) (hX : oX ad Q1 Q2 L C h) (hq : q = eA ∨ h q = none) : ∃ ow', oW ad ow' q Q1 Q2 L C := by
  rcases hq with rfl | hq
  · exact ⟨ow, hO⟩
  · have ne : ∀ {a : Nat} {e : va_E}, h a = some e → ¬ a = q := fun ha z => by rw [z, hq] at ha; cases ha
    refine ⟨fun z => if z = q then 16 else ow z, fun i hi => ?_, fun i hi => ?_, fun i hi => ?_, ?_, fun x hx => ?_, fun x hx => ?_⟩
    · obtain ⟨e, he⟩ := hX.1 i hi; dsimp only; rw [if_neg (ne he)]; exact hO.1 i hi
    · obtain ⟨e, he⟩ := hX.2.1 i hi; dsimp only; rw [if_neg (ne he)]; exact hO.2.1 i hi
    · obtain ⟨e, he⟩ := hX.2.2.1 i hi; dsimp only; rw [if_neg (ne he)]; exact hO.2.2.1 i hi
    · dsimp only; rw [if_pos rfl]
    · obtain ⟨e, he⟩ := hX.2.2.2.1 x hx; dsimp only; rw [if_neg (ne he)]; exact hO.2.2.2.2.1 x hx
    · obtain ⟨e, he⟩ := hX.2.2.2.2 x hx; dsimp only; rw [if_neg (ne he)]; exact hO.2.2.2.2.2 x hx
