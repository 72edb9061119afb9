/-! the state's steps: a tick passes -/
def ovP (ar : Nat → Nat → Int32) (t : Nat) (g : GG) : Bool := !decide (relI g.2.2 = -1) && !decide (nI t - relI g.2.2 < ar 13 g.1)
def tkP (S : PS) : PS := (s_ar S, s_L S, s_B S, s_C S, s_t S + 1, s_b S, (s_G S).filter (fun g => !ovP (s_ar S) (s_t S + 1) g), (s_N S).filter (fun x => !decide (x.2 = s_t S + 1)), s_H S, s_n S)
def dueP (S : PS) : List Nat := ((s_N S).filter (fun x => decide (x.2 = s_t S + 1))).map Prod.fst
def barP (S : PS) : PS := (s_ar S, s_L S, s_B S, s_C S, s_t S, s_b S + 1, s_G S, s_N S, s_H S, s_n S)
def stepP (S : PS) (c : Nat) : PS := if canP (s_ar S) (s_L S) (s_B S) (s_G S) c = true then begP c S else barP S
def stI (S : PS) (i : Nat) : PS := ((dueP S).take i).foldl stepP (tkP S)
def pass1 (S : PS) : PS := (dueP S).foldl stepP (tkP S)
/-- what a begin wants -/
def bI (S : PS) : Prop := gI (s_C S) (s_G S) ∧ cuI (s_ar S) (s_C S) ∧ capP (s_n S) ∧ (s_N S).length < 512 ∧ ∀ c, c < s_C S → (strF (entB (s_t S) c) (s_H S)).length < 122880
theorem stI_s {S : PS} {i c : Nat} (h : (dueP S)[i]? = some c) : stI S (i + 1) = stepP (stI S i) c := take_s stepP (tkP S) h
theorem stI_n {S : PS} : stI S (dueP S).length = pass1 S := by unfold stI pass1; rw [List.take_length]
theorem stepP_keep (S : PS) (c : Nat) : s_ar (stepP S c) = s_ar S ∧ s_L (stepP S c) = s_L S ∧ s_B (stepP S c) = s_B S ∧ s_C (stepP S c) = s_C S ∧ s_t (stepP S c) = s_t S := by
  unfold stepP
  split <;> exact ⟨rfl, rfl, rfl, rfl, rfl⟩
theorem fold_keep : ∀ (l : List Nat) (S : PS), s_ar (l.foldl stepP S) = s_ar S ∧ s_L (l.foldl stepP S) = s_L S ∧ s_B (l.foldl stepP S) = s_B S ∧ s_C (l.foldl stepP S) = s_C S ∧ s_t (l.foldl stepP S) = s_t S
  | [], S => ⟨rfl, rfl, rfl, rfl, rfl⟩
  | c :: l, S => by
    rw [List.foldl_cons]
    obtain ⟨a1, a2, a3, a4, a5⟩ := fold_keep l (stepP S c)
    obtain ⟨b1, b2, b3, b4, b5⟩ := stepP_keep S c
    exact ⟨a1.trans b1, a2.trans b2, a3.trans b3, a4.trans b4, a5.trans b5⟩
theorem stI_keep (S : PS) (i : Nat) : s_ar (stI S i) = s_ar S ∧ s_L (stI S i) = s_L S ∧ s_B (stI S i) = s_B S ∧ s_C (stI S i) = s_C S ∧ s_t (stI S i) = s_t S + 1 := fold_keep _ (tkP S)
theorem capP.le {n c : Nat} (h : capP n) : n ≤ grw n c := by
  have h2 : n ≤ 122880 := by rcases h with rfl | rfl | rfl | rfl | rfl | rfl | rfl | rfl | rfl | rfl | rfl | rfl <;> decide
  unfold grw
  split
  · exact Nat.le_refl _
  · split <;> omega
theorem stepP_n {S : PS} {c : Nat} (h : capP (s_n S)) : s_n S ≤ s_n (stepP S c) := by
  unfold stepP
  split
  · exact h.le
  · exact Nat.le_refl _
theorem filter_map' {α β δ : Type} {p : α → Bool} {p' : β → Bool} {e1 : α → δ} {e2 : β → δ} : ∀ {l : List α} {m : List β}, l.map e1 = m.map e2 → (∀ x y, x ∈ l → y ∈ m → e1 x = e2 y → p x = p' y) → (l.filter p).map e1 = (m.filter p').map e2
  | [], [], _, _ => rfl
  | [], y :: m, h, _ => by simp at h
  | x :: l, [], h, _ => by simp at h
  | x :: l, y :: m, h, hf => by
    rw [List.map_cons, List.map_cons, List.cons.injEq] at h
    have ih := filter_map' (p := p) (p' := p') h.2 (fun u v hu hv => hf u v (List.mem_cons_of_mem _ hu) (List.mem_cons_of_mem _ hv))
    have hxy := hf x y List.mem_cons_self List.mem_cons_self h.1
    rw [List.filter_cons, List.filter_cons, hxy]
    cases p' y
    · exact ih
    · show e1 x :: (l.filter p).map e1 = e2 y :: (m.filter p').map e2
      rw [ih, h.1]
theorem ovP_of {ad ow : Nat → Nat} {eA : Nat} {A1 Q1 Q2 : List Nat} {c1 : Nat → GC} {ar : Nat → Nat → Int32} {L L' C : Nat} {B : Int32} {GL : List GG} (hO : oW ad ow eA Q1 Q2 L' C) (hA : A1.map c1 = GL.map (embG ad)) (hG : ∀ g, g ∈ GL → g.1 < C) (t : Nat) : (A1.filter (fun x => !ovr c1 (cuK ow ar L B) (nI t) x)).map c1 = (GL.filter (fun g => !ovP ar t g)).map (embG ad) := by
  refine filter_map' hA (fun x g _ hg e => ?_)
  have hb : (c1 x).1 = some (ad (100 + 4 * g.1)) := by rw [e]; rfl
  rw [ovr_is hb, cuK_at hO (hG g hg), e]
  rfl
theorem due_of {ad : Nat → Nat} {NL : List (Nat × Nat)} {t : Nat} (ht : t < 2 ^ 31) (hN : ∀ x, x ∈ NL → x.2 < 2 ^ 31) : (NL.map (fun x => (ad (100 + 4 * x.1), nI x.2))).filter (fun x : Nat × Int32 => decide (x.2 = nI t)) = (NL.filter (fun x => decide (x.2 = t))).map (fun x => (ad (100 + 4 * x.1), nI x.2)) := by
  rw [List.filter_map]
  congr 1
  refine List.filter_congr (fun x hx => ?_)
  show decide (nI x.2 = nI t) = decide (x.2 = t)
  rw [decide_eq_decide]
  exact nI_eq (hN x hx) ht
theorem kept_of {ad : Nat → Nat} {NL : List (Nat × Nat)} {t : Nat} (ht : t < 2 ^ 31) (hN : ∀ x, x ∈ NL → x.2 < 2 ^ 31) : (NL.map (fun x => (ad (100 + 4 * x.1), nI x.2))).filter (fun x : Nat × Int32 => !decide (x.2 = nI t)) = (NL.filter (fun x => !decide (x.2 = t))).map (fun x => (ad (100 + 4 * x.1), nI x.2)) := by
  rw [List.filter_map]
  congr 1
  refine List.filter_congr (fun x hx => ?_)
  show (!decide (nI x.2 = nI t)) = !decide (x.2 = t)
  congr 1
  rw [decide_eq_decide]
  exact nI_eq (hN x hx) ht
