/-! the book's beginning -/
def ar0 : Nat → Nat → Int32 := set2 (set2 (set2 (fun _ _ => 0) 9 0 (nI 5000)) 9 1 (nI 5000)) 9 2 (nI 5000)
def PS0 : PS := (ar0, 0, nI 15, 0, 0, 0, [], [], [], 64)
theorem pow0 : powF ar0 = fun _ => nI 5000 := by
  funext j
  unfold powF ar0
  split
  · rename_i h
    rcases (show j = 0 ∨ j = 1 ∨ j = 2 by omega) with rfl | rfl | rfl
    · rw [set2_at, upd_ne (by decide), set2_at, upd_ne (by decide), set2_at, upd_at]
    · rw [set2_at, upd_ne (by decide), set2_at, upd_at]
    · rw [set2_at, upd_at]
  · rfl
theorem x_fr.transn {P : Nat → Prop} {h h1 h2 : HM} {o : Nat} (f : x_fr P h h1) (g : x_fr (fun z => z = o) h1 h2) (ho : h o = none) : x_fr P h h2 := fun q e hq hn => g q e (f q e hq hn) (fun z => by rw [z, ho] at hq; cases hq)
theorem goW.frg {G : XG} {o w g : Nat} {AL SP : List Nat} {ct : Nat → GC} {h h' : HM} {vs : List Value} (hW : goW G o w AL SP ct h) (hf : x_fr (fun z => z = g) h h') (hg : h g = some (.inr (7, vs))) : goW G o w AL SP ct h' := by
  obtain ⟨h1, h2, h3, h4, h5⟩ := hW
  refine ⟨hf _ _ h1 (fun z => ?_), hf _ _ h2 (fun z => ?_), h3, h4, fun x hx => hf _ _ (h5 x hx) (fun z => ?_)⟩
  · rw [z, hg] at h1; simp at h1
  · rw [z, hg] at h2; simp at h2
  · have := h5 x hx; rw [z, hg] at this; simp [goE] at this
theorem wtW.frg {G : XG} {wo nA dA yA g : Nat} {NL : List (Nat × Int32)} {RY : List Nat} {h h' : HM} {vs : List Value} (hW : wtW G wo nA dA yA NL RY h) (hf : x_fr (fun z => z = g) h h') (hg : h g = some (.inr (7, vs))) : wtW G wo nA dA yA NL RY h' := by
  obtain ⟨h1, h2, h3, nf, df, yf, h4, h5, h6, h7⟩ := hW
  refine ⟨hf _ _ h1 (fun z => ?_), h2, h3, nf, df, yf, hf _ _ h4 (fun z => ?_), hf _ _ h5 (fun z => ?_), hf _ _ h6 (fun z => ?_), h7⟩
  · rw [z, hg] at h1; simp at h1
  · rw [z, hg] at h4; simp at h4
  · rw [z, hg] at h5; simp at h5
  · rw [z, hg] at h6; simp at h6
theorem hiW.frg {G : XG} {hi eA g n : Nat} {HL : List Int32} {h h' : HM} {vs : List Value} (hW : hiW G hi eA HL n h) (hf : x_fr (fun z => z = g) h h') (hg : h g = some (.inr (7, vs))) : hiW G hi eA HL n h' := by
  obtain ⟨h1, h2, h3, h4, ef, h5, h6⟩ := hW
  refine ⟨hf _ _ h1 (fun z => ?_), h2, h3, h4, ef, hf _ _ h5 (fun z => ?_), h6⟩
  · rw [z, hg] at h1; simp at h1
  · rw [z, hg] at h5; simp at h5
theorem goW.ne {G : XG} {o w : Nat} {AL SP : List Nat} {ct : Nat → GC} {h : HM} (hW : goW G o w AL SP ct h) : o ≠ w ∧ (∀ x, x ∈ AL ++ SP → x ≠ o ∧ x ≠ w) := by
  obtain ⟨h1, h2, h3, h4, h5⟩ := hW
  refine ⟨fun z => ?_, fun x hx => ⟨fun z => ?_, fun z => ?_⟩⟩
  · rw [z, h2] at h1; simp at h1
  · have := h5 x hx; rw [z, h1] at this; simp [goE] at this
  · have := h5 x hx; rw [z, h2] at this; simp [goE] at this
theorem wtW.ne {G : XG} {wo nA dA yA : Nat} {NL : List (Nat × Int32)} {RY : List Nat} {h : HM} (hW : wtW G wo nA dA yA NL RY h) : wo ≠ nA ∧ wo ≠ dA ∧ wo ≠ yA ∧ nA ≠ dA ∧ dA ≠ yA := by
  obtain ⟨h1, h2, h3, nf, df, yf, h4, h5, h6, h7⟩ := hW
  refine ⟨fun z => ?_, fun z => ?_, fun z => ?_, fun z => ?_, fun z => ?_⟩
  · rw [z, h4] at h1; simp at h1
  · rw [z, h5] at h1; simp at h1
  · rw [z, h6] at h1; simp at h1
  · rw [z, h5] at h4; simp at h4
  · rw [z, h6] at h5; simp at h5
theorem hiW.ne {G : XG} {hi eA n : Nat} {HL : List Int32} {h : HM} (hW : hiW G hi eA HL n h) : hi ≠ eA := fun z => by
  obtain ⟨h1, h2, h3, h4, ef, h5, h6⟩ := hW
  rw [z, h5] at h1
  simp at h1
