/-! the history told again -/
def fallG (c t : Nat) (GL : List GG) : List GG := GL.map (fun g => if g.1 = c then (g.1, g.2.1, t + 1) else g)
def eC (e : Int32) : Nat := (eCue e).toNatClampNeg
def eT (e : Int32) : Nat := (eTick e).toNatClampNeg
def rtStep (GL : List GG) (e : Int32) : List GG := if eRel e = true then fallG (eC e) (eT e) GL else gBeg (eC e) (eT e) GL
def rtP (HL : List Int32) : List GG := HL.foldl rtStep []
/-- entries that tell of cues that are there -/
def eI (C : Nat) (HL : List Int32) : Prop := ∀ e, e ∈ HL → eC e < C ∧ eCue e = nI (eC e) ∧ eTick e = nI (eT e)
theorem fallG_I {C c t : Nat} {GL : List GG} (h : gI C GL) : gI C (fallG c t GL) := by
  unfold fallG
  refine ⟨?_, fun g hg => ?_⟩
  · rw [List.map_map]
    have : (GL.map (Prod.fst ∘ fun g : GG => if g.1 = c then (g.1, g.2.1, t + 1) else g)) = GL.map Prod.fst := List.map_congr_left (fun g _ => by
      show (if g.1 = c then (g.1, g.2.1, t + 1) else g).1 = g.1
      split <;> rfl)
    rw [this]
    exact h.1
  · obtain ⟨g', hg', rfl⟩ := List.mem_map.mp hg
    have := h.2 g' hg'
    split <;> exact this
theorem rtStep_I {C : Nat} {GL : List GG} {e : Int32} (h : gI C GL) (he : eC e < C) : gI C (rtStep GL e) := by
  unfold rtStep
  split
  · exact fallG_I h
  · exact gBeg_I h he
theorem gI_nil (C : Nat) : gI C [] := ⟨List.nodup_nil, fun g hg => by simp at hg⟩
theorem rt_I {C : Nat} : ∀ (HL : List Int32) (GL : List GG), gI C GL → (∀ e, e ∈ HL → eC e < C) → gI C (HL.foldl rtStep GL)
  | [], GL, h, _ => h
  | e :: HL, GL, h, he => rt_I HL (rtStep GL e) (rtStep_I h (he e List.mem_cons_self)) (fun x hx => he x (List.mem_cons_of_mem _ hx))
theorem map_at {α β δ : Type} {e1 : α → δ} {e2 : β → δ} {l : List α} {m : List β} (h : l.map e1 = m.map e2) {j : Nat} {a : α} (ha : l[j]? = some a) : ∃ b, m[j]? = some b ∧ e1 a = e2 b := by
  have h1 : (m.map e2)[j]? = some (e1 a) := by rw [← h, List.getElem?_map, ha]; rfl
  rw [List.getElem?_map] at h1
  cases hb : m[j]? with
  | none => rw [hb] at h1; cases h1
  | some b => rw [hb] at h1; exact ⟨b, rfl, (Option.some.inj h1).symm⟩
theorem fall_map {ad ow : Nat → Nat} {eA : Nat} {Q1 Q2 A : List Nat} {ct : Nat → GC} {L C c t k x : Nat} {GL : List GG} (hO : oW ad ow eA Q1 Q2 L C) (hA : A.map ct = GL.map (embG ad)) (hg : gI C GL) (hc : c < C) (hn : A.Nodup) (hx : A[k]? = some x) (hb : (ct x).1 = some (ad (100 + 4 * c))) : A.map (va_up ct x ((ct x).1, (ct x).2.1, nI t)) = (fallG c t GL).map (embG ad) := by
  obtain ⟨gx, hgx, ex⟩ := map_at hA hx
  have ecx : gx.1 = c := emb_inj hO (hg.2 gx (List.mem_of_getElem? hgx)) hc (Option.some.inj ((congrArg Prod.fst ex).symm.trans hb))
  have hlen : A.length = GL.length := by have := congrArg List.length hA; simpa using this
  unfold fallG
  rw [List.map_map]
  refine List.ext_getElem? (fun j => ?_)
  rw [List.getElem?_map, List.getElem?_map]
  cases ha : A[j]? with
  | none =>
    have : GL[j]? = none := by
      rw [List.getElem?_eq_none_iff] at ha ⊢
      omega
    rw [this]
    rfl
  | some a =>
    obtain ⟨g, hgj, e⟩ := map_at hA ha
    rw [hgj]
    show some _ = some _
    congr 1
    by_cases ej : j = k
    · subst ej
      have e1 : a = x := Option.some.inj (ha.symm.trans hx)
      have e2 : g = gx := Option.some.inj (hgj.symm.trans hgx)
      subst e1
      subst e2
      show va_up ct a _ a = embG ad (if g.1 = c then (g.1, g.2.1, t + 1) else g)
      rw [if_pos ecx]
      simp only [va_up, if_true]
      rw [e]
      rfl
    · have h1 : ¬ a = x := fun z => ej ((List.getElem?_inj (get_lt ha) hn).mp (by rw [ha, hx, z]))
      have h2 : ¬ g.1 = c := fun z => ej ((List.getElem?_inj (by rw [List.length_map]; exact get_lt hgj) hg.1).mp (by rw [List.getElem?_map, List.getElem?_map, hgj, hgx]; simp [z, ecx]))
      show va_up ct x _ a = embG ad (if g.1 = c then (g.1, g.2.1, t + 1) else g)
      rw [if_neg h2]
      simp only [va_up, if_neg h1]
      exact e
theorem fall_none {ad : Nat → Nat} {A : List Nat} {ct : Nat → GC} {c t : Nat} {GL : List GG} (hA : A.map ct = GL.map (embG ad)) (hn : ∀ x, x ∈ A → ¬ (ct x).1 = some (ad (100 + 4 * c))) : fallG c t GL = GL := by
  unfold fallG
  have : ∀ g, g ∈ GL → (if g.1 = c then (g.1, g.2.1, t + 1) else g) = g := fun g hg => by
    have h3 : embG ad g ∈ A.map ct := by rw [hA]; exact List.mem_map.mpr ⟨g, hg, rfl⟩
    obtain ⟨x, hx, e⟩ := List.mem_map.mp h3
    exact if_neg (fun z => hn x hx (by rw [e, ← z]; rfl))
  exact (List.map_congr_left this).trans (List.map_id' GL)
theorem goW.clear {G : XG} {o w : Nat} {AL SP : List Nat} {ct : Nat → GC} {h : HM} (hW : goW G o w AL SP ct h) : goW G o w [] (AL ++ SP) ct (x_up h o (.inr (2, [.ref w, .int (nI 0)]))) := by
  obtain ⟨h1, h2, h3, h4, h5⟩ := hW
  refine ⟨x_up_eq _ _ _, ?_, h3, h4, fun z hz => ?_⟩
  · rw [x_up_ne (fun z => by have z1 := h2; rw [z, h1] at z1; simp at z1)]
    exact h2
  · have hz' := h5 z hz
    rw [x_up_ne (fun z => by have z1 := hz'; rw [z, h1] at z1; simp [goE] at z1)]
    exact hz'
