/-! floats: where no NaN comes -/
def mg (x : UInt32) : Nat := x.toNat % 2 ^ 31
theorem fp_nn {r : UInt32} (h : FP.Core.fIsNaN r = false) : vf_n32 r := by
  have h1 := (FP.Core.notNaN_iff32 r).mp h
  have h2 := (FP.Core.ne_nan32 r).mp h1
  show r &&& 0x7fffffff ≤ 0x7f800000
  rw [UInt32.le_iff_toNat_le, FP.Core.mask_toNat32]
  exact h2
theorem fp_lt {r : UInt32} (h : mg r < 255 * 2 ^ 23) : FP.Core.fIsNaN r = false := (FP.Core.notNaN_iff32 r).mpr ((FP.Core.fin_of_lt32 h (Nat.le_refl _)).elim fun s hs => by obtain ⟨c, q, e⟩ := hs; rw [e]; exact fun z => by cases z)
theorem fp_mul {a b : UInt32} {Ka Kb : Nat} (ha : mg a < Ka * 2 ^ 23) (hb : mg b < Kb * 2 ^ 23) (hKa : Ka ≤ 255) (hKb : Kb ≤ 255) (h : Ka + Kb ≤ 381) : vf_n32 (FP.fmul a b) ∧ mg (FP.fmul a b) < (Ka + Kb - 129 + 3) * 2 ^ 23 := by
  have h1 := FP.Core.fmul_mag ha hb hKa hKb
  refine ⟨fp_nn (fp_lt (Nat.lt_of_lt_of_le h1 ?_)), h1⟩
  exact Nat.mul_le_mul_right _ (by omega)
theorem fp_add {a b : UInt32} {K : Nat} (ha : mg a < K * 2 ^ 23) (hb : mg b < K * 2 ^ 23) (hK : K ≤ 253) : vf_n32 (FP.fadd a b) ∧ mg (FP.fadd a b) < (K + 2) * 2 ^ 23 := by
  have h1 := FP.Core.fadd_mag ha hb (by omega)
  exact ⟨fp_nn (fp_lt (Nat.lt_of_lt_of_le h1 (Nat.mul_le_mul_right _ (by omega)))), h1⟩
theorem fp_sub {a b : UInt32} {K : Nat} (ha : mg a < K * 2 ^ 23) (hb : mg b < K * 2 ^ 23) (hK : K ≤ 253) : vf_n32 (FP.fsub a b) ∧ mg (FP.fsub a b) < (K + 2) * 2 ^ 23 := by
  have h1 := FP.Core.fsub_mag ha hb (by omega)
  exact ⟨fp_nn (fp_lt (Nat.lt_of_lt_of_le h1 (Nat.mul_le_mul_right _ (by omega)))), h1⟩
theorem fp_i2f (x : Int32) : mg (FP.i2f x) < 160 * 2 ^ 23 := FP.Core.i2f_mag x
theorem fp_div {t u : Int32} (hu : ¬ u = 0) : vf_n32 (FP.fdiv (FP.i2f t) (FP.i2f u)) ∧ mg (FP.fdiv (FP.i2f t) (FP.i2f u)) < 161 * 2 ^ 23 := by
  have hb := FP.Core.i2f_big (FP.Core.int32_ne hu)
  have h1 := FP.Core.fdiv_mag (FP.Core.i2f_mag t) hb.1 hb.2 (by decide) (by decide)
  exact ⟨fp_nn (fp_lt (Nat.lt_of_lt_of_le h1 (by decide))), h1⟩
theorem fp_le {x : UInt32} {K M : Nat} (h : mg x < K * 2 ^ 23) (hKM : K ≤ M) : mg x < M * 2 ^ 23 := Nat.lt_of_lt_of_le h (Nat.mul_le_mul_right _ hKM)
theorem fp_c0 : mg FP.fconst0 < 1 * 2 ^ 23 := by decide
theorem fp_c1 : mg FP.fconst1 < 128 * 2 ^ 23 := by decide
theorem fp_c2 : mg FP.fconst2 < 129 * 2 ^ 23 := by decide
/-- a master on its way up, and a going's master -/
def masterR (up t : Int32) : UInt32 := if up = 0 then FP.fconst1 else if Op.cmpValue (FP.fcmp (FP.fdiv (FP.i2f t) (FP.i2f up)) FP.fconst1) .g < 0 then FP.fdiv (FP.i2f t) (FP.i2f up) else FP.fconst1
def fallR (dn t : Int32) : UInt32 := FP.fsub FP.fconst1 (FP.fdiv (FP.i2f t) (FP.i2f dn))
def masterG (up dn we re now : Int32) : UInt32 := if re = -1 then masterR up (now - we) else if dn = 0 then FP.fconst0 else FP.fmul (masterR up (re - we)) (fallR dn (now - re))
theorem masterR_mg (up t : Int32) : mg (masterR up t) < 161 * 2 ^ 23 := by
  unfold masterR
  split
  · exact fp_le fp_c1 (by decide)
  · split
    · exact (fp_div (by assumption)).2
    · exact fp_le fp_c1 (by decide)
theorem fallR_mg {dn : Int32} (t : Int32) (h : ¬ dn = 0) : vf_n32 (fallR dn t) ∧ mg (fallR dn t) < 163 * 2 ^ 23 := fp_sub (fp_le fp_c1 (by decide)) (fp_div h).2 (by decide)
theorem masterG_mul {up dn we re now : Int32} (h : ¬ dn = 0) : vf_n32 (FP.fmul (masterR up (re - we)) (fallR dn (now - re))) := (fp_mul (masterR_mg _ _) (fallR_mg _ h).2 (by decide) (by decide) (by decide)).1
/-! goings: the row's addresses, those in use ahead of the spare ones; what each address holds -/
abbrev GC : Type := Option Nat × Int32 × Int32
def goE (x : GC) : va_E := .inr (1, [va_rf x.1, .int x.2.1, .int x.2.2])
def rowF (AS : List Nat) : Nat → Option Nat := fun i => AS[i]?
def goW (G : XG) (o w : Nat) (AL SP : List Nat) (ct : Nat → GC) (h : HM) : Prop :=
  h o = some (.inr (2, [.ref w, .int (nI AL.length)])) ∧ h w = some (.inl (g_c G 5, 12, .inr (.inr (.inr (.inr (rowF (AL ++ SP))))))) ∧ (AL ++ SP).length = 12 ∧ (AL ++ SP).Nodup ∧ ∀ x, x ∈ AL ++ SP → h x = some (goE (ct x))
theorem goW.le {G : XG} {o w : Nat} {AL SP : List Nat} {ct : Nat → GC} {h : HM} (hW : goW G o w AL SP ct h) : AL.length ≤ 12 := by
  have := hW.2.2.1
  rw [List.length_append] at this
  omega
theorem rowF_l {AL SP : List Nat} {i : Nat} (h : i < AL.length) : rowF (AL ++ SP) i = AL[i]? := List.getElem?_append_left h
theorem goW.sel {G : XG} {o w : Nat} {AL SP : List Nat} {ct : Nat → GC} {h : HM} (hW : goW G o w AL SP ct h) {i x : Nat} (hx : AL[i]? = some x) : x_sel AL.length (rowF (AL ++ SP)) (nI i) none = some x := by
  have hi := (List.getElem?_eq_some_iff.mp hx).1
  have := hW.le
  rw [x_selN hi (by omega), rowF_l hi, hx]
theorem goW.at {G : XG} {o w : Nat} {AL SP : List Nat} {ct : Nat → GC} {h : HM} (hW : goW G o w AL SP ct h) {i x : Nat} (hx : AL[i]? = some x) : h x = some (.inr (1, [va_rf (ct x).1, .int (ct x).2.1, .int (ct x).2.2])) := hW.2.2.2.2 x (List.mem_append_left _ (List.mem_of_getElem? hx))
theorem x_get_lt {AL : List Nat} {i : Nat} (h : i < AL.length) : ∃ x, AL[i]? = some x := ⟨_, List.getElem?_eq_getElem h⟩
/-- where a cue's going is -/
def plR (AL : List Nat) (ct : Nat → GC) (b : Nat) (r : Int32) : Prop := (r = -1 ∧ ∀ x, x ∈ AL → ¬ (ct x).1 = some b) ∨ ∃ k x : Nat, AL[k]? = some x ∧ (ct x).1 = some b ∧ r = nI k
def goR (AL : List Nat) (ct : Nat → GC) (b : Nat) (o : Option Nat) : Prop := (o = none ∧ ∀ x, x ∈ AL → ¬ (ct x).1 = some b) ∨ ∃ k x : Nat, AL[k]? = some x ∧ (ct x).1 = some b ∧ o = some x
/-- cues by their addresses: sort, up, down, levels -/
abbrev CK : Type := Nat → Int32 × Int32 × Int32 × (Nat → Int32)
def cueK (G : XG) (h : HM) (b : Nat) (k : Int32 × Int32 × Int32 × (Nat → Int32)) : Prop := ∃ (nu de : Int32) (fo : Option Nat) (tA sA vA : Nat), h b = some (.inr (0, [.int nu, .int k.1, .int k.2.1, .int k.2.2.1, .ref tA, .ref sA, .ref vA, va_rf fo, .int de])) ∧ h vA = some (.inl (g_c G 0, 16, .inl k.2.2.2))
def goK (G : XG) (h : HM) (AL : List Nat) (ct : Nat → GC) (K : CK) : Prop := ∀ x, x ∈ AL → ∃ b, (ct x).1 = some b ∧ cueK G h b (K b)
/-- over, by now -/
def ovr (ct : Nat → GC) (K : CK) (now : Int32) (x : Nat) : Bool := match (ct x).1 with
  | some b => !decide ((ct x).2.2 = -1) && !decide (now - (ct x).2.2 < (K b).2.2.1)
  | none => true
theorem ovr_is {ct : Nat → GC} {K : CK} {now : Int32} {x b : Nat} (h : (ct x).1 = some b) : ovr ct K now x = (!decide ((ct x).2.2 = -1) && !decide (now - (ct x).2.2 < (K b).2.2.1)) := by
  unfold ovr
  rw [h]
def gLev (ct : Nat → GC) (K : CK) (lamp x : Nat) : Int32 := match (ct x).1 with
  | some b => (K b).2.2.2 lamp
  | none => 0
def gSort (ct : Nat → GC) (K : CK) (x : Nat) : Int32 := match (ct x).1 with
  | some b => (K b).1
  | none => 0
def gMas (ct : Nat → GC) (K : CK) (now : Int32) (x : Nat) : UInt32 := match (ct x).1 with
  | some b => masterG (K b).2.1 (K b).2.2.1 (ct x).2.1 (ct x).2.2 now
  | none => FP.fconst0
theorem gLev_is {ct : Nat → GC} {K : CK} {lamp x b : Nat} (h : (ct x).1 = some b) : gLev ct K lamp x = (K b).2.2.2 lamp := by unfold gLev; rw [h]
theorem gSort_is {ct : Nat → GC} {K : CK} {x b : Nat} (h : (ct x).1 = some b) : gSort ct K x = (K b).1 := by unfold gSort; rw [h]
theorem gMas_is {ct : Nat → GC} {K : CK} {now : Int32} {x b : Nat} (h : (ct x).1 = some b) : gMas ct K now x = masterG (K b).2.1 (K b).2.2.1 (ct x).2.1 (ct x).2.2 now := by unfold gMas; rw [h]
def maxI (x y : Int32) : Int32 := if x < y then y else x
/-- the greatest level of what isn't released -/
def grtS (ct : Nat → GC) (K : CK) (lamp : Nat) (g : Int32) (x : Nat) : Int32 := if (ct x).2.2 = -1 then maxI g (gLev ct K lamp x) else g
/-- one going's step in a level, of the one sort and the other -/
def mixH (ct : Nat → GC) (K : CK) (now : Int32) (lamp : Nat) (l : UInt32) (x : Nat) : UInt32 := if gSort ct K x = nI 0 ∧ 0 < gLev ct K lamp x then (if 0 < Op.cmpValue (FP.fcmp (FP.fmul (gMas ct K now x) (FP.i2f (gLev ct K lamp x))) l) .l then FP.fmul (gMas ct K now x) (FP.i2f (gLev ct K lamp x)) else l) else l
def mixL (ct : Nat → GC) (K : CK) (now : Int32) (lamp : Nat) (l : UInt32) (x : Nat) : UInt32 := if gSort ct K x = nI 1 ∧ 0 < gLev ct K lamp x then FP.fadd l (FP.fmul (gMas ct K now x) (FP.fsub (FP.i2f (gLev ct K lamp x)) l)) else l
def mixS (ct : Nat → GC) (K : CK) (now : Int32) (lamp : Nat) (AL : List Nat) : UInt32 := AL.foldl (mixL ct K now lamp) (AL.foldl (mixH ct K now lamp) FP.fconst0)
theorem take_s {α β : Type} (f : β → α → β) (b : β) {l : List α} {i : Nat} {x : α} (h : l[i]? = some x) : (l.take (i + 1)).foldl f b = f ((l.take i).foldl f b) x := by
  rw [List.take_add_one, h, List.foldl_append]
  rfl
/-- moveLast's row, j places on -/
def shF (f : Nat → Option Nat) (p j : Nat) : Nat → Option Nat := fun i => if p ≤ i ∧ i < j then f (i + 1) else f i
theorem shF_0 (f : Nat → Option Nat) (p : Nat) : shF f p p = f := by funext i; unfold shF; rw [if_neg (by omega)]
theorem shF_at (f : Nat → Option Nat) {p j i : Nat} (h : j ≤ i) : shF f p j i = f i := by unfold shF; rw [if_neg (by omega)]
theorem shF_s (f : Nat → Option Nat) {p j y : Nat} (hp : p ≤ j) (hy : f (j + 1) = some y) : va_up (shF f p j) j (some y) = shF f p (j + 1) := by
  funext i
  unfold va_up shF
  by_cases c : i = j
  · subst c; rw [if_pos rfl, if_pos (by omega), hy]
  · rw [if_neg c]
    by_cases c2 : p ≤ i ∧ i < j
    · rw [if_pos c2, if_pos (by omega)]
    · rw [if_neg c2, if_neg (by omega)]
theorem row_move {AL SP : List Nat} {p x : Nat} (hx : AL[p]? = some x) : va_up (shF (rowF (AL ++ SP)) p (AL.length - 1)) (AL.length - 1) (some x) = rowF ((AL.eraseIdx p ++ [x]) ++ SP) := by
  have hp := (List.getElem?_eq_some_iff.mp hx).1
  have hle : (AL.eraseIdx p).length = AL.length - 1 := by rw [List.length_eraseIdx, if_pos hp]
  funext i
  unfold va_up shF rowF
  rw [List.append_assoc]
  by_cases c : i = AL.length - 1
  · subst c
    rw [if_pos rfl, List.getElem?_append_right (by omega), hle, Nat.sub_self]
    rfl
  · rw [if_neg c]
    by_cases c2 : p ≤ i ∧ i < AL.length - 1
    · rw [if_pos c2, List.getElem?_append_left (by omega), List.getElem?_append_left (by omega), List.getElem?_eraseIdx, if_neg (by omega)]
    · rw [if_neg c2]
      by_cases c3 : i < p
      · rw [List.getElem?_append_left (by omega), List.getElem?_append_left (by omega), List.getElem?_eraseIdx, if_pos c3]
      · rw [List.getElem?_append_right (by omega), List.getElem?_append_right (by omega), hle, List.singleton_append]
        obtain ⟨d, hd⟩ : ∃ d, i = AL.length + d := ⟨i - AL.length, by omega⟩
        rw [hd, show AL.length + d - AL.length = d by omega, show AL.length + d - (AL.length - 1) = d + 1 by omega, List.getElem?_cons_succ]
theorem perm_move {AL : List Nat} {p x : Nat} (hx : AL[p]? = some x) : (AL.eraseIdx p ++ [x]).Perm AL := by
  obtain ⟨hp, rfl⟩ := List.getElem?_eq_some_iff.mp hx
  have h2 : AL = AL.take p ++ AL[p] :: AL.drop (p + 1) := by rw [← List.drop_eq_getElem_cons hp, List.take_append_drop]
  rw [List.eraseIdx_eq_take_drop_succ]
  have h3 : (AL.take p ++ AL[p] :: AL.drop (p + 1)).Perm (AL[p] :: (AL.take p ++ AL.drop (p + 1))) := List.perm_middle
  have h4 : ((AL.take p ++ AL.drop (p + 1)) ++ [AL[p]]).Perm (AL[p] :: (AL.take p ++ AL.drop (p + 1))) := List.perm_append_comm
  exact h4.trans (h3.symm.trans (by rw [← h2]))
theorem goW.move {G : XG} {o w : Nat} {AL SP : List Nat} {ct : Nat → GC} {h : HM} (hW : goW G o w AL SP ct h) {p x : Nat} (hx : AL[p]? = some x) : goW G o w (AL.eraseIdx p ++ [x]) SP ct (x_up h w (.inl (g_c G 5, 12, .inr (.inr (.inr (.inr (rowF ((AL.eraseIdx p ++ [x]) ++ SP)))))))) := by
  obtain ⟨h1, h2, h3, h4, h5⟩ := hW
  have hp := (perm_move hx)
  have hpp : ((AL.eraseIdx p ++ [x]) ++ SP).Perm (AL ++ SP) := hp.append_right SP
  have hlen : (AL.eraseIdx p ++ [x]).length = AL.length := hp.length_eq
  refine ⟨?_, x_up_eq _ _ _, by rw [hpp.length_eq]; exact h3, hpp.nodup_iff.mpr h4, fun y hy => ?_⟩
  · rw [x_up_ne (fun z => by have z1 := h1; rw [z, h2] at z1; simp at z1), hlen]
    exact h1
  · have hy' := h5 y (hpp.mem_iff.mp hy)
    rw [x_up_ne (fun z => by have z1 := hy'; rw [z, h2] at z1; simp [goE] at z1)]
    exact hy'
theorem goW.put {G : XG} {o w : Nat} {AL SP : List Nat} {ct : Nat → GC} {h : HM} (hW : goW G o w AL SP ct h) {y : Nat} (hy : y ∈ AL ++ SP) (c : GC) : goW G o w AL SP (va_up ct y c) (x_up h y (goE c)) := by
  obtain ⟨h1, h2, h3, h4, h5⟩ := hW
  have hy' := h5 y hy
  refine ⟨?_, ?_, h3, h4, fun z hz => ?_⟩
  · rw [x_up_ne (fun z => by have z1 := h1; rw [z, hy'] at z1; simp [goE] at z1)]
    exact h1
  · rw [x_up_ne (fun z => by have z1 := h2; rw [z, hy'] at z1; simp [goE] at z1)]
    exact h2
  · by_cases e : z = y
    · subst e; rw [x_up_eq]; simp [va_up]
    · rw [x_up_ne e]
      simp only [va_up, if_neg e]
      exact h5 z hz
theorem goW.push {G : XG} {o w y : Nat} {AL SP : List Nat} {ct : Nat → GC} {h : HM} (hW : goW G o w AL (y :: SP) ct h) : goW G o w (AL ++ [y]) SP ct (x_up h o (.inr (2, [.ref w, .int (nI (AL.length + 1))]))) := by
  obtain ⟨h1, h2, h3, h4, h5⟩ := hW
  have e : AL ++ [y] ++ SP = AL ++ y :: SP := by simp
  refine ⟨by rw [x_up_eq, List.length_append]; rfl, ?_, by rw [e]; exact h3, by rw [e]; exact h4, fun z hz => ?_⟩
  · rw [x_up_ne (fun z => by have z1 := h2; rw [z, h1] at z1; simp at z1), e]
    exact h2
  · rw [e] at hz
    have hz' := h5 z hz
    rw [x_up_ne (fun z => by have z1 := hz'; rw [z, h1] at z1; simp [goE] at z1)]
    exact hz'
theorem goW.pop {G : XG} {o w y : Nat} {AL SP : List Nat} {ct : Nat → GC} {h : HM} (hW : goW G o w (AL ++ [y]) SP ct h) : goW G o w AL (y :: SP) ct (x_up h o (.inr (2, [.ref w, .int (nI AL.length)]))) := by
  obtain ⟨h1, h2, h3, h4, h5⟩ := hW
  have e : AL ++ [y] ++ SP = AL ++ y :: SP := by simp
  rw [e] at h2 h3 h4
  refine ⟨x_up_eq _ _ _, ?_, h3, h4, fun z hz => ?_⟩
  · rw [x_up_ne (fun z => by have z1 := h2; rw [z, h1] at z1; simp at z1)]
    exact h2
  · have hz' := h5 z (by rw [e]; exact hz)
    rw [x_up_ne (fun z => by have z1 := hz'; rw [z, h1] at z1; simp [goE] at z1)]
    exact hz'
theorem er_last {AL : List Nat} {y : Nat} : (AL ++ [y]).eraseIdx AL.length ++ [y] = AL ++ [y] := by
  rw [List.eraseIdx_append_of_length_le (Nat.le_refl _), Nat.sub_self]
  simp
theorem at_last {AL : List Nat} {y : Nat} : (AL ++ [y])[AL.length]? = some y := by simp
theorem at_last' {AL : List Nat} {y n : Nat} (hn : n = (AL ++ [y]).length - 1) : (AL ++ [y])[n]? = some y := by
  subst hn
  simp
/-- how a going begins: its place found again, or a spare one -/
def bgR (AL SP : List Nat) (ct : Nat → GC) (b : Nat) (AL' SP' : List Nat) (y : Nat) : Prop := (∃ k, AL[k]? = some y ∧ (ct y).1 = some b ∧ AL' = AL.eraseIdx k ++ [y] ∧ SP' = SP) ∨ ((∀ x, x ∈ AL → ¬ (ct x).1 = some b) ∧ SP = y :: SP' ∧ AL' = AL ++ [y])
def goP (o w : Nat) (AL SP : List Nat) : Nat → Prop := fun z => z = o ∨ z = w ∨ z ∈ AL ++ SP
theorem sub1 {n : Nat} (h : 1 ≤ n) : nI n - nI 1 = nI (n - 1) := pk_sub h
theorem dn1 (n : Nat) : nI (n + 1) - nI 1 = nI n := nI_pred n
theorem dn2 (n : Nat) : nI n + (-1) = nI n - nI 1 := by
  show nI n + (-1) = nI n - 1
  rw [Int32.sub_eq_add_neg]
theorem dn3 : nI 0 - nI 1 < 0 := by decide
theorem goK.fr {G : XG} {h h' : HM} {AL : List Nat} {ct : Nat → GC} {K : CK} {P : Nat → Prop} (hK : goK G h AL ct K) (hf : x_fr P h h') (hP : ∀ q, P q → ∃ e, h q = some e ∧ (∀ v, e ≠ .inr (0, v)) ∧ (∀ n f, e ≠ .inl (g_c G 0, n, .inl f))) : goK G h' AL ct K := by
  intro x hx
  obtain ⟨b, h1, nu, de, fo, tA, sA, vA, h2, h3⟩ := hK x hx
  refine ⟨b, h1, nu, de, fo, tA, sA, vA, hf _ _ h2 (fun z => ?_), hf _ _ h3 (fun z => ?_)⟩
  · obtain ⟨e, he, n1, n2⟩ := hP _ z
    rw [h2] at he
    exact n1 _ (Option.some.inj he).symm
  · obtain ⟨e, he, n1, n2⟩ := hP _ z
    rw [h3] at he
    exact n2 _ _ (Option.some.inj he).symm
theorem mixH_le {ct : Nat → GC} {K : CK} {now : Int32} {lamp x b : Nat} {l : UInt32} (hb : (ct x).1 = some b) (h : Op.cmpValue (FP.fcmp (FP.fmul (masterG (K b).2.1 (K b).2.2.1 (ct x).2.1 (ct x).2.2 now) (FP.i2f ((K b).2.2.2 lamp))) l) .l ≤ 0) : mixH ct K now lamp l x = l := by
  unfold mixH
  split
  · rw [gLev_is hb, gMas_is hb, if_neg (fun z => (x_lei.mp z) h)]
  · rfl
theorem mixH_gt {ct : Nat → GC} {K : CK} {now : Int32} {lamp x b : Nat} {l : UInt32} (hb : (ct x).1 = some b) (h1 : (K b).1 = nI 0) (h2 : ¬ (K b).2.2.2 lamp ≤ 0) (h : ¬ Op.cmpValue (FP.fcmp (FP.fmul (masterG (K b).2.1 (K b).2.2.1 (ct x).2.1 (ct x).2.2 now) (FP.i2f ((K b).2.2.2 lamp))) l) .l ≤ 0) : mixH ct K now lamp l x = FP.fmul (masterG (K b).2.1 (K b).2.2.1 (ct x).2.1 (ct x).2.2 now) (FP.i2f ((K b).2.2.2 lamp)) := by
  unfold mixH
  rw [if_pos ⟨by rw [gSort_is hb]; exact h1, by rw [gLev_is hb]; exact x_lei.mpr h2⟩, gLev_is hb, gMas_is hb, if_pos (x_lei.mpr h)]
theorem mixL_is {ct : Nat → GC} {K : CK} {now : Int32} {lamp x b : Nat} {l : UInt32} (hb : (ct x).1 = some b) (h1 : (K b).1 = nI 1) (h2 : ¬ (K b).2.2.2 lamp ≤ 0) : mixL ct K now lamp l x = FP.fadd l (FP.fmul (masterG (K b).2.1 (K b).2.2.1 (ct x).2.1 (ct x).2.2 now) (FP.fsub (FP.i2f ((K b).2.2.2 lamp)) l)) := by
  unfold mixL
  rw [if_pos ⟨by rw [gSort_is hb]; exact h1, by rw [gLev_is hb]; exact x_lei.mpr h2⟩, gLev_is hb, gMas_is hb]
theorem mixH_no {ct : Nat → GC} {K : CK} {now : Int32} {lamp x b : Nat} {l : UInt32} (hb : (ct x).1 = some b) (h : ¬ (K b).1 = nI 0 ∨ (K b).2.2.2 lamp ≤ 0) : mixH ct K now lamp l x = l := by
  unfold mixH
  rw [if_neg]
  rw [gSort_is hb, gLev_is hb]
  exact fun z => h.elim (fun q => q z.1) (fun q => (x_lei.mp z.2) q)
theorem mixL_no {ct : Nat → GC} {K : CK} {now : Int32} {lamp x b : Nat} {l : UInt32} (hb : (ct x).1 = some b) (h : ¬ (K b).1 = nI 1 ∨ (K b).2.2.2 lamp ≤ 0) : mixL ct K now lamp l x = l := by
  unfold mixL
  rw [if_neg]
  rw [gSort_is hb, gLev_is hb]
  exact fun z => h.elim (fun q => q z.1) (fun q => (x_lei.mp z.2) q)
theorem row_push {S : List Nat} {i q : Nat} (h : S.length = i) : va_up (rowF S) i (some q) = rowF (S ++ [q]) := by
  subst h
  funext j
  unfold va_up rowF
  by_cases e : j = S.length
  · subst e; simp
  · rw [if_neg e]
    by_cases c : j < S.length
    · rw [List.getElem?_append_left c]
    · rw [List.getElem?_eq_none (by omega), List.getElem?_eq_none (by rw [List.length_append]; simp; omega)]
theorem nodup_push {S : List Nat} {q : Nat} (h : S.Nodup) (hq : ∀ x, x ∈ S → x ≠ q) : (S ++ [q]).Nodup := by
  rw [List.nodup_append]
  exact ⟨h, by simp, fun a ha b hb => by rw [List.mem_singleton.mp hb]; exact hq a ha⟩
/-! those that wait: cues' addresses and the ticks when they are due; those that are ready -/
def wtW (G : XG) (wo nA dA yA : Nat) (NL : List (Nat × Int32)) (RY : List Nat) (h : HM) : Prop :=
  h wo = some (.inr (6, [.ref nA, .ref dA, .ref yA, .int (nI NL.length), .int (nI RY.length)])) ∧ NL.length ≤ 512 ∧ RY.length ≤ 512 ∧ ∃ (nf : Nat → Option Nat) (df : Nat → Int32) (yf : Nat → Option Nat), h nA = some (.inl (g_c G 4, 512, .inr (.inr (.inr (.inr nf))))) ∧ h dA = some (.inl (g_c G 0, 512, .inl df)) ∧ h yA = some (.inl (g_c G 4, 512, .inr (.inr (.inr (.inr yf))))) ∧ (∀ (j : Nat) (x : Nat × Int32), NL[j]? = some x → nf j = some x.1 ∧ df j = x.2) ∧ ∀ (j x : Nat), RY[j]? = some x → yf j = some x
theorem get_push {α : Type} {l : List α} {a x : α} {j : Nat} (h : (l ++ [a])[j]? = some x) : l[j]? = some x ∨ (j = l.length ∧ x = a) := by
  by_cases c : j < l.length
  · rw [List.getElem?_append_left c] at h
    exact Or.inl h
  · rw [List.getElem?_append_right (by omega)] at h
    have hz := (List.getElem?_eq_some_iff.mp h).1
    have e : j - l.length = 0 := by simp at hz; omega
    rw [e] at h
    cases h
    exact Or.inr ⟨by omega, rfl⟩
theorem get_lt {α : Type} {l : List α} {x : α} {j : Nat} (h : l[j]? = some x) : j < l.length := (List.getElem?_eq_some_iff.mp h).1
theorem filter_take_le {α : Type} (p : α → Bool) (l : List α) (i : Nat) : ((l.take i).filter p).length ≤ i := Nat.le_trans (List.length_filter_le _ _) (by rw [List.length_take]; omega)
theorem filter_take_s {α : Type} (p : α → Bool) {l : List α} {i : Nat} {x : α} (h : l[i]? = some x) : (l.take (i + 1)).filter p = if p x then (l.take i).filter p ++ [x] else (l.take i).filter p := by
  rw [List.take_add_one, h, List.filter_append]
  by_cases c : p x = true
  · rw [if_pos c]; simp [c]
  · rw [if_neg c]; simp [c]
/-! the history: its entries, its row's length -/
def hiW (G : XG) (hi eA : Nat) (HL : List Int32) (n : Nat) (h : HM) : Prop :=
  h hi = some (.inr (3, [.ref eA, .int (nI HL.length)])) ∧ HL.length ≤ n ∧ 64 ≤ n ∧ n ≤ 122880 ∧ ∃ ef : Nat → Int32, h eA = some (.inl (g_c G 0, n, .inl ef)) ∧ ∀ (j : Nat) (x : Int32), HL[j]? = some x → ef j = x
def entF (t c k : Int32) : Int32 := t <<< (nI 5 &&& 31) ||| c <<< (nI 1 &&& 31) ||| k
def eTick (e : Int32) : Int32 := e >>> (nI 5 &&& 31)
def eCue (e : Int32) : Int32 := e >>> (nI 1 &&& 31) &&& nI 15
def eRel (e : Int32) : Bool := !decide (e &&& nI 1 = 0)
def grw (n c : Nat) : Nat := if c < n then n else if 2 * n < 122880 then 2 * n else 122880
/-- the entry struck: the last one alike among those of its tick at the end; k: how many are looked at -/
def strK (e : Int32) (HL : List Int32) : Nat → List Int32
  | 0 => HL
  | k + 1 => if eTick (HL.getD k 0) = eTick e then (if HL.getD k 0 = e then HL.eraseIdx k else strK e HL k) else HL
def strF (e : Int32) (HL : List Int32) : List Int32 := strK e HL HL.length
theorem strK_s {e x : Int32} {HL : List Int32} {k : Nat} (hx : HL[k]? = some x) : strK e HL (k + 1) = if eTick x = eTick e then (if x = e then HL.eraseIdx k else strK e HL k) else HL := by
  conv => lhs; unfold strK
  rw [List.getD_eq_getElem?_getD, hx]
  rfl
/-- the row's lengths that there are -/
def capP (n : Nat) : Prop := n = 122880 ∨ n = 64 ∨ n = 128 ∨ n = 256 ∨ n = 512 ∨ n = 1024 ∨ n = 2048 ∨ n = 4096 ∨ n = 8192 ∨ n = 16384 ∨ n = 32768 ∨ n = 65536
theorem capP.grow {n c : Nat} (h : capP n) (h1 : n ≤ c) (h2 : c < 122880) : n < grw n c ∧ grw n c ≤ 122880 ∧ grw n c ≤ 3 * (grw n c - n) ∧ capP (grw n c) := by
  unfold grw
  rw [if_neg (by omega)]
  rcases h with rfl | rfl | rfl | rfl | rfl | rfl | rfl | rfl | rfl | rfl | rfl | rfl
  · omega
  all_goals (unfold capP; decide)
theorem capP.next {n c : Nat} (h : capP n) (h1 : c ≤ n) (h2 : c < 122880) : n ≤ grw n c ∧ grw n c ≤ 122880 ∧ capP (grw n c) ∧ c < grw n c ∧ 64 ≤ n := by
  have h64 : 64 ≤ n := by rcases h with rfl | rfl | rfl | rfl | rfl | rfl | rfl | rfl | rfl | rfl | rfl | rfl <;> decide
  rcases Nat.lt_or_ge c n with z | z
  · have e : grw n c = n := by unfold grw; rw [if_pos z]
    rw [e]
    refine ⟨Nat.le_refl _, ?_, h, z, h64⟩
    rcases h with rfl | rfl | rfl | rfl | rfl | rfl | rfl | rfl | rfl | rfl | rfl | rfl <;> decide
  · have := h.grow z h2
    exact ⟨by omega, this.2.1, this.2.2.2, by omega, h64⟩
theorem grw_min {n c : Nat} (h1 : n ≤ c) (h2 : n ≤ 122880) : (if nI 122880 < nI (2 * n) then nI 122880 else nI (2 * n)) = nI (grw n c) := by
  have e : grw n c = if 2 * n < 122880 then 2 * n else 122880 := by
    unfold grw
    rw [if_neg (by omega)]
  rw [e]
  by_cases z : 122880 < 2 * n
  · rw [if_pos ((nI_ltI (by omega) (by omega)).mpr z), if_neg (by omega)]
  · rw [if_neg (fun q => z (x_nIlt q (by omega) (by omega)))]
    by_cases z2 : 2 * n < 122880
    · rw [if_pos z2]
    · rw [if_neg z2, show 2 * n = 122880 by omega]
theorem erase_get {α : Type} {l : List α} {k j : Nat} {x : α} (h : (l.eraseIdx k)[j]? = some x) : (j < k ∧ l[j]? = some x) ∨ (k ≤ j ∧ l[j + 1]? = some x) := by
  rw [List.getElem?_eraseIdx] at h
  by_cases c : j < k
  · rw [if_pos c] at h; exact Or.inl ⟨c, h⟩
  · rw [if_neg c] at h; exact Or.inr ⟨by omega, h⟩
