/-! the book's state without its heap: (rows by the model's numbers, lamps, bars, cues, tick, barred, goings, noted, entries, the entries' row's length) -/
abbrev GG : Type := Nat × Nat × Nat
abbrev PS : Type := (Nat → Nat → Int32) × Nat × Int32 × Nat × Nat × Nat × List GG × List (Nat × Nat) × List Int32 × Nat
abbrev s_ar (S : PS) : Nat → Nat → Int32 := S.1
abbrev s_L (S : PS) : Nat := S.2.1
abbrev s_B (S : PS) : Int32 := S.2.2.1
abbrev s_C (S : PS) : Nat := S.2.2.2.1
abbrev s_t (S : PS) : Nat := S.2.2.2.2.1
abbrev s_b (S : PS) : Nat := S.2.2.2.2.2.1
abbrev s_G (S : PS) : List GG := S.2.2.2.2.2.2.1
abbrev s_N (S : PS) : List (Nat × Nat) := S.2.2.2.2.2.2.2.1
abbrev s_H (S : PS) : List Int32 := S.2.2.2.2.2.2.2.2.1
abbrev s_n (S : PS) : Nat := S.2.2.2.2.2.2.2.2.2
def relI : Nat → Int32
  | 0 => -1
  | r + 1 => nI r
def toldF (ar : Nat → Nat → Int32) (c : Nat) : Nat → Int32 := fun j => if j < 16 then ar 14 (16 * c + j) else 0
def powF (ar : Nat → Nat → Int32) : Nat → Int32 := fun j => if j < 3 then ar 9 j else nI 5000
def cuD (ar : Nat → Nat → Int32) (L : Nat) (B : Int32) (c : Nat) : Int32 × Int32 × Int32 × (Nat → Int32) := (ar 11 c, ar 12 c, ar 13 c, (arrF L ar B (toldF ar c) 16).2)
def embG (ad : Nat → Nat) (g : GG) : GC := (some (ad (100 + 4 * g.1)), nI g.2.1, relI g.2.2)
def foO (ad : Nat → Nat) (x : Int32) : Option Nat := if x = -1 then none else some (ad (100 + 4 * x.toNatClampNeg))
/-- whose cell an address is -/
def oW (ad ow : Nat → Nat) (eA : Nat) (A1 A2 : List Nat) (L C : Nat) : Prop := (∀ i, i < 14 → ow (ad i) = i) ∧ (∀ i, i < L → ow (ad (20 + i)) = 20 + i) ∧ (∀ i, i < 4 * C → ow (ad (100 + i)) = 100 + i) ∧ ow eA = 16 ∧ (∀ x, x ∈ A1 → ow x = 14) ∧ ∀ x, x ∈ A2 → ow x = 15
theorem adne {ad ow : Nat → Nat} {eA : Nat} {Q1 Q2 : List Nat} {L C i j : Nat} (hO : oW ad ow eA Q1 Q2 L C) (hi : i < 14) (hj : j < 14) (h : i ≠ j) : ad i ≠ ad j := fun z => by
  have := congrArg ow z
  rw [hO.1 i hi, hO.1 j hj] at this
  exact h this
def frO (ow : Nat → Nat) (l : List Nat) (h h' : HM) : Prop := x_fr (fun q => ow q ∈ l) h h'
theorem frO.of {ow : Nat → Nat} {l : List Nat} {h h' : HM} {P : Nat → Prop} (hf : x_fr P h h') (hP : ∀ q, P q → ow q ∈ l) : frO ow l h h' := hf.mono hP
theorem frO.trans {ow : Nat → Nat} {l : List Nat} {h h' h'' : HM} (h1 : frO ow l h h') (h2 : frO ow l h' h'') : frO ow l h h'' := x_fr.trans h1 h2
theorem frO.sub {ow : Nat → Nat} {l l' : List Nat} {h h' : HM} (h1 : frO ow l h h') (h2 : ∀ x, x ∈ l → x ∈ l') : frO ow l' h h' := x_fr.mono h1 (fun q hq => h2 _ hq)
def cB (ad : Nat → Nat) (C t b : Nat) (h : HM) : Prop := h (ad 0) = some (.inr (7, [.ref (ad 1), .ref (ad 3), .ref (ad 4), .ref (ad 5), .ref (ad 7), .ref (ad 9), .ref (ad 13), .int (nI C), .int (nI t), .int (nI b)]))
def cuE0 (G : XG) (ad : Nat → Nat) (ar : Nat → Nat → Int32) (i : Nat) (sf vf : Nat → Int32) (h : HM) : Prop :=
  h (ad (100 + 4 * i)) = some (.inr (0, [.int (nI i), .int (ar 11 i), .int (ar 12 i), .int (ar 13 i), .ref (ad (100 + (4 * i + 1))), .ref (ad (100 + (4 * i + 2))), .ref (ad (100 + (4 * i + 3))), va_rf (foO ad (ar 15 i)), .int (ar 16 i)])) ∧ h (ad (100 + (4 * i + 1))) = some (.inl (g_c G 0, 16, .inl (toldF ar i))) ∧ h (ad (100 + (4 * i + 2))) = some (.inl (g_c G 0, 16, .inl sf)) ∧ h (ad (100 + (4 * i + 3))) = some (.inl (g_c G 0, 16, .inl vf))
def cuE (G : XG) (ad : Nat → Nat) (ar : Nat → Nat → Int32) (L : Nat) (B : Int32) (i : Nat) (h : HM) : Prop := cuE0 G ad ar i (arrF L ar B (toldF ar i) 16).1 (arrF L ar B (toldF ar i) 16).2 h
def cuW (G : XG) (ad : Nat → Nat) (ar : Nat → Nat → Int32) (L : Nat) (B : Int32) (C : Nat) (h : HM) : Prop := h (ad 3) = some (.inl (g_c G 4, 12, .inr (.inr (.inr (.inr (lampF C (fun i => ad (100 + 4 * i)))))))) ∧ C ≤ 12 ∧ ∀ i, i < C → cuE G ad ar L B i h
def poW (G : XG) (ad : Nat → Nat) (ar : Nat → Nat → Int32) (h : HM) : Prop := h (ad 4) = some (.inl (g_c G 0, 3, .inl (powF ar)))
def riW (G : XG) (ad : Nat → Nat) (ar : Nat → Nat → Int32) (L : Nat) (B : Int32) (h : HM) : Prop := rigW G (ad 1) (ad 2) L (fun i => ad (20 + i)) ar B h
def liW (G : XG) (ad : Nat → Nat) (A1 P1 : List Nat) (c1 : Nat → GC) (GL : List GG) (h : HM) : Prop := goW G (ad 5) (ad 6) A1 P1 c1 h ∧ A1.map c1 = GL.map (embG ad)
def waW (G : XG) (ad : Nat → Nat) (NL : List (Nat × Nat)) (RY : List Nat) (h : HM) : Prop := wtW G (ad 9) (ad 10) (ad 11) (ad 12) (NL.map (fun x => (ad (100 + 4 * x.1), nI x.2))) RY h
/-- the book on the heap -/
def cW (G : XG) (ad ow : Nat → Nat) (eA : Nat) (A1 P1 : List Nat) (c1 : Nat → GC) (A2 P2 : List Nat) (c2 : Nat → GC) (RY : List Nat) (S : PS) (h : HM) : Prop :=
  cB ad (s_C S) (s_t S) (s_b S) h ∧ riW G ad (s_ar S) (s_L S) (s_B S) h ∧ cuW G ad (s_ar S) (s_L S) (s_B S) (s_C S) h ∧ poW G ad (s_ar S) h ∧ liW G ad A1 P1 c1 (s_G S) h ∧ goW G (ad 7) (ad 8) A2 P2 c2 h ∧ waW G ad (s_N S) RY h ∧ hiW G (ad 13) eA (s_H S) (s_n S) h ∧ oW ad ow eA (A1 ++ P1) (A2 ++ P2) (s_L S) (s_C S)
section WF
variable {G : XG} {ad ow : Nat → Nat} {eA : Nat} {A1 P1 A2 P2 : List Nat} {c1 c2 : Nat → GC} {RY : List Nat} {ar : Nat → Nat → Int32} {L C t b n : Nat} {B : Int32} {GL : List GG} {NL : List (Nat × Nat)} {HL : List Int32} {l : List Nat} {h h' : HM}
theorem cB.fr (hO : oW ad ow eA (A1 ++ P1) (A2 ++ P2) L C) (hf : frO ow l h h') (hB : cB ad C t b h) (n0 : 0 ∉ l) : cB ad C t b h' := hf _ _ hB (by show ow (ad 0) ∉ l; rw [hO.1 0 (by decide)]; exact n0)
theorem riW.fr {C' : Nat} (hO : oW ad ow eA (A1 ++ P1) (A2 ++ P2) L C') (hf : frO ow l h h') (hR : riW G ad ar L B h) (n1 : 1 ∉ l) (n2 : 2 ∉ l) (n3 : ∀ i, i < L → 20 + i ∉ l) : riW G ad ar L B h' :=
  ⟨hf _ _ hR.1 (by show ow (ad 1) ∉ l; rw [hO.1 1 (by decide)]; exact n1), hf _ _ hR.2.1 (by show ow (ad 2) ∉ l; rw [hO.1 2 (by decide)]; exact n2), hR.2.2.1, fun i hi => hf _ _ (hR.2.2.2 i hi) (by show ow (ad (20 + i)) ∉ l; rw [hO.2.1 i hi]; exact n3 i hi)⟩
theorem cuE0.fr {L' i : Nat} {sf vf : Nat → Int32} (hO : oW ad ow eA (A1 ++ P1) (A2 ++ P2) L' C) (hf : frO ow l h h') (hi : i < C) (hE : cuE0 G ad ar i sf vf h) (n0 : 100 + 4 * i ∉ l) (n1 : 100 + (4 * i + 1) ∉ l) (n2 : 100 + (4 * i + 2) ∉ l) (n3 : 100 + (4 * i + 3) ∉ l) : cuE0 G ad ar i sf vf h' :=
  ⟨hf _ _ hE.1 (by show ow _ ∉ l; rw [hO.2.2.1 _ (by omega)]; exact n0), hf _ _ hE.2.1 (by show ow _ ∉ l; rw [hO.2.2.1 _ (by omega)]; exact n1), hf _ _ hE.2.2.1 (by show ow _ ∉ l; rw [hO.2.2.1 _ (by omega)]; exact n2), hf _ _ hE.2.2.2 (by show ow _ ∉ l; rw [hO.2.2.1 _ (by omega)]; exact n3)⟩
theorem cuE.fr {L' i : Nat} (hO : oW ad ow eA (A1 ++ P1) (A2 ++ P2) L' C) (hf : frO ow l h h') (hi : i < C) (hE : cuE G ad ar L B i h) (n0 : 100 + 4 * i ∉ l) (n1 : 100 + (4 * i + 1) ∉ l) (n2 : 100 + (4 * i + 2) ∉ l) (n3 : 100 + (4 * i + 3) ∉ l) : cuE G ad ar L B i h' := cuE0.fr hO hf hi hE n0 n1 n2 n3
theorem cuW.fr {L' : Nat} (hO : oW ad ow eA (A1 ++ P1) (A2 ++ P2) L' C) (hf : frO ow l h h') (hC : cuW G ad ar L B C h) (n3 : 3 ∉ l) (n0 : ∀ i, i < 4 * C → 100 + i ∉ l) : cuW G ad ar L B C h' :=
  ⟨hf _ _ hC.1 (by show ow (ad 3) ∉ l; rw [hO.1 3 (by decide)]; exact n3), hC.2.1, fun i hi => (hC.2.2 i hi).fr hO hf hi (n0 _ (by omega)) (n0 _ (by omega)) (n0 _ (by omega)) (n0 _ (by omega))⟩
theorem poW.fr {L' C' : Nat} (hO : oW ad ow eA (A1 ++ P1) (A2 ++ P2) L' C') (hf : frO ow l h h') (hP : poW G ad ar h) (n4 : 4 ∉ l) : poW G ad ar h' := hf _ _ hP (by show ow (ad 4) ∉ l; rw [hO.1 4 (by decide)]; exact n4)
theorem goW.fr {o w k1 k2 k3 : Nat} {AL SP : List Nat} {ct : Nat → GC} (hf : frO ow l h h') (hW : goW G o w AL SP ct h) (ho : ow o = k1) (hw : ow w = k2) (hx : ∀ x, x ∈ AL ++ SP → ow x = k3) (n1 : k1 ∉ l) (n2 : k2 ∉ l) (n3 : k3 ∉ l) : goW G o w AL SP ct h' :=
  ⟨hf _ _ hW.1 (by show ow o ∉ l; rw [ho]; exact n1), hf _ _ hW.2.1 (by show ow w ∉ l; rw [hw]; exact n2), hW.2.2.1, hW.2.2.2.1, fun x h9 => hf _ _ (hW.2.2.2.2 x h9) (by show ow x ∉ l; rw [hx x h9]; exact n3)⟩
theorem liW.fr {L' C' : Nat} (hO : oW ad ow eA (A1 ++ P1) (A2 ++ P2) L' C') (hf : frO ow l h h') (hW : liW G ad A1 P1 c1 GL h) (n1 : 5 ∉ l) (n2 : 6 ∉ l) (n3 : 14 ∉ l) : liW G ad A1 P1 c1 GL h' := ⟨hW.1.fr hf (hO.1 5 (by decide)) (hO.1 6 (by decide)) hO.2.2.2.2.1 n1 n2 n3, hW.2⟩
theorem waW.fr {L' C' : Nat} (hO : oW ad ow eA (A1 ++ P1) (A2 ++ P2) L' C') (hf : frO ow l h h') (hW : waW G ad NL RY h) (n1 : 9 ∉ l) (n2 : 10 ∉ l) (n3 : 11 ∉ l) (n4 : 12 ∉ l) : waW G ad NL RY h' := by
  obtain ⟨h1, h2, h3, nf, df, yf, h4, h5, h6, h7⟩ := hW
  exact ⟨hf _ _ h1 (by show ow _ ∉ l; rw [hO.1 9 (by decide)]; exact n1), h2, h3, nf, df, yf, hf _ _ h4 (by show ow _ ∉ l; rw [hO.1 10 (by decide)]; exact n2), hf _ _ h5 (by show ow _ ∉ l; rw [hO.1 11 (by decide)]; exact n3), hf _ _ h6 (by show ow _ ∉ l; rw [hO.1 12 (by decide)]; exact n4), h7⟩
theorem hiW.fr {L' C' : Nat} (hO : oW ad ow eA (A1 ++ P1) (A2 ++ P2) L' C') (hf : frO ow l h h') (hW : hiW G (ad 13) eA HL n h) (n1 : 13 ∉ l) (n2 : 16 ∉ l) : hiW G (ad 13) eA HL n h' := by
  obtain ⟨h1, h2, h3, h4, ef, h5, h6⟩ := hW
  exact ⟨hf _ _ h1 (by show ow _ ∉ l; rw [hO.1 13 (by decide)]; exact n1), h2, h3, h4, ef, hf _ _ h5 (by show ow _ ∉ l; rw [hO.2.2.2.1]; exact n2), h6⟩
end WF
/-- the cues by their addresses -/
def cuK (ow : Nat → Nat) (ar : Nat → Nat → Int32) (L : Nat) (B : Int32) : CK := fun b => cuD ar L B ((ow b - 100) / 4)
theorem cuK_at {ad ow : Nat → Nat} {eA : Nat} {A1 A2 : List Nat} {ar : Nat → Nat → Int32} {L L' C c : Nat} {B : Int32} (hO : oW ad ow eA A1 A2 L' C) (hc : c < C) : cuK ow ar L B (ad (100 + 4 * c)) = cuD ar L B c := by
  unfold cuK
  rw [hO.2.2.1 (4 * c) (by omega), show (100 + 4 * c - 100) / 4 = c by omega]
theorem goK_of {G : XG} {ad ow : Nat → Nat} {eA : Nat} {A1 Q1 Q2 : List Nat} {c1 : Nat → GC} {ar : Nat → Nat → Int32} {L L' C : Nat} {B : Int32} {GL : List GG} {h : HM} (hO : oW ad ow eA Q1 Q2 L' C) (hC : cuW G ad ar L B C h) (hA : A1.map c1 = GL.map (embG ad)) (hG : ∀ g, g ∈ GL → g.1 < C) : goK G h A1 c1 (cuK ow ar L B) := by
  intro x hx
  have h1 : c1 x ∈ GL.map (embG ad) := by rw [← hA]; exact List.mem_map.mpr ⟨x, hx, rfl⟩
  obtain ⟨g, hg, e⟩ := List.mem_map.mp h1
  have hc := hG g hg
  have hE := hC.2.2 _ hc
  refine ⟨ad (100 + 4 * g.1), by rw [← e]; rfl, ?_⟩
  rw [cuK_at hO hc]
  exact ⟨_, _, _, _, _, _, hE.1, hE.2.2.2⟩
/-! folds over the goings -/
def levP (ar : Nat → Nat → Int32) (L : Nat) (B : Int32) (c i : Nat) : Int32 := (cuD ar L B c).2.2.2 i
def grtG (ar : Nat → Nat → Int32) (L : Nat) (B : Int32) (i : Nat) (x : Int32) (g : GG) : Int32 := if relI g.2.2 = -1 then maxI x (levP ar L B g.1 i) else x
def masP (ar : Nat → Nat → Int32) (t : Nat) (g : GG) : UInt32 := masterG (ar 12 g.1) (ar 13 g.1) (nI g.2.1) (relI g.2.2) (nI t)
def mixHG (ar : Nat → Nat → Int32) (L : Nat) (B : Int32) (t i : Nat) (l : UInt32) (g : GG) : UInt32 := if ar 11 g.1 = nI 0 ∧ 0 < levP ar L B g.1 i then (if 0 < Op.cmpValue (FP.fcmp (FP.fmul (masP ar t g) (FP.i2f (levP ar L B g.1 i))) l) .l then FP.fmul (masP ar t g) (FP.i2f (levP ar L B g.1 i)) else l) else l
def mixLG (ar : Nat → Nat → Int32) (L : Nat) (B : Int32) (t i : Nat) (l : UInt32) (g : GG) : UInt32 := if ar 11 g.1 = nI 1 ∧ 0 < levP ar L B g.1 i then FP.fadd l (FP.fmul (masP ar t g) (FP.fsub (FP.i2f (levP ar L B g.1 i)) l)) else l
def mixG (ar : Nat → Nat → Int32) (L : Nat) (B : Int32) (t : Nat) (GL : List GG) (i : Nat) : UInt32 := GL.foldl (mixLG ar L B t i) (GL.foldl (mixHG ar L B t i) FP.fconst0)
theorem fold_map {α β γ δ : Type} {f : γ → α → γ} {f' : γ → β → γ} {e1 : α → δ} {e2 : β → δ} : ∀ {l : List α} {m : List β} (b : γ), l.map e1 = m.map e2 → (∀ x y, x ∈ l → y ∈ m → e1 x = e2 y → ∀ b, f b x = f' b y) → l.foldl f b = m.foldl f' b
  | [], [], b, _, _ => rfl
  | [], y :: m, b, h, _ => by simp at h
  | x :: l, [], b, h, _ => by simp at h
  | x :: l, y :: m, b, h, hf => by
    rw [List.map_cons, List.map_cons, List.cons.injEq] at h
    rw [List.foldl_cons, List.foldl_cons, hf x y List.mem_cons_self List.mem_cons_self h.1 b]
    exact fold_map _ h.2 (fun u v hu hv => hf u v (List.mem_cons_of_mem _ hu) (List.mem_cons_of_mem _ hv))
section PF
variable {ad ow : Nat → Nat} {eA : Nat} {A1 Q1 Q2 : List Nat} {c1 : Nat → GC} {ar : Nat → Nat → Int32} {L L' C : Nat} {B : Int32} {GL : List GG}
theorem grtG_of (hO : oW ad ow eA Q1 Q2 L' C) (hA : A1.map c1 = GL.map (embG ad)) (hG : ∀ g, g ∈ GL → g.1 < C) (i : Nat) : A1.foldl (grtS c1 (cuK ow ar L B) i) (nI 0) = GL.foldl (grtG ar L B i) (nI 0) := by
  refine fold_map _ hA (fun x g _ hg e b => ?_)
  unfold grtS grtG gLev
  rw [e]
  show (if relI g.2.2 = -1 then maxI b ((cuK ow ar L B (ad (100 + 4 * g.1))).2.2.2 i) else b) = _
  rw [cuK_at hO (hG g hg)]
  rfl
theorem gFacts (hO : oW ad ow eA Q1 Q2 L' C) (hG : ∀ g, g ∈ GL → g.1 < C) {x : Nat} {g : GG} (hg : g ∈ GL) (e : c1 x = embG ad g) (t i : Nat) : gSort c1 (cuK ow ar L B) x = ar 11 g.1 ∧ gLev c1 (cuK ow ar L B) i x = levP ar L B g.1 i ∧ gMas c1 (cuK ow ar L B) (nI t) x = masP ar t g := by
  have hb : (c1 x).1 = some (ad (100 + 4 * g.1)) := by rw [e]; rfl
  refine ⟨?_, ?_, ?_⟩
  · rw [gSort_is hb, cuK_at hO (hG g hg)]; rfl
  · rw [gLev_is hb, cuK_at hO (hG g hg)]; rfl
  · rw [gMas_is hb, cuK_at hO (hG g hg), e]; rfl
theorem mixG_of (hO : oW ad ow eA Q1 Q2 L' C) (hA : A1.map c1 = GL.map (embG ad)) (hG : ∀ g, g ∈ GL → g.1 < C) (t i : Nat) : mixS c1 (cuK ow ar L B) (nI t) i A1 = mixG ar L B t GL i := by
  unfold mixS mixG
  have e1 : A1.foldl (mixH c1 (cuK ow ar L B) (nI t) i) FP.fconst0 = GL.foldl (mixHG ar L B t i) FP.fconst0 := fold_map _ hA (fun x g _ hg e b => by
    obtain ⟨s1, s2, s3⟩ := gFacts (ar := ar) (L := L) (B := B) hO hG hg e t i
    unfold mixH mixHG
    rw [s1, s2, s3])
  rw [e1]
  exact fold_map _ hA (fun x g _ hg e b => by
    obtain ⟨s1, s2, s3⟩ := gFacts (ar := ar) (L := L) (B := B) hO hG hg e t i
    unfold mixL mixLG
    rw [s1, s2, s3])
end PF
/-! what is asked of a phase; whether a cue may go -/
def askN (ar : Nat → Nat → Int32) (L : Nat) (B : Int32) (GL : List GG) (c : Nat) (ph : Int32) : Nat → Int32
  | 0 => nI 0
  | n + 1 => if n < L ∧ ar 6 n = ph then askN ar L B GL c ph n + ar 5 n * maxI (levP ar L B c n) (GL.foldl (grtG ar L B n) (nI 0)) else askN ar L B GL c ph n
def askP (ar : Nat → Nat → Int32) (L : Nat) (B : Int32) (GL : List GG) (c : Nat) (ph : Int32) : Int32 := (askN ar L B GL c ph 16 + nI 99) / nI 100
def canP (ar : Nat → Nat → Int32) (L : Nat) (B : Int32) (GL : List GG) (c : Nat) : Bool := decide (askP ar L B GL c (nI 0) ≤ ar 9 0) && (decide (askP ar L B GL c (nI 1) ≤ ar 9 1) && decide (askP ar L B GL c (nI 2) ≤ ar 9 2))
theorem askN_y {ar : Nat → Nat → Int32} {L : Nat} {B : Int32} {GL : List GG} {c n : Nat} {ph : Int32} (h : n < L ∧ ar 6 n = ph) : askN ar L B GL c ph (n + 1) = askN ar L B GL c ph n + ar 5 n * maxI (levP ar L B c n) (GL.foldl (grtG ar L B n) (nI 0)) := by
  conv => lhs; unfold askN
  rw [if_pos h]
theorem askN_n {ar : Nat → Nat → Int32} {L : Nat} {B : Int32} {GL : List GG} {c n : Nat} {ph : Int32} (h : ¬ (n < L ∧ ar 6 n = ph)) : askN ar L B GL c ph (n + 1) = askN ar L B GL c ph n := by
  conv => lhs; unfold askN
  rw [if_neg h]
/-- the cues' rows that are told anew -/
def lA : List Nat := [102, 103, 106, 107, 110, 111, 114, 115, 118, 119, 122, 123, 126, 127, 130, 131, 134, 135, 138, 139, 142, 143, 146, 147]
theorem lA_in {i : Nat} (h : i < 12) : 100 + (4 * i + 2) ∈ lA ∧ 100 + (4 * i + 3) ∈ lA := by
  have key : ∀ i, i < 12 → 100 + (4 * i + 2) ∈ lA ∧ 100 + (4 * i + 3) ∈ lA := by decide
  exact key i h
theorem lA_no {x : Nat} (h : x ∈ lA) : 100 ≤ x ∧ 2 ≤ x % 4 := by
  have key : ∀ x, x ∈ lA → 100 ≤ x ∧ 2 ≤ x % 4 := by decide
  exact key x h
theorem lA_lo {x : Nat} (h : x < 100) : x ∉ lA := fun z => by have := lA_no z; omega
theorem lA_c (i : Nat) : 100 + 4 * i ∉ lA := fun z => by have := lA_no z; omega
theorem lA_t (i : Nat) : 100 + (4 * i + 1) ∉ lA := fun z => by have := lA_no z; omega
