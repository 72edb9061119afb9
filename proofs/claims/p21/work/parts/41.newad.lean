/-! a new thing's address: the pieces under a map of addresses that agrees where it is used -/
def adEq (ad ad' : Nat → Nat) (L C : Nat) : Prop := (∀ i, i < 14 → ad' i = ad i) ∧ (∀ i, i < L → ad' (20 + i) = ad (20 + i)) ∧ ∀ i, i < 4 * C → ad' (100 + i) = ad (100 + i)
section AD
variable {G : XG} {ad ad' : Nat → Nat} {A1 P1 : List Nat} {c1 : Nat → GC} {RY : List Nat} {ar : Nat → Nat → Int32} {L C t b : Nat} {B : Int32} {GL : List GG} {NL : List (Nat × Nat)} {h : HM}
theorem cB.to (e : adEq ad ad' L C) {C' : Nat} (hB : cB ad C' t b h) : cB ad' C' t b h := by
  unfold cB at *
  rw [e.1 0 (by decide), e.1 1 (by decide), e.1 3 (by decide), e.1 4 (by decide), e.1 5 (by decide), e.1 7 (by decide), e.1 9 (by decide), e.1 13 (by decide)]
  exact hB
theorem lampF_ad {n : Nat} {f g : Nat → Nat} (e : ∀ i, i < n → f i = g i) : lampF n f = lampF n g := by
  funext i
  unfold lampF
  by_cases c : i < n
  · rw [if_pos c, if_pos c, e i c]
  · rw [if_neg c, if_neg c]
theorem riW.to (e : adEq ad ad' L C) (hR : riW G ad ar L B h) : riW G ad' ar L B h := by
  obtain ⟨h1, h2, h3, h4⟩ := hR
  refine ⟨by rw [e.1 1 (by decide), e.1 2 (by decide)]; exact h1, by rw [e.1 2 (by decide), lampF_ad e.2.1]; exact h2, h3, fun i hi => ?_⟩
  show h (ad' (20 + i)) = _
  rw [e.2.1 i hi]
  exact h4 i hi
theorem foO_ad (e : adEq ad ad' L C) {x : Int32} (hx : x = -1 ∨ ∃ j, j < C ∧ C ≤ 12 ∧ x = nI j) : foO ad' x = foO ad x := by
  unfold foO
  rcases hx with rfl | ⟨j, hj, h12, rfl⟩
  · rfl
  · split
    · rfl
    · rw [nI_clamp (by omega), e.2.2 (4 * j) (by omega)]
theorem cuE0.to (e : adEq ad ad' L C) {i : Nat} {sf vf : Nat → Int32} (hi : i < C) (hcu : cuI ar C) (h12 : C ≤ 12) (hE : cuE0 G ad ar i sf vf h) : cuE0 G ad' ar i sf vf h := by
  have hx : foO ad' (ar 15 i) = foO ad (ar 15 i) := foO_ad e ((hcu i hi).elim Or.inl (fun ⟨j, d, hj, _, _, e15, _⟩ => Or.inr ⟨j, hj, h12, e15⟩))
  unfold cuE0 at *
  rw [e.2.2 (4 * i) (by omega), e.2.2 (4 * i + 1) (by omega), e.2.2 (4 * i + 2) (by omega), e.2.2 (4 * i + 3) (by omega), hx]
  exact hE
theorem cuW.to (e : adEq ad ad' L C) (hcu : cuI ar C) {L' : Nat} (hC : cuW G ad ar L' B C h) : cuW G ad' ar L' B C h := by
  refine ⟨?_, hC.2.1, fun i hi => cuE0.to e hi hcu hC.2.1 (hC.2.2 i hi)⟩
  rw [e.1 3 (by decide), lampF_ad (g := fun i => ad (100 + 4 * i)) (fun i hi => e.2.2 (4 * i) (by omega))]
  exact hC.1
theorem poW.to (e : adEq ad ad' L C) (hp : poW G ad ar h) : poW G ad' ar h := by
  unfold poW at *
  rw [e.1 4 (by decide)]
  exact hp
theorem liW.to (e : adEq ad ad' L C) (hg : ∀ g, g ∈ GL → g.1 < C) (hl : liW G ad A1 P1 c1 GL h) : liW G ad' A1 P1 c1 GL h := by
  refine ⟨by rw [e.1 5 (by decide), e.1 6 (by decide)]; exact hl.1, hl.2.trans (List.map_congr_left (fun g h9 => ?_))⟩
  unfold embG
  rw [e.2.2 (4 * g.1) (by have := hg g h9; omega)]
theorem waW.to (e : adEq ad ad' L C) (hN : ∀ x, x ∈ NL → x.1 < C) (hw : waW G ad NL RY h) : waW G ad' NL RY h := by
  unfold waW at *
  have e2 : NL.map (fun x => (ad' (100 + 4 * x.1), nI x.2)) = NL.map (fun x => (ad (100 + 4 * x.1), nI x.2)) := List.map_congr_left (fun x hx => by
    rw [e.2.2 (4 * x.1) (by have := hN x hx; omega)])
  rw [e2, e.1 9 (by decide), e.1 10 (by decide), e.1 11 (by decide), e.1 12 (by decide)]
  exact hw
end AD
/-- a new thing q by the number k -/
def adUp (f : Nat → Nat) (i v : Nat) : Nat → Nat := fun j => if j = i then v else f j
theorem adUp_at (f : Nat → Nat) (i v : Nat) : adUp f i v i = v := if_pos rfl
theorem adUp_ne {f : Nat → Nat} {i v j : Nat} (h : j ≠ i) : adUp f i v j = f j := if_neg h
theorem oW.fresh {ad ow : Nat → Nat} {eA q k : Nat} {Q1 Q2 : List Nat} {L C : Nat} {h : HM} (hO : oW ad ow eA Q1 Q2 L C) (hX : oX ad Q1 Q2 L C h) (he : ∃ e, h eA = some e) (hq : h q = none) : oW ad (adUp ow q k) eA Q1 Q2 L C := by
  have ne : ∀ {a : Nat} {e : va_E}, h a = some e → a ≠ q := fun ha z => by rw [z, hq] at ha; cases ha
  refine ⟨fun i hi => ?_, fun i hi => ?_, fun i hi => ?_, ?_, fun x hx => ?_, fun x hx => ?_⟩
  · obtain ⟨e, he⟩ := hX.1 i hi; rw [adUp_ne (ne he)]; exact hO.1 i hi
  · obtain ⟨e, he⟩ := hX.2.1 i hi; rw [adUp_ne (ne he)]; exact hO.2.1 i hi
  · obtain ⟨e, he⟩ := hX.2.2.1 i hi; rw [adUp_ne (ne he)]; exact hO.2.2.1 i hi
  · obtain ⟨e, he⟩ := he; rw [adUp_ne (ne he)]; exact hO.2.2.2.1
  · obtain ⟨e, he⟩ := hX.2.2.2.1 x hx; rw [adUp_ne (ne he)]; exact hO.2.2.2.2.1 x hx
  · obtain ⟨e, he⟩ := hX.2.2.2.2 x hx; rw [adUp_ne (ne he)]; exact hO.2.2.2.2.2 x hx
theorem oW.to {ad ad' ow : Nat → Nat} {eA : Nat} {Q1 Q2 : List Nat} {L C : Nat} (e : adEq ad ad' L C) (hO : oW ad ow eA Q1 Q2 L C) : oW ad' ow eA Q1 Q2 L C := ⟨fun i hi => by rw [e.1 i hi]; exact hO.1 i hi, fun i hi => by rw [e.2.1 i hi]; exact hO.2.1 i hi, fun i hi => by rw [e.2.2 i hi]; exact hO.2.2.1 i hi, hO.2.2.2⟩
