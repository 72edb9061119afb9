theorem oW.cue {ad ow : Nat → Nat} {eA q tA sA vA : Nat} {Q1 Q2 : List Nat} {L C : Nat} {h : HM} (hO : oW ad ow eA Q1 Q2 L C) (hX : oX ad Q1 Q2 L C h) (he : ∃ e, h eA = some e) (hq : h q = none) (ht : h tA = none) (hs : h sA = none) (hv : h vA = none) (n1 : q ≠ tA) (n2 : q ≠ sA) (n3 : q ≠ vA) (n4 : tA ≠ sA) (n5 : tA ≠ vA) (n6 : sA ≠ vA) (hL : L ≤ 16) :
    ∃ ad' ow' : Nat → Nat, adEq ad ad' L C ∧ ad' (100 + 4 * C) = q ∧ ad' (100 + (4 * C + 1)) = tA ∧ ad' (100 + (4 * C + 2)) = sA ∧ ad' (100 + (4 * C + 3)) = vA ∧ oW ad' ow' eA Q1 Q2 L (C + 1) := by
  have o1 := hO.fresh (k := 100 + 4 * C) hX he hq
  have o2 := o1.fresh (k := 100 + (4 * C + 1)) hX he ht
  have o3 := o2.fresh (k := 100 + (4 * C + 2)) hX he hs
  have o4 := o3.fresh (k := 100 + (4 * C + 3)) hX he hv
  generalize how : adUp (adUp (adUp (adUp ow q (100 + 4 * C)) tA (100 + (4 * C + 1))) sA (100 + (4 * C + 2))) vA (100 + (4 * C + 3)) = ow' at o4
  generalize had : adUp (adUp (adUp (adUp ad (100 + 4 * C) q) (100 + (4 * C + 1)) tA) (100 + (4 * C + 2)) sA) (100 + (4 * C + 3)) vA = ad'
  have e : adEq ad ad' L C := by
    rw [← had]
    refine ⟨fun i hi => ?_, fun i hi => ?_, fun i hi => ?_⟩ <;> rw [adUp_ne (by omega), adUp_ne (by omega), adUp_ne (by omega), adUp_ne (by omega)]
  have a0 : ad' (100 + 4 * C) = q := by rw [← had, adUp_ne (by omega), adUp_ne (by omega), adUp_ne (by omega), adUp_at]
  have a1 : ad' (100 + (4 * C + 1)) = tA := by rw [← had, adUp_ne (by omega), adUp_ne (by omega), adUp_at]
  have a2 : ad' (100 + (4 * C + 2)) = sA := by rw [← had, adUp_ne (by omega), adUp_at]
  have a3 : ad' (100 + (4 * C + 3)) = vA := by rw [← had, adUp_at]
  have w0 : ow' q = 100 + 4 * C := by rw [← how, adUp_ne n3, adUp_ne n2, adUp_ne n1, adUp_at]
  have w1 : ow' tA = 100 + (4 * C + 1) := by rw [← how, adUp_ne n5, adUp_ne n4, adUp_at]
  have w2 : ow' sA = 100 + (4 * C + 2) := by rw [← how, adUp_ne n6, adUp_at]
  have w3 : ow' vA = 100 + (4 * C + 3) := by rw [← how, adUp_at]
  have o5 := oW.to e o4
  refine ⟨ad', ow', e, a0, a1, a2, a3, o5.1, o5.2.1, fun i hi => ?_, o5.2.2.2⟩
  by_cases c : i < 4 * C
  · exact o5.2.2.1 i c
  · rcases (show i = 4 * C ∨ i = 4 * C + 1 ∨ i = 4 * C + 2 ∨ i = 4 * C + 3 by omega) with rfl | rfl | rfl | rfl
    · rw [a0, w0]
    · rw [a1, w1]
    · rw [a2, w2]
    · rw [a3, w3]
theorem oW.lamp {ad ow : Nat → Nat} {eA q : Nat} {Q1 Q2 : List Nat} {L C : Nat} {h : HM} (hO : oW ad ow eA Q1 Q2 L C) (hX : oX ad Q1 Q2 L C h) (he : ∃ e, h eA = some e) (hq : h q = none) (hL : L < 16) :
    ∃ ad' ow' : Nat → Nat, adEq ad ad' L C ∧ ad' (20 + L) = q ∧ oW ad' ow' eA Q1 Q2 (L + 1) C := by
  have o4 := hO.fresh (k := 20 + L) hX he hq
  generalize how : adUp ow q (20 + L) = ow' at o4
  generalize had : adUp ad (20 + L) q = ad'
  have e : adEq ad ad' L C := by
    rw [← had]
    refine ⟨fun i hi => ?_, fun i hi => ?_, fun i hi => ?_⟩ <;> rw [adUp_ne (by omega)]
  have a0 : ad' (20 + L) = q := by rw [← had, adUp_at]
  have w0 : ow' q = 20 + L := by rw [← how, adUp_at]
  have o5 := oW.to e o4
  refine ⟨ad', ow', e, a0, o5.1, fun i hi => ?_, o5.2.2⟩
  by_cases c : i < L
  · exact o5.2.1 i c
  · obtain rfl : i = L := by omega
    rw [a0, w0]
/-- what isn't there yet is 0 -/
def zI (ar : Nat → Nat → Int32) (L C : Nat) : Prop := (∀ i, C ≤ i → ar 16 i = 0) ∧ (∀ j, 16 * C ≤ j → ar 14 j = 0) ∧ ∀ i, L ≤ i → ar 7 i = 0
theorem zI.told {ar : Nat → Nat → Int32} {L C : Nat} (h : zI ar L C) : toldF ar C = fun _ => 0 := by
  funext j
  unfold toldF
  split
  · exact h.2.1 _ (by omega)
  · rfl
theorem arrF_zero (L : Nat) (ar : Nat → Nat → Int32) (B : Int32) : ∀ n, arrF L ar B (fun _ => 0) n = (fun _ => -1, fun _ => 0)
  | 0 => rfl
  | n + 1 => by rw [arrF_no (Or.inr rfl)]; exact arrF_zero L ar B n
theorem lampF_push {n : Nat} {f g : Nat → Nat} {q : Nat} (e : ∀ i, i < n → g i = f i) (hq : g n = q) : va_up (lampF n f) n (some q) = lampF (n + 1) g := by
  funext i
  unfold va_up lampF
  by_cases c : i = n
  · subst c; rw [if_pos rfl, if_pos (by omega), hq]
  · rw [if_neg c]
    by_cases c2 : i < n
    · rw [if_pos c2, if_pos (by omega), e i c2]
    · rw [if_neg c2, if_neg (by omega)]
/-- everything stays but where new things come -/
theorem x_fr.all {P : Nat → Prop} {h h' : HM} (hf : x_fr P h h') (hP : ∀ q, P q → h q = none) : x_fr (fun _ => False) h h' := fun q e hq _ => hf q e hq (fun z => by rw [hP q z] at hq; cases hq)
