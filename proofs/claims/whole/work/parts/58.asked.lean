/-! the model's goings; the greatest of levels, in either order -/
def actB (GL : List GG) (c : Nat) : Bool := GL.any (fun g => decide (g.1 = c))
def gR (R : Nat → Nat → Int32) (C gn : Nat) (GL : List GG) : Prop := (∀ c, c < C → R 17 c = b2i (actB GL c)) ∧ (∀ g, g ∈ GL → R 18 g.1 = nI g.2.1 ∧ R 20 g.1 = relI g.2.2) ∧ ∃ on : Nat → Nat, (∀ g, g ∈ GL → R 19 g.1 = nI (on g.1) ∧ on g.1 < gn) ∧ GL.Pairwise (fun a b => on a.1 < on b.1)
theorem gR.same {R R' : Nat → Nat → Int32} {C gn : Nat} {GL : List GG} (h : gR R C gn GL) (h17 : R' 17 = R 17) (h18 : R' 18 = R 18) (h19 : R' 19 = R 19) (h20 : R' 20 = R 20) : gR R' C gn GL := by
  unfold gR at *
  rw [h17, h18, h19, h20]
  exact h
theorem actB_t {GL : List GG} {c : Nat} : actB GL c = true ↔ ∃ g, g ∈ GL ∧ g.1 = c := by
  unfold actB
  rw [List.any_eq_true]
  simp
theorem i32_anti {a b : Int32} (h1 : a ≤ b) (h2 : b ≤ a) : a = b := Int32.toInt.inj (by
  have a1 := Int32.le_iff_toInt_le.mp h1
  have a2 := Int32.le_iff_toInt_le.mp h2
  omega)
theorem i32_le_refl (a : Int32) : a ≤ a := Int32.le_iff_toInt_le.mpr (Int.le_refl _)
theorem i32_le_trans {a b c : Int32} (h1 : a ≤ b) (h2 : b ≤ c) : a ≤ c := Int32.le_iff_toInt_le.mpr (Int.le_trans (Int32.le_iff_toInt_le.mp h1) (Int32.le_iff_toInt_le.mp h2))
theorem maxI_le {x y z : Int32} : maxI x y ≤ z ↔ x ≤ z ∧ y ≤ z := by
  unfold maxI
  by_cases h : x < y
  · rw [if_pos h]
    refine ⟨fun q => ⟨i32_le_trans (Int32.le_iff_toInt_le.mpr (by have := Int32.lt_iff_toInt_lt.mp h; omega)) q, q⟩, fun q => q.2⟩
  · rw [if_neg h]
    refine ⟨fun q => ⟨q, i32_le_trans (Int32.le_iff_toInt_le.mpr (by
      have h' : ¬ x.toInt < y.toInt := fun z => h (Int32.lt_iff_toInt_lt.mpr z)
      omega)) q⟩, fun q => q.1⟩
theorem le_all {a b : Int32} (h : ∀ z, a ≤ z ↔ b ≤ z) : a = b := i32_anti ((h b).mpr (i32_le_refl b)) ((h a).mp (i32_le_refl a))
/-- the model's greatest at a lamp, cue by cue -/
def actU (R : Nat → Nat → Int32) (k : Nat) : Bool := !decide (R 17 k = 0) && decide (R 20 k = -1)
def grtM (R : Nat → Nat → Int32) (L : Nat) (B : Int32) (c j : Nat) : Nat → Int32
  | 0 => maxI 0 (levP R L B c j)
  | k + 1 => if actU R k = true then maxI (grtM R L B c j k) (levP R L B k j) else grtM R L B c j k
theorem grtM_le {R : Nat → Nat → Int32} {L : Nat} {B : Int32} {c j : Nat} {z : Int32} : ∀ n, grtM R L B c j n ≤ z ↔ (0 ≤ z ∧ levP R L B c j ≤ z) ∧ ∀ k, k < n → actU R k = true → levP R L B k j ≤ z
  | 0 => by
    show maxI 0 _ ≤ z ↔ _
    rw [maxI_le]
    exact ⟨fun h => ⟨h, fun k hk => absurd hk (by omega)⟩, fun h => h.1⟩
  | n + 1 => by
    have ih := grtM_le (R := R) (L := L) (B := B) (c := c) (j := j) (z := z) n
    unfold grtM
    split
    · rename_i ha
      rw [maxI_le, ih]
      exact ⟨fun h => ⟨h.1.1, fun k hk hu => (Nat.lt_or_ge k n).elim (fun q => h.1.2 k q hu) (fun q => by obtain rfl : k = n := (by omega); exact h.2)⟩, fun h => ⟨⟨h.1, fun k hk hu => h.2 k (by omega) hu⟩, h.2 n (by omega) ha⟩⟩
    · rename_i ha
      rw [ih]
      exact ⟨fun h => ⟨h.1, fun k hk hu => (Nat.lt_or_ge k n).elim (fun q => h.2 k q hu) (fun q => by obtain rfl : k = n := (by omega); exact absurd hu ha)⟩, fun h => ⟨h.1, fun k hk hu => h.2 k (by omega) hu⟩⟩
theorem grtG_le {R : Nat → Nat → Int32} {L : Nat} {B : Int32} {j : Nat} {z : Int32} : ∀ (GL : List GG) (x : Int32), GL.foldl (grtG R L B j) x ≤ z ↔ x ≤ z ∧ ∀ g, g ∈ GL → relI g.2.2 = -1 → levP R L B g.1 j ≤ z
  | [], x => ⟨fun h => ⟨h, fun g hg => by simp at hg⟩, fun h => h.1⟩
  | a :: GL, x => by
    rw [List.foldl_cons, grtG_le GL]
    unfold grtG
    by_cases c : relI a.2.2 = -1
    · rw [if_pos c, maxI_le]
      exact ⟨fun h => ⟨h.1.1, fun g hg hr => (List.mem_cons.mp hg).elim (fun e => by rw [e]; exact h.1.2) (fun q => h.2 g q hr)⟩, fun h => ⟨⟨h.1, h.2 a List.mem_cons_self c⟩, fun g hg => h.2 g (List.mem_cons_of_mem _ hg)⟩⟩
    · rw [if_neg c]
      exact ⟨fun h => ⟨h.1, fun g hg hr => (List.mem_cons.mp hg).elim (fun e => by rw [e] at hr; exact absurd hr c) (fun q => h.2 g q hr)⟩, fun h => ⟨h.1, fun g hg => h.2 g (List.mem_cons_of_mem _ hg)⟩⟩
theorem grt_is {R : Nat → Nat → Int32} {L C gn : Nat} {B : Int32} {c j : Nat} {GL : List GG} (hg : gI C GL) (hr : gR R C gn GL) : grtM R L B c j C = maxI (levP R L B c j) (GL.foldl (grtG R L B j) (nI 0)) := by
  refine le_all (fun z => ?_)
  rw [grtM_le, maxI_le, grtG_le]
  refine ⟨fun h => ⟨h.1.2, h.1.1, fun g hg1 hre => h.2 g.1 (hg.2 g hg1) ?_⟩, fun h => ⟨⟨h.2.1, h.1⟩, fun k hk hu => ?_⟩⟩
  · unfold actU
    rw [hr.1 _ (hg.2 g hg1), (hr.2.1 g hg1).2, hre, actB_t.mpr ⟨g, hg1, rfl⟩]
    rfl
  · unfold actU at hu
    obtain ⟨h1, h2⟩ := Bool.and_eq_true_iff.mp hu
    have h1' : ¬ R 17 k = 0 := by simpa using h1
    rw [hr.1 k hk] at h1'
    obtain ⟨g, hg1, e⟩ := actB_t.mp (b2i_n0.mp h1')
    subst e
    exact h.2.2 g hg1 (by rw [← (hr.2.1 g hg1).2]; exact of_decide_eq_true h2)
theorem askN_end {ar : Nat → Nat → Int32} {L : Nat} {B : Int32} {GL : List GG} {c : Nat} {ph : Int32} : ∀ d, askN ar L B GL c ph (L + d) = askN ar L B GL c ph L
  | 0 => rfl
  | d + 1 => by rw [← askN_end d]; exact askN_n (n := L + d) (fun z => absurd z.1 (by omega))
theorem askN_16 {ar : Nat → Nat → Int32} {L : Nat} {B : Int32} {GL : List GG} {c : Nat} {ph : Int32} (h : L ≤ 16) : askN ar L B GL c ph 16 = askN ar L B GL c ph L := by
  have := askN_end (ar := ar) (L := L) (B := B) (GL := GL) (c := c) (ph := ph) (16 - L)
  rw [show L + (16 - L) = 16 by omega] at this
  exact this
