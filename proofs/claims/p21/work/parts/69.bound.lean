/-! no level is above the greatest, but for rounding -/
theorem units_next {n : Nat} (h : 2 ^ 23 ≤ n) : FP.Core.unitsOf FP.Core.b32 (n + 1) = FP.Core.unitsOf FP.Core.b32 n + 2 ^ (n / 2 ^ 23 - 1) := by
  rw [units_norm h, units_norm (by omega)]
  rcases (show (n + 1) % 2 ^ 23 = n % 2 ^ 23 + 1 ∧ (n + 1) / 2 ^ 23 = n / 2 ^ 23 ∨ (n + 1) % 2 ^ 23 = 0 ∧ n % 2 ^ 23 = 2 ^ 23 - 1 ∧ (n + 1) / 2 ^ 23 = n / 2 ^ 23 + 1 by omega) with ⟨e1, e2⟩ | ⟨e1, e2, e3⟩
  · rw [e1, e2, ← Nat.add_assoc, Nat.add_mul _ 1, Nat.one_mul]
  · rw [e1, e2, e3, show n / 2 ^ 23 + 1 - 1 = (n / 2 ^ 23 - 1) + 1 by omega, show (2 : Nat) ^ ((n / 2 ^ 23 - 1) + 1) = 2 ^ (n / 2 ^ 23 - 1) * 2 from Nat.pow_succ _ _]
    generalize 2 ^ (n / 2 ^ 23 - 1) = u
    omega
/-- the float behind a whole number's -/
def nxt (M : Nat) : UInt32 := fB ((FP.i2f (nI M)).toNat + 1)
theorem nxt_is {M : Nat} (h1 : 1 ≤ M) (h2 : M ≤ 100) : ∃ (c u : Nat) (q : Int), c < 2 ^ 24 ∧ -149 ≤ q ∧ q ≤ 104 ∧ u = 2 ^ (q + 149).toNat ∧ fz (FP.i2f (nI M)) = ((c * u : Nat) : Int) ∧ nn (nxt M) ∧ fz (nxt M) = ((c * u + u : Nat) : Int) ∧ (FP.i2f (nI M)).toNat + 1 < 2139095040 := by
  have nM := i2f_nn (a := M) (by omega)
  have eM := i2f_fz (a := M) (by omega)
  have hO := fO_pos
  have b1 := fz_bits nn_one nM (by
    rw [fz_one, eM]
    have := Int.mul_le_mul_of_nonneg_right (show (1 : Int) ≤ (M : Int) by omega) (Int.le_of_lt hO)
    omega)
  have n2 := fB_nn (n := 151 * 2 ^ 23) (by decide)
  have e2 : fz (fB (151 * 2 ^ 23)) = 16777216 * fO := by decide +kernel
  have b2 := fz_bits nM n2 (by
    rw [e2, eM]
    exact Int.mul_le_mul_of_nonneg_right (by omega) (Int.le_of_lt hO))
  rw [fB_nat (by decide)] at b2
  have e1 : FP.fconst1.toNat = 127 * 2 ^ 23 := by decide
  rw [e1] at b1
  have eX := fB_of (FP.i2f (nI M))
  generalize hX : (FP.i2f (nI M)).toNat = X at *
  have f1 := fB_fz (n := X) (by omega)
  have f2 := fB_fz (n := X + 1) (by omega)
  rw [units_next (by omega)] at f2
  rw [eX] at f1
  rw [units_norm (by omega)] at f1 f2
  refine ⟨2 ^ 23 + X % 2 ^ 23, 2 ^ (X / 2 ^ 23 - 1), ((X / 2 ^ 23 : Nat) : Int) - 150, by omega, by omega, by omega, ?_, f1, ?_, ?_, by omega⟩
  · congr 1
    omega
  · unfold nxt
    rw [hX]
    exact fB_nn (by omega)
  · unfold nxt
    rw [hX]
    exact f2
theorem high_le {M v : Nat} {m : UInt32} (hm : msI m) (h2 : v ≤ M) (hM : M ≤ 100) : fz (FP.fmul m (FP.i2f (nI v))) ≤ fz (FP.i2f (nI M)) := by
  have hO := fO_pos
  have nv := i2f_nn (a := v) (by omega)
  have ev := i2f_fz (a := v) (by omega)
  have nM := i2f_nn (a := M) (by omega)
  have eM := i2f_fz (a := M) (by omega)
  refine fz_mul_le hm.1.1 nv.1 nM.ne ?_
  have k1 : fz m * fz (FP.i2f (nI v)) ≤ fO * fz (FP.i2f (nI v)) := Int.mul_le_mul_of_nonneg_right hm.2.1 nv.ge
  have k2 : fz (FP.i2f (nI v)) ≤ fz (FP.i2f (nI M)) := by
    rw [ev, eM]
    exact Int.mul_le_mul_of_nonneg_right (by omega) (Int.le_of_lt hO)
  have k3 : fz (FP.i2f (nI v)) * fO ≤ fz (FP.i2f (nI M)) * fO := Int.mul_le_mul_of_nonneg_right k2 (Int.le_of_lt hO)
  rw [Int.mul_comm fO] at k1
  omega
theorem late_le {K M v : Nat} {l m : UInt32} (hl : lvI K l) (hm : msI m) (h1 : 1 ≤ v) (h2 : v ≤ M) (hM : M ≤ 100) (hK : K ≤ 3900) (hV : fz l ≤ fz (nxt M)) : fz (FP.fadd l (FP.fmul m (FP.fsub (FP.i2f (nI v)) l))) ≤ fz (nxt M) := by
  have hO := fO_pos
  obtain ⟨c, u, q, c1, q1, q2, eu, fM, nV, fV, _⟩ := nxt_is (M := M) (by omega) hM
  have nv := i2f_nn (a := v) (by omega)
  have ev := i2f_fz (a := v) (by omega)
  have eM := i2f_fz (a := M) (by omega)
  have gm := hm.1.ge
  have gl := hl.1.ge
  have hn1 := ne_sub nv.1 hl.1.1
  generalize ha : FP.fsub (FP.i2f (nI v)) l = a at hn1 ⊢
  rcases (show fz (FP.i2f (nI v)) < fz l ∨ fz l ≤ fz (FP.i2f (nI v)) by omega) with z | z
  · obtain ⟨V, hV2, eV⟩ := under_is (v := v) hl.1 h1 (Int.le_trans hl.2.1 (Int.mul_le_mul_of_nonneg_right (by omega) (Int.le_of_lt hO))) (by rw [← ev]; exact z)
    obtain ⟨nf, ne⟩ := fneg_fz hV2.1
    have a1 : fz a ≤ fz (FP.Core.fneg V) := by rw [← ha]; exact fz_sub_le nv.1 hl.1.1 nf.ne_nan (by rw [ne, eV, ev]; omega)
    have a2 : fz (FP.Core.fneg V) ≤ fz a := by rw [← ha]; exact fz_sub_ge nv.1 hl.1.1 nf.ne_nan (by rw [ne, eV, ev]; omega)
    have gv := nv.ge
    have fa : FP.Core.FFin a := fin_mid hn1 hl.1.1 (by rw [ne, eV] at a1 a2; rw [ev] at gv; omega) (by rw [ne, eV] at a1 a2; rw [ev] at gv; omega)
    have ga : fz a ≤ 0 := by rw [ne, eV] at a1; rw [ev] at z; omega
    have hn2 := ne_mul hm.1.1 fa
    have p2 : fz (FP.fmul m a) ≤ fz FP.fconst0 := fz_mul_le hm.1.1 fa nn_zero.ne (by
      rw [fz_zero, Int.zero_mul]
      have k : 0 ≤ fz m * (-fz a) := Int.mul_nonneg gm (by omega)
      rw [Int.mul_neg] at k
      omega)
    have p1 : fz a ≤ fz (FP.fmul m a) := fz_mul_ge hm.1.1 fa fa.ne_nan (by
      have k : fz m * (-fz a) ≤ fO * (-fz a) := Int.mul_le_mul_of_nonneg_right hm.2.1 (by omega)
      rw [Int.mul_neg, Int.mul_neg] at k
      rw [Int.mul_comm (fz a) fO]
      omega)
    rw [fz_zero] at p2
    have fp : FP.Core.FFin (FP.fmul m a) := fin_mid hn2 hl.1.1 (by omega) (by rw [ne, eV] at a2; rw [ev] at gv; omega)
    have := fz_add_le (a := l) (b := FP.fmul m a) (V := l) hl.1.1 fp hl.1.ne (by omega)
    omega
  · have gu : 0 < u := by rw [eu]; exact Nat.two_pow_pos _
    obtain ⟨D, hD⟩ : ∃ D : Nat, (D : Int) = fz (FP.i2f (nI v)) - fz l := ⟨(fz (FP.i2f (nI v)) - fz l).toNat, by omega⟩
    have hvM : fz (FP.i2f (nI v)) ≤ ((c * u : Nat) : Int) := by
      rw [← fM, ev, eM]
      exact Int.mul_le_mul_of_nonneg_right (by omega) (Int.le_of_lt hO)
    have hDc : D ≤ c * u := by omega
    have w1 : (D + u - 1) / u ≤ c := by
      have : (D + u - 1) / u < c + 1 := by
        rw [Nat.div_lt_iff_lt_mul gu, Nat.add_mul, Nat.one_mul]
        omega
      omega
    have w2 := Nat.div_add_mod (D + u - 1) u
    have w3 := Nat.mod_lt (D + u - 1) gu
    obtain ⟨W, hW, eW⟩ := exact_is (c := (D + u - 1) / u) (q := q) (by omega) q1 q2
    rw [← eu] at eW
    rw [Nat.mul_comm] at w2
    generalize (D + u - 1) / u * u = y at eW w2
    have a1 : fz a ≤ fz W := by rw [← ha]; exact fz_sub_le nv.1 hl.1.1 hW.ne (by omega)
    have a2 : fz FP.fconst0 ≤ fz a := by rw [← ha]; exact fz_sub_ge nv.1 hl.1.1 nn_zero.ne (by rw [fz_zero]; omega)
    rw [fz_zero] at a2
    have fa : nn a := ⟨fin_mid hn1 hW.1 a1 (by omega), by rw [← ha]; exact sgn_sub nv hl.1.1 z⟩
    have hn2 := ne_mul hm.1.1 fa.1
    have p1 : fz (FP.fmul m a) ≤ fz a := fz_mul_le hm.1.1 fa.1 fa.ne (by
      have k : fz m * fz a ≤ fO * fz a := Int.mul_le_mul_of_nonneg_right hm.2.1 a2
      rw [Int.mul_comm (fz a) fO]
      exact k)
    have p2 : fz FP.fconst0 ≤ fz (FP.fmul m a) := fz_mul_ge hm.1.1 fa.1 nn_zero.ne (by rw [fz_zero, Int.zero_mul]; exact Int.mul_nonneg gm a2)
    rw [fz_zero] at p2
    have fp : FP.Core.FFin (FP.fmul m a) := fin_mid hn2 fa.1 (by omega) (by omega)
    exact fz_add_le hl.1.1 fp nV.ne (by omega)
section MB
variable {ar : Nat → Nat → Int32} {L C t i M : Nat} {B : Int32}
theorem mixH_b (ht : toI ar C) (hM : M ≤ 100) : ∀ (GL : List GG) (l : UInt32), (∀ g, g ∈ GL → g.1 < C ∧ goI ar t g ∧ levP ar L B g.1 i ≤ nI M) → fz l ≤ fz (FP.i2f (nI M)) → fz (GL.foldl (mixHG ar L B t i) l) ≤ fz (FP.i2f (nI M))
  | [], l, _, hl => hl
  | g :: GL, l, h, hl => by
    refine mixH_b ht hM GL _ (fun x hx => h x (List.mem_cons_of_mem _ hx)) ?_
    obtain ⟨h1, h2, h3⟩ := h g List.mem_cons_self
    obtain ⟨v, hv, ev⟩ := levP_is (L := L) (B := B) ht h1 i
    unfold mixHG
    split
    · split
      · rw [ev] at h3 ⊢
        exact high_le (masP_is h2) (x_nIle h3 (by omega) (by omega)) hM
      · exact hl
    · exact hl
theorem mixL_b (ht : toI ar C) (h1M : 1 ≤ M) (hM : M ≤ 100) : ∀ (GL : List GG) (K : Nat) (l : UInt32), (∀ g, g ∈ GL → g.1 < C ∧ goI ar t g ∧ levP ar L B g.1 i ≤ nI M) → lvI K l → K + 100 * GL.length ≤ 3900 → fz l ≤ fz (nxt M) → fz (GL.foldl (mixLG ar L B t i) l) ≤ fz (nxt M)
  | [], K, l, _, _, _, hl => hl
  | g :: GL, K, l, h, hl, hK, hV => by
    rw [List.length_cons] at hK
    obtain ⟨h1, h2, h3⟩ := h g List.mem_cons_self
    obtain ⟨v, hv, ev⟩ := levP_is (L := L) (B := B) ht h1 i
    refine mixL_b ht h1M hM GL (K + 100) _ (fun x hx => h x (List.mem_cons_of_mem _ hx)) (mixLG_is (L := L) (i := i) (B := B) ht h1 h2 hl (by omega)) (by omega) ?_
    unfold mixLG
    split
    · rename_i q
      rw [ev] at h3 q ⊢
      exact late_le hl (masP_is h2) (lev_pos hv q.2) (x_nIle h3 (by omega) (by omega)) hM (by omega) hV
    · exact hV
theorem mix_none (ht : toI ar C) : ∀ (GL : List GG) (l : UInt32), (∀ g, g ∈ GL → g.1 < C ∧ levP ar L B g.1 i ≤ nI 0) → GL.foldl (mixHG ar L B t i) l = l ∧ GL.foldl (mixLG ar L B t i) l = l
  | [], l, _ => ⟨rfl, rfl⟩
  | g :: GL, l, h => by
    obtain ⟨h1, h2⟩ := h g List.mem_cons_self
    have h3 : ¬ 0 < levP ar L B g.1 i := fun z => by
      rw [Int32.le_iff_toInt_le] at h2
      rw [Int32.lt_iff_toInt_lt] at z
      have e : (nI 0).toInt = 0 := by decide
      have e2 : (0 : Int32).toInt = 0 := by decide
      omega
    have e1 : mixHG ar L B t i l g = l := if_neg (fun z => h3 z.2)
    have e2 : mixLG ar L B t i l g = l := if_neg (fun z => h3 z.2)
    rw [List.foldl_cons, List.foldl_cons, e1, e2]
    exact mix_none ht GL l (fun x hx => h x (List.mem_cons_of_mem _ hx))
/-- a level's bits: not above those of the greatest, but for one -/
theorem mix_bound {GL : List GG} (ht : toI ar C) (h12 : C ≤ 12) (hI : gI C GL) (hg : ∀ g, g ∈ GL → goI ar t g) (hM : M ≤ 100) (hb : ∀ g, g ∈ GL → levP ar L B g.1 i ≤ nI M) : (mixG ar L B t GL i).toNat ≤ if M = 0 then 0 else (FP.i2f (nI M)).toNat + 1 := by
  have hlen : GL.length ≤ 12 := by
    have := nd_len C (GL.map Prod.fst) hI.1 (fun x hx => by obtain ⟨g, h1, rfl⟩ := List.mem_map.mp hx; exact hI.2 g h1)
    rw [List.length_map] at this
    omega
  by_cases z : M = 0
  · subst z
    rw [if_pos rfl]
    unfold mixG
    obtain ⟨e1, _⟩ := mix_none (L := L) (B := B) (t := t) (i := i) ht GL FP.fconst0 (fun g h => ⟨hI.2 g h, hb g h⟩)
    rw [e1]
    obtain ⟨_, e2⟩ := mix_none (L := L) (B := B) (t := t) (i := i) ht GL FP.fconst0 (fun g h => ⟨hI.2 g h, hb g h⟩)
    rw [e2]
    decide
  · rw [if_neg z]
    have hb1 : ∀ g, g ∈ GL → g.1 < C ∧ goI ar t g := fun g h => ⟨hI.2 g h, hg g h⟩
    have hb2 : ∀ g, g ∈ GL → g.1 < C ∧ goI ar t g ∧ levP ar L B g.1 i ≤ nI M := fun g h => ⟨hI.2 g h, hg g h, hb g h⟩
    obtain ⟨c, u, q, c1, q1, q2, eu, fM, nV, fV, hX⟩ := nxt_is (M := M) (by omega) hM
    have l1 := mixH_b (L := L) (B := B) (i := i) ht hM GL FP.fconst0 hb2 (by rw [fz_zero]; exact (i2f_nn (a := M) (by omega)).ge)
    have l2 := mixH_fold (L := L) (B := B) (i := i) ht GL _ hb1 (lvI_zero 100)
    have l3 := mixL_b (L := L) (B := B) (i := i) ht (by omega) hM GL 100 _ hb2 l2 (by omega) (by rw [fM] at l1; rw [fV]; omega)
    have l4 := mixG_lv (L := L) (B := B) (i := i) ht h12 hI hg
    have k := fz_bits l4.1 nV l3
    unfold nxt at k
    rw [fB_nat (by omega)] at k
    exact k
end MB
