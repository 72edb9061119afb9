theorem late_is {K v : Nat} {l m : UInt32} (hl : lvI K l) (hm : msI m) (h1 : 1 ≤ v) (h2 : v ≤ 100) (hK : K ≤ 3900) : FP.Core.val32 (FP.fsub (FP.i2f (nI v)) l) ≠ .nan ∧ FP.Core.val32 (FP.fmul m (FP.fsub (FP.i2f (nI v)) l)) ≠ .nan ∧ FP.Core.val32 (FP.fadd l (FP.fmul m (FP.fsub (FP.i2f (nI v)) l))) ≠ .nan ∧ lvI (K + 100) (FP.fadd l (FP.fmul m (FP.fsub (FP.i2f (nI v)) l))) := by
  have hO := fO_pos
  have nv := i2f_nn (a := v) (by omega)
  have ev := i2f_fz (a := v) (by omega)
  have nK := i2f_nn (a := K + 100) (by omega)
  have eK := i2f_fz (a := K + 100) (by omega)
  have gm := hm.1.ge
  have gl := hl.1.ge
  have gv := nv.ge
  have hn1 := ne_sub nv.1 hl.1.1
  have ev1 : fO ≤ fz (FP.i2f (nI v)) := by
    rw [ev]
    have := Int.mul_le_mul_of_nonneg_right (show (1 : Int) ≤ (v : Int) by omega) (Int.le_of_lt hO)
    omega
  have ev2 : fz (FP.i2f (nI v)) ≤ 100 * fO := by
    rw [ev]
    exact Int.mul_le_mul_of_nonneg_right (by omega) (Int.le_of_lt hO)
  have eK2 : fz (FP.i2f (nI (K + 100))) = (K : Int) * fO + 100 * fO := by
    rw [eK, Int.natCast_add, Int.add_mul]
    rfl
  have hKO := hl.2.1
  generalize ha : FP.fsub (FP.i2f (nI v)) l = a at hn1 ⊢
  rcases (show fz (FP.i2f (nI v)) < fz l ∨ fz l ≤ fz (FP.i2f (nI v)) by omega) with c | c
  · -- the level goes down
    obtain ⟨V, hV, eV⟩ := under_is (v := v) hl.1 h1 (Int.le_trans hl.2.1 (Int.mul_le_mul_of_nonneg_right (by omega) (Int.le_of_lt hO))) (by rw [← ev]; exact c)
    obtain ⟨nf, ne⟩ := fneg_fz hV.1
    have a1 : fz a ≤ fz (FP.Core.fneg V) := by rw [← ha]; exact fz_sub_le nv.1 hl.1.1 nf.ne_nan (by rw [ne, eV, ev]; omega)
    have a2 : fz (FP.Core.fneg V) ≤ fz a := by rw [← ha]; exact fz_sub_ge nv.1 hl.1.1 nf.ne_nan (by rw [ne, eV, ev]; omega)
    have ea : fz a = fz (FP.i2f (nI v)) - fz l := by rw [ne, eV] at a1 a2; rw [ev]; omega
    have fa : FP.Core.FFin a := fin_mid hn1 hl.1.1 (by omega) (by omega)
    have hn2 := ne_mul hm.1.1 fa
    have p1 : fz a ≤ fz (FP.fmul m a) := fz_mul_ge hm.1.1 fa fa.ne_nan (by
      have k : fz m * (-fz a) ≤ fO * (-fz a) := Int.mul_le_mul_of_nonneg_right hm.2.1 (by omega)
      rw [Int.mul_neg, Int.mul_neg] at k
      rw [Int.mul_comm (fz a) fO]
      omega)
    have p2 : fz (FP.fmul m a) ≤ fz FP.fconst0 := fz_mul_le hm.1.1 fa nn_zero.ne (by
      rw [fz_zero, Int.zero_mul]
      have k : 0 ≤ fz m * (-fz a) := Int.mul_nonneg gm (by omega)
      rw [Int.mul_neg] at k
      omega)
    rw [fz_zero] at p2
    generalize hp : FP.fmul m a = p at hn2 p1 p2 ⊢
    have fp : FP.Core.FFin p := fin_mid hn2 hl.1.1 (by omega) (by omega)
    have hn3 := ne_add hl.1.1 fp
    have r1 : fz (FP.i2f (nI v)) ≤ fz (FP.fadd l p) := fz_add_ge hl.1.1 fp nv.ne (by omega)
    have r2 : fz (FP.fadd l p) ≤ fz l := fz_add_le hl.1.1 fp hl.1.ne (by omega)
    refine ⟨hn1, hn2, hn3, ⟨fin_mid hn3 hl.1.1 r2 (by omega), sgn_add hl.1 fp (by omega)⟩, ?_, Or.inr (by omega)⟩
    rw [Int.natCast_add, Int.add_mul]
    show _ ≤ (K : Int) * fO + 100 * fO
    omega
  · have a1 : fz a ≤ fz (FP.i2f (nI v)) := by rw [← ha]; exact fz_sub_le nv.1 hl.1.1 nv.ne (by omega)
    have a2 : fz FP.fconst0 ≤ fz a := by rw [← ha]; exact fz_sub_ge nv.1 hl.1.1 nn_zero.ne (by rw [fz_zero]; omega)
    rw [fz_zero] at a2
    have fa : nn a := ⟨fin_mid hn1 nv.1 a1 (by omega), by rw [← ha]; exact sgn_sub nv hl.1.1 c⟩
    have hn2 := ne_mul hm.1.1 fa.1
    have p1 : fz (FP.fmul m a) ≤ fz a := fz_mul_le hm.1.1 fa.1 fa.ne (by
      have k : fz m * fz a ≤ fO * fz a := Int.mul_le_mul_of_nonneg_right hm.2.1 a2
      rw [Int.mul_comm (fz a) fO]
      exact k)
    have p2 : fz FP.fconst0 ≤ fz (FP.fmul m a) := fz_mul_ge hm.1.1 fa.1 nn_zero.ne (by rw [fz_zero, Int.zero_mul]; exact Int.mul_nonneg gm a2)
    rw [fz_zero] at p2
    have sp := sgn_mul hm.1 fa
    have pz : fz m = 0 → fz (FP.fmul m a) = 0 := fun z => by
      have : fz (FP.fmul m a) ≤ fz FP.fconst0 := fz_mul_le hm.1.1 fa.1 nn_zero.ne (by rw [fz_zero, Int.zero_mul, z]; simp)
      rw [fz_zero] at this
      omega
    have pn : fz l = 0 → fO ≤ 4096 * fz m → fO ≤ 4096 * fz (FP.fmul m a) := fun z z2 => by
      have ea : fz (FP.i2f (nI v)) ≤ fz a := by rw [← ha]; exact fz_sub_ge nv.1 hl.1.1 nv.ne (by omega)
      have : fz (0x39800000 : UInt32) ≤ fz (FP.fmul m a) := fz_mul_ge hm.1.1 fa.1 f4096_is.1.ne (by
        have k : fO * fO ≤ (4096 * fz m) * fz a := Int.mul_le_mul z2 (by omega) (Int.le_of_lt hO) (by omega)
        have k3 : fz (0x39800000 : UInt32) * fO * 4096 = fO * fO := by
          rw [show fz (0x39800000 : UInt32) * fO * 4096 = (fz (0x39800000 : UInt32) * 4096) * fO by ac_rfl, f4096_is.2]
        have k4 : (4096 * fz m) * fz a = fz m * fz a * 4096 := by ac_rfl
        omega)
      have := f4096_is.2
      omega
    generalize hp : FP.fmul m a = p at hn2 p1 p2 sp pz pn ⊢
    have fp : nn p := ⟨fin_mid hn2 nv.1 (by omega) (by omega), sp⟩
    have hn3 := ne_add hl.1.1 fp.1
    have r1 : fz (FP.fadd l p) ≤ fz (FP.i2f (nI (K + 100))) := fz_add_le hl.1.1 fp.1 nK.ne (by omega)
    have r2 : fz l ≤ fz (FP.fadd l p) := fz_add_ge hl.1.1 fp.1 hl.1.ne (by omega)
    have r3 : fz p ≤ fz (FP.fadd l p) := fz_add_ge hl.1.1 fp.1 fp.ne (by omega)
    refine ⟨hn1, hn2, hn3, ⟨fin_mid hn3 nK.1 r1 (by omega), sgn_add hl.1 fp.1 (by omega)⟩, by rw [eK] at r1; exact r1, ?_⟩
    rcases hl.2.2 with z | z
    · rcases hm.2.2 with z2 | z2
      · have e0 := pz z2
        left
        have : fz (FP.fadd l p) ≤ fz FP.fconst0 := fz_add_le hl.1.1 fp.1 nn_zero.ne (by rw [fz_zero]; omega)
        rw [fz_zero] at this
        omega
      · have := pn z z2
        right
        omega
    · right
      omega
/-- levels that a cue tells, and those that it has -/
def toI (ar : Nat → Nat → Int32) (C : Nat) : Prop := ∀ c i, c < C → i < 16 → ∃ v, v ≤ 100 ∧ ar 14 (16 * c + i) = nI v
theorem arrF_lev {L : Nat} {ar : Nat → Nat → Int32} {B : Int32} {told : Nat → Int32} (h : ∀ i, i < 16 → ∃ v, v ≤ 100 ∧ told i = nI v) : ∀ n, n ≤ 16 → ∀ i, ∃ v, v ≤ 100 ∧ (arrF L ar B told n).2 i = nI v
  | 0, _, i => ⟨0, by omega, rfl⟩
  | n + 1, hn, i => by
    have ih := arrF_lev (L := L) (ar := ar) (B := B) h n (by omega)
    by_cases c : ¬ n < L ∨ told n = 0
    · rw [arrF_no c]; exact ih i
    · have h1 : n < L := Decidable.not_not.mp (fun z => c (Or.inl z))
      have h2 : ¬ told n = 0 := fun z => c (Or.inr z)
      by_cases hs : 0 ≤ (if usV B (ar 2 n) (ar 7 n) then nI n else nearS L ar B told (arrF L ar B told n).2 n) ∧ (if usV B (ar 2 n) (ar 7 n) then nI n else nearS L ar B told (arrF L ar B told n).2 n) < nI 16
      · rw [arrF_put h1 h2 rfl hs.1 hs.2]
        by_cases e : i = (if usV B (ar 2 n) (ar 7 n) then nI n else nearS L ar B told (arrF L ar B told n).2 n).toNatClampNeg
        · simp only [upd, if_pos e]
          exact h n (by omega)
        · simp only [upd, if_neg e]
          exact ih i
      · rw [arrF_out rfl hs]
        exact ih i
theorem levP_is {ar : Nat → Nat → Int32} {L C c : Nat} {B : Int32} (h : toI ar C) (hc : c < C) (i : Nat) : ∃ v, v ≤ 100 ∧ levP ar L B c i = nI v := arrF_lev (fun j hj => by
  obtain ⟨v, h1, h2⟩ := h c j hc hj
  exact ⟨v, h1, by unfold toldF; rw [if_pos hj]; exact h2⟩) 16 (Nat.le_refl _) i
theorem lev_pos {v : Nat} (h : v ≤ 100) (hp : (0 : Int32) < nI v) : 1 ≤ v := by
  rcases Nat.eq_zero_or_pos v with z | z
  · subst z; exact absurd hp (by decide)
  · exact z
theorem mixHG_is {ar : Nat → Nat → Int32} {L C t i : Nat} {B : Int32} {l : UInt32} {g : GG} (ht : toI ar C) (hc : g.1 < C) (hg : goI ar t g) (hl : lvI 100 l) : lvI 100 (mixHG ar L B t i l g) := by
  unfold mixHG
  obtain ⟨v, hv, ev⟩ := levP_is (L := L) (B := B) ht hc i
  split
  · rename_i h
    rw [ev] at h ⊢
    have := (ms_mul (masP_is hg) (lev_pos hv h.2) hv).2
    split
    · exact this
    · exact hl
  · exact hl
theorem mixLG_is {ar : Nat → Nat → Int32} {L C t i K : Nat} {B : Int32} {l : UInt32} {g : GG} (ht : toI ar C) (hc : g.1 < C) (hg : goI ar t g) (hl : lvI K l) (hK : K ≤ 3900) : lvI (K + 100) (mixLG ar L B t i l g) := by
  unfold mixLG
  obtain ⟨v, hv, ev⟩ := levP_is (L := L) (B := B) ht hc i
  split
  · rename_i h
    rw [ev] at h ⊢
    exact (late_is hl (masP_is hg) (lev_pos hv h.2) hv hK).2.2.2
  · exact hl.up (by omega)
theorem mixH_fold {ar : Nat → Nat → Int32} {L C t i : Nat} {B : Int32} (ht : toI ar C) : ∀ (GL : List GG) (l : UInt32), (∀ g, g ∈ GL → g.1 < C ∧ goI ar t g) → lvI 100 l → lvI 100 (GL.foldl (mixHG ar L B t i) l)
  | [], l, _, hl => hl
  | g :: GL, l, h, hl => mixH_fold ht GL _ (fun x hx => h x (List.mem_cons_of_mem _ hx)) (mixHG_is ht (h g List.mem_cons_self).1 (h g List.mem_cons_self).2 hl)
theorem mixL_fold {ar : Nat → Nat → Int32} {L C t i : Nat} {B : Int32} (ht : toI ar C) : ∀ (GL : List GG) (K : Nat) (l : UInt32), (∀ g, g ∈ GL → g.1 < C ∧ goI ar t g) → lvI K l → K + 100 * GL.length ≤ 3900 → lvI (K + 100 * GL.length) (GL.foldl (mixLG ar L B t i) l)
  | [], K, l, _, hl, _ => hl
  | g :: GL, K, l, h, hl, hK => by
    rw [List.length_cons] at hK
    have := mixL_fold (L := L) (i := i) (B := B) ht GL (K + 100) _ (fun x hx => h x (List.mem_cons_of_mem _ hx)) (mixLG_is (L := L) (i := i) (B := B) ht (h g List.mem_cons_self).1 (h g List.mem_cons_self).2 hl (by omega)) (by omega)
    rw [List.length_cons, show K + 100 * (GL.length + 1) = K + 100 + 100 * GL.length by omega]
    exact this
theorem mixG_lv {ar : Nat → Nat → Int32} {L C t i : Nat} {B : Int32} {GL : List GG} (ht : toI ar C) (h12 : C ≤ 12) (hI : gI C GL) (hg : ∀ g, g ∈ GL → goI ar t g) : lvI 1300 (mixG ar L B t GL i) := by
  have hlen : GL.length ≤ 12 := by
    have := nd_len C (GL.map Prod.fst) hI.1 (fun x hx => by obtain ⟨g, h1, rfl⟩ := List.mem_map.mp hx; exact hI.2 g h1)
    rw [List.length_map] at this
    omega
  have hb : ∀ g, g ∈ GL → g.1 < C ∧ goI ar t g := fun g h => ⟨hI.2 g h, hg g h⟩
  unfold mixG
  exact (mixL_fold ht GL 100 _ hb (mixH_fold ht GL _ hb (lvI_zero 100)) (by omega)).up (by omega)
/-- a master's bits are those of a number below 2 -/
theorem fz_bits {x y : UInt32} (hx : nn x) (hy : nn y) (h : fz x ≤ fz y) : x.toNat ≤ y.toNat := by
  rw [hx.zmag, hy.zmag] at h
  have h' := Int.ofNat_le.mp h
  rw [FP.Core.zmag_toNat32 hx.ne, FP.Core.zmag_toNat32 hy.ne] at h'
  have h2 := (FP.Core.unitsOf_le_iff (f := FP.Core.b32)).mp h'
  have s1 := hx.2
  have s2 := hy.2
  rw [FP.Core.sgn_bits32 hx.ne] at s1
  rw [FP.Core.sgn_bits32 hy.ne] at s2
  have b1 : ¬ 2 ^ 31 ≤ x.toNat := by simpa using s1
  have b2 : ¬ 2 ^ 31 ≤ y.toNat := by simpa using s2
  omega
theorem msI.mg {m : UInt32} (h : msI m) : mg m < 128 * 2 ^ 23 := by
  have := fz_bits h.1 nn_one (by rw [fz_one]; exact h.2.1)
  have e : FP.fconst1.toNat = 127 * 2 ^ 23 := by decide
  show m.toNat % 2 ^ 31 < _
  omega
