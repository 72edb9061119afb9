/-! the greatest of several; what is due -/
theorem maxI_le {x y z : Int32} : maxI x y ≤ z ↔ x ≤ z ∧ y ≤ z := by
  unfold maxI
  simp only [Int32.le_iff_toInt_le, Int32.lt_iff_toInt_lt]
  split <;> omega
theorem maxI_ge {x y z : Int32} (h : z ≤ x ∨ z ≤ y) : z ≤ maxI x y := by
  unfold maxI
  simp only [Int32.le_iff_toInt_le] at *
  simp only [Int32.lt_iff_toInt_lt]
  split <;> omega
theorem i32_le_rfl (x : Int32) : x ≤ x := by
  rw [Int32.le_iff_toInt_le]
  exact Int.le_refl _
theorem i32_le_trans {a b c : Int32} (h1 : a ≤ b) (h2 : b ≤ c) : a ≤ c := by
  rw [Int32.le_iff_toInt_le] at *
  omega
theorem i32_anti {a b : Int32} (h1 : a ≤ b) (h2 : b ≤ a) : a = b := by
  rw [Int32.le_iff_toInt_le] at *
  exact Int32.toInt.inj (by omega)
theorem i32_same {a b : Int32} (h : ∀ z, a ≤ z ↔ b ≤ z) : a = b := i32_anti ((h b).mpr (i32_le_rfl b)) ((h a).mp (i32_le_rfl a))
def mxF (it : Nat → Int32) (x0 : Int32) : Nat → Int32
  | 0 => x0
  | j + 1 => maxI (mxF it x0 j) (it j)
theorem mxF_s {it : Nat → Int32} {x0 : Int32} {j : Nat} : mxF it x0 (j + 1) = maxI (mxF it x0 j) (it j) := rfl
theorem mxF_y {it : Nat → Int32} {x0 : Int32} {j : Nat} (h : it j ≤ mxF it x0 j) : mxF it x0 (j + 1) = mxF it x0 j := by
  rw [mxF_s]
  unfold maxI
  rw [if_neg]
  simp only [Int32.le_iff_toInt_le, Int32.lt_iff_toInt_lt] at *
  omega
theorem mxF_n {it : Nat → Int32} {x0 : Int32} {j : Nat} (h : ¬ it j ≤ mxF it x0 j) : mxF it x0 (j + 1) = it j := by
  rw [mxF_s]
  unfold maxI
  rw [if_pos]
  simp only [Int32.le_iff_toInt_le, Int32.lt_iff_toInt_lt] at *
  omega
theorem mxF_le {it : Nat → Int32} {x0 z : Int32} : ∀ n, mxF it x0 n ≤ z ↔ x0 ≤ z ∧ ∀ j, j < n → it j ≤ z
  | 0 => ⟨fun h => ⟨h, fun j hj => absurd hj (Nat.not_lt_zero j)⟩, fun h => h.1⟩
  | n + 1 => by
    rw [mxF_s, maxI_le, mxF_le n]
    refine ⟨fun ⟨⟨h1, h2⟩, h3⟩ => ⟨h1, fun j hj => ?_⟩, fun ⟨h1, h2⟩ => ⟨⟨h1, fun j hj => h2 j (by omega)⟩, h2 n (by omega)⟩⟩
    rcases Nat.lt_or_ge j n with z | z
    · exact h2 j z
    · obtain rfl : j = n := by omega
      exact h3
theorem grt_le {ar : Nat → Nat → Int32} {L i : Nat} {B z : Int32} : ∀ (GL : List GG) (x : Int32), GL.foldl (grtG ar L B i) x ≤ z ↔ x ≤ z ∧ ∀ g, g ∈ GL → relI g.2.2 = -1 → levP ar L B g.1 i ≤ z
  | [], x => ⟨fun h => ⟨h, fun g hg => by simp at hg⟩, fun h => h.1⟩
  | g :: GL, x => by
    rw [List.foldl_cons, grt_le GL]
    unfold grtG
    refine ⟨fun ⟨h1, h2⟩ => ?_, fun ⟨h1, h2⟩ => ⟨?_, fun g' hg' => h2 g' (List.mem_cons_of_mem _ hg')⟩⟩
    · by_cases c : relI g.2.2 = -1
      · rw [if_pos c, maxI_le] at h1
        refine ⟨h1.1, fun g' hg' hc' => ?_⟩
        rcases List.mem_cons.mp hg' with rfl | q
        · exact h1.2
        · exact h2 g' q hc'
      · rw [if_neg c] at h1
        refine ⟨h1, fun g' hg' hc' => ?_⟩
        rcases List.mem_cons.mp hg' with rfl | q
        · exact absurd hc' c
        · exact h2 g' q hc'
    · split
      · rename_i c
        exact maxI_le.mpr ⟨h1, h2 g List.mem_cons_self c⟩
      · exact h1
/-! what playing answers -/
theorem play_none {S : PS} {c : Nat} (h : goF (s_G S) c = none) : playP S c 0 = nI 0 ∧ playP S c 1 = nI 0 ∧ playP S c 2 = -1 ∧ playP S c 3 = -1 := by
  unfold playP
  rw [h]
  exact ⟨rfl, rfl, rfl, rfl⟩
theorem play_some {S : PS} {c : Nat} {g : GG} (h : goF (s_G S) c = some g) : playP S c 0 = nI 1 ∧ playP S c 1 = (if relI g.2.2 = -1 then nI 0 else nI 1) ∧ playP S c 2 = nI g.2.1 ∧ playP S c 3 = nI (masP (s_ar S) (s_t S) g).toNat := by
  unfold playP
  rw [h]
  exact ⟨rfl, rfl, rfl, rfl⟩
theorem goF_in {GL : List GG} {c : Nat} {g : GG} (h : goF GL c = some g) : g ∈ GL ∧ g.1 = c := by
  unfold goF at h
  exact ⟨List.mem_of_find?_eq_some h, by simpa using List.find?_some h⟩
def itA (S : PS) (k j : Nat) : Int32 := if playP S j 0 = nI 1 then levP (s_ar S) (s_L S) (s_B S) j k else nI 0
def itU (S : PS) (k j : Nat) : Int32 := if playP S j 0 = nI 1 ∧ playP S j 1 = 0 then levP (s_ar S) (s_L S) (s_B S) j k else nI 0
theorem n1_0 : ¬ nI 1 = (0 : Int32) := by decide
theorem n0_1 : ¬ nI 0 = nI 1 := by decide
theorem itA_some {S : PS} {k j : Nat} {g : GG} (h : goF (s_G S) j = some g) : itA S k j = levP (s_ar S) (s_L S) (s_B S) j k := if_pos (play_some h).1
theorem itA_none {S : PS} {k j : Nat} (h : goF (s_G S) j = none) : itA S k j = nI 0 := by
  unfold itA
  rw [(play_none h).1, if_neg n0_1]
theorem itU_some {S : PS} {k j : Nat} {g : GG} (h : goF (s_G S) j = some g) (hr : relI g.2.2 = -1) : itU S k j = levP (s_ar S) (s_L S) (s_B S) j k := if_pos ⟨(play_some h).1, by rw [(play_some h).2.1, if_pos hr]; rfl⟩
theorem itU_rel {S : PS} {k j : Nat} {g : GG} (h : goF (s_G S) j = some g) (hr : ¬ relI g.2.2 = -1) : itU S k j = nI 0 := if_neg (fun z => by
  have := z.2
  rw [(play_some h).2.1, if_neg hr] at this
  exact n1_0 this)
theorem itU_none {S : PS} {k j : Nat} (h : goF (s_G S) j = none) : itU S k j = nI 0 := if_neg (fun z => by
  have := z.1
  rw [(play_none h).1] at this
  exact n0_1 this)
theorem lev_ge0 {ar : Nat → Nat → Int32} {L C c : Nat} {B : Int32} (h : toI ar C) (hc : c < C) (i : Nat) : nI 0 ≤ levP ar L B c i := by
  obtain ⟨v, hv, e⟩ := levP_is (L := L) (B := B) h hc i
  rw [e]
  exact (nI_leI (by decide) (by omega)).mpr (Nat.zero_le _)
theorem lev_le {ar : Nat → Nat → Int32} {L C c : Nat} {B : Int32} (h : toI ar C) (hc : c < C) (i : Nat) : levP ar L B c i ≤ nI 100 := by
  obtain ⟨v, hv, e⟩ := levP_is (L := L) (B := B) h hc i
  rw [e]
  exact (nI_leI (by omega) (by decide)).mpr hv
/-- the greatest of a cue's own level and those that are active and not released -/
theorem due_max {S : PS} {C c k : Nat} (hC : s_C S = C) (hg : gI C (s_G S)) (ht : toI (s_ar S) C) (hc : c < C) : mxF (itU S k) (levP (s_ar S) (s_L S) (s_B S) c k) C = maxI (levP (s_ar S) (s_L S) (s_B S) c k) ((s_G S).foldl (grtG (s_ar S) (s_L S) (s_B S) k) (nI 0)) := by
  refine i32_same (fun z => ?_)
  rw [mxF_le, maxI_le, grt_le]
  refine ⟨fun ⟨h1, h2⟩ => ⟨h1, i32_le_trans (lev_ge0 ht hc k) h1, fun g hg1 hr => ?_⟩, fun ⟨h1, h2, h3⟩ => ⟨h1, fun j hj => ?_⟩⟩
  · have := h2 g.1 (hg.2 g hg1)
    rw [itU_some (goF_some hg.1 hg1 rfl) hr] at this
    exact this
  · rcases goF_act (c := j) hg with ⟨_, q⟩ | ⟨g, q1, q2, _, q3⟩
    · rw [itU_none q]
      exact h2
    · by_cases hr : relI g.2.2 = -1
      · rw [itU_some q3 hr, ← q2]
        exact h3 g q1 hr
      · rw [itU_rel q3 hr]
        exact h2
/-- of the active ones -/
theorem act_max {S : PS} {C k : Nat} {z : Int32} (hg : gI C (s_G S)) (hz : nI 0 ≤ z) : mxF (itA S k) (nI 0) C ≤ z ↔ ∀ g, g ∈ s_G S → levP (s_ar S) (s_L S) (s_B S) g.1 k ≤ z := by
  rw [mxF_le]
  refine ⟨fun ⟨_, h2⟩ g hg1 => ?_, fun h => ⟨hz, fun j hj => ?_⟩⟩
  · have := h2 g.1 (hg.2 g hg1)
    rw [itA_some (goF_some hg.1 hg1 rfl)] at this
    exact this
  · rcases goF_act (c := j) hg with ⟨_, q⟩ | ⟨g, q1, q2, _, q3⟩
    · rw [itA_none q]
      exact hz
    · rw [itA_some q3, ← q2]
      exact h g q1
theorem i32_num {x : Int32} {n : Nat} (h1 : nI 0 ≤ x) (h2 : x ≤ nI n) (hn : n + 1 < 2 ^ 31) : ∃ v, v ≤ n ∧ x = nI v := by
  rcases pk_ix x (n := n + 1) hn with z | z | ⟨j, hj, e⟩
  · exact absurd h1 (x_lt0 z)
  · have := (nI_leI hn (by omega)).mp (i32_le_trans z h2)
    omega
  · exact ⟨j, by omega, e⟩
theorem askN_num {ar : Nat → Nat → Int32} {L C c : Nat} {B : Int32} {GL : List GG} {ph : Int32} (hl : laI ar L) (ht : toI ar C) (hg : gI C GL) (hc : c < C) : ∀ n, n ≤ 16 → ∃ s, s ≤ 200000 * n ∧ askN ar L B GL c ph n = nI s
  | 0, _ => ⟨0, Nat.le_refl _, rfl⟩
  | n + 1, hn => by
    obtain ⟨s, hs, e⟩ := askN_num (B := B) (ph := ph) hl ht hg hc n (by omega)
    by_cases q : n < L ∧ ar 6 n = ph
    · rw [askN_y q, e]
      obtain ⟨w, w1, w2, ew⟩ := hl n q.1
      obtain ⟨v, hv, ev⟩ := i32_num (x := maxI (levP ar L B c n) (GL.foldl (grtG ar L B n) (nI 0))) (n := 100) (maxI_ge (Or.inl (lev_ge0 ht hc n))) (maxI_le.mpr ⟨lev_le ht hc n, (grt_le GL _).mpr ⟨by decide, fun g hg1 _ => lev_le ht (hg.2 g hg1) n⟩⟩) (by decide)
      rw [ew, ev, pk_mul, nI_add]
      refine ⟨s + w * v, ?_, rfl⟩
      have : w * v ≤ 2000 * 100 := Nat.mul_le_mul w2 hv
      omega
    · rw [askN_n q]
      exact ⟨s, by omega, e⟩
theorem askN_top {ar : Nat → Nat → Int32} {c : Nat} {B : Int32} {GL : List GG} {ph : Int32} : askN ar 10 B GL c ph 16 = askN ar 10 B GL c ph 10 := by
  rw [askN_n (fun z => absurd z.1 (by decide)), askN_n (fun z => absurd z.1 (by decide)), askN_n (fun z => absurd z.1 (by decide)), askN_n (fun z => absurd z.1 (by decide)), askN_n (fun z => absurd z.1 (by decide)), askN_n (fun z => absurd z.1 (by decide))]
/-- rounded up in two ways -/
theorem up_is {s : Nat} (h : s ≤ 3200000) : (nI s + nI 99) / nI 100 = nI s / nI 100 + (if (0 : Int32) < nI s - nI s / nI 100 * nI 100 then nI 1 else nI 0) := by
  rw [pk_rem (by omega) (by decide) (by decide), nI_add, pk_div (by omega) (by decide) (by decide), pk_div (by omega) (by decide) (by decide)]
  have h1 : s % 100 < 100 := Nat.mod_lt _ (by decide)
  by_cases c : s % 100 = 0
  · rw [c, if_neg (by decide), nI_add]
    congr 1
    omega
  · have hp : (0 : Int32) < nI (s % 100) := (nI_ltI (a := 0) (b := s % 100) (by decide) (by omega)).mpr (by omega)
    rw [if_pos hp, nI_add]
    congr 1
    omega
