/-! the model on the heap: its object (place 30), its rows by their fields' numbers, its numbers -/
def mA : List Nat := [2, 3, 4, 5, 6, 7, 9, 11, 12, 13, 14, 15, 16, 17, 18, 19, 20, 23, 24, 26, 27, 29]
def mObj (ma : Nat → Nat) (sc : Nat → Int32) : va_E := .inr (8, [.int (sc 0), .int (sc 1), .ref (ma 2), .ref (ma 3), .ref (ma 4), .ref (ma 5), .ref (ma 6), .ref (ma 7), .int (sc 8), .ref (ma 9), .int (sc 10), .ref (ma 11), .ref (ma 12), .ref (ma 13), .ref (ma 14), .ref (ma 15), .ref (ma 16), .ref (ma 17), .ref (ma 18), .ref (ma 19), .ref (ma 20), .int (sc 21), .int (sc 22), .ref (ma 23), .ref (ma 24), .int (sc 25), .ref (ma 26), .ref (ma 27), .int (sc 28), .ref (ma 29)])
def arrM (G : XG) (k : Nat) (f : Nat → Int32) : va_E := match k with
  | 2 => .inl (g_c G 0, 16, .inl f)
  | 3 => .inl (g_c G 0, 16, .inl f)
  | 4 => .inl (g_c G 0, 16, .inl f)
  | 5 => .inl (g_c G 0, 16, .inl f)
  | 6 => .inl (g_c G 0, 16, .inl f)
  | 7 => .inl (g_c G 1, 16, .inl f)
  | 9 => .inl (g_c G 0, 3, .inl f)
  | 11 => .inl (g_c G 0, 12, .inl f)
  | 12 => .inl (g_c G 0, 12, .inl f)
  | 13 => .inl (g_c G 0, 12, .inl f)
  | 14 => .inl (g_c G 0, 192, .inl f)
  | 15 => .inl (g_c G 0, 12, .inl f)
  | 16 => .inl (g_c G 0, 12, .inl f)
  | 17 => .inl (g_c G 1, 12, .inl f)
  | 18 => .inl (g_c G 0, 12, .inl f)
  | 19 => .inl (g_c G 0, 12, .inl f)
  | 20 => .inl (g_c G 0, 12, .inl f)
  | 23 => .inl (g_c G 0, 1024, .inl f)
  | 24 => .inl (g_c G 0, 1024, .inl f)
  | 26 => .inl (g_c G 0, 16, .inl f)
  | 27 => .inl (g_c G 0, 16, .inl f)
  | 29 => .inl (g_c G 0, 16, .inl f)
  | _ => .inl (g_c G 0, 0, .inl f)
def mM (G : XG) (ma ow : Nat → Nat) (sc : Nat → Int32) (R : Nat → Nat → Int32) (h : HM) : Prop := h (ma 30) = some (mObj ma sc) ∧ (∀ k, k ∈ mA → h (ma k) = some (arrM G k (R k))) ∧ ∀ k, k ∈ 30 :: mA → ow (ma k) = k
def rowUp (R : Nat → Nat → Int32) (k : Nat) (f : Nat → Int32) : Nat → Nat → Int32 := fun j => if j = k then f else R j
theorem rowUp_at {R : Nat → Nat → Int32} {k : Nat} {f : Nat → Int32} : rowUp R k f k = f := if_pos rfl
theorem rowUp_ne {R : Nat → Nat → Int32} {k j : Nat} {f : Nat → Int32} (h : j ≠ k) : rowUp R k f j = R j := if_neg h
theorem set2_row (R : Nat → Nat → Int32) (k i : Nat) (x : Int32) : rowUp R k (upd (R k) i x) = set2 R k i x := rfl
section MM
variable {G : XG} {ma ow : Nat → Nat} {sc : Nat → Int32} {R : Nat → Nat → Int32} {h : HM}
theorem mM.ne {j k : Nat} (hM : mM G ma ow sc R h) (hj : j ∈ 30 :: mA) (hk : k ∈ 30 :: mA) (n : j ≠ k) : ma j ≠ ma k := fun e => by
  have := congrArg ow e
  rw [hM.2.2 j hj, hM.2.2 k hk] at this
  exact n this
theorem mM.set {k : Nat} (hM : mM G ma ow sc R h) (hk : k ∈ mA) (f : Nat → Int32) : mM G ma ow sc (rowUp R k f) (x_up h (ma k) (arrM G k f)) := by
  refine ⟨?_, fun j hj => ?_, hM.2.2⟩
  · rw [x_up_ne (hM.ne (by simp) (List.mem_cons_of_mem _ hk) (fun z => by rw [← z] at hk; exact absurd hk (by decide)))]
    exact hM.1
  · by_cases e : j = k
    · subst e; rw [x_up_eq, rowUp_at]
    · rw [x_up_ne (hM.ne (List.mem_cons_of_mem _ hj) (List.mem_cons_of_mem _ hk) e), rowUp_ne e]
      exact hM.2.1 j hj
theorem mM.num (hM : mM G ma ow sc R h) (sc' : Nat → Int32) : mM G ma ow sc' R (x_up h (ma 30) (mObj ma sc')) := by
  refine ⟨x_up_eq _ _ _, fun j hj => ?_, hM.2.2⟩
  rw [x_up_ne (hM.ne (List.mem_cons_of_mem _ hj) (by simp) (fun z => by rw [z] at hj; exact absurd hj (by decide)))]
  exact hM.2.1 j hj
theorem mM.a2 (hM : mM G ma ow sc R h) : h (ma 2) = some (.inl (g_c G 0, 16, .inl (R 2))) := hM.2.1 2 (by decide)
theorem mM.a3 (hM : mM G ma ow sc R h) : h (ma 3) = some (.inl (g_c G 0, 16, .inl (R 3))) := hM.2.1 3 (by decide)
theorem mM.a4 (hM : mM G ma ow sc R h) : h (ma 4) = some (.inl (g_c G 0, 16, .inl (R 4))) := hM.2.1 4 (by decide)
theorem mM.a5 (hM : mM G ma ow sc R h) : h (ma 5) = some (.inl (g_c G 0, 16, .inl (R 5))) := hM.2.1 5 (by decide)
theorem mM.a6 (hM : mM G ma ow sc R h) : h (ma 6) = some (.inl (g_c G 0, 16, .inl (R 6))) := hM.2.1 6 (by decide)
theorem mM.a7 (hM : mM G ma ow sc R h) : h (ma 7) = some (.inl (g_c G 1, 16, .inl (R 7))) := hM.2.1 7 (by decide)
theorem mM.a9 (hM : mM G ma ow sc R h) : h (ma 9) = some (.inl (g_c G 0, 3, .inl (R 9))) := hM.2.1 9 (by decide)
theorem mM.a11 (hM : mM G ma ow sc R h) : h (ma 11) = some (.inl (g_c G 0, 12, .inl (R 11))) := hM.2.1 11 (by decide)
theorem mM.a12 (hM : mM G ma ow sc R h) : h (ma 12) = some (.inl (g_c G 0, 12, .inl (R 12))) := hM.2.1 12 (by decide)
theorem mM.a13 (hM : mM G ma ow sc R h) : h (ma 13) = some (.inl (g_c G 0, 12, .inl (R 13))) := hM.2.1 13 (by decide)
theorem mM.a14 (hM : mM G ma ow sc R h) : h (ma 14) = some (.inl (g_c G 0, 192, .inl (R 14))) := hM.2.1 14 (by decide)
theorem mM.a15 (hM : mM G ma ow sc R h) : h (ma 15) = some (.inl (g_c G 0, 12, .inl (R 15))) := hM.2.1 15 (by decide)
theorem mM.a16 (hM : mM G ma ow sc R h) : h (ma 16) = some (.inl (g_c G 0, 12, .inl (R 16))) := hM.2.1 16 (by decide)
theorem mM.a17 (hM : mM G ma ow sc R h) : h (ma 17) = some (.inl (g_c G 1, 12, .inl (R 17))) := hM.2.1 17 (by decide)
theorem mM.a18 (hM : mM G ma ow sc R h) : h (ma 18) = some (.inl (g_c G 0, 12, .inl (R 18))) := hM.2.1 18 (by decide)
theorem mM.a19 (hM : mM G ma ow sc R h) : h (ma 19) = some (.inl (g_c G 0, 12, .inl (R 19))) := hM.2.1 19 (by decide)
theorem mM.a20 (hM : mM G ma ow sc R h) : h (ma 20) = some (.inl (g_c G 0, 12, .inl (R 20))) := hM.2.1 20 (by decide)
theorem mM.a23 (hM : mM G ma ow sc R h) : h (ma 23) = some (.inl (g_c G 0, 1024, .inl (R 23))) := hM.2.1 23 (by decide)
theorem mM.a24 (hM : mM G ma ow sc R h) : h (ma 24) = some (.inl (g_c G 0, 1024, .inl (R 24))) := hM.2.1 24 (by decide)
theorem mM.a26 (hM : mM G ma ow sc R h) : h (ma 26) = some (.inl (g_c G 0, 16, .inl (R 26))) := hM.2.1 26 (by decide)
theorem mM.a27 (hM : mM G ma ow sc R h) : h (ma 27) = some (.inl (g_c G 0, 16, .inl (R 27))) := hM.2.1 27 (by decide)
theorem mM.a29 (hM : mM G ma ow sc R h) : h (ma 29) = some (.inl (g_c G 0, 16, .inl (R 29))) := hM.2.1 29 (by decide)
theorem mM.o (hM : mM G ma ow sc R h) : h (ma 30) = some (.inr (8, [.int (sc 0), .int (sc 1), .ref (ma 2), .ref (ma 3), .ref (ma 4), .ref (ma 5), .ref (ma 6), .ref (ma 7), .int (sc 8), .ref (ma 9), .int (sc 10), .ref (ma 11), .ref (ma 12), .ref (ma 13), .ref (ma 14), .ref (ma 15), .ref (ma 16), .ref (ma 17), .ref (ma 18), .ref (ma 19), .ref (ma 20), .int (sc 21), .int (sc 22), .ref (ma 23), .ref (ma 24), .int (sc 25), .ref (ma 26), .ref (ma 27), .int (sc 28), .ref (ma 29)])) := hM.1
end MM
