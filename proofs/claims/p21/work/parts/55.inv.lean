/-! the invariant over a tick's goings -/
theorem filt_len {α : Type} (p : α → Bool) : ∀ l : List α, (l.filter p).length + (l.filter (fun x => !p x)).length = l.length
  | [] => rfl
  | a :: l => by
    have ih := filt_len p l
    cases h : p a with
    | true =>
      rw [List.filter_cons_of_pos h, List.filter_cons_of_neg (by rw [h]; decide)]
      simp only [List.length_cons]
      omega
    | false =>
      rw [List.filter_cons_of_neg (by rw [h]; decide), List.filter_cons_of_pos (by rw [h]; rfl)]
      simp only [List.length_cons]
      omega
def jI (S : PS) (i : Nat) : Prop := cI (stI S i) ∧ (∃ cs : List Nat, s_H (stI S i) = s_H S ++ cs.map (entB (s_t S + 1)) ∧ cs.Nodup ∧ ∀ x, x ∈ cs → x < 12) ∧ (s_N (stI S i)).length + (dueP S).length ≤ (s_N S).length + i
theorem jI_0 {S : PS} (h : cI S) (ht : s_t S + 1 < 2 ^ 20) : jI S 0 := by
  refine ⟨cI_tk h ht, ⟨[], (List.append_nil _).symm, List.nodup_nil, fun x hx => by simp at hx⟩, ?_⟩
  have e := filt_len (fun x : Nat × Nat => decide (x.2 = s_t S + 1)) (s_N S)
  have e2 : (dueP S).length = ((s_N S).filter (fun x : Nat × Nat => decide (x.2 = s_t S + 1))).length := by
    unfold dueP
    rw [List.length_map]
  show ((s_N S).filter (fun x => !decide (x.2 = s_t S + 1))).length + (dueP S).length ≤ (s_N S).length + 0
  rw [e2]
  omega
theorem jI_len {S : PS} {i c : Nat} (h : jI S i) (h0 : cI S) (ht : s_t S + 1 < 2 ^ 20) (hc : c < s_C S) (hl : (s_H S).length + 12 ≤ 122880) : (strF (entB (s_t (stI S i)) c) (s_H (stI S i))).length < 122880 ∧ ∃ cs : List Nat, strF (entB (s_t (stI S i)) c) (s_H (stI S i)) ++ [entB (s_t (stI S i)) c] = s_H S ++ cs.map (entB (s_t S + 1)) ∧ cs.Nodup ∧ ∀ x, x ∈ cs → x < 12 := by
  obtain ⟨_, ⟨cs, e1, e2, e3⟩, _⟩ := h
  have hC := h0.1.2.2.1
  obtain ⟨_, _, _, _, k5⟩ := stI_keep S i
  rw [k5, e1, strF_blk h0.2.2.2.2.2.2.2.2.1 hC (by omega) e2 e3 (by omega)]
  have hnd : (cs.filter (fun x => !decide (x = c)) ++ [c]).Nodup := nodup_push (e2.filter _) (fun x hx => by simpa using (List.mem_filter.mp hx).2)
  have hlt : ∀ x, x ∈ cs.filter (fun x => !decide (x = c)) ++ [c] → x < 12 := fun x hx => by
    rcases List.mem_append.mp hx with z | z
    · exact e3 x (List.mem_filter.mp z).1
    · rw [List.mem_singleton.mp z]; omega
  have hle := nd_len 12 _ hnd hlt
  rw [List.length_append, List.length_singleton] at hle
  refine ⟨?_, cs.filter (fun x => !decide (x = c)) ++ [c], ?_, hnd, hlt⟩
  · rw [List.length_append, List.length_map]
    omega
  · rw [List.map_append, ← List.append_assoc]
    rfl
theorem jI_s {S : PS} {i c : Nat} (h : jI S i) (h0 : cI S) (ht : s_t S + 1 < 2 ^ 20) (hd : (dueP S)[i]? = some c) (hc : c < s_C S) (hl : (s_H S).length + 12 ≤ 122880) : jI S (i + 1) := by
  obtain ⟨l1, cs, l2, l3, l4⟩ := jI_len h h0 ht hc hl
  obtain ⟨h1, hcs, h3⟩ := h
  obtain ⟨k1, k2, k3, k4, k5⟩ := stI_keep S i
  unfold jI
  rw [stI_s hd]
  unfold stepP
  by_cases e : canP (s_ar (stI S i)) (s_L (stI S i)) (s_B (stI S i)) (s_G (stI S i)) c = true
  · rw [if_pos e]
    refine ⟨cI_beg h1 (by rw [k4]; exact hc) (by rw [k5]; exact ht) l1, ⟨cs, l2, l3, l4⟩, ?_⟩
    have : (s_N (begP c (stI S i))).length ≤ (s_N (stI S i)).length + 1 := by
      show (nxP (s_ar (stI S i)) c (s_t (stI S i)) (s_N (stI S i))).length ≤ _
      unfold nxP
      split
      · omega
      · rw [List.length_append]
        exact Nat.le_refl _
    omega
  · rw [if_neg e]
    refine ⟨cI_bar h1, hcs, ?_⟩
    show (s_N (stI S i)).length + (dueP S).length ≤ (s_N S).length + (i + 1)
    omega
theorem due_lt {S : PS} (h : cI S) {c : Nat} (hc : c ∈ dueP S) : c < s_C S := by
  unfold dueP at hc
  obtain ⟨x, hx, e⟩ := List.mem_map.mp hc
  rw [← e]
  exact (h.2.2.2.2.2.1 x (List.mem_filter.mp hx).1).1
theorem jI_all {S : PS} (h0 : cI S) (ht : s_t S + 1 < 2 ^ 20) (hl : (s_H S).length + 12 ≤ 122880) : ∀ i, i ≤ (dueP S).length → jI S i
  | 0, _ => jI_0 h0 ht
  | i + 1, hi => by
    have hx : (dueP S)[i]? = some (dueP S)[i] := List.getElem?_eq_getElem (by omega)
    exact jI_s (jI_all h0 ht hl i (by omega)) h0 ht hx (due_lt h0 (List.mem_of_getElem? hx)) hl
theorem stI_mono {S : PS} (h0 : cI S) (ht : s_t S + 1 < 2 ^ 20) (hl : (s_H S).length + 12 ≤ 122880) : ∀ d i, i + d = (dueP S).length → s_n (stI S i) ≤ s_n (stI S (dueP S).length)
  | 0, i, hi => by rw [show i = (dueP S).length by omega]; exact Nat.le_refl _
  | d + 1, i, hi => by
    have ih := stI_mono h0 ht hl d (i + 1) (by omega)
    have hx : (dueP S)[i]? = some (dueP S)[i] := List.getElem?_eq_getElem (by omega)
    have hj := jI_all h0 ht hl i (by omega)
    have := stepP_n (c := (dueP S)[i]) hj.1.2.2.2.2.2.2.1
    rw [← stI_s hx] at this
    omega
theorem cI_pI {S : PS} (h0 : cI S) (ht : s_t S + 1 < 2 ^ 20) (hl : (s_H S).length + 12 ≤ 122880) (hN : (s_N S).length ≤ 511) : pI S := by
  refine ⟨h0.1.2.2.2.1, fun x hx => ?_, by omega, by omega, fun i hi => ?_, fun i hi => ?_⟩
  · have := h0.2.2.2.2.2.1 x hx
    exact ⟨this.1, by omega⟩
  · have hj := jI_all h0 ht hl i (by omega)
    obtain ⟨k1, k2, k3, k4, k5⟩ := stI_keep S i
    refine ⟨hj.1.1.2.2.2.1, hj.1.2.2.1, hj.1.2.2.2.2.2.2.1, by have := hj.2.2; omega, fun c hc => ?_⟩
    exact (jI_len hj h0 ht (by rw [k4] at hc; exact hc) hl).1
  · rw [← stI_n]
    exact stI_mono h0 ht hl ((dueP S).length - i) i (by omega)
theorem cI_pass1 {S : PS} (h0 : cI S) (ht : s_t S + 1 < 2 ^ 20) (hl : (s_H S).length + 12 ≤ 122880) : cI (pass1 S) ∧ (s_H (pass1 S)).length ≤ (s_H S).length + 12 ∧ (s_N (pass1 S)).length ≤ (s_N S).length := by
  obtain ⟨h1, ⟨cs, e1, e2, e3⟩, h3⟩ := jI_all h0 ht hl (dueP S).length (Nat.le_refl _)
  rw [stI_n] at h1 e1 h3
  refine ⟨h1, ?_, by omega⟩
  rw [e1, List.length_append, List.length_map]
  have := nd_len 12 cs e2 e3
  omega
/-! the invariant by the calls -/
def iI (S : PS) (k : Nat) : Prop := cI S ∧ s_t S ≤ 20 * k ∧ (s_N S).length ≤ k ∧ (s_H S).length ≤ 240 * k
theorem iI.up {S : PS} {k : Nat} (h : iI S k) : iI S (k + 1) := ⟨h.1, by have := h.2.1; omega, by have := h.2.2.1; omega, by have := h.2.2.2; omega⟩
theorem iI_passK {S : PS} {k : Nat} (h : iI S k) (hk : k ≤ 511) : ∀ j, j ≤ 20 → cI (passK S j) ∧ s_t (passK S j) = s_t S + j ∧ (s_N (passK S j)).length ≤ k ∧ (s_H (passK S j)).length ≤ 240 * k + 12 * j
  | 0, _ => ⟨h.1, rfl, h.2.2.1, by have := h.2.2.2; show (s_H S).length ≤ _; omega⟩
  | j + 1, hj => by
    obtain ⟨a1, a2, a3, a4⟩ := iI_passK h hk j (by omega)
    have ht := h.2.1
    obtain ⟨b1, b2, b3⟩ := cI_pass1 a1 (by omega) (by omega)
    refine ⟨b1, (passK_keep S (j + 1)).2.2.2.2, ?_, ?_⟩
    · show (s_N (pass1 (passK S j))).length ≤ k
      omega
    · show (s_H (pass1 (passK S j))).length ≤ _
      omega
theorem iI_pI {S : PS} {k : Nat} (h : iI S k) (hk : k ≤ 511) : ∀ j, j < 20 → pI (passK S j) ∧ (s_N (passK S j)).length ≤ 511 := fun j hj => by
  obtain ⟨a1, a2, a3, a4⟩ := iI_passK h hk j (by omega)
  have ht := h.2.1
  exact ⟨cI_pI a1 (by omega) (by omega) (by omega), by omega⟩
theorem iI_pass {S : PS} {k X : Nat} (h : iI S k) (hk : k ≤ 511) (hX : X ≤ 20) : iI (passK S X) (k + 1) := by
  obtain ⟨a1, a2, a3, a4⟩ := iI_passK h hk X hX
  have ht := h.2.1
  exact ⟨a1, by omega, by omega, by omega⟩
theorem iI.bI {S : PS} {k : Nat} (h : iI S k) (hk : k ≤ 511) : bI S := by
  have a := h.2.2.2
  have b := h.2.2.1
  refine ⟨h.1.1.2.2.2.1, h.1.2.2.1, h.1.2.2.2.2.2.2.1, by omega, fun c _ => ?_⟩
  have := strF_len (entB (s_t S) c) (s_H S)
  omega
theorem iI_go {S : PS} {k c : Nat} (h : iI S k) (hk : k ≤ 511) (hc : c < s_C S) : iI (begP c S) (k + 1) := by
  have a := h.2.2.2
  have b := h.2.2.1
  have t := h.2.1
  have l := strF_len (entB (s_t S) c) (s_H S)
  refine ⟨cI_beg h.1 hc (by omega) (by omega), by show s_t S ≤ _; omega, ?_, ?_⟩
  · show (nxP (s_ar S) c (s_t S) (s_N S)).length ≤ k + 1
    unfold nxP
    split
    · omega
    · rw [List.length_append, List.length_singleton]
      omega
  · show (strF (entB (s_t S) c) (s_H S) ++ [entB (s_t S) c]).length ≤ _
    rw [List.length_append, List.length_singleton]
    omega
