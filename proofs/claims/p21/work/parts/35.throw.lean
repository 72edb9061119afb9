/-! the three throws of the book -/
set_option maxRecDepth 100000 in
theorem yIA_ng : ∀ w ∈ (vx_atS RX7 71 xIA xNs).filter (fun w => !goodWord w), w ∈ Cond.castable xIA xIA :: xDs.map (fun n => Cond.declares (Bundle.initS n)) := by decide +kernel
set_option maxRecDepth 100000 in
theorem yIS_ng : ∀ w ∈ (vx_atS RX7 82 xIS xNs).filter (fun w => !goodWord w), w ∈ Cond.castable xIS xIS :: xDs.map (fun n => Cond.declares (Bundle.initS n)) := by decide +kernel
set_option maxRecDepth 100000 in
theorem yIO_ng : ∀ w ∈ (vx_atS RX7 103 xIO xNs).filter (fun w => !goodWord w), w ∈ Cond.castable xIO xIO :: xDs.map (fun n => Cond.declares (Bundle.initS n)) := by decide +kernel
set_option maxRecDepth 100000 in
theorem yIA_ok : ∀ w ∈ Cond.classLink RX7 67 xIA :: Cond.initialized xIA :: vx_atS RX7 71 xIA xNs, vx_ot w = true := by decide +kernel
set_option maxRecDepth 100000 in
theorem yIS_ok : ∀ w ∈ Cond.classLink RX7 78 xIS :: Cond.initialized xIS :: vx_atS RX7 82 xIS xNs, vx_ot w = true := by decide +kernel
set_option maxRecDepth 100000 in
theorem yIO_ok : ∀ w ∈ Cond.classLink RX7 99 xIO :: Cond.initialized xIO :: vx_atS RX7 103 xIO xNs, vx_ot w = true := by decide +kernel
section Y2
variable {G : XG} {F : XF} {cc : ByteArray} {Ts : List Cond} {nL : Nat} {ret : Option FieldType} {rm : Room} {a b : Nat} {h : HM} {pc : Nat} {L : List (Option Value)} {st : List Value} {post : Option Value → HM → Prop} {thr : String → Prop} {mc ms : Nat}
theorem y_IA (hE : x_E G F cc RX7 Ts nL ret rm) (hT : x_TF G (f_s F) (f_s F).heap) (hX : ∀ x ∈ (f_c F).exceptionTable.toList, False) {is : Nat} {text : String} (hs : (is, text) ∈ strT) (hk : Cond.classLink RX7 67 xIA ∈ Ts) (hini : Cond.initialized xIA ∈ Ts) (hat : ∀ w ∈ (vx_atS RX7 71 xIA xNs).filter goodWord, w ∈ Ts) (hL0 : L.length = nL)
    (d0 : decode cc pc = .ok (.new 67, 3)) (d3 : decode cc (pc + 3) = .ok (.dup, 1)) (d4 : decode cc (pc + 4) = .ok (.ldc is, 2)) (d6 : decode cc (pc + 6) = .ok (.invokespecial 71, 3)) (d9 : decode cc (pc + 9) = .ok (.athrow, 1))
    (hfr : 6 ≤ rm.frames) (hlo : (st.map fun v => v.category).sum + 82 ≤ rm.locals) (hrm : a + 1 ≤ rm.cells ∧ b + 6 ≤ rm.slots) (hc : a + 1 ≤ mc ∧ b + 6 ≤ ms) (hthr : thr xIA) : x_W G F (y_Q G F post thr h mc ms) a b h pc L st := y_throw hE hT hX (by decide) hT.2.1.2.1 hs hk hini hat yIA_ng yIA_ok hL0 d0 d3 d4 d6 d9 hfr hlo hrm hc hthr
theorem y_IS (hE : x_E G F cc RX7 Ts nL ret rm) (hT : x_TF G (f_s F) (f_s F).heap) (hX : ∀ x ∈ (f_c F).exceptionTable.toList, False) {is : Nat} {text : String} (hs : (is, text) ∈ strT) (hk : Cond.classLink RX7 78 xIS ∈ Ts) (hini : Cond.initialized xIS ∈ Ts) (hat : ∀ w ∈ (vx_atS RX7 82 xIS xNs).filter goodWord, w ∈ Ts) (hL0 : L.length = nL)
    (d0 : decode cc pc = .ok (.new 78, 3)) (d3 : decode cc (pc + 3) = .ok (.dup, 1)) (d4 : decode cc (pc + 4) = .ok (.ldc is, 2)) (d6 : decode cc (pc + 6) = .ok (.invokespecial 82, 3)) (d9 : decode cc (pc + 9) = .ok (.athrow, 1))
    (hfr : 6 ≤ rm.frames) (hlo : (st.map fun v => v.category).sum + 82 ≤ rm.locals) (hrm : a + 1 ≤ rm.cells ∧ b + 6 ≤ rm.slots) (hc : a + 1 ≤ mc ∧ b + 6 ≤ ms) (hthr : thr xIS) : x_W G F (y_Q G F post thr h mc ms) a b h pc L st := y_throw hE hT hX (by decide) hT.2.1.2.2 hs hk hini hat yIS_ng yIS_ok hL0 d0 d3 d4 d6 d9 hfr hlo hrm hc hthr
theorem y_IO (hE : x_E G F cc RX7 Ts nL ret rm) (hT : x_TF G (f_s F) (f_s F).heap) (hX : ∀ x ∈ (f_c F).exceptionTable.toList, False) {is : Nat} {text : String} (hs : (is, text) ∈ strT) (hk : Cond.classLink RX7 99 xIO ∈ Ts) (hini : Cond.initialized xIO ∈ Ts) (hat : ∀ w ∈ (vx_atS RX7 103 xIO xNs).filter goodWord, w ∈ Ts) (hL0 : L.length = nL)
    (d0 : decode cc pc = .ok (.new 99, 3)) (d3 : decode cc (pc + 3) = .ok (.dup, 1)) (d4 : decode cc (pc + 4) = .ok (.ldc is, 2)) (d6 : decode cc (pc + 6) = .ok (.invokespecial 103, 3)) (d9 : decode cc (pc + 9) = .ok (.athrow, 1))
    (hfr : 6 ≤ rm.frames) (hlo : (st.map fun v => v.category).sum + 82 ≤ rm.locals) (hrm : a + 1 ≤ rm.cells ∧ b + 6 ≤ rm.slots) (hc : a + 1 ≤ mc ∧ b + 6 ≤ ms) (hthr : thr xIO) : x_W G F (y_Q G F post thr h mc ms) a b h pc L st := y_throw hE hT hX (by decide) hT.2.1.1 hs hk hini hat yIO_ng yIO_ok hL0 d0 d3 d4 d6 d9 hfr hlo hrm hc hthr
end Y2
/-! the calls' faults -/
def inI (x : Int32) (lo hi : Nat) : Bool := decide (nI lo ≤ x) && decide (x ≤ nI hi)
def glI (x : Int32) : Bool := decide (0 ≤ x) && (decide (x / nI 10 ≤ nI 5) && decide (x - x / nI 10 * nI 10 ≤ nI 5))
theorem inI_is {x : Int32} {lo hi : Nat} (h : inI x lo hi = true) (hh : hi < 2 ^ 31) (hl : lo < 2 ^ 31) : ∃ k, lo ≤ k ∧ k ≤ hi ∧ x = nI k := by
  obtain ⟨h1, h2⟩ := Bool.and_eq_true_iff.mp h
  have h1 := of_decide_eq_true h1
  have h2 := of_decide_eq_true h2
  have hx : (0 : Int32) ≤ x := by
    have := nI_pos' (n := lo) hl
    rw [Int32.le_iff_toInt_le] at *
    omega
  rcases pk_ix x (n := hi) hh with z | z | ⟨k, hk, e⟩
  · exact absurd hx (x_lt0 z)
  · refine ⟨hi, ?_, Nat.le_refl _, ?_⟩
    · have a1 := Int32.le_iff_toInt_le.mp h1
      have a2 := Int32.le_iff_toInt_le.mp h2
      rw [nI_toInt hl] at a1
      rw [nI_toInt hh] at a2
      omega
    · refine Int32.toInt.inj ?_
      have a1 := Int32.le_iff_toInt_le.mp z
      have a2 := Int32.le_iff_toInt_le.mp h2
      omega
  · subst e
    exact ⟨k, x_nIle h1 hl (by omega), by omega, rfl⟩
