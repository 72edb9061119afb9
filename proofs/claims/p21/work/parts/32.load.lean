/-! a phase's load, lamp by lamp -/
def ldN (ar : Nat → Nat → Int32) (L : Nat) (B : Int32) (t : Nat) (GL : List GG) (ph : Int32) : Nat → UInt32
  | 0 => FP.fconst0
  | n + 1 => if n < L ∧ ar 6 n = ph then FP.fadd (ldN ar L B t GL ph n) (FP.fdiv (FP.fmul (FP.i2f (ar 5 n)) (mixG ar L B t GL n)) c100) else ldN ar L B t GL ph n
theorem ldN_y {ar : Nat → Nat → Int32} {L t n : Nat} {B : Int32} {GL : List GG} {ph : Int32} (h : n < L ∧ ar 6 n = ph) : ldN ar L B t GL ph (n + 1) = FP.fadd (ldN ar L B t GL ph n) (FP.fdiv (FP.fmul (FP.i2f (ar 5 n)) (mixG ar L B t GL n)) c100) := by
  conv => lhs; unfold ldN
  rw [if_pos h]
theorem ldN_n {ar : Nat → Nat → Int32} {L t n : Nat} {B : Int32} {GL : List GG} {ph : Int32} (h : ¬ (n < L ∧ ar 6 n = ph)) : ldN ar L B t GL ph (n + 1) = ldN ar L B t GL ph n := by
  conv => lhs; unfold ldN
  rw [if_neg h]
def laI (ar : Nat → Nat → Int32) (L : Nat) : Prop := ∀ i, i < L → ∃ w, 100 ≤ w ∧ w ≤ 2000 ∧ ar 5 i = nI w
/-- what the levels and loads want -/
def fI (ar : Nat → Nat → Int32) (L C t : Nat) (GL : List GG) : Prop := laI ar L ∧ toI ar C ∧ C ≤ 12 ∧ gI C GL ∧ ∀ g, g ∈ GL → goI ar t g
theorem ldN_is {ar : Nat → Nat → Int32} {L C t : Nat} {B : Int32} {GL : List GG} {ph : Int32} (h : fI ar L C t GL) : ∀ n, n ≤ 16 → lvI (26000 * n) (ldN ar L B t GL ph n)
  | 0, _ => lvI_zero _
  | n + 1, hn => by
    have ih := ldN_is (B := B) (ph := ph) h n (by omega)
    obtain ⟨hla, hto, h12, hg, hgo⟩ := h
    by_cases c : n < L ∧ ar 6 n = ph
    · rw [ldN_y c]
      obtain ⟨w, h1, h2, e⟩ := hla n c.1
      rw [e]
      exact (load_is ih (mixG_lv hto h12 hg hgo) h1 h2 (by omega)).2.2.2
    · rw [ldN_n c]
      exact ih.up (by omega)
theorem mas_mg {ad ow : Nat → Nat} {eA : Nat} {Q1 Q2 A : List Nat} {ct : Nat → GC} {ar : Nat → Nat → Int32} {L L' C t : Nat} {B : Int32} {GL : List GG} (hO : oW ad ow eA Q1 Q2 L' C) (hA : A.map ct = GL.map (embG ad)) (h : fI ar L C t GL) : ∀ x, x ∈ A → mg (gMas ct (cuK ow ar L B) (nI t) x) < 128 * 2 ^ 23 := by
  intro x hx
  have h1 : ct x ∈ GL.map (embG ad) := by rw [← hA]; exact List.mem_map.mpr ⟨x, hx, rfl⟩
  obtain ⟨g, hg, e⟩ := List.mem_map.mp h1
  rw [(gFacts (ar := ar) (L := L) (B := B) hO h.2.2.2.1.2 hg e.symm t 0).2.2]
  exact (masP_is (h.2.2.2.2 g hg)).mg
/-- 'ldc_w' of a float by its atom -/
theorem x_ldcwF {p : Program} {l : Launch} {e : Env} {R : Room} {s : State} {m : MethodId} {args : Array Value} {below : List Frame} {meth : Method} {c : Code} {T : State} {locs : List Loc} {cells slots : Nat} (X : Stand p l e R s m args below meth c T locs cells slots) (hexec : p.tables.exec = Jvm.exec) {own : String} {index : Nat} {v : UInt32} (hown : s.vm.findClass own = some m.cls)
    (hconst : (Cond.constantFloat own index v).before args s = true) {g : JFrame} (hg : g.method = m) (hdg : decode c.code g.pc = .ok (.ldc_w index, 3)) :
    ∀ target, Steps p.tables e below (T.setTop { g with pc := g.pc + 3, stack := .float v :: g.stack }) target → Steps p.tables e below (T.setTop g) target := by
  obtain ⟨k, cf, hk, hcf, hcp⟩ := Cond.constantFloat_spec hown hconst
  obtain ⟨k', hk', he⟩ := X.warmed.alike.2.2 _ _ hk
  intro target hrest
  subst hg
  jvm_step X.here [hexec, hdg, ldc_w.wp_float (s := T) (f := g) X.here.top hk' (by rw [he]; exact hcf) hcp]
  exact hrest
theorem x_ldcwf {G : XG} {F : XF} {cc : ByteArray} {own : String} {Ts : List Cond} {nL : Nat} {ret : Option FieldType} {rm : Room} {Q : State → Prop} {a b : Nat} {h : HM} {pc : Nat} {L : List (Option Value)} {st : List Value} (hE : x_E G F cc own Ts nL ret rm) {index : Nat} {v : UInt32} (hw : Jvm.Cond.constantFloat own index v ∈ Ts) (d : decode cc pc = .ok (.ldc_w index, 3)) (kk : x_W G F Q a b h (pc + 3) L (.float v :: st)) : x_W G F Q a b h pc L st := by
  intro H locs ls hH hS hL T hT X
  obtain ⟨t, a1, b1⟩ := kk H locs ls hH hS hL T hT X
  exact ⟨t, x_ldcwF X hE.1 hE.2.2.2.1 (hE.2.2.2.2.1 _ hw) (g := F0 (f_m F) pc ls st) rfl (by rw [hE.2.1]; exact d) t a1, b1⟩
