/-! THE LAYER: a goal of a walk with the heap as a map from addresses to cells, and the locals as a list; rows of the kit told in these words -/
abbrev HM : Type := Nat → Option va_E
def x_up (h : HM) (a : Nat) (e : va_E) : HM := fun q => if q = a then some e else h q
theorem x_up_eq (h : HM) (a : Nat) (e : va_E) : x_up h a e a = some e := if_pos rfl
theorem x_up_ne {h : HM} {a b : Nat} {e : va_E} (n : b ≠ a) : x_up h a e b = h b := if_neg n
abbrev XG : Type := Launch × va_G × (Nat → ClassId) × (Nat → Prop)
abbrev XF : Type := Program × Env × Room × State × MethodId × Array Value × List Frame × Method × Code
abbrev g_l (G : XG) : Launch := G.1
abbrev g_D (G : XG) : va_G := G.2.1
abbrev g_c (G : XG) : Nat → ClassId := G.2.2.1
abbrev g_A (G : XG) : Nat → Prop := G.2.2.2
abbrev f_p (F : XF) : Program := F.1
abbrev f_e (F : XF) : Env := F.2.1
abbrev f_R (F : XF) : Room := F.2.2.1
abbrev f_s (F : XF) : State := F.2.2.2.1
abbrev f_m (F : XF) : MethodId := F.2.2.2.2.1
abbrev f_a (F : XF) : Array Value := F.2.2.2.2.2.1
abbrev f_b (F : XF) : List Frame := F.2.2.2.2.2.2.1
abbrev f_t (F : XF) : Method := F.2.2.2.2.2.2.2.1
abbrev f_c (F : XF) : Code := F.2.2.2.2.2.2.2.2
/-- the arrays' classes: ints (thrice), lamps, cues, goings -/
def x_T (c : Nat → ClassId) : List (ClassId × FieldType) := [(c 0, .int), (c 0, .int), (c 0, .int), (c 3, .object RX4), (c 4, .object RX0), (c 5, .object RX1)]
def x_H (G : XG) (h : HM) (H : Heap) : Prop := ∀ (a : Nat) (e : va_E), h a = some e → va_at (g_D G) vwCl (a, e) H ∧ g_A G a
def x_loc (ls : Array Slot) (L : List (Option Value)) : Prop := ls.size = L.length ∧ lv_wf ls ∧ ∀ (i : Nat) (v : Value), L[i]? = some (some v) → ls[i]? = some (.val v) ∧ v.category = 1
def x_pairs (L : List (Option Value)) : List (Nat × Value) := (List.range L.length).filterMap (fun i => (L[i]?).join.map (fun v => (i, v)))
theorem x_pairs_mem {L : List (Option Value)} {i : Nat} {v : Value} (h : L[i]? = some (some v)) : (i, v) ∈ x_pairs L := by
  refine List.mem_filterMap.mpr ⟨i, List.mem_range.mpr (List.getElem?_eq_some_iff.mp h).1, ?_⟩
  rw [h]
  rfl
theorem x_loc.has {ls : Array Slot} {L : List (Option Value)} (h : x_loc ls L) : lv_has ls L.length (x_pairs L) := by
  refine ⟨h.1, h.2.1, fun q hq => ?_⟩
  obtain ⟨i, -, hi⟩ := List.mem_filterMap.mp hq
  cases hv : L[i]? with
  | none => rw [hv] at hi; cases hi
  | some o =>
    rw [hv] at hi
    cases o with
    | none => cases hi
    | some v =>
      cases hi
      exact (h.2.2 i v hv).1
theorem x_loc.set {ls ls' : Array Slot} {L : List (Option Value)} {i : Nat} {v : Value} (h : x_loc ls L) (hi : i < L.length) (hc : v.category = 1) (h' : lv_has ls' L.length ((i, v) :: (x_pairs L).filter (fun q => !(q.1 == i) && !(q.1 + 1 == i && q.2.category == 2)))) : x_loc ls' (L.set i (some v)) := by
  refine ⟨by rw [h'.1, List.length_set], h'.2.1, fun j w hj => ?_⟩
  by_cases e : j = i
  · subst e
    rw [List.getElem?_set_self hi] at hj
    cases hj
    exact ⟨h'.2.2 (j, v) List.mem_cons_self, hc⟩
  · rw [List.getElem?_set_ne (Ne.symm e)] at hj
    have hw := h.2.2 j w hj
    refine ⟨h'.2.2 (j, w) (List.mem_cons_of_mem _ (List.mem_filter.mpr ⟨x_pairs_mem hj, ?_⟩)), hw.2⟩
    simp [e, hw.2]
def x_AO (U : State) : Prop := va_AO RX4 U ∧ va_AO RX0 U ∧ va_AO RX1 U
theorem x_AO.moved {u U : State} (hvm : u.vm.Alike U.vm) (h : x_AO u) : x_AO U := ⟨h.1.moved hvm, h.2.1.moved hvm, h.2.2.moved hvm⟩
def x_E (G : XG) (F : XF) (cc : ByteArray) (own : String) (Ts : List Cond) (nL : Nat) (ret : Option FieldType) (rm : Room) : Prop :=
  (f_p F).tables.exec = Jvm.exec ∧ (f_c F).code = cc ∧ (f_c F).maxLocals = nL ∧ (f_s F).vm.findClass own = some (f_m F).cls ∧ (∀ w ∈ Ts, w.before (f_a F) (f_s F) = true) ∧ va_K (g_D G) vwCl (x_T (g_c G)) (f_s F) ∧ ((f_t F).locks = false ∧ x_AO (f_s F)) ∧ (f_t F).sig.returnType = ret ∧ f_R F = rm ∧ (∀ q, (f_s F).heap.size ≤ q → g_A G q)
def x_W (G : XG) (F : XF) (Q : State → Prop) (k n : Nat) (h : HM) (pc : Nat) (L : List (Option Value)) (st : List Value) : Prop :=
  ∀ (H : Heap) (locs : List Loc) (ls : Array Slot), x_H G h H → va_S (g_A G) (f_s F).heap H locs → x_loc ls L → W (f_p F) (g_l G) (f_e F) (f_R F) (f_s F) (f_m F) (f_a F) (f_b F) (f_t F) (f_c F) H locs k n Q (F0 (f_m F) pc ls st)
def x_rv : Value → Bool | .ref _ => true | .null => true | _ => false
theorem x_rv_rf (r : Option Nat) : x_rv (va_rf r) = true := by cases r <;> rfl
section X1
variable {G : XG} {F : XF} {cc : ByteArray} {own : String} {Ts : List Cond} {nL : Nat} {ret : Option FieldType} {rm : Room} {Q : State → Prop} {a b : Nat} {h : HM} {pc : Nat} {L L' : List (Option Value)} {st : List Value}
theorem x_iconst (hE : x_E G F cc own Ts nL ret rm) {n : Int} {v : Int32} (d : decode cc pc = .ok (.iconst n, 1)) (hv : Int32.ofInt n = v) (kk : x_W G F Q a b h (pc + 1) L (.int v :: st)) : x_W G F Q a b h pc L st := fun H locs ls hH hS hL => lv_iconst hE.1 hE.2.1 d hv (kk H locs ls hH hS hL)
theorem x_bipush (hE : x_E G F cc own Ts nL ret rm) {n : Int} {v : Int32} (d : decode cc pc = .ok (.bipush n, 2)) (hv : (Int8.ofInt n).toInt32 = v) (kk : x_W G F Q a b h (pc + 2) L (.int v :: st)) : x_W G F Q a b h pc L st := fun H locs ls hH hS hL => lv_bipush hE.1 hE.2.1 d hv (kk H locs ls hH hS hL)
theorem x_sipush (hE : x_E G F cc own Ts nL ret rm) {n : Int} {v : Int32} (d : decode cc pc = .ok (.sipush n, 3)) (hv : (Int16.ofInt n).toInt32 = v) (kk : x_W G F Q a b h (pc + 3) L (.int v :: st)) : x_W G F Q a b h pc L st := fun H locs ls hH hS hL => lv_sipush hE.1 hE.2.1 d hv (kk H locs ls hH hS hL)
theorem x_lconst (hE : x_E G F cc own Ts nL ret rm) {n : Fin 2} {v : Int64} (d : decode cc pc = .ok (.lconst n, 1)) (hv : Int64.ofNat (n : Nat) = v) (kk : x_W G F Q a b h (pc + 1) L (.long v :: st)) : x_W G F Q a b h pc L st := fun H locs ls hH hS hL => lv_lconst hE.1 hE.2.1 d hv (kk H locs ls hH hS hL)
theorem x_ldc (hE : x_E G F cc own Ts nL ret rm) {index : Nat} {v : Int32} (hw : Jvm.Cond.constant own index v ∈ Ts) (d : decode cc pc = .ok (.ldc index, 2)) (kk : x_W G F Q a b h (pc + 2) L (.int v :: st)) : x_W G F Q a b h pc L st := fun H locs ls hH hS hL => lv_ldc hE.1 hE.2.1 hE.2.2.2.1 (hE.2.2.2.2.1 _ hw) d (kk H locs ls hH hS hL)
theorem x_ldcf (hE : x_E G F cc own Ts nL ret rm) {index : Nat} {v : UInt32} (hw : Jvm.Cond.constantFloat own index v ∈ Ts) (d : decode cc pc = .ok (.ldc index, 2)) (kk : x_W G F Q a b h (pc + 2) L (.float v :: st)) : x_W G F Q a b h pc L st := fun H locs ls hH hS hL => lv_ldcf hE.1 hE.2.1 hE.2.2.2.1 (hE.2.2.2.2.1 _ hw) d (kk H locs ls hH hS hL)
theorem x_ldcw (hE : x_E G F cc own Ts nL ret rm) {index : Nat} {v : Int32} (hw : Jvm.Cond.constant own index v ∈ Ts) (d : decode cc pc = .ok (.ldc_w index, 3)) (kk : x_W G F Q a b h (pc + 3) L (.int v :: st)) : x_W G F Q a b h pc L st := fun H locs ls hH hS hL => lv_ldcw hE.1 hE.2.1 hE.2.2.2.1 (hE.2.2.2.2.1 _ hw) d (kk H locs ls hH hS hL)
theorem x_null (hE : x_E G F cc own Ts nL ret rm) (d : decode cc pc = .ok (.aconst_null, 1)) (kk : x_W G F Q a b h (pc + 1) L (.null :: st)) : x_W G F Q a b h pc L st := fun H locs ls hH hS hL => lv_null hE.1 hE.2.1 d (kk H locs ls hH hS hL)
theorem x_iload_n (hE : x_E G F cc own Ts nL ret rm) {k : Fin 4} {x : Int32} (d : decode cc pc = .ok (.iload_n k, 1)) (hl : L[(k : Nat)]? = some (some (.int x))) (kk : x_W G F Q a b h (pc + 1) L (.int x :: st)) : x_W G F Q a b h pc L st := fun H locs ls hH hS hL => lv_iload_n hE.1 hE.2.1 d rfl (hL.2.2 _ _ hl).1 (kk H locs ls hH hS hL)
theorem x_iload (hE : x_E G F cc own Ts nL ret rm) {i : Nat} {x : Int32} (d : decode cc pc = .ok (.iload i, 2)) (hl : L[i]? = some (some (.int x))) (kk : x_W G F Q a b h (pc + 2) L (.int x :: st)) : x_W G F Q a b h pc L st := fun H locs ls hH hS hL => lv_iload hE.1 hE.2.1 d (hL.2.2 _ _ hl).1 (kk H locs ls hH hS hL)
theorem x_fload_n (hE : x_E G F cc own Ts nL ret rm) {k : Fin 4} {x : UInt32} (d : decode cc pc = .ok (.fload_n k, 1)) (hl : L[(k : Nat)]? = some (some (.float x))) (kk : x_W G F Q a b h (pc + 1) L (.float x :: st)) : x_W G F Q a b h pc L st := fun H locs ls hH hS hL => lv_fload_n hE.1 hE.2.1 d rfl (hL.2.2 _ _ hl).1 (kk H locs ls hH hS hL)
theorem x_fload (hE : x_E G F cc own Ts nL ret rm) {i : Nat} {x : UInt32} (d : decode cc pc = .ok (.fload i, 2)) (hl : L[i]? = some (some (.float x))) (kk : x_W G F Q a b h (pc + 2) L (.float x :: st)) : x_W G F Q a b h pc L st := fun H locs ls hH hS hL => lv_fload hE.1 hE.2.1 d (hL.2.2 _ _ hl).1 (kk H locs ls hH hS hL)
theorem x_aload_n (hE : x_E G F cc own Ts nL ret rm) {k : Fin 4} {v : Value} (d : decode cc pc = .ok (.aload_n k, 1)) (hl : L[(k : Nat)]? = some (some v)) (hv : x_rv v = true) (kk : x_W G F Q a b h (pc + 1) L (v :: st)) : x_W G F Q a b h pc L st := fun H locs ls hH hS hL => by
  have h1 := (hL.2.2 _ _ hl).1
  cases v with
  | ref r => exact lv_aload_n hE.1 hE.2.1 d rfl h1 (kk H locs ls hH hS hL)
  | null => exact lv_aload_nN hE.1 hE.2.1 d rfl h1 (kk H locs ls hH hS hL)
  | _ => cases hv
theorem x_aload (hE : x_E G F cc own Ts nL ret rm) {i : Nat} {v : Value} (d : decode cc pc = .ok (.aload i, 2)) (hl : L[i]? = some (some v)) (hv : x_rv v = true) (kk : x_W G F Q a b h (pc + 2) L (v :: st)) : x_W G F Q a b h pc L st := fun H locs ls hH hS hL => by
  have h1 := (hL.2.2 _ _ hl).1
  cases v with
  | ref r => exact lv_aload hE.1 hE.2.1 d h1 (kk H locs ls hH hS hL)
  | null => exact lv_aloadN hE.1 hE.2.1 d h1 (kk H locs ls hH hS hL)
  | _ => cases hv
theorem x_istore_n (hE : x_E G F cc own Ts nL ret rm) {k : Fin 4} {i : Nat} {x : Int32} (d : decode cc pc = .ok (.istore_n k, 1)) (hi : (k : Nat) = i) (hn : i < L.length) (hL' : L.set i (some (.int x)) = L') (kk : x_W G F Q a b h (pc + 1) L' st) : x_W G F Q a b h pc L (.int x :: st) := by
  subst hL'
  exact fun H locs ls hH hS hL => lv_istore_n hE.1 hE.2.1 d hi hL.has hn rfl (fun ls' hl' => kk H locs ls' hH hS (hL.set hn rfl hl'))
theorem x_istore (hE : x_E G F cc own Ts nL ret rm) {i : Nat} {x : Int32} (d : decode cc pc = .ok (.istore i, 2)) (hn : i < L.length) (hL' : L.set i (some (.int x)) = L') (kk : x_W G F Q a b h (pc + 2) L' st) : x_W G F Q a b h pc L (.int x :: st) := by
  subst hL'
  exact fun H locs ls hH hS hL => lv_istore hE.1 hE.2.1 d hL.has hn rfl (fun ls' hl' => kk H locs ls' hH hS (hL.set hn rfl hl'))
theorem x_fstore_n (hE : x_E G F cc own Ts nL ret rm) {k : Fin 4} {i : Nat} {x : UInt32} (d : decode cc pc = .ok (.fstore_n k, 1)) (hi : (k : Nat) = i) (hn : i < L.length) (hL' : L.set i (some (.float x)) = L') (kk : x_W G F Q a b h (pc + 1) L' st) : x_W G F Q a b h pc L (.float x :: st) := by
  subst hL'
  exact fun H locs ls hH hS hL => lv_fstore_n hE.1 hE.2.1 d hi hL.has hn rfl (fun ls' hl' => kk H locs ls' hH hS (hL.set hn rfl hl'))
theorem x_fstore (hE : x_E G F cc own Ts nL ret rm) {i : Nat} {x : UInt32} (d : decode cc pc = .ok (.fstore i, 2)) (hn : i < L.length) (hL' : L.set i (some (.float x)) = L') (kk : x_W G F Q a b h (pc + 2) L' st) : x_W G F Q a b h pc L (.float x :: st) := by
  subst hL'
  exact fun H locs ls hH hS hL => lv_fstore hE.1 hE.2.1 d hL.has hn rfl (fun ls' hl' => kk H locs ls' hH hS (hL.set hn rfl hl'))
theorem x_astore_n (hE : x_E G F cc own Ts nL ret rm) {k : Fin 4} {i : Nat} {v : Value} (d : decode cc pc = .ok (.astore_n k, 1)) (hi : (k : Nat) = i) (hn : i < L.length) (hv : x_rv v = true) (hL' : L.set i (some v) = L') (kk : x_W G F Q a b h (pc + 1) L' st) : x_W G F Q a b h pc L (v :: st) := by
  subst hL'
  intro H locs ls hH hS hL
  cases v with
  | ref r => exact lv_astore_n hE.1 hE.2.1 d hi hL.has hn rfl (fun ls' hl' => kk H locs ls' hH hS (hL.set hn rfl hl'))
  | null => exact lv_astore_nN hE.1 hE.2.1 d hi hL.has hn rfl (fun ls' hl' => kk H locs ls' hH hS (hL.set hn rfl hl'))
  | _ => cases hv
theorem x_astore (hE : x_E G F cc own Ts nL ret rm) {i : Nat} {v : Value} (d : decode cc pc = .ok (.astore i, 2)) (hn : i < L.length) (hv : x_rv v = true) (hL' : L.set i (some v) = L') (kk : x_W G F Q a b h (pc + 2) L' st) : x_W G F Q a b h pc L (v :: st) := by
  subst hL'
  intro H locs ls hH hS hL
  cases v with
  | ref r => exact lv_astore hE.1 hE.2.1 d hL.has hn rfl (fun ls' hl' => kk H locs ls' hH hS (hL.set hn rfl hl'))
  | null => exact lv_astoreN hE.1 hE.2.1 d hL.has hn rfl (fun ls' hl' => kk H locs ls' hH hS (hL.set hn rfl hl'))
  | _ => cases hv
theorem x_iinc (hE : x_E G F cc own Ts nL ret rm) {i : Nat} {n : Int} {x v : Int32} (d : decode cc pc = .ok (.iinc i n, 3)) (hl : L[i]? = some (some (.int x))) (hv : x + Int32.ofInt n = v) (hL' : L.set i (some (.int v)) = L') (kk : x_W G F Q a b h (pc + 3) L' st) : x_W G F Q a b h pc L st := by
  subst hL'
  intro H locs ls hH hS hL
  have hn : i < L.length := (List.getElem?_eq_some_iff.mp hl).1
  obtain ⟨k, hk⟩ := List.getElem?_of_mem (x_pairs_mem hl)
  exact lv_iinc hE.1 hE.2.1 d hL.has (k := k) hk hv hn rfl (fun ls' hl' => kk H locs ls' hH hS (hL.set hn rfl hl'))
theorem x_iadd (hE : x_E G F cc own Ts nL ret rm) {x y : Int32} (d : decode cc pc = .ok (.iadd, 1)) (kk : x_W G F Q a b h (pc + 1) L (.int (x + y) :: st)) : x_W G F Q a b h pc L (.int y :: .int x :: st) := fun H locs ls hH hS hL => lv_iadd hE.1 hE.2.1 d (kk H locs ls hH hS hL)
theorem x_isub (hE : x_E G F cc own Ts nL ret rm) {x y : Int32} (d : decode cc pc = .ok (.isub, 1)) (kk : x_W G F Q a b h (pc + 1) L (.int (x - y) :: st)) : x_W G F Q a b h pc L (.int y :: .int x :: st) := fun H locs ls hH hS hL => lv_isub hE.1 hE.2.1 d (kk H locs ls hH hS hL)
theorem x_imul (hE : x_E G F cc own Ts nL ret rm) {x y : Int32} (d : decode cc pc = .ok (.imul, 1)) (kk : x_W G F Q a b h (pc + 1) L (.int (x * y) :: st)) : x_W G F Q a b h pc L (.int y :: .int x :: st) := fun H locs ls hH hS hL => lv_imul hE.1 hE.2.1 d (kk H locs ls hH hS hL)
theorem x_iand (hE : x_E G F cc own Ts nL ret rm) {x y : Int32} (d : decode cc pc = .ok (.iand, 1)) (kk : x_W G F Q a b h (pc + 1) L (.int (x &&& y) :: st)) : x_W G F Q a b h pc L (.int y :: .int x :: st) := fun H locs ls hH hS hL => lv_iand hE.1 hE.2.1 d (kk H locs ls hH hS hL)
theorem x_ior (hE : x_E G F cc own Ts nL ret rm) {x y : Int32} (d : decode cc pc = .ok (.ior, 1)) (kk : x_W G F Q a b h (pc + 1) L (.int (x ||| y) :: st)) : x_W G F Q a b h pc L (.int y :: .int x :: st) := fun H locs ls hH hS hL => lv_ior hE.1 hE.2.1 d (kk H locs ls hH hS hL)
theorem x_ishl (hE : x_E G F cc own Ts nL ret rm) {x y : Int32} (d : decode cc pc = .ok (.ishl, 1)) (kk : x_W G F Q a b h (pc + 1) L (.int (x <<< (y &&& 31)) :: st)) : x_W G F Q a b h pc L (.int y :: .int x :: st) := fun H locs ls hH hS hL => lv_ishl hE.1 hE.2.1 d (kk H locs ls hH hS hL)
theorem x_ishr (hE : x_E G F cc own Ts nL ret rm) {x y : Int32} (d : decode cc pc = .ok (.ishr, 1)) (kk : x_W G F Q a b h (pc + 1) L (.int (x >>> (y &&& 31)) :: st)) : x_W G F Q a b h pc L (.int y :: .int x :: st) := fun H locs ls hH hS hL => lv_ishr hE.1 hE.2.1 d (kk H locs ls hH hS hL)
theorem x_idiv (hE : x_E G F cc own Ts nL ret rm) {x y : Int32} (d : decode cc pc = .ok (.idiv, 1)) (hne : ¬ y = 0) (kk : x_W G F Q a b h (pc + 1) L (.int (x / y) :: st)) : x_W G F Q a b h pc L (.int y :: .int x :: st) := fun H locs ls hH hS hL => lv_idiv hE.1 hE.2.1 d hne (kk H locs ls hH hS hL)
theorem x_irem (hE : x_E G F cc own Ts nL ret rm) {x y : Int32} (d : decode cc pc = .ok (.irem, 1)) (hne : ¬ y = 0) (kk : x_W G F Q a b h (pc + 1) L (.int (x - x / y * y) :: st)) : x_W G F Q a b h pc L (.int y :: .int x :: st) := fun H locs ls hH hS hL => lv_irem hE.1 hE.2.1 d hne (kk H locs ls hH hS hL)
theorem x_ineg (hE : x_E G F cc own Ts nL ret rm) {x : Int32} (d : decode cc pc = .ok (.ineg, 1)) (kk : x_W G F Q a b h (pc + 1) L (.int (-x) :: st)) : x_W G F Q a b h pc L (.int x :: st) := fun H locs ls hH hS hL => lv_ineg hE.1 hE.2.1 d (kk H locs ls hH hS hL)
theorem x_i2l (hE : x_E G F cc own Ts nL ret rm) {x : Int32} (d : decode cc pc = .ok (.i2l, 1)) (kk : x_W G F Q a b h (pc + 1) L (.long x.toInt64 :: st)) : x_W G F Q a b h pc L (.int x :: st) := fun H locs ls hH hS hL => lv_i2l hE.1 hE.2.1 d rfl (kk H locs ls hH hS hL)
theorem x_lcmp (hE : x_E G F cc own Ts nL ret rm) {x y : Int64} (d : decode cc pc = .ok (.lcmp, 1)) (kk : x_W G F Q a b h (pc + 1) L (.int (lg_cmp x y) :: st)) : x_W G F Q a b h pc L (.long y :: .long x :: st) := fun H locs ls hH hS hL => W.lcmp hE.1 hE.2.1 d (kk H locs ls hH hS hL)
theorem x_dup (hE : x_E G F cc own Ts nL ret rm) {v : Value} (d : decode cc pc = .ok (.dup, 1)) (hv : v.category = 1) (kk : x_W G F Q a b h (pc + 1) L (v :: v :: st)) : x_W G F Q a b h pc L (v :: st) := fun H locs ls hH hS hL => lv_dup hE.1 hE.2.1 d hv (kk H locs ls hH hS hL)
theorem x_goto (hE : x_E G F cc own Ts nL ret rm) {off : Int} {tgt : Nat} (d : decode cc pc = .ok (.goto off, 3)) (ht : (pc : Int) + off = (tgt : Int)) (kk : x_W G F Q a b h tgt L st) : x_W G F Q a b h pc L st := fun H locs ls hH hS hL => lv_goto hE.1 hE.2.1 d ht (kk H locs ls hH hS hL)
theorem x_fconst0 (hE : x_E G F cc own Ts nL ret rm) (d : decode cc pc = .ok (.fconst 0, 1)) (kk : x_W G F Q a b h (pc + 1) L (.float FP.fconst0 :: st)) : x_W G F Q a b h pc L st := fun H locs ls hH hS hL => lv_fconst0 hE.1 hE.2.1 d (kk H locs ls hH hS hL)
theorem x_fconst1 (hE : x_E G F cc own Ts nL ret rm) (d : decode cc pc = .ok (.fconst 1, 1)) (kk : x_W G F Q a b h (pc + 1) L (.float FP.fconst1 :: st)) : x_W G F Q a b h pc L st := fun H locs ls hH hS hL => lv_fconst1 hE.1 hE.2.1 d (kk H locs ls hH hS hL)
theorem x_fconst2 (hE : x_E G F cc own Ts nL ret rm) (d : decode cc pc = .ok (.fconst 2, 1)) (kk : x_W G F Q a b h (pc + 1) L (.float FP.fconst2 :: st)) : x_W G F Q a b h pc L st := fun H locs ls hH hS hL => lv_fconst2 hE.1 hE.2.1 d (kk H locs ls hH hS hL)
theorem x_fadd (hE : x_E G F cc own Ts nL ret rm) {x y : UInt32} (d : decode cc pc = .ok (.fadd, 1)) (hne : vf_n32 (FP.fadd x y)) (kk : x_W G F Q a b h (pc + 1) L (.float (FP.fadd x y) :: st)) : x_W G F Q a b h pc L (.float y :: .float x :: st) := fun H locs ls hH hS hL => lv_fadd hE.1 hE.2.1 d hne (kk H locs ls hH hS hL)
theorem x_fsub (hE : x_E G F cc own Ts nL ret rm) {x y : UInt32} (d : decode cc pc = .ok (.fsub, 1)) (hne : vf_n32 (FP.fsub x y)) (kk : x_W G F Q a b h (pc + 1) L (.float (FP.fsub x y) :: st)) : x_W G F Q a b h pc L (.float y :: .float x :: st) := fun H locs ls hH hS hL => lv_fsub hE.1 hE.2.1 d hne (kk H locs ls hH hS hL)
theorem x_fmul (hE : x_E G F cc own Ts nL ret rm) {x y : UInt32} (d : decode cc pc = .ok (.fmul, 1)) (hne : vf_n32 (FP.fmul x y)) (kk : x_W G F Q a b h (pc + 1) L (.float (FP.fmul x y) :: st)) : x_W G F Q a b h pc L (.float y :: .float x :: st) := fun H locs ls hH hS hL => lv_fmul hE.1 hE.2.1 d hne (kk H locs ls hH hS hL)
theorem x_fdiv (hE : x_E G F cc own Ts nL ret rm) {x y : UInt32} (d : decode cc pc = .ok (.fdiv, 1)) (hne : vf_n32 (FP.fdiv x y)) (kk : x_W G F Q a b h (pc + 1) L (.float (FP.fdiv x y) :: st)) : x_W G F Q a b h pc L (.float y :: .float x :: st) := fun H locs ls hH hS hL => lv_fdiv hE.1 hE.2.1 d hne (kk H locs ls hH hS hL)
theorem x_fcmp (hE : x_E G F cc own Ts nL ret rm) {x y : UInt32} {op : CmpOp} (d : decode cc pc = .ok (.fcmp op, 1)) (kk : x_W G F Q a b h (pc + 1) L (.int (Op.cmpValue (FP.fcmp x y) op) :: st)) : x_W G F Q a b h pc L (.float y :: .float x :: st) := fun H locs ls hH hS hL => lv_fcmp hE.1 hE.2.1 d (kk H locs ls hH hS hL)
theorem x_i2f (hE : x_E G F cc own Ts nL ret rm) {x : Int32} (d : decode cc pc = .ok (.i2f, 1)) (kk : x_W G F Q a b h (pc + 1) L (.float (FP.i2f x) :: st)) : x_W G F Q a b h pc L (.int x :: st) := fun H locs ls hH hS hL => lv_i2f hE.1 hE.2.1 d (kk H locs ls hH hS hL)
theorem x_f2i (hE : x_E G F cc own Ts nL ret rm) {x : UInt32} (d : decode cc pc = .ok (.f2i, 1)) (kk : x_W G F Q a b h (pc + 1) L (.int (FP.f2i x) :: st)) : x_W G F Q a b h pc L (.float x :: st) := fun H locs ls hH hS hL => lv_f2i hE.1 hE.2.1 d (kk H locs ls hH hS hL)
end X1
section X2
variable {G : XG} {F : XF} {cc : ByteArray} {own : String} {Ts : List Cond} {nL : Nat} {ret : Option FieldType} {rm : Room} {Q : State → Prop} {a b : Nat} {h : HM} {pc : Nat} {L L' : List (Option Value)} {st : List Value}
theorem x_if_eq (hE : x_E G F cc own Ts nL ret rm) {x : Int32} {off : Int} {tgt : Nat} (d : decode cc pc = .ok (.ifCond .eq off, 3)) (ht : (pc : Int) + off = (tgt : Int)) (kt : x = 0 → x_W G F Q a b h tgt L st) (kf : ¬ x = 0 → x_W G F Q a b h (pc + 3) L st) : x_W G F Q a b h pc L (.int x :: st) := fun H locs ls hH hS hL => lv_if_eq hE.1 hE.2.1 d ht (fun c => kt c H locs ls hH hS hL) (fun c => kf c H locs ls hH hS hL)
theorem x_icmp_eq (hE : x_E G F cc own Ts nL ret rm) {x y : Int32} {off : Int} {tgt : Nat} (d : decode cc pc = .ok (.if_icmp .eq off, 3)) (ht : (pc : Int) + off = (tgt : Int)) (kt : x = y → x_W G F Q a b h tgt L st) (kf : ¬ x = y → x_W G F Q a b h (pc + 3) L st) : x_W G F Q a b h pc L (.int y :: .int x :: st) := fun H locs ls hH hS hL => lv_icmp_eq hE.1 hE.2.1 d ht (fun c => kt c H locs ls hH hS hL) (fun c => kf c H locs ls hH hS hL)
theorem x_if_ne (hE : x_E G F cc own Ts nL ret rm) {x : Int32} {off : Int} {tgt : Nat} (d : decode cc pc = .ok (.ifCond .ne off, 3)) (ht : (pc : Int) + off = (tgt : Int)) (kt : ¬ x = 0 → x_W G F Q a b h tgt L st) (kf : x = 0 → x_W G F Q a b h (pc + 3) L st) : x_W G F Q a b h pc L (.int x :: st) := fun H locs ls hH hS hL => lv_if_ne hE.1 hE.2.1 d ht (fun c => kt c H locs ls hH hS hL) (fun c => kf c H locs ls hH hS hL)
theorem x_icmp_ne (hE : x_E G F cc own Ts nL ret rm) {x y : Int32} {off : Int} {tgt : Nat} (d : decode cc pc = .ok (.if_icmp .ne off, 3)) (ht : (pc : Int) + off = (tgt : Int)) (kt : ¬ x = y → x_W G F Q a b h tgt L st) (kf : x = y → x_W G F Q a b h (pc + 3) L st) : x_W G F Q a b h pc L (.int y :: .int x :: st) := fun H locs ls hH hS hL => lv_icmp_ne hE.1 hE.2.1 d ht (fun c => kt c H locs ls hH hS hL) (fun c => kf c H locs ls hH hS hL)
theorem x_if_lt (hE : x_E G F cc own Ts nL ret rm) {x : Int32} {off : Int} {tgt : Nat} (d : decode cc pc = .ok (.ifCond .lt off, 3)) (ht : (pc : Int) + off = (tgt : Int)) (kt : x < 0 → x_W G F Q a b h tgt L st) (kf : ¬ x < 0 → x_W G F Q a b h (pc + 3) L st) : x_W G F Q a b h pc L (.int x :: st) := fun H locs ls hH hS hL => lv_if_lt hE.1 hE.2.1 d ht (fun c => kt c H locs ls hH hS hL) (fun c => kf c H locs ls hH hS hL)
theorem x_icmp_lt (hE : x_E G F cc own Ts nL ret rm) {x y : Int32} {off : Int} {tgt : Nat} (d : decode cc pc = .ok (.if_icmp .lt off, 3)) (ht : (pc : Int) + off = (tgt : Int)) (kt : x < y → x_W G F Q a b h tgt L st) (kf : ¬ x < y → x_W G F Q a b h (pc + 3) L st) : x_W G F Q a b h pc L (.int y :: .int x :: st) := fun H locs ls hH hS hL => lv_icmp_lt hE.1 hE.2.1 d ht (fun c => kt c H locs ls hH hS hL) (fun c => kf c H locs ls hH hS hL)
theorem x_if_ge (hE : x_E G F cc own Ts nL ret rm) {x : Int32} {off : Int} {tgt : Nat} (d : decode cc pc = .ok (.ifCond .ge off, 3)) (ht : (pc : Int) + off = (tgt : Int)) (kt : 0 ≤ x → x_W G F Q a b h tgt L st) (kf : ¬ 0 ≤ x → x_W G F Q a b h (pc + 3) L st) : x_W G F Q a b h pc L (.int x :: st) := fun H locs ls hH hS hL => lv_if_ge hE.1 hE.2.1 d ht (fun c => kt c H locs ls hH hS hL) (fun c => kf c H locs ls hH hS hL)
theorem x_icmp_ge (hE : x_E G F cc own Ts nL ret rm) {x y : Int32} {off : Int} {tgt : Nat} (d : decode cc pc = .ok (.if_icmp .ge off, 3)) (ht : (pc : Int) + off = (tgt : Int)) (kt : y ≤ x → x_W G F Q a b h tgt L st) (kf : ¬ y ≤ x → x_W G F Q a b h (pc + 3) L st) : x_W G F Q a b h pc L (.int y :: .int x :: st) := fun H locs ls hH hS hL => lv_icmp_ge hE.1 hE.2.1 d ht (fun c => kt c H locs ls hH hS hL) (fun c => kf c H locs ls hH hS hL)
theorem x_if_gt (hE : x_E G F cc own Ts nL ret rm) {x : Int32} {off : Int} {tgt : Nat} (d : decode cc pc = .ok (.ifCond .gt off, 3)) (ht : (pc : Int) + off = (tgt : Int)) (kt : 0 < x → x_W G F Q a b h tgt L st) (kf : ¬ 0 < x → x_W G F Q a b h (pc + 3) L st) : x_W G F Q a b h pc L (.int x :: st) := fun H locs ls hH hS hL => lv_if_gt hE.1 hE.2.1 d ht (fun c => kt c H locs ls hH hS hL) (fun c => kf c H locs ls hH hS hL)
theorem x_icmp_gt (hE : x_E G F cc own Ts nL ret rm) {x y : Int32} {off : Int} {tgt : Nat} (d : decode cc pc = .ok (.if_icmp .gt off, 3)) (ht : (pc : Int) + off = (tgt : Int)) (kt : y < x → x_W G F Q a b h tgt L st) (kf : ¬ y < x → x_W G F Q a b h (pc + 3) L st) : x_W G F Q a b h pc L (.int y :: .int x :: st) := fun H locs ls hH hS hL => lv_icmp_gt hE.1 hE.2.1 d ht (fun c => kt c H locs ls hH hS hL) (fun c => kf c H locs ls hH hS hL)
theorem x_if_le (hE : x_E G F cc own Ts nL ret rm) {x : Int32} {off : Int} {tgt : Nat} (d : decode cc pc = .ok (.ifCond .le off, 3)) (ht : (pc : Int) + off = (tgt : Int)) (kt : x ≤ 0 → x_W G F Q a b h tgt L st) (kf : ¬ x ≤ 0 → x_W G F Q a b h (pc + 3) L st) : x_W G F Q a b h pc L (.int x :: st) := fun H locs ls hH hS hL => lv_if_le hE.1 hE.2.1 d ht (fun c => kt c H locs ls hH hS hL) (fun c => kf c H locs ls hH hS hL)
theorem x_icmp_le (hE : x_E G F cc own Ts nL ret rm) {x y : Int32} {off : Int} {tgt : Nat} (d : decode cc pc = .ok (.if_icmp .le off, 3)) (ht : (pc : Int) + off = (tgt : Int)) (kt : x ≤ y → x_W G F Q a b h tgt L st) (kf : ¬ x ≤ y → x_W G F Q a b h (pc + 3) L st) : x_W G F Q a b h pc L (.int y :: .int x :: st) := fun H locs ls hH hS hL => lv_icmp_le hE.1 hE.2.1 d ht (fun c => kt c H locs ls hH hS hL) (fun c => kf c H locs ls hH hS hL)
theorem x_ifnull (hE : x_E G F cc own Ts nL ret rm) {x : Nat} {off : Int} (d : decode cc pc = .ok (.ifnull off, 3)) (kk : x_W G F Q a b h (pc + 3) L st) : x_W G F Q a b h pc L (.ref x :: st) := fun H locs ls hH hS hL => lv_ifnull hE.1 hE.2.1 d (kk H locs ls hH hS hL)
theorem x_ifnullN (hE : x_E G F cc own Ts nL ret rm) {off : Int} {tgt : Nat} (d : decode cc pc = .ok (.ifnull off, 3)) (ht : (pc : Int) + off = (tgt : Int)) (kk : x_W G F Q a b h tgt L st) : x_W G F Q a b h pc L (.null :: st) := fun H locs ls hH hS hL => lv_ifnullN hE.1 hE.2.1 d ht (kk H locs ls hH hS hL)
theorem x_ifnonnull (hE : x_E G F cc own Ts nL ret rm) {x : Nat} {off : Int} {tgt : Nat} (d : decode cc pc = .ok (.ifnonnull off, 3)) (ht : (pc : Int) + off = (tgt : Int)) (kk : x_W G F Q a b h tgt L st) : x_W G F Q a b h pc L (.ref x :: st) := fun H locs ls hH hS hL => lv_ifnonnull hE.1 hE.2.1 d ht (kk H locs ls hH hS hL)
theorem x_ifnonnullN (hE : x_E G F cc own Ts nL ret rm) {off : Int} (d : decode cc pc = .ok (.ifnonnull off, 3)) (kk : x_W G F Q a b h (pc + 3) L st) : x_W G F Q a b h pc L (.null :: st) := fun H locs ls hH hS hL => lv_ifnonnullN hE.1 hE.2.1 d (kk H locs ls hH hS hL)
theorem x_acmp_eq (hE : x_E G F cc own Ts nL ret rm) {rx ry : Option Nat} {off : Int} {tgt : Nat} (d : decode cc pc = .ok (.if_acmp .eq off, 3)) (ht : (pc : Int) + off = (tgt : Int)) (kt : rx = ry → x_W G F Q a b h tgt L st) (kf : ¬ rx = ry → x_W G F Q a b h (pc + 3) L st) : x_W G F Q a b h pc L (va_rf ry :: va_rf rx :: st) := fun H locs ls hH hS hL => lv_acmp_eq hE.1 hE.2.1 d ht (fun c => kt c H locs ls hH hS hL) (fun c => kf c H locs ls hH hS hL)
theorem x_acmp_ne (hE : x_E G F cc own Ts nL ret rm) {rx ry : Option Nat} {off : Int} {tgt : Nat} (d : decode cc pc = .ok (.if_acmp .ne off, 3)) (ht : (pc : Int) + off = (tgt : Int)) (kt : ¬ rx = ry → x_W G F Q a b h tgt L st) (kf : rx = ry → x_W G F Q a b h (pc + 3) L st) : x_W G F Q a b h pc L (va_rf ry :: va_rf rx :: st) := fun H locs ls hH hS hL => lv_acmp_ne hE.1 hE.2.1 d ht (fun c => kt c H locs ls hH hS hL) (fun c => kf c H locs ls hH hS hL)
theorem x_widen {k n : Nat} (h1 : a ≤ k) (h2 : b ≤ n) (kk : x_W G F Q k n h pc L st) : x_W G F Q a b h pc L st := fun H locs ls hH hS hL => W.widen h1 h2 (kk H locs ls hH hS hL)
theorem x_tableIn (hE : x_E G F cc own Ts nL ret rm) {dflt lo hi : Int} {offs : Array Int} {len : Nat} {x : Int32} {off : Int} {tgt : Nat} (d : decode cc pc = .ok (.tableswitch dflt lo hi offs, len)) (h1 : ¬ x.toInt < lo) (h2 : ¬ hi < x.toInt) (ho : offs[(x.toInt - lo).toNat]? = some off) (ht : (pc : Int) + off = (tgt : Int)) (kk : x_W G F Q a b h tgt L st) : x_W G F Q a b h pc L (.int x :: st) := fun H locs ls hH hS hL => lv_tableIn hE.1 hE.2.1 d h1 h2 ho ht (kk H locs ls hH hS hL)
theorem x_tableOut (hE : x_E G F cc own Ts nL ret rm) {dflt lo hi : Int} {offs : Array Int} {len : Nat} {x : Int32} {tgt : Nat} (d : decode cc pc = .ok (.tableswitch dflt lo hi offs, len)) (h1 : x.toInt < lo ∨ hi < x.toInt) (ht : (pc : Int) + dflt = (tgt : Int)) (kk : x_W G F Q a b h tgt L st) : x_W G F Q a b h pc L (.int x :: st) := fun H locs ls hH hS hL => lv_tableOut hE.1 hE.2.1 d h1 ht (kk H locs ls hH hS hL)
end X2
