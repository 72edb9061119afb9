section
-- ===== PART A: goes FIRST, ahead of the names: the tables' words, and 'selects' of the private methods out of them =====
/-- a private method of a class that the tables say can be made, by its rows of tables_1 -/
def lw_okq (q : MethodName × Nat) : Prop := (q.1.cls ≠ "java/lang/invoke/MethodHandle" ∧ q.1.cls ≠ "java/lang/invoke/VarHandle") ∧ Cond.instantiable q.1.cls q.2 ∈ tables_1 ∧ Cond.privateMethod q.1 ∈ tables_1 ∧ Cond.instanceMethod q.1 ∈ tables_1
theorem lw_p0 : lw_okq (⟨"java/lang/Throwable", "fillInStackTrace", "(I)Ljava/lang/Throwable;"⟩, 6) := ⟨⟨by decide +kernel, by decide +kernel⟩, List.mem_of_getElem? (i := 215) (by decide +kernel), List.mem_of_getElem? (i := 213) (by decide +kernel), List.mem_of_getElem? (i := 214) (by decide +kernel)⟩
theorem lw_p1 : lw_okq (⟨"GelBook", "arrangeCues", "()V"⟩, 10) := ⟨⟨by decide +kernel, by decide +kernel⟩, List.mem_of_getElem? (i := 20) (by decide +kernel), List.mem_of_getElem? (i := 299) (by decide +kernel), List.mem_of_getElem? (i := 300) (by decide +kernel)⟩
theorem lw_p2 : lw_okq (⟨"GelBook", "cueAt", "(I)LGelBook$Cue;"⟩, 10) := ⟨⟨by decide +kernel, by decide +kernel⟩, List.mem_of_getElem? (i := 20) (by decide +kernel), List.mem_of_getElem? (i := 430) (by decide +kernel), List.mem_of_getElem? (i := 431) (by decide +kernel)⟩
theorem lw_p3 : lw_okq (⟨"GelBook", "canGo", "(LGelBook$Cue;)Z"⟩, 10) := ⟨⟨by decide +kernel, by decide +kernel⟩, List.mem_of_getElem? (i := 20) (by decide +kernel), List.mem_of_getElem? (i := 456) (by decide +kernel), List.mem_of_getElem? (i := 457) (by decide +kernel)⟩
theorem lw_p4 : lw_okq (⟨"GelBook", "wattsAsked", "(LGelBook$Cue;I)I"⟩, 10) := ⟨⟨by decide +kernel, by decide +kernel⟩, List.mem_of_getElem? (i := 20) (by decide +kernel), List.mem_of_getElem? (i := 460) (by decide +kernel), List.mem_of_getElem? (i := 461) (by decide +kernel)⟩
theorem lw_p5 : lw_okq (⟨"GelBook", "begin", "(LGelBook$Cue;)V"⟩, 10) := ⟨⟨by decide +kernel, by decide +kernel⟩, List.mem_of_getElem? (i := 20) (by decide +kernel), List.mem_of_getElem? (i := 490) (by decide +kernel), List.mem_of_getElem? (i := 491) (by decide +kernel)⟩
theorem lw_p6 : lw_okq (⟨"GelBook", "passOne", "()V"⟩, 10) := ⟨⟨by decide +kernel, by decide +kernel⟩, List.mem_of_getElem? (i := 20) (by decide +kernel), List.mem_of_getElem? (i := 595) (by decide +kernel), List.mem_of_getElem? (i := 596) (by decide +kernel)⟩
theorem lw_p7 : lw_okq (⟨"GelBook", "retell", "()V"⟩, 10) := ⟨⟨by decide +kernel, by decide +kernel⟩, List.mem_of_getElem? (i := 20) (by decide +kernel), List.mem_of_getElem? (i := 641) (by decide +kernel), List.mem_of_getElem? (i := 642) (by decide +kernel)⟩
theorem lw_p8 : lw_okq (⟨"GelBook", "loadNow", "(I)F"⟩, 10) := ⟨⟨by decide +kernel, by decide +kernel⟩, List.mem_of_getElem? (i := 20) (by decide +kernel), List.mem_of_getElem? (i := 670) (by decide +kernel), List.mem_of_getElem? (i := 671) (by decide +kernel)⟩
theorem lw_p9 : lw_okq (⟨"GelBookModel", "can", "(I)Z"⟩, 30) := ⟨⟨by decide +kernel, by decide +kernel⟩, List.mem_of_getElem? (i := 710) (by decide +kernel), List.mem_of_getElem? (i := 822) (by decide +kernel), List.mem_of_getElem? (i := 823) (by decide +kernel)⟩
theorem lw_p10 : lw_okq (⟨"GelBookModel", "isLamp", "(I)Z"⟩, 30) := ⟨⟨by decide +kernel, by decide +kernel⟩, List.mem_of_getElem? (i := 710) (by decide +kernel), List.mem_of_getElem? (i := 830) (by decide +kernel), List.mem_of_getElem? (i := 831) (by decide +kernel)⟩
theorem lw_p11 : lw_okq (⟨"GelBookModel", "isUsable", "(I)Z"⟩, 30) := ⟨⟨by decide +kernel, by decide +kernel⟩, List.mem_of_getElem? (i := 710) (by decide +kernel), List.mem_of_getElem? (i := 838) (by decide +kernel), List.mem_of_getElem? (i := 839) (by decide +kernel)⟩
theorem lw_p12 : lw_okq (⟨"GelBookModel", "isCue", "(I)Z"⟩, 30) := ⟨⟨by decide +kernel, by decide +kernel⟩, List.mem_of_getElem? (i := 710) (by decide +kernel), List.mem_of_getElem? (i := 854) (by decide +kernel), List.mem_of_getElem? (i := 855) (by decide +kernel)⟩
theorem lw_p13 : lw_okq (⟨"GelBookModel", "mayGo", "(I)Z"⟩, 30) := ⟨⟨by decide +kernel, by decide +kernel⟩, List.mem_of_getElem? (i := 710) (by decide +kernel), List.mem_of_getElem? (i := 866) (by decide +kernel), List.mem_of_getElem? (i := 867) (by decide +kernel)⟩
theorem lw_p14 : lw_okq (⟨"GelBookModel", "asked", "(II)I"⟩, 30) := ⟨⟨by decide +kernel, by decide +kernel⟩, List.mem_of_getElem? (i := 710) (by decide +kernel), List.mem_of_getElem? (i := 870) (by decide +kernel), List.mem_of_getElem? (i := 871) (by decide +kernel)⟩
theorem lw_p15 : lw_okq (⟨"GelBookModel", "raises", "(I)V"⟩, 30) := ⟨⟨by decide +kernel, by decide +kernel⟩, List.mem_of_getElem? (i := 710) (by decide +kernel), List.mem_of_getElem? (i := 874) (by decide +kernel), List.mem_of_getElem? (i := 875) (by decide +kernel)⟩
def lw_privs_1 : List (MethodName × Nat) := [(⟨"java/lang/Throwable", "fillInStackTrace", "(I)Ljava/lang/Throwable;"⟩, 6), (⟨"GelBook", "arrangeCues", "()V"⟩, 10), (⟨"GelBook", "cueAt", "(I)LGelBook$Cue;"⟩, 10), (⟨"GelBook", "canGo", "(LGelBook$Cue;)Z"⟩, 10), (⟨"GelBook", "wattsAsked", "(LGelBook$Cue;I)I"⟩, 10), (⟨"GelBook", "begin", "(LGelBook$Cue;)V"⟩, 10), (⟨"GelBook", "passOne", "()V"⟩, 10), (⟨"GelBook", "retell", "()V"⟩, 10), (⟨"GelBook", "loadNow", "(I)F"⟩, 10), (⟨"GelBookModel", "can", "(I)Z"⟩, 30), (⟨"GelBookModel", "isLamp", "(I)Z"⟩, 30), (⟨"GelBookModel", "isUsable", "(I)Z"⟩, 30), (⟨"GelBookModel", "isCue", "(I)Z"⟩, 30), (⟨"GelBookModel", "mayGo", "(I)Z"⟩, 30), (⟨"GelBookModel", "asked", "(II)I"⟩, 30), (⟨"GelBookModel", "raises", "(I)V"⟩, 30)]
theorem lw_r1 : ∀ q ∈ lw_privs_1, lw_okq q := List.forall_mem_cons.mpr ⟨lw_p0, List.forall_mem_cons.mpr ⟨lw_p1, List.forall_mem_cons.mpr ⟨lw_p2, List.forall_mem_cons.mpr ⟨lw_p3, List.forall_mem_cons.mpr ⟨lw_p4, List.forall_mem_cons.mpr ⟨lw_p5, List.forall_mem_cons.mpr ⟨lw_p6, List.forall_mem_cons.mpr ⟨lw_p7, List.forall_mem_cons.mpr ⟨lw_p8, List.forall_mem_cons.mpr ⟨lw_p9, List.forall_mem_cons.mpr ⟨lw_p10, List.forall_mem_cons.mpr ⟨lw_p11, List.forall_mem_cons.mpr ⟨lw_p12, List.forall_mem_cons.mpr ⟨lw_p13, List.forall_mem_cons.mpr ⟨lw_p14, List.forall_mem_cons.mpr ⟨lw_p15, fun _ h => absurd h List.not_mem_nil⟩⟩⟩⟩⟩⟩⟩⟩⟩⟩⟩⟩⟩⟩⟩⟩
theorem lw_p16 : lw_okq (⟨"GelBookModel", "finds", "(I)V"⟩, 30) := ⟨⟨by decide +kernel, by decide +kernel⟩, List.mem_of_getElem? (i := 710) (by decide +kernel), List.mem_of_getElem? (i := 878) (by decide +kernel), List.mem_of_getElem? (i := 879) (by decide +kernel)⟩
theorem lw_p17 : lw_okq (⟨"GelBookModel", "nearest", "(II)I"⟩, 30) := ⟨⟨by decide +kernel, by decide +kernel⟩, List.mem_of_getElem? (i := 710) (by decide +kernel), List.mem_of_getElem? (i := 882) (by decide +kernel), List.mem_of_getElem? (i := 883) (by decide +kernel)⟩
theorem lw_p18 : lw_okq (⟨"GelBookModel", "distance", "(II)I"⟩, 30) := ⟨⟨by decide +kernel, by decide +kernel⟩, List.mem_of_getElem? (i := 710) (by decide +kernel), List.mem_of_getElem? (i := 886) (by decide +kernel), List.mem_of_getElem? (i := 887) (by decide +kernel)⟩
theorem lw_p19 : lw_okq (⟨"GelBookModel", "goes", "(I)V"⟩, 30) := ⟨⟨by decide +kernel, by decide +kernel⟩, List.mem_of_getElem? (i := 710) (by decide +kernel), List.mem_of_getElem? (i := 893) (by decide +kernel), List.mem_of_getElem? (i := 894) (by decide +kernel)⟩
theorem lw_p20 : lw_okq (⟨"GelBookModel", "active", "()I"⟩, 30) := ⟨⟨by decide +kernel, by decide +kernel⟩, List.mem_of_getElem? (i := 710) (by decide +kernel), List.mem_of_getElem? (i := 897) (by decide +kernel), List.mem_of_getElem? (i := 898) (by decide +kernel)⟩
theorem lw_p21 : lw_okq (⟨"GelBookModel", "ends", "(I)V"⟩, 30) := ⟨⟨by decide +kernel, by decide +kernel⟩, List.mem_of_getElem? (i := 710) (by decide +kernel), List.mem_of_getElem? (i := 905) (by decide +kernel), List.mem_of_getElem? (i := 906) (by decide +kernel)⟩
theorem lw_p22 : lw_okq (⟨"GelBookModel", "follows", "()V"⟩, 30) := ⟨⟨by decide +kernel, by decide +kernel⟩, List.mem_of_getElem? (i := 710) (by decide +kernel), List.mem_of_getElem? (i := 913) (by decide +kernel), List.mem_of_getElem? (i := 914) (by decide +kernel)⟩
theorem lw_p23 : lw_okq (⟨"GelBookModel", "levelNow", "(I)F"⟩, 30) := ⟨⟨by decide +kernel, by decide +kernel⟩, List.mem_of_getElem? (i := 710) (by decide +kernel), List.mem_of_getElem? (i := 921) (by decide +kernel), List.mem_of_getElem? (i := 922) (by decide +kernel)⟩
theorem lw_p24 : lw_okq (⟨"GelBookModel", "after", "(I)I"⟩, 30) := ⟨⟨by decide +kernel, by decide +kernel⟩, List.mem_of_getElem? (i := 710) (by decide +kernel), List.mem_of_getElem? (i := 925) (by decide +kernel), List.mem_of_getElem? (i := 926) (by decide +kernel)⟩
theorem lw_p25 : lw_okq (⟨"GelBookModel", "master", "(I)F"⟩, 30) := ⟨⟨by decide +kernel, by decide +kernel⟩, List.mem_of_getElem? (i := 710) (by decide +kernel), List.mem_of_getElem? (i := 929) (by decide +kernel), List.mem_of_getElem? (i := 930) (by decide +kernel)⟩
theorem lw_p26 : lw_okq (⟨"GelBookModel", "rising", "(II)F"⟩, 30) := ⟨⟨by decide +kernel, by decide +kernel⟩, List.mem_of_getElem? (i := 710) (by decide +kernel), List.mem_of_getElem? (i := 933) (by decide +kernel), List.mem_of_getElem? (i := 934) (by decide +kernel)⟩
theorem lw_p27 : lw_okq (⟨"GelBookModel", "load", "(I)F"⟩, 30) := ⟨⟨by decide +kernel, by decide +kernel⟩, List.mem_of_getElem? (i := 710) (by decide +kernel), List.mem_of_getElem? (i := 950) (by decide +kernel), List.mem_of_getElem? (i := 951) (by decide +kernel)⟩
def lw_privs_2 : List (MethodName × Nat) := [(⟨"GelBookModel", "finds", "(I)V"⟩, 30), (⟨"GelBookModel", "nearest", "(II)I"⟩, 30), (⟨"GelBookModel", "distance", "(II)I"⟩, 30), (⟨"GelBookModel", "goes", "(I)V"⟩, 30), (⟨"GelBookModel", "active", "()I"⟩, 30), (⟨"GelBookModel", "ends", "(I)V"⟩, 30), (⟨"GelBookModel", "follows", "()V"⟩, 30), (⟨"GelBookModel", "levelNow", "(I)F"⟩, 30), (⟨"GelBookModel", "after", "(I)I"⟩, 30), (⟨"GelBookModel", "master", "(I)F"⟩, 30), (⟨"GelBookModel", "rising", "(II)F"⟩, 30), (⟨"GelBookModel", "load", "(I)F"⟩, 30)]
theorem lw_r2 : ∀ q ∈ lw_privs_2, lw_okq q := List.forall_mem_cons.mpr ⟨lw_p16, List.forall_mem_cons.mpr ⟨lw_p17, List.forall_mem_cons.mpr ⟨lw_p18, List.forall_mem_cons.mpr ⟨lw_p19, List.forall_mem_cons.mpr ⟨lw_p20, List.forall_mem_cons.mpr ⟨lw_p21, List.forall_mem_cons.mpr ⟨lw_p22, List.forall_mem_cons.mpr ⟨lw_p23, List.forall_mem_cons.mpr ⟨lw_p24, List.forall_mem_cons.mpr ⟨lw_p25, List.forall_mem_cons.mpr ⟨lw_p26, List.forall_mem_cons.mpr ⟨lw_p27, fun _ h => absurd h List.not_mem_nil⟩⟩⟩⟩⟩⟩⟩⟩⟩⟩⟩⟩
def lw_privs : List (MethodName × Nat) := lw_privs_1 ++ (lw_privs_2)
def lw_tbl : List Cond := k2_sels lw_privs ++ tables_1
theorem lw_privs_ok : ∀ q ∈ lw_privs, lw_okq q := by
  show ∀ q ∈ lw_privs_1 ++ (lw_privs_2), lw_okq q
  exact List.forall_mem_append.mpr ⟨lw_r1, lw_r2⟩
/-- the streams that the claim lets the run draw from -/
abbrev lw_cs : List Choice := [Jvm.Choice.named "NaN.bits"]
theorem lw_bits : nanBits ∈ lw_cs := by first | decide | exact List.mem_cons_self | simp [lw_cs, nanBits]
-- ===== end of PART A; then your names; then what follows =====
/-! THE CLAIM OUT OF ONE WALK OF THE LAW'S BODY. Your part is whole_start (and what it stands on); all else here is the same for every law, but numbers. -/
def R_law : String := "GelBookLaw"
def lw_P (b : Addr) (xs : List Int32) (args : Array Value) (s : State) : Prop := args = #[.ref b] ∧ s.IntsAt b xs ∧ xs.length ≤ 3072 ∧ (Jvm.Cond.and given_1 narrow_1).before args s = true
/-- what a walk over the start with the record d0 says of its end, said of the start itself -/
theorem lw_closed {s t : State} {o : Outcome} {d0 : Drawn} {L : List Loc} {k n : Nat} (hd0 : s.drawn.sameBut d0 lw_cs) (hv : ∃ v, o = .returned v) (hW : (s.setDrawn d0).WarmedH t.vm) (hs : (s.setDrawn d0).sameButNew ({ t with vm := s.vm } : State) L k n) : State.butDraws s t lw_cs (fun t1 => Framed s o t1 L k n) := by
  have h2 : t.drawn = d0 := congrArg State.drawn hs.1
  refine ⟨⟨hv, hW, State.sameButNew.setDrawn hs s.drawn⟩, ?_, by decide⟩
  rw [h2]
  exact hd0
def lw_Q (_ : Array Value) (s : State) (o : Outcome) (t : State) : Prop := o = .returned (some (.int 1)) ∧ State.butDraws s t lw_cs (fun t1 => Framed s o t1 [] 601024 7293034)
def lw_Z (below : List Frame) (a : Array Value) (s : State) : State → Prop := fun t => ∃ o, t.status = .running ∧ Ended t below o ∧ lw_Q a s o t
/-- the law's own end, with 1 on the stack, nothing written that was there before, its room as the claim has it; d0: the record of draws at this point (at the entry s.drawn: begin with 'refine W.base ?_' and 'have hd0 := Drawn.sameBut.refl s.drawn lw_cs') -/
theorem lw_ret {p : Program} {l : Launch} {e : Env} {s : State} {m : MethodId} {below : List Frame} {meth : Method} {c : Code} {b : Nat} {d0 : Drawn} (hd0 : s.drawn.sameBut d0 lw_cs) (hx : p.tables.exec = Jvm.exec) (hb : c.code = code) (hr : meth.sig.returnType = ret) (hlocks : meth.locks = false) {pc : Nat} {H : Heap} {ls : Array Slot} (hdg : decode code pc = .ok (.ireturn, 1)) : W p l e room_1 (s.setDrawn d0) m #[Value.ref b] below meth c H [] 601024 7293034 (lw_Z below #[Value.ref b] s) (F0 m pc ls [.int 1]) := by
  intro T hT X
  obtain ⟨fs, hret, hrun, hended, hW, hframe⟩ := X.leave (v := some (.int 1)) (hlocks := hlocks) (fun h => by rw [hr] at h; cases h)
  have hmeth' : T.vm.method? m = some meth := X.method'
  refine ⟨T.setFrames fs, ?_, .returned (some (.int 1)), hrun, hended, rfl, lw_closed hd0 ⟨_, rfl⟩ hW hframe⟩
  jvm_step X.here [X.here.top, hx, hb, hdg, hmeth', hr, ret, narrow_b1]
  (try refine ⟨rfl, ?_⟩); (try refine ⟨rfl, ?_⟩)
  first | (intro acts; rw [hret _ acts rfl rfl rfl]) | rw [hret _ _ rfl rfl rfl]
  exact Steps.refl _
/-- what holds at the law's entry: the machine, the code, the tables' words (any of lw_tbl by 'hts w (by decide +kernel)'), the script of L ints xs at the cell b, what the Statement gives of the start (any of its parts by flat_of_before) -/
def lw_At (p : Program) (s : State) (m : MethodId) (meth : Method) (c : Code) (b L : Nat) (xs : Nat → Int32) : Prop :=
  p.tables.exec = Jvm.exec ∧ c.code = code ∧ meth.sig.returnType = ret ∧ c.maxLocals = 7 ∧ s.vm.findClass R_law = some m.cls ∧ (∀ w ∈ lw_tbl, w.before #[Value.ref b] s = true) ∧ va_X b L xs s s.heap ∧ b < s.heap.size ∧ meth.locks = false ∧ (Jvm.Cond.and given_1 narrow_1).before #[Value.ref b] s = true
-- ===== YOUR PART BEGINS =====
/-! ===== BEGIN words of one list among another's, by their places ===== -/
theorem goodIn_r {big : List Cond} (ws : List Cond) (ps : List Nat) (hp : ws = ps.filterMap (fun i => big[i]?)) (h : ws.all goodWord = true) : GoodIn big ws := by
  intro w hw
  have h1 := List.all_eq_true.mp h w hw
  rw [hp] at hw
  obtain ⟨i, -, hi⟩ := List.mem_filterMap.mp hw
  have hm : w ∈ big := by first | exact List.mem_of_getElem? hi | exact List.getElem?_mem hi
  exact ⟨hm, good_of_word h1⟩
theorem goodIn_app {big a b : List Cond} (ha : GoodIn big a) (hb : GoodIn big b) : GoodIn big (a ++ b) := fun w h => (List.mem_append.mp h).elim (ha w) (hb w)
theorem goodIn_ca {big a b : List Cond} {c : Cond} (ha : GoodIn big (c :: a)) (hb : GoodIn big b) : GoodIn big (c :: (a ++ b)) := fun w h => (List.mem_cons.mp h).elim (fun e => ha w (List.mem_cons.mpr (Or.inl e))) (fun h => (List.mem_append.mp h).elim (fun h => ha w (List.mem_cons.mpr (Or.inr h))) (hb w))
theorem goodIn_sub {big ws : List Cond} (hm : ∀ w ∈ ws, w ∈ big) (h : ws.all goodWord = true) : GoodIn big ws := fun w hw => ⟨hm w hw, good_of_word (List.all_eq_true.mp h w hw)⟩
/-! ===== END ===== -/

/-! ===== BEGIN exceptions that leave a method, and their catching by the caller (launches without stack traces) ===== -/
section VXA
/-! The laws vx_back, vx_callV, vx_callS, vx_callSW, vx_throw0, vx_throwS follow proofs of the library, with one case more: JvmDerived/Free/Laws.lean (Back.of_free), Shelf42/LK1.lean (callV, callS), Shelf/KitTraced.lean (throwNew0V, throwNewS). -/
/-- where a method has thrown q: the class by its name, the cell, what was written, the world -/
def vx_T (XC : String → State → State → Prop) (st : State) (q : Addr) (t : State) (mc ms : Nat) (free : Addr → Prop) : Prop :=
  ∃ (E : String) (ce : Cell) (L : List Loc), XC E st t ∧ t.heap[q]? = some ce ∧ ce.vm = .none ∧ st.vm.findClass E = some ce.cls ∧ st.WarmedH t.vm ∧ st.sameButNew ({ t with vm := st.vm } : State) L mc ms ∧ ∀ z ∈ L, free z.base
def vx_Q (Qc : Array Value → State → Outcome → State → Prop) (XC : String → State → State → Prop) (mc ms : Nat) (free : Addr → Prop) : Array Value → State → Outcome → State → Prop := fun a st o t =>
  (Qc a st o t ∧ ∃ L, FrameEnd st o t L mc ms ∧ ∀ q ∈ L, free q.base) ∨ ∃ q, o = .threw q ∧ vx_T XC st q t mc ms free
/-- a callee that returns or throws -/
def vx_Met (l : Launch) (y : MethodName) (ws : List Cond) (rm : Room) (Pc : Array Value → State → Prop) (Qc : Array Value → State → Outcome → State → Prop) (XC : String → State → State → Prop) (mc ms : Nat) (free : Addr → Prop) : Prop :=
  MetFree l y (headSpec ws rm) Pc (fun _ _ _ _ _ => True) (vx_Q Qc XC mc ms free)
def vx_Post (XC : String → State → State → Prop) (mc ms : Nat) (free : Addr → Prop) : Pt → Array Value → Addr → Pt → Prop := fun A a q B =>
  ∃ (g : JFrame) (mk : MethodId) (t : State) (L : List Loc) (E : String) (ce : Cell), B.U.heap = t.heap ∧ B.U.vm = t.vm ∧ XC E (A.U.calling g mk a) t ∧ t.heap[q]? = some ce ∧ ce.vm = .none ∧ A.U.vm.findClass E = some ce.cls ∧ B.locs = A.locs ++ L ∧ (∀ z ∈ L, free z.base) ∧ B.cells = A.cells + mc ∧ B.slots = A.slots + ms
def vx_Back (l : Launch) (R : Room) (p : Program) (e : Env) (below : List Frame) (s : State) (sargs : Array Value) (y : MethodName) (len W9 : Nat)
    (Pre : Pt → Array Value → Prop) (Post : Pt → Array Value → Option Value → Pt → Prop) (PostX : Pt → Array Value → Addr → Pt → Prop) : Prop :=
  ∀ (m : MethodId) (meth : Method) (c : Code) (A : Pt) (g : JFrame) (ig : Instr) (mk : MethodId) (a : Array Value),
    Stand p l e R s m sargs below meth c A.U A.locs A.cells A.slots → g.method = m → g.locals.size = c.maxLocals → decode c.code g.pc = .ok (ig, len) →
    2 * g.monitorRoom + (g.stack.map fun v => v.category).sum ≤ W9 → A.U.methodNamed? y = some mk → Pre A a →
    (∃ (v : Option Value) (B : Pt), Stand p l e R s m sargs below meth c B.U B.locs B.cells B.slots ∧ Post A a v B ∧
      Steps p.tables e below (doInvoke e (A.U.setTop g) [] mk a).1 (B.U.setTop { g with pc := g.pc + len, stack := v.toList ++ g.stack })) ∨
    (∃ (q : Addr) (B : Pt), Stand p l e R s m sargs below meth c B.U B.locs B.cells B.slots ∧ PostX A a q B ∧
      Steps p.tables e below (doInvoke e (A.U.setTop g) [] mk a).1 ((B.U.setTop g).pushFrame (.throwing q)))
section Payer
variable {l : Launch} {R : Room} {p : Program} {e : Env} {below : List Frame} {s : State} {sargs : Array Value} {y : MethodName} {len W9 : Nat}
theorem vx_back {ws : List Cond} {rm : Room} {Pc : Array Value → State → Prop} {Qc : Array Value → State → Outcome → State → Prop} {XC : String → State → State → Prop} {mc ms : Nat} {free : Addr → Prop} {bytes : ByteArray} {maxL : Nat} {ret : Option FieldType}
    (hM : vx_Met l y ws rm Pc Qc XC mc ms free) (hblind : FrameBlind Pc) (hrc : rm.cells = mc) (hrs : rm.slots = ms)
    (hframes : rm.frames + 1 ≤ R.frames) (hlocals : W9 + (maxL + 11) + rm.locals ≤ R.locals)
    (hws : ∀ w ∈ ws, ∀ a' U, s.WarmedH U.vm → w.before a' U = true) (hcode : Cond.code y bytes maxL ret ∈ ws) (hinit : ∀ a' U, s.WarmedH U.vm → (Cond.initialized y.cls).before a' U = true) :
    vx_Back l R p e below s sargs y len W9 (PreOf R mc ms Pc) (PostOf Qc mc ms free) (vx_Post XC mc ms free) := by
  intro m meth c A g ig mk a X hg hsize hdg hW hn hp
  have h1 : (headSpec ws rm).pre.before a A.U = true := atoms_intro fun w hw => hws w hw _ _ X.warmed
  have h2 : (Cond.code y bytes maxL ret).before a A.U = true := hws _ hcode _ _ X.warmed
  have h3 : (Cond.initialized y.cls).before a A.U = true := hinit _ _ X.warmed
  have h4 : A.cells + (headSpec ws rm).room.cells ≤ R.cells := by rw [show (headSpec ws rm).room.cells = mc from hrc]; exact hp.1
  have h5 : A.slots + (headSpec ws rm).room.slots ≤ R.slots := by rw [show (headSpec ws rm).room.slots = ms from hrs]; exact hp.2.1
  have hPc : Pc a (A.U.calling g mk a) := hblind _ _ _ _ hp.2.2
  obtain ⟨U, Ls, c0, s0⟩ := A
  dsimp only [Pt.U, Pt.locs, Pt.cells, Pt.slots] at h1 h2 h3 h4 h5 X hn hPc ⊢
  obtain ⟨methY, cY, hmY, hcY, -, hlY, -, -, -, -⟩ := Cond.code_spec hn h2
  obtain ⟨kY, hkY, -⟩ := className_of_methodNamed hn
  have hinitY : kY.init = .initialized := Cond.initialized_spec (findClass_of_methodNamed hn) hkY h3
  have h : At U g.method c below := by rw [hg]; exact X.here
  have hlocals9 : W9 + (maxL + 11) + (headSpec ws rm).room.locals ≤ R.locals := hlocals
  have happ : (headSpec ws rm).appliesLoose y e.platform (U.calling g mk a) = true :=
    Spec.appliesLoose_calling (g := g) h hdg hn hkY hinitY
      (X.room_calling (g := g) (R' := (headSpec ws rm).room) hsize hmY hcY hframes (by rw [hlY]; omega) h4 h5) h1
  obtain ⟨mid, hmid⟩ := h.above
  have hfr : (U.setTop g).frames = (.java g :: mid) ++ below := by rw [State.frames_setTop' g h.top, hmid]; rfl
  obtain ⟨o, s₂, hsteps, -, hend, hq⟩ := Steps.callFree hM p X.admits X.cas X.clock (acts := []) hfr happ hPc trivial
  have hq' : vx_Q Qc XC mc ms free a (U.calling g mk a) o s₂ := hq
  rw [State.frames_setTop' g h.top] at hend
  obtain ⟨g₀, hg0⟩ := Option.isSome_iff_exists.mp h.top
  obtain ⟨r, hr⟩ := State.topJava?_eq_some.mp hg0
  have hr' : (({ U with heap := s₂.heap, slotsUsed := s₂.slotsUsed } : State).setVm s₂.vm).frames = .java g₀ :: r := hr
  rcases hq' with ⟨hqc, L, hfe, hL⟩ | ⟨q, rfl, E, ce, L, hx, hce, hcv, hcl, hW₂, hsm, hL⟩
  · obtain ⟨⟨v, rfl⟩, hW₂, e2, q2, q3, q4, q5, q6⟩ := id hfe
    have e3 : s₂ = ({ (U.calling g mk a).setFrames s₂.frames with heap := s₂.heap, slotsUsed := s₂.slotsUsed } : State).setVm s₂.vm := by
      have : s₂ = ({ s₂ with vm := (U.calling g mk a).vm } : State).setVm s₂.vm := rfl
      rw [e2] at this
      exact this
    obtain ⟨c₂, i₂, len₂, hc₂, hd₂, hf₂⟩ := hend
    have hW' : U.WarmedH s₂.vm := hW₂
    have hcc : c₂ = c := by
      have h1 : s₂.code? g.method = U.code? g.method := by
        rw [State.code?_eq, State.code?_eq, hW'.alike.method?]
      exact Option.some.inj (hc₂.symm.trans (h1.trans h.code))
    subst hcc
    have hlen : len₂ = len := by rw [hdg] at hd₂; cases hd₂; rfl
    subst hlen
    have hs₂ : s₂ = (({ U with heap := s₂.heap, slotsUsed := s₂.slotsUsed } : State).setVm s₂.vm).setTop { g with pc := g.pc + len₂, stack := v.toList ++ g.stack } := by
      refine e3.trans ?_
      rw [hf₂, State.calling_eq h.top, State.setFrames_setFrames, State.setTop_of_frames _ hr', hr]
      rfl
    have hsame : U.sameButNew ({ U with heap := s₂.heap, slotsUsed := s₂.slotsUsed } : State) L mc ms := by
      refine ⟨?_, q2, q3, q4, q5, q6⟩
      obtain ⟨t, ht, -⟩ := State.frames_cons hr
      show ({ U with heap := s₂.heap, slotsUsed := s₂.slotsUsed } : State) = { U.setFrames U.frames with heap := s₂.heap, slotsUsed := s₂.slotsUsed }
      rw [State.setFrames_self ht]
    subst hg
    refine Or.inl ⟨v, ⟨(({ U with heap := s₂.heap, slotsUsed := s₂.slotsUsed } : State).setVm s₂.vm), Ls ++ L, c0 + mc, s0 + ms⟩,
      ⟨X.admits, X.cas, X.clock, X.frames, X.room, X.hears, X.method, X.code, (X.here.setHeapUsed s₂.heap s₂.slotsUsed).setVm hW'.alike, X.tail, State.WarmedH.trans X.warmed hW', X.limits, X.bytes, X.same.trans (hsame.setVm s.vm)⟩,
      ⟨g, mk, s₂, L, rfl, rfl, hqc, rfl, hL, rfl, rfl⟩, ?_⟩
    show Steps p.tables e below _ ((({ U with heap := s₂.heap, slotsUsed := s₂.slotsUsed } : State).setVm s₂.vm).setTop { g with pc := g.pc + len₂, stack := v.toList ++ g.stack })
    rw [← hs₂]
    exact hsteps
  · obtain ⟨e2, q2, q3, q4, q5, q6⟩ := id hsm
    have e3 : s₂ = ({ (U.calling g mk a).setFrames s₂.frames with heap := s₂.heap, slotsUsed := s₂.slotsUsed } : State).setVm s₂.vm := by
      have : s₂ = ({ s₂ with vm := (U.calling g mk a).vm } : State).setVm s₂.vm := rfl
      rw [e2] at this
      exact this
    have hf₂ : s₂.frames = .throwing q :: .java g :: U.frames.tail := hend
    have hW' : U.WarmedH s₂.vm := hW₂
    have hs₂ : s₂ = ((({ U with heap := s₂.heap, slotsUsed := s₂.slotsUsed } : State).setVm s₂.vm).setTop g).pushFrame (.throwing q) := by
      refine e3.trans ?_
      rw [hf₂, State.calling_eq h.top, State.setFrames_setFrames, State.pushFrame, State.frames_setTop _ hr', State.setTop_of_frames _ hr', State.setFrames_setFrames, hr]
      rfl
    have hsame : U.sameButNew ({ U with heap := s₂.heap, slotsUsed := s₂.slotsUsed } : State) L mc ms := by
      refine ⟨?_, q2, q3, q4, q5, q6⟩
      obtain ⟨t, ht, -⟩ := State.frames_cons hr
      show ({ U with heap := s₂.heap, slotsUsed := s₂.slotsUsed } : State) = { U.setFrames U.frames with heap := s₂.heap, slotsUsed := s₂.slotsUsed }
      rw [State.setFrames_self ht]
    subst hg
    refine Or.inr ⟨q, ⟨(({ U with heap := s₂.heap, slotsUsed := s₂.slotsUsed } : State).setVm s₂.vm), Ls ++ L, c0 + mc, s0 + ms⟩,
      ⟨X.admits, X.cas, X.clock, X.frames, X.room, X.hears, X.method, X.code, (X.here.setHeapUsed s₂.heap s₂.slotsUsed).setVm hW'.alike, X.tail, State.WarmedH.trans X.warmed hW', X.limits, X.bytes, X.same.trans (hsame.setVm s.vm)⟩,
      ⟨g, mk, s₂, L, E, ce, rfl, rfl, hx, hce, hcv, hcl, rfl, hL, rfl, rfl⟩, ?_⟩
    show Steps p.tables e below _ (((({ U with heap := s₂.heap, slotsUsed := s₂.slotsUsed } : State).setVm s₂.vm).setTop g).pushFrame (.throwing q))
    rw [← hs₂]
    exact hsteps
end Payer
section Calls
variable {p : Program} {l : Launch} {e : Env} {R : Room} {s : State} {m : MethodId} {args : Array Value} {below : List Frame} {meth : Method} {c : Code} {T : State} {locs : List Loc} {cells slots : Nat}
theorem vx_callV (X : Stand p l e R s m args below meth c T locs cells slots) (hexec : p.tables.exec = Jvm.exec) {own C : String} {index : Nat} {y : MethodName} {bytes : ByteArray} {maxL : Nat} {ret : Option FieldType}
    (hown : s.vm.findClass own = some m.cls) (hlink : (Cond.methodLink own index y).before args s = true) (hinst : (Cond.instanceMethod y).before args s = true) (hsel : (Cond.selects C y y).before args s = true)
    (hcode : (Cond.code y bytes maxL ret).before args s = true) (hy : y.cls ≠ "java/lang/invoke/MethodHandle" ∧ y.cls ≠ "java/lang/invoke/VarHandle")
    {W9 : Nat} {Pre : Pt → Array Value → Prop} {Post : Pt → Array Value → Option Value → Pt → Prop} {PostX : Pt → Array Value → Addr → Pt → Prop} (hK : vx_Back l R p e below s args y 3 W9 Pre Post PostX)
    {b : Addr} {cellB : Cell} (hcell : T.heap[b]? = some cellB) (hobj : cellB.vm.isStatics = false) (hcls : s.vm.findClass C = some cellB.cls)
    {g : JFrame} (hg : g.method = m) (hsize : g.locals.size = c.maxLocals) {argsL rest : List Value} (hlen : ∀ sig, parseMethodDescriptor y.desc = some sig → argsL.length = sig.parameters.length)
    (hstack : g.stack = argsL.reverse ++ .ref b :: rest) (hW : 2 * g.monitorRoom + (rest.map fun v => v.category).sum ≤ W9) (hdg : decode c.code g.pc = .ok (.invokevirtual index, 3))
    (hpre : ∀ vm₁, s.WarmedH vm₁ → Pre ⟨T.setVm vm₁, locs, cells, slots⟩ (Value.ref b :: argsL).toArray) :
    (∃ (v : Option Value) (vm₁ : Vm) (B : Pt), s.WarmedH vm₁ ∧ Stand p l e R s m args below meth c B.U B.locs B.cells B.slots ∧ Post ⟨T.setVm vm₁, locs, cells, slots⟩ (Value.ref b :: argsL).toArray v B ∧
      ∀ target, Steps p.tables e below (B.U.setTop { g with pc := g.pc + 3, stack := v.toList ++ rest }) target → Steps p.tables e below (T.setTop g) target) ∨
    (∃ (q : Addr) (vm₁ : Vm) (B : Pt), s.WarmedH vm₁ ∧ Stand p l e R s m args below meth c B.U B.locs B.cells B.slots ∧ PostX ⟨T.setVm vm₁, locs, cells, slots⟩ (Value.ref b :: argsL).toArray q B ∧
      Steps p.tables e below (T.setTop g) ((B.U.setTop { g with stack := rest }).pushFrame (.throwing q))) := by
  obtain ⟨mk, methM, hnamed, hmethM, hstM, habM⟩ := Cond.instanceMethod_spec hinst
  obtain ⟨methM', cM, hmethM', -, -, -, -, -, -, hsigM⟩ := Cond.code_spec hnamed hcode
  cases hmethM.symm.trans hmethM'
  obtain ⟨c2, r2, m2, q1, q2, q3, q4, kP, hkP, hkPi⟩ := Cond.selects_spec hsel
  cases hcls.symm.trans q1
  cases (State.methodFound?_of_named hnamed hy).symm.trans q2
  cases hnamed.symm.trans q3
  have hselP : selectMethod e.platform s.vm cellB.cls mk = .method mk := by rw [Launch.admits_selectMethod X.admits]; exact q4
  obtain ⟨vm₁, X₁, hstep₁⟩ := X.invokevirtual hexec hown hlink hnamed hmethM hstM hkP hkPi hy (a := b) (cell := cellB) hcell
    (fun z h => by rw [h] at hobj; cases hobj) hselP hmethM habM hkP hkPi (g := g) hg (argsL := argsL) (rest := rest) (hlen _ hsigM) hstack hdg
  rcases hK m meth c ⟨T.setVm vm₁, locs, cells, slots⟩ { g with stack := rest } (.invokevirtual index) mk (Value.ref b :: argsL).toArray X₁ hg hsize hdg hW (X₁.named hnamed) (hpre vm₁ X₁.warmed) with ⟨v, B, X', hpost, hsteps⟩ | ⟨q, B, X', hpost, hsteps⟩
  · exact Or.inl ⟨v, vm₁, B, X₁.warmed, X', hpost, fun target h => hstep₁ _ fun acts => by rw [doInvoke_state]; exact hsteps.trans h⟩
  · exact Or.inr ⟨q, vm₁, B, X₁.warmed, X', hpost, hstep₁ _ fun acts => by rw [doInvoke_state]; exact hsteps⟩
theorem vx_callS (X : Stand p l e R s m args below meth c T locs cells slots) (hexec : p.tables.exec = Jvm.exec) {own : String} {index : Nat} {y : MethodName} {bytes : ByteArray} {maxL : Nat} {ret : Option FieldType}
    (hown : s.vm.findClass own = some m.cls) (hlink : (Cond.methodLink own index y).before args s = true) (hstat : (Cond.static y).before args s = true) (hinit : (Cond.initialized y.cls).before args s = true)
    (hcode : (Cond.code y bytes maxL ret).before args s = true) (hy : y.cls ≠ "java/lang/invoke/MethodHandle" ∧ y.cls ≠ "java/lang/invoke/VarHandle")
    {W9 : Nat} {Pre : Pt → Array Value → Prop} {Post : Pt → Array Value → Option Value → Pt → Prop} {PostX : Pt → Array Value → Addr → Pt → Prop} (hK : vx_Back l R p e below s args y 3 W9 Pre Post PostX)
    {g : JFrame} (hg : g.method = m) (hsize : g.locals.size = c.maxLocals) {argsL rest : List Value} (hlen : ∀ sig, parseMethodDescriptor y.desc = some sig → argsL.length = sig.parameters.length)
    (hstack : g.stack = argsL.reverse ++ rest) (hW : 2 * g.monitorRoom + (rest.map fun v => v.category).sum ≤ W9) (hdg : decode c.code g.pc = .ok (.invokestatic index, 3))
    (hpre : ∀ vm₁, s.WarmedH vm₁ → Pre ⟨T.setVm vm₁, locs, cells, slots⟩ argsL.toArray) :
    (∃ (v : Option Value) (vm₁ : Vm) (B : Pt), s.WarmedH vm₁ ∧ Stand p l e R s m args below meth c B.U B.locs B.cells B.slots ∧ Post ⟨T.setVm vm₁, locs, cells, slots⟩ argsL.toArray v B ∧
      ∀ target, Steps p.tables e below (B.U.setTop { g with pc := g.pc + 3, stack := v.toList ++ rest }) target → Steps p.tables e below (T.setTop g) target) ∨
    (∃ (q : Addr) (vm₁ : Vm) (B : Pt), s.WarmedH vm₁ ∧ Stand p l e R s m args below meth c B.U B.locs B.cells B.slots ∧ PostX ⟨T.setVm vm₁, locs, cells, slots⟩ argsL.toArray q B ∧
      Steps p.tables e below (T.setTop g) ((B.U.setTop { g with stack := rest }).pushFrame (.throwing q))) := by
  obtain ⟨mk, hnamed⟩ := Cond.code_named hcode
  obtain ⟨methM, cM, hmethM, -, -, -, -, -, -, hsigM⟩ := Cond.code_spec hnamed hcode
  have hstatic : methM.isStatic = true := Cond.static_spec hnamed hmethM hstat
  obtain ⟨kP, hkP, -⟩ := className_of_methodNamed hnamed
  have hinitP : kP.init = .initialized := Cond.initialized_spec (findClass_of_methodNamed hnamed) hkP hinit
  obtain ⟨vm₁, X₁, hstep₁⟩ := X.invokestatic hexec hown hlink hnamed hmethM hstatic hkP hinitP hy (g := g) hg (argsL := argsL) (rest := rest) (hlen _ hsigM) hstack hdg
  rcases hK m meth c ⟨T.setVm vm₁, locs, cells, slots⟩ { g with stack := rest } (.invokestatic index) mk argsL.toArray X₁ hg hsize hdg hW (X₁.named hnamed) (hpre vm₁ X₁.warmed) with ⟨v, B, X', hpost, hsteps⟩ | ⟨q, B, X', hpost, hsteps⟩
  · exact Or.inl ⟨v, vm₁, B, X₁.warmed, X', hpost, fun target h => hstep₁ _ fun acts => by rw [doInvoke_state]; exact hsteps.trans h⟩
  · exact Or.inr ⟨q, vm₁, B, X₁.warmed, X', hpost, hstep₁ _ fun acts => by rw [doInvoke_state]; exact hsteps⟩
end Calls
theorem vx_cls {s : State} {T : State} {vm₁ : Vm} {E : String} {k : ClassId} (hW : s.WarmedH vm₁) (h : (T.setVm vm₁).vm.findClass E = some k) : s.vm.findClass E = some k := by
  have h1 : vm₁.findClass E = some k := h
  rw [hW.alike.findClass] at h1
  exact h1
/-- the method's frame g, with q thrown over it -/
def vx_W (p : Program) (l : Launch) (e : Env) (R : Room) (s : State) (m : MethodId) (args : Array Value) (below : List Frame) (meth : Method) (c : Code) (H : Heap) (locs : List Loc) (cells slots : Nat) (Q : State → Prop) (g : JFrame) (q : Addr) : Prop :=
  ∀ T : State, T.heap = H → Stand p l e R s m args below meth c T locs cells slots → ∃ t, Steps p.tables e below ((T.setTop g).pushFrame (.throwing q)) t ∧ Q t
def vx_Run (p : Program) (l : Launch) (e : Env) (R : Room) (s : State) (m : MethodId) (args : Array Value) (below : List Frame) (meth : Method) (c : Code) (H : Heap) (locs : List Loc) (cells slots mc ms : Nat) (g : JFrame) (rest : List Value) (Qa : State → Outcome → State → Prop) (XC : String → State → State → Prop) (free : Addr → Prop) : Prop :=
  ∀ T : State, T.heap = H → Stand p l e R s m args below meth c T locs cells slots →
    (∃ (v : Option Value) (st₀ t T' : State) (L : List Loc), st₀.heap = H ∧ Stand p l e R s m args below meth c T' (locs ++ L) (cells + mc) (slots + ms) ∧ (∀ q ∈ L, free q.base) ∧ T'.heap = t.heap ∧ T'.vm = t.vm ∧ Qa st₀ (.returned v) t ∧
      Goes p e below T g T' { g with pc := g.pc + 3, stack := v.toList ++ rest }) ∨
    (∃ (q : Addr) (st₀ t T' : State) (L : List Loc) (E : String) (ce : Cell), st₀.heap = H ∧ Stand p l e R s m args below meth c T' (locs ++ L) (cells + mc) (slots + ms) ∧ (∀ z ∈ L, free z.base) ∧ T'.heap = t.heap ∧ T'.vm = t.vm ∧ XC E st₀ t ∧ t.heap[q]? = some ce ∧ ce.vm = .none ∧ s.vm.findClass E = some ce.cls ∧
      Steps p.tables e below (T.setTop g) ((T'.setTop { g with stack := rest }).pushFrame (.throwing q)))
def vx_X {S : Type} (px : S → Prop) (B : String → S → State → Prop) (A : Nat → Prop) : String → State → State → Prop := fun E st t => ∃ u : S, px u ∧ B E u t ∧ va_F A st t
section Runs
variable {p : Program} {l : Launch} {e : Env} {R : Room} {s : State} {m : MethodId} {args : Array Value} {below : List Frame} {meth : Method} {c : Code} {H : Heap} {locs : List Loc} {cells slots : Nat}
variable {y : MethodName} {bytes cc : ByteArray} {maxL nL mc ms n index : Nat} {ret : Option FieldType} {ws : List Cond} {rm : Room} {Pc : Array Value → State → Prop} {Qc : Array Value → State → Outcome → State → Prop} {XC : String → State → State → Prop} {free : Addr → Prop} {Ts : List Cond} {own C : String} {b : Addr} {As rest : List Value} {g : JFrame}
theorem vx_callBack (cb : CallB R s args own index y bytes maxL ret ws rm mc ms n) (hM : vx_Met l y ws rm Pc Qc XC mc ms free) (hbl : FrameBlind Pc) : vx_Back l R p e below s args y 3 8 (PreOf R mc ms Pc) (PostOf Qc mc ms free) (vx_Post XC mc ms free) := by
  obtain ⟨hrc, hrs, hfr, hlo, hws, hcw, -, hini, -⟩ := cb
  exact vx_back (bytes := bytes) (maxL := maxL) (ret := ret) hM hbl hrc hrs hfr hlo hws hcw (fun a' U hW => word_at hW (Or.inl (by first | rfl | simp [Cond.onTables, Cond.keeps, Cond.steady])) hini)
theorem vx_runV (S : CallFix p m c cc nL s args Ts own) (hM : vx_Met l y ws rm Pc Qc XC mc ms free) (cw : CallW R s args own C index y bytes maxL ret ws rm mc ms n) (hp : PreV s H C b Pc As)
    (hg : g.method = m) (hn : As.length = n) (hsize : g.locals.size = nL) (hstack : g.stack = As.reverse ++ .ref b :: rest) (hW : 2 * g.monitorRoom + (rest.map fun v => v.category).sum ≤ 8) (hdg : decode cc g.pc = .ok (.invokevirtual index, 3)) (hf : cells + mc ≤ R.cells ∧ slots + ms ≤ R.slots) :
    vx_Run p l e R s m args below meth c H locs cells slots mc ms g rest (Qc (Value.ref b :: As).toArray) XC free := by
  have hK : vx_Back l R p e below s args y 3 8 (PreOf R mc ms Pc) (PostOf Qc mc ms free) (vx_Post XC mc ms free) := vx_callBack cw.1 hM hp.1
  obtain ⟨⟨-, -, -, -, -, -, hcode, -, hy, hlen, hl⟩, hin, hse⟩ := cw
  obtain ⟨hx, hb, hml, ho, -⟩ := S
  obtain ⟨-, ⟨cellB, hcB, hoB, hclB⟩, hPc⟩ := hp
  intro T hT X
  rcases vx_callV X hx (C := C) (bytes := bytes) (maxL := maxL) (ret := ret) ho hl hin hse hcode hy hK (by rw [hT]; exact hcB) hoB hclB hg (hsize.trans hml.symm) (argsL := As) (rest := rest) (fun sig h => hn.trans (hlen sig h)) hstack hW (by rw [hb]; exact hdg)
    (fun vm₁ hW₁ => ⟨hf.1, hf.2, hPc (T.setVm vm₁) hT hW₁⟩) with ⟨v, vm₁, ⟨U', l2, c2, s2⟩, hW₁, X', ⟨g', mk, t, L, e1, e2, hq, h1, hL, h2, h3⟩, st⟩ | ⟨q, vm₁, ⟨U', l2, c2, s2⟩, hW₁, X', ⟨g', mk, t, L, E, ce, e1, e2, hq, hce, hcv, hcl, h1, hL, h2, h3⟩, st⟩
  · dsimp only [Pt.U, Pt.locs, Pt.cells, Pt.slots] at X' e1 e2 h1 h2 h3 st
    subst h1; subst h2; subst h3
    exact Or.inl ⟨v, (T.setVm vm₁).calling g' mk (Value.ref b :: As).toArray, t, U', L, hT, X', hL, e1, e2, hq, st⟩
  · dsimp only [Pt.U, Pt.locs, Pt.cells, Pt.slots] at X' e1 e2 h1 h2 h3 st hcl
    subst h1; subst h2; subst h3
    exact Or.inr ⟨q, (T.setVm vm₁).calling g' mk (Value.ref b :: As).toArray, t, U', L, E, ce, hT, X', hL, e1, e2, hq, hce, hcv, vx_cls hW₁ hcl, st⟩
theorem vx_runS (S : CallFix p m c cc nL s args Ts own) (hM : vx_Met l y ws rm Pc Qc XC mc ms free) (cw : CallB R s args own index y bytes maxL ret ws rm mc ms n ∧ (Cond.static y).before args s = true) (hp : PreS s H Pc As)
    (hg : g.method = m) (hn : As.length = n) (hsize : g.locals.size = nL) (hstack : g.stack = As.reverse ++ rest) (hW : 2 * g.monitorRoom + (rest.map fun v => v.category).sum ≤ 8) (hdg : decode cc g.pc = .ok (.invokestatic index, 3)) (hf : cells + mc ≤ R.cells ∧ slots + ms ≤ R.slots) :
    vx_Run p l e R s m args below meth c H locs cells slots mc ms g rest (Qc As.toArray) XC free := by
  have hK : vx_Back l R p e below s args y 3 8 (PreOf R mc ms Pc) (PostOf Qc mc ms free) (vx_Post XC mc ms free) := vx_callBack cw.1 hM hp.1
  obtain ⟨⟨-, -, -, -, -, -, hcode, hini, hy, hlen, hl⟩, hstt⟩ := cw
  obtain ⟨hx, hb, hml, ho, -⟩ := S
  intro T hT X
  rcases vx_callS X hx (bytes := bytes) (maxL := maxL) (ret := ret) ho hl hstt hini hcode hy hK hg (hsize.trans hml.symm) (argsL := As) (rest := rest) (fun sig h => hn.trans (hlen sig h)) hstack hW (by rw [hb]; exact hdg)
    (fun vm₁ hW₁ => ⟨hf.1, hf.2, hp.2 (T.setVm vm₁) hT hW₁⟩) with ⟨v, vm₁, ⟨U', l2, c2, s2⟩, hW₁, X', ⟨g', mk, t, L, e1, e2, hq, h1, hL, h2, h3⟩, st⟩ | ⟨q, vm₁, ⟨U', l2, c2, s2⟩, hW₁, X', ⟨g', mk, t, L, E, ce, e1, e2, hq, hce, hcv, hcl, h1, hL, h2, h3⟩, st⟩
  · dsimp only [Pt.U, Pt.locs, Pt.cells, Pt.slots] at X' e1 e2 h1 h2 h3 st
    subst h1; subst h2; subst h3
    exact Or.inl ⟨v, (T.setVm vm₁).calling g' mk As.toArray, t, U', L, hT, X', hL, e1, e2, hq, st⟩
  · dsimp only [Pt.U, Pt.locs, Pt.cells, Pt.slots] at X' e1 e2 h1 h2 h3 st hcl
    subst h1; subst h2; subst h3
    exact Or.inr ⟨q, (T.setVm vm₁).calling g' mk As.toArray, t, U', L, E, ce, hT, X', hL, e1, e2, hq, hce, hcv, vx_cls hW₁ hcl, st⟩
end Runs
section Rows
variable {p : Program} {l : Launch} {e : Env} {R : Room} {s : State} {m : MethodId} {args : Array Value} {below : List Frame} {meth : Method} {c : Code} {H : Heap} {locs : List Loc} {cells slots : Nat} {Q : State → Prop}
variable {mc ms : Nat} {free : Addr → Prop} {A0 A1 : Nat → Prop} {H0 : Heap} {a : Array Value} {pc : Nat} {ls : Array Slot} {st0 rest : List Value}
theorem vx_keep {st₀ t T' : State} {L : List Loc} (h0 : st₀.heap = H) (e1 : T'.heap = t.heap) (hS : va_S A0 H0 H locs) (hA : ∀ q, q < H.size → A1 q → A0 q) (hf : ∀ q, free q → A0 q) (hL : ∀ q ∈ L, free q.base) (hF : va_F A1 st₀ t) :
    H.size ≤ T'.heap.size ∧ (∀ q : Nat, q < H.size → ¬ A1 q → T'.heap[q]? = H[q]?) ∧ va_S A0 H0 T'.heap (locs ++ L) := by
  obtain ⟨hz, hk⟩ := hF
  rw [h0] at hz hk
  exact ⟨by rw [e1]; exact hz, fun q h1 h2 => by rw [e1]; exact hk q h1 h2,
    ⟨Nat.le_trans hS.1 (by rw [e1]; exact hz), fun q h1 h2 => by rw [e1, hk q (Nat.lt_of_lt_of_le h1 hS.1) (fun z => h2 (hA q (Nat.lt_of_lt_of_le h1 hS.1) z))]; exact hS.2.1 q h1 h2, fun q hq => by
      rcases List.mem_append.mp hq with h | h
      · exact hS.2.2 q h
      · exact hf _ (hL q h)⟩⟩
theorem vx_calli {S SX : Type} {post : Int32 → S → Prop} {px : SX → Prop} {B : S → State → Prop} {BX : String → SX → State → Prop} {AX : Nat → Prop} (hr : vx_Run p l e R s m args below meth c H locs cells slots mc ms (F0 m pc ls st0) rest (va_Qi post B A1 a) (vx_X px BX AX) free) (hS : va_S A0 H0 H locs) (hA : ∀ q, q < H.size → A1 q → A0 q) (hf : ∀ q, free q → A0 q) (hAX : ∀ q, q < H.size → AX q → A0 q)
    (kx : ∀ (E : String) (ce : Cell) (q9 : Addr) (u : SX) (t : State) (H1 : Heap) (locs1 : List Loc), t.heap = H1 → s.vm.Alike t.vm → px u → BX E u t → H.size ≤ H1.size → (∀ q : Nat, q < H.size → ¬ AX q → H1[q]? = H[q]?) → va_S A0 H0 H1 locs1 → H1[q9]? = some ce → ce.vm = .none → s.vm.findClass E = some ce.cls → vx_W p l e R s m args below meth c H1 locs1 (cells + mc) (slots + ms) Q (F0 m pc ls rest) q9)
    (kk : ∀ (r : Int32) (u : S) (t : State) (H1 : Heap) (locs1 : List Loc), t.heap = H1 → s.vm.Alike t.vm → post r u → B u t → H.size ≤ H1.size → (∀ q : Nat, q < H.size → ¬ A1 q → H1[q]? = H[q]?) → va_S A0 H0 H1 locs1 → W p l e R s m args below meth c H1 locs1 (cells + mc) (slots + ms) Q (F0 m (pc + 3) ls (.int r :: rest))) : W p l e R s m args below meth c H locs cells slots Q (F0 m pc ls st0) := by
  intro T hT X
  rcases hr T hT X with ⟨v, st₀, t, T', L, h0, X', hL, e1, e2, ⟨⟨r, u, hv, hp, hb⟩, hF⟩, st⟩ | ⟨q, st₀, t, T', L, E, ce, h0, X', hL, e1, e2, ⟨u, hp, hb, hF⟩, hce, hcv, hcl, st⟩
  · cases hv
    obtain ⟨k1, k2, k3⟩ := vx_keep h0 e1 hS hA hf hL hF
    obtain ⟨t2, a1, b1⟩ := kk r u t T'.heap (locs ++ L) e1.symm (by rw [← e2]; exact X'.warmed.alike) hp hb k1 k2 k3 T' rfl X'
    exact ⟨t2, st t2 a1, b1⟩
  · obtain ⟨k1, k2, k3⟩ := vx_keep h0 e1 hS hAX hf hL hF
    obtain ⟨t2, a1, b1⟩ := kx E ce q u t T'.heap (locs ++ L) e1.symm (by rw [← e2]; exact X'.warmed.alike) hp hb k1 k2 k3 (by rw [e1]; exact hce) hcv hcl T' rfl X'
    exact ⟨t2, st.trans a1, b1⟩
theorem vx_calll {S SX : Type} {post : Int64 → S → Prop} {px : SX → Prop} {B : S → State → Prop} {BX : String → SX → State → Prop} {AX : Nat → Prop} (hr : vx_Run p l e R s m args below meth c H locs cells slots mc ms (F0 m pc ls st0) rest (va_Ql post B A1 a) (vx_X px BX AX) free) (hS : va_S A0 H0 H locs) (hA : ∀ q, q < H.size → A1 q → A0 q) (hf : ∀ q, free q → A0 q) (hAX : ∀ q, q < H.size → AX q → A0 q)
    (kx : ∀ (E : String) (ce : Cell) (q9 : Addr) (u : SX) (t : State) (H1 : Heap) (locs1 : List Loc), t.heap = H1 → s.vm.Alike t.vm → px u → BX E u t → H.size ≤ H1.size → (∀ q : Nat, q < H.size → ¬ AX q → H1[q]? = H[q]?) → va_S A0 H0 H1 locs1 → H1[q9]? = some ce → ce.vm = .none → s.vm.findClass E = some ce.cls → vx_W p l e R s m args below meth c H1 locs1 (cells + mc) (slots + ms) Q (F0 m pc ls rest) q9)
    (kk : ∀ (r : Int64) (u : S) (t : State) (H1 : Heap) (locs1 : List Loc), t.heap = H1 → s.vm.Alike t.vm → post r u → B u t → H.size ≤ H1.size → (∀ q : Nat, q < H.size → ¬ A1 q → H1[q]? = H[q]?) → va_S A0 H0 H1 locs1 → W p l e R s m args below meth c H1 locs1 (cells + mc) (slots + ms) Q (F0 m (pc + 3) ls (.long r :: rest))) : W p l e R s m args below meth c H locs cells slots Q (F0 m pc ls st0) := by
  intro T hT X
  rcases hr T hT X with ⟨v, st₀, t, T', L, h0, X', hL, e1, e2, ⟨⟨r, u, hv, hp, hb⟩, hF⟩, st⟩ | ⟨q, st₀, t, T', L, E, ce, h0, X', hL, e1, e2, ⟨u, hp, hb, hF⟩, hce, hcv, hcl, st⟩
  · cases hv
    obtain ⟨k1, k2, k3⟩ := vx_keep h0 e1 hS hA hf hL hF
    obtain ⟨t2, a1, b1⟩ := kk r u t T'.heap (locs ++ L) e1.symm (by rw [← e2]; exact X'.warmed.alike) hp hb k1 k2 k3 T' rfl X'
    exact ⟨t2, st t2 a1, b1⟩
  · obtain ⟨k1, k2, k3⟩ := vx_keep h0 e1 hS hAX hf hL hF
    obtain ⟨t2, a1, b1⟩ := kx E ce q u t T'.heap (locs ++ L) e1.symm (by rw [← e2]; exact X'.warmed.alike) hp hb k1 k2 k3 (by rw [e1]; exact hce) hcv hcl T' rfl X'
    exact ⟨t2, st.trans a1, b1⟩
theorem vx_callf {S SX : Type} {post : UInt32 → S → Prop} {px : SX → Prop} {B : S → State → Prop} {BX : String → SX → State → Prop} {AX : Nat → Prop} (hr : vx_Run p l e R s m args below meth c H locs cells slots mc ms (F0 m pc ls st0) rest (va_Qf post B A1 a) (vx_X px BX AX) free) (hS : va_S A0 H0 H locs) (hA : ∀ q, q < H.size → A1 q → A0 q) (hf : ∀ q, free q → A0 q) (hAX : ∀ q, q < H.size → AX q → A0 q)
    (kx : ∀ (E : String) (ce : Cell) (q9 : Addr) (u : SX) (t : State) (H1 : Heap) (locs1 : List Loc), t.heap = H1 → s.vm.Alike t.vm → px u → BX E u t → H.size ≤ H1.size → (∀ q : Nat, q < H.size → ¬ AX q → H1[q]? = H[q]?) → va_S A0 H0 H1 locs1 → H1[q9]? = some ce → ce.vm = .none → s.vm.findClass E = some ce.cls → vx_W p l e R s m args below meth c H1 locs1 (cells + mc) (slots + ms) Q (F0 m pc ls rest) q9)
    (kk : ∀ (r : UInt32) (u : S) (t : State) (H1 : Heap) (locs1 : List Loc), t.heap = H1 → s.vm.Alike t.vm → post r u → B u t → H.size ≤ H1.size → (∀ q : Nat, q < H.size → ¬ A1 q → H1[q]? = H[q]?) → va_S A0 H0 H1 locs1 → W p l e R s m args below meth c H1 locs1 (cells + mc) (slots + ms) Q (F0 m (pc + 3) ls (.float r :: rest))) : W p l e R s m args below meth c H locs cells slots Q (F0 m pc ls st0) := by
  intro T hT X
  rcases hr T hT X with ⟨v, st₀, t, T', L, h0, X', hL, e1, e2, ⟨⟨r, u, hv, hp, hb⟩, hF⟩, st⟩ | ⟨q, st₀, t, T', L, E, ce, h0, X', hL, e1, e2, ⟨u, hp, hb, hF⟩, hce, hcv, hcl, st⟩
  · cases hv
    obtain ⟨k1, k2, k3⟩ := vx_keep h0 e1 hS hA hf hL hF
    obtain ⟨t2, a1, b1⟩ := kk r u t T'.heap (locs ++ L) e1.symm (by rw [← e2]; exact X'.warmed.alike) hp hb k1 k2 k3 T' rfl X'
    exact ⟨t2, st t2 a1, b1⟩
  · obtain ⟨k1, k2, k3⟩ := vx_keep h0 e1 hS hAX hf hL hF
    obtain ⟨t2, a1, b1⟩ := kx E ce q u t T'.heap (locs ++ L) e1.symm (by rw [← e2]; exact X'.warmed.alike) hp hb k1 k2 k3 (by rw [e1]; exact hce) hcv hcl T' rfl X'
    exact ⟨t2, st.trans a1, b1⟩
theorem vx_calld {S SX : Type} {post : UInt64 → S → Prop} {px : SX → Prop} {B : S → State → Prop} {BX : String → SX → State → Prop} {AX : Nat → Prop} (hr : vx_Run p l e R s m args below meth c H locs cells slots mc ms (F0 m pc ls st0) rest (va_Qd post B A1 a) (vx_X px BX AX) free) (hS : va_S A0 H0 H locs) (hA : ∀ q, q < H.size → A1 q → A0 q) (hf : ∀ q, free q → A0 q) (hAX : ∀ q, q < H.size → AX q → A0 q)
    (kx : ∀ (E : String) (ce : Cell) (q9 : Addr) (u : SX) (t : State) (H1 : Heap) (locs1 : List Loc), t.heap = H1 → s.vm.Alike t.vm → px u → BX E u t → H.size ≤ H1.size → (∀ q : Nat, q < H.size → ¬ AX q → H1[q]? = H[q]?) → va_S A0 H0 H1 locs1 → H1[q9]? = some ce → ce.vm = .none → s.vm.findClass E = some ce.cls → vx_W p l e R s m args below meth c H1 locs1 (cells + mc) (slots + ms) Q (F0 m pc ls rest) q9)
    (kk : ∀ (r : UInt64) (u : S) (t : State) (H1 : Heap) (locs1 : List Loc), t.heap = H1 → s.vm.Alike t.vm → post r u → B u t → H.size ≤ H1.size → (∀ q : Nat, q < H.size → ¬ A1 q → H1[q]? = H[q]?) → va_S A0 H0 H1 locs1 → W p l e R s m args below meth c H1 locs1 (cells + mc) (slots + ms) Q (F0 m (pc + 3) ls (.double r :: rest))) : W p l e R s m args below meth c H locs cells slots Q (F0 m pc ls st0) := by
  intro T hT X
  rcases hr T hT X with ⟨v, st₀, t, T', L, h0, X', hL, e1, e2, ⟨⟨r, u, hv, hp, hb⟩, hF⟩, st⟩ | ⟨q, st₀, t, T', L, E, ce, h0, X', hL, e1, e2, ⟨u, hp, hb, hF⟩, hce, hcv, hcl, st⟩
  · cases hv
    obtain ⟨k1, k2, k3⟩ := vx_keep h0 e1 hS hA hf hL hF
    obtain ⟨t2, a1, b1⟩ := kk r u t T'.heap (locs ++ L) e1.symm (by rw [← e2]; exact X'.warmed.alike) hp hb k1 k2 k3 T' rfl X'
    exact ⟨t2, st t2 a1, b1⟩
  · obtain ⟨k1, k2, k3⟩ := vx_keep h0 e1 hS hAX hf hL hF
    obtain ⟨t2, a1, b1⟩ := kx E ce q u t T'.heap (locs ++ L) e1.symm (by rw [← e2]; exact X'.warmed.alike) hp hb k1 k2 k3 (by rw [e1]; exact hce) hcv hcl T' rfl X'
    exact ⟨t2, st.trans a1, b1⟩
theorem vx_callv {S SX : Type} {post : S → Prop} {px : SX → Prop} {B : S → State → Prop} {BX : String → SX → State → Prop} {AX : Nat → Prop} (hr : vx_Run p l e R s m args below meth c H locs cells slots mc ms (F0 m pc ls st0) rest (va_Qv post B A1 a) (vx_X px BX AX) free) (hS : va_S A0 H0 H locs) (hA : ∀ q, q < H.size → A1 q → A0 q) (hf : ∀ q, free q → A0 q) (hAX : ∀ q, q < H.size → AX q → A0 q)
    (kx : ∀ (E : String) (ce : Cell) (q9 : Addr) (u : SX) (t : State) (H1 : Heap) (locs1 : List Loc), t.heap = H1 → s.vm.Alike t.vm → px u → BX E u t → H.size ≤ H1.size → (∀ q : Nat, q < H.size → ¬ AX q → H1[q]? = H[q]?) → va_S A0 H0 H1 locs1 → H1[q9]? = some ce → ce.vm = .none → s.vm.findClass E = some ce.cls → vx_W p l e R s m args below meth c H1 locs1 (cells + mc) (slots + ms) Q (F0 m pc ls rest) q9)
    (kk : ∀ (u : S) (t : State) (H1 : Heap) (locs1 : List Loc), t.heap = H1 → s.vm.Alike t.vm → post u → B u t → H.size ≤ H1.size → (∀ q : Nat, q < H.size → ¬ A1 q → H1[q]? = H[q]?) → va_S A0 H0 H1 locs1 → W p l e R s m args below meth c H1 locs1 (cells + mc) (slots + ms) Q (F0 m (pc + 3) ls (rest))) : W p l e R s m args below meth c H locs cells slots Q (F0 m pc ls st0) := by
  intro T hT X
  rcases hr T hT X with ⟨v, st₀, t, T', L, h0, X', hL, e1, e2, ⟨⟨u, hv, hp, hb⟩, hF⟩, st⟩ | ⟨q, st₀, t, T', L, E, ce, h0, X', hL, e1, e2, ⟨u, hp, hb, hF⟩, hce, hcv, hcl, st⟩
  · cases hv
    obtain ⟨k1, k2, k3⟩ := vx_keep h0 e1 hS hA hf hL hF
    obtain ⟨t2, a1, b1⟩ := kk u t T'.heap (locs ++ L) e1.symm (by rw [← e2]; exact X'.warmed.alike) hp hb k1 k2 k3 T' rfl X'
    exact ⟨t2, st t2 a1, b1⟩
  · obtain ⟨k1, k2, k3⟩ := vx_keep h0 e1 hS hAX hf hL hF
    obtain ⟨t2, a1, b1⟩ := kx E ce q u t T'.heap (locs ++ L) e1.symm (by rw [← e2]; exact X'.warmed.alike) hp hb k1 k2 k3 (by rw [e1]; exact hce) hcv hcl T' rfl X'
    exact ⟨t2, st.trans a1, b1⟩
/-- caught by the row x of this method's table; the rows ahead don't take it -/
theorem vx_catch {own name : String} {E : String} {ce : Cell} {q : Addr} (hown : s.vm.findClass own = some m.cls) (pre : List ExceptionTableEntry) (x : ExceptionTableEntry) (suf : List ExceptionTableEntry) (hsplit : c.exceptionTable.toList = pre ++ x :: suf)
    (hpass : ∀ z ∈ pre, covers z pc = false ∨ (z.catchType ≠ 0 ∧ ∃ nm : String, (Cond.classLink own z.catchType nm).before args s = true ∧ va_Nc E nm s)) (hx : covers x pc = true) (h0 : x.catchType ≠ 0)
    (hlink : (Cond.classLink own x.catchType name).before args s = true) (hcast : (Cond.castable E name).before args s = true) (hcell : H[q]? = some ce) (hv : ce.vm = .none) (hcl : s.vm.findClass E = some ce.cls)
    (kk : W p l e R s m args below meth c H locs cells slots Q (F0 m x.handlerPc ls [.ref q])) : vx_W p l e R s m args below meth c H locs cells slots Q (F0 m pc ls rest) q := by
  intro T hT X
  have hpl : e.platform.magicAccessors = ({} : Platform).magicAccessors := by rw [X.admits.platform]
  obtain ⟨c3, c4, hc3, hc4, hasg⟩ := Cond.castable_spec hcast
  cases Option.some.inj (hc3.symm.trans hcl)
  obtain ⟨c5, hc5, hcl5⟩ := Cond.classLink_spec hown hlink e.platform hpl
  cases Option.some.inj (hc4.symm.trans hc5)
  obtain ⟨vm', X', st⟩ := X.thenCaughtThrough q (g := F0 m pc ls rest) rfl (Steps.refl _) (by rw [hT]; exact hcell) (by rw [hv]; rfl) (by obtain ⟨k9, h9, -⟩ := Vm.findClass_spec hcl; exact ⟨k9, h9⟩) pre x suf hsplit
    (fun z hz => by
      rcases hpass z hz with h | ⟨hz0, nm, hl1, hn1⟩
      · exact Or.inl h
      · obtain ⟨c6, hc6, hcl6⟩ := Cond.classLink_spec hown hl1 e.platform hpl
        obtain ⟨a8, b8, h1, h2, h3⟩ := hn1
        cases Option.some.inj (h1.symm.trans hcl)
        cases Option.some.inj (h2.symm.trans hc6)
        exact Or.inr ⟨hz0, _, hcl6, h3⟩) hx (Or.inr ⟨h0, c4, hcl5, hasg⟩)
  obtain ⟨t, a1, b1⟩ := kk (T.setVm vm') hT X'
  exact ⟨t, st.trans a1, b1⟩
end Rows
section Ends
variable {p : Program} {l : Launch} {e : Env} {R : Room} {s : State} {m : MethodId} {args : Array Value} {below : List Frame} {meth : Method} {c : Code} {H : Heap} {locs : List Loc} {cells slots : Nat} {Q : State → Prop}
variable {mc ms : Nat} {free : Addr → Prop} {A0 A1 : Nat → Prop} {H0 : Heap} {a : Array Value} {ls : Array Slot} {st0 rest : List Value}
variable {Qc : Array Value → State → Outcome → State → Prop} {XC : String → State → State → Prop}
/-- what a body that may throw owes at its end -/
def vx_MQ (below : List Frame) (Qc : Array Value → State → Outcome → State → Prop) (XC : String → State → State → Prop) (a : Array Value) (s : State) (mc ms : Nat) (free : Addr → Prop) : State → Prop := fun t =>
  ∃ o, t.status = .running ∧ Ended t below o ∧ vx_Q Qc XC mc ms free a s o t
theorem vx_ret {g : JFrame} {mc ms : Nat} (k : W p l e R s m args below meth c H locs cells slots (MQ below Qc args s mc ms free) g) : W p l e R s m args below meth c H locs cells slots (vx_MQ below Qc XC args s mc ms free) g := by
  intro T hT X
  obtain ⟨t, a1, o, b1, b2, b3, b4⟩ := k T hT X
  exact ⟨t, a1, o, b1, b2, Or.inl ⟨b3, b4⟩⟩
/-- not caught here: it goes on to the caller -/
theorem vx_widen {g : JFrame} {q : Addr} {k n : Nat} (h1 : cells ≤ k) (h2 : slots ≤ n) (kk : vx_W p l e R s m args below meth c H locs k n Q g q) : vx_W p l e R s m args below meth c H locs cells slots Q g q := fun T hT X => kk T hT (stand_widen X h1 h2)
theorem vx_out {pc : Nat} {E : String} {ce : Cell} {q : Addr} {mc ms : Nat} (hout : ∀ x ∈ c.exceptionTable.toList, covers x pc = false) (hlocks : meth.locks = false) (hcell : H[q]? = some ce) (hv : ce.vm = .none) (hcl : s.vm.findClass E = some ce.cls)
    (hx : ∀ t : State, t.heap = H → s.vm.Alike t.vm → XC E s t) (hf : ∀ z ∈ locs, free z.base) (hc : cells ≤ mc) (hs : slots ≤ ms) :
    vx_W p l e R s m args below meth c H locs cells slots (vx_MQ below Qc XC args s mc ms free) (F0 m pc ls rest) q := by
  intro T hT X
  obtain ⟨st1, hrun, hend, hW, hsm⟩ := X.leaveThrown q (g := F0 m pc ls rest) rfl rfl rfl hout hlocks
  have hcell9 : (T.setFrames (.throwing q :: below)).heap[q]? = some ce := by
    show T.heap[q]? = some ce
    rw [hT]; exact hcell
  exact ⟨_, st1, .threw q, hrun, hend, Or.inr ⟨q, rfl, E, ce, locs, hx _ hT hW.alike, hcell9, hv, hcl, hW, hsm.mono hc hs, hf⟩⟩
theorem vx_frame {U : State} {k n : Nat} (h : s.sameButNew ({ U with vm := s.vm } : State) locs k n) : s.heap.size ≤ U.heap.size ∧ ∀ q : Nat, q < s.heap.size → (∀ z ∈ locs, z.base ≠ q) → U.heap[q]? = s.heap[q]? := by
  obtain ⟨-, h2, -, -, -, h6⟩ := h
  refine ⟨h2, fun q hq hz => ?_⟩
  obtain ⟨c9, e1, e2, e3, e4⟩ := h6 q _ (Array.getElem?_eq_getElem hq)
  have hs : c9.slots = (s.heap[q]).slots := Array.ext_getElem? fun i => e4 i fun hm => hz _ hm rfl
  have h9 : c9 = s.heap[q] := by
    rw [hs] at e2
    exact e2
  have e5 : U.heap[q]? = some c9 := e1
  rw [e5, h9, Array.getElem?_eq_getElem hq]
/-- the words of a throw but the four that speak of the heap -/
def vx_no (w : Cond) : Bool := decide (w ≠ .isRef (.static Bundle.tN "UNASSIGNED_STACK" Bundle.steD)) && decide (w ≠ .isRef (.static Bundle.tN "SUPPRESSED_SENTINEL" Bundle.listD)) && decide (w ≠ .laysStatic Bundle.tN "UNASSIGNED_STACK" Bundle.steD) && decide (w ≠ .laysStatic Bundle.tN "SUPPRESSED_SENTINEL" Bundle.listD)
def vx_at0 (own : String) (ic : Nat) (X : String) (names : List String) : List Cond := (Bundle.ownAtoms0 own ic X names).filter vx_no
def vx_atS (own : String) (ic : Nat) (X : String) (names : List String) : List Cond := (Bundle.ownAtoms own ic X names).filter vx_no
/-- a word that the tables alone decide, or a good one -/
def vx_ot (w : Cond) : Bool := w.onTables || goodWord w
theorem vx_ot_at {args a' : Array Value} {s U : State} {w : Cond} (hW : s.WarmedH U.vm) (hvm : s.vm = U.vm) (hg : vx_ot w = true) (h : w.before args s = true) : w.before a' U = true := by
  simp only [vx_ot, Bool.or_eq_true] at hg
  rcases hg with hg | hg
  · exact va_tabs hg hvm h
  · exact word_at hW (good_of_word hg) h
/-- a list's words: the good ones out of the method's own list, the others by premises of their own -/
theorem vx_hat {args : Array Value} {s : State} {L B : List Cond} (h1 : ∀ w ∈ L.filter goodWord, w.before args s = true) (h2 : ∀ w ∈ L.filter (fun w => !goodWord w), w ∈ B) (h3 : ∀ w ∈ B, w.before args s = true) : ∀ w ∈ L, w.before args s = true := by
  intro w hw
  by_cases g : goodWord w = true
  · exact h1 w (List.mem_filter.mpr ⟨hw, g⟩)
  · refine h3 w (h2 w (List.mem_filter.mpr ⟨hw, ?_⟩))
    show (!goodWord w) = true
    cases hgw : goodWord w
    · rfl
    · exact absurd hgw g
theorem vx_c {args : Array Value} {s : State} {w : Cond} {B : List Cond} (h : w.before args s = true) (t : ∀ w ∈ B, w.before args s = true) : ∀ w' ∈ w :: B, w'.before args s = true := fun w' h' => (List.mem_cons.mp h').elim (fun e => by rw [e]; exact h) (t w')
theorem vx_n {args : Array Value} {s : State} : ∀ w ∈ ([] : List Cond), w.before args s = true := fun _ h => nomatch h
theorem vx_own {args : Array Value} {s : State} {L : List Cond} (h1 : ∀ w ∈ L.filter vx_no, w.before args s = true)
    (hU : (Cond.isRef (.static Bundle.tN "UNASSIGNED_STACK" Bundle.steD)).before args s = true) (hN : (Cond.isRef (.static Bundle.tN "SUPPRESSED_SENTINEL" Bundle.listD)).before args s = true)
    (lU : (Cond.laysStatic Bundle.tN "UNASSIGNED_STACK" Bundle.steD).before args s = true) (lN : (Cond.laysStatic Bundle.tN "SUPPRESSED_SENTINEL" Bundle.listD).before args s = true) : ∀ w ∈ L, w.before args s = true := by
  intro w hw
  by_cases e1 : w = .isRef (.static Bundle.tN "UNASSIGNED_STACK" Bundle.steD)
  · rw [e1]; exact hU
  · by_cases e2 : w = .isRef (.static Bundle.tN "SUPPRESSED_SENTINEL" Bundle.listD)
    · rw [e2]; exact hN
    · by_cases e3 : w = .laysStatic Bundle.tN "UNASSIGNED_STACK" Bundle.steD
      · rw [e3]; exact lU
      · by_cases e4 : w = .laysStatic Bundle.tN "SUPPRESSED_SENTINEL" Bundle.listD
        · rw [e4]; exact lN
        · exact h1 w (List.mem_filter.mpr ⟨hw, by unfold vx_no; rw [decide_eq_true e1, decide_eq_true e2, decide_eq_true e3, decide_eq_true e4]; rfl⟩)
/-- where a static field lies, its class's statics cell in H -/
def vx_L (C n d : String) (A : Nat → Prop) (U : State) (H : Heap) : Prop := ∃ (c : ClassId) (k : Class) (i : Nat) (f : Field) (a : Nat) (cell : Cell), U.vm.findClass C = some c ∧ U.fieldFound? C n d = some (c, k, i, f) ∧ f.isStatic = true ∧ k.statics = some a ∧ H[a]? = some cell ∧ cell.vm.isStatics = true ∧ cell.cls = c ∧ f.slot < cell.slots.size ∧ k.staticTypes[f.slot]? = some f.type ∧ ¬ A a
theorem vx_L.moved {C n d : String} {A : Nat → Prop} {u U : State} {H : Heap} (hvm : u.vm.Alike U.vm) (h : vx_L C n d A u H) : vx_L C n d A U H := by
  obtain ⟨c, k, i, f, a, cell, h1, h2, h3, h4, h5, h6, h7, h8, h9, h10⟩ := h
  obtain ⟨k', hi', he⟩ := State.fieldFound?_setVm hvm h2
  exact ⟨c, k', i, f, a, cell, by rw [hvm.findClass]; exact h1, hi', h3, by rw [he]; exact h4, h5, h6, h7, h8, by rw [he]; exact h9, h10⟩
theorem vx_L.kept {C n d : String} {A : Nat → Prop} {U : State} {H H1 : Heap} (h : vx_L C n d A U H) (hq : ∀ a : Nat, a < H.size → ¬ A a → H1[a]? = H[a]?) : vx_L C n d A U H1 := by
  obtain ⟨c, k, i, f, a, cell, h1, h2, h3, h4, h5, h6, h7, h8, h9, h10⟩ := h
  exact ⟨c, k, i, f, a, cell, h1, h2, h3, h4, by rw [hq a (Array.getElem?_eq_some_iff.mp h5).1 h10]; exact h5, h6, h7, h8, h9, h10⟩
theorem vx_L.narrow {C n d : String} {A B : Nat → Prop} {U : State} {H : Heap} (h : vx_L C n d A U H) (hAB : ∀ q, B q → A q) : vx_L C n d B U H := by
  obtain ⟨c, k, i, f, a, cell, h1, h2, h3, h4, h5, h6, h7, h8, h9, h10⟩ := h
  exact ⟨c, k, i, f, a, cell, h1, h2, h3, h4, h5, h6, h7, h8, h9, fun z => h10 (hAB _ z)⟩
theorem vx_L.word {C n d : String} {A : Nat → Prop} {s : State} {args : Array Value} (h : vx_L C n d A s s.heap) : (Cond.laysStatic C n d).before args s = true := by
  obtain ⟨c, k, i, f, a, cell, h1, h2, h3, h4, h5, h6, h7, h8, h9, -⟩ := h
  show (Cond.laysStatic C n d).holds args s none s [] = true
  exact Cond.laysStatic_of h1 h2 h3 h4 h5 h6 h7 h8 h9
/-- .. and what it holds: null or some reference -/
def vx_Zq (C n d : String) (A : Nat → Prop) (U : State) (H : Heap) : Prop := va_Zq C n d A U H ∧ vx_L C n d A U H
theorem vx_Zq.moved {C n d : String} {A : Nat → Prop} {u U : State} {H : Heap} (hvm : u.vm.Alike U.vm) (h : vx_Zq C n d A u H) : vx_Zq C n d A U H := ⟨va_Zq.moved hvm h.1, vx_L.moved hvm h.2⟩
theorem vx_Zq.kept {C n d : String} {A : Nat → Prop} {U : State} {H H1 : Heap} (h : vx_Zq C n d A U H) (hq : ∀ a : Nat, a < H.size → ¬ A a → H1[a]? = H[a]?) : vx_Zq C n d A U H1 := ⟨va_Zq.kept h.1 hq, vx_L.kept h.2 hq⟩
theorem vx_Zq.narrow {C n d : String} {A B : Nat → Prop} {U : State} {H : Heap} (h : vx_Zq C n d A U H) (hAB : ∀ q, B q → A q) : vx_Zq C n d B U H := ⟨va_Zq.narrow h.1 hAB, vx_L.narrow h.2 hAB⟩
theorem vx_Zqof {args : Array Value} {s : State} {C n d : String} {A : Nat → Prop} (hl : (Cond.laysStatic C n d).before args s = true) (hini : (Cond.initialized C).before args s = true) (h : (Cond.isRef (.static C n d)).before args s = true) (hA : ∀ a : Nat, a < s.heap.size → ¬ A a) : vx_Zq C n d A s s.heap := by
  refine ⟨va_Zqof hl hini h hA, ?_⟩
  obtain ⟨c, k, i, f, a, cell, h1, h2, h3, h4, h5, h6, h7, h8, h9⟩ := Cond.laysStatic_spec hl
  exact ⟨c, k, i, f, a, cell, h1, h2, h3, h4, h5, h6, h7, h8, h9, hA a (Array.getElem?_eq_some_iff.mp h5).1⟩
theorem vx_isRef {C n d : String} {v : Value} {A : Nat → Prop} {s : State} {args : Array Value} (h : va_Z C n d v A s s.heap) (hv : v.isRef = true) : (Cond.isRef (.static C n d)).before args s = true := by
  obtain ⟨cf, kf, fi, f, a, cell, h1, h2, h3, h4, h5, h6, h7, -⟩ := h
  have he : (Term.static C n d).eval args s none [] s = some v := by
    simp [Term.eval, State.fieldNamed?, h1, h2, h4, h5, h6, h7]
  simp only [Cond.before, Cond.holds, Cond.value, he]
  cases v <;> simp_all [Value.isRef]
theorem vx_isRefq {C n d : String} {A : Nat → Prop} {s : State} {args : Array Value} (h : va_Zq C n d A s s.heap) : (Cond.isRef (.static C n d)).before args s = true := by
  rcases h with h | ⟨t, h⟩
  · exact vx_isRef h rfl
  · exact vx_isRef h rfl
/-- the same frame, seen from here: as if the method were called anew in this heap -/
theorem vx_rebase {T : State} (X : Stand p l e R s m args below meth c T locs cells slots) {R' : Room} (hf : R'.frames ≤ R.frames) (hl : R'.locals ≤ R.locals) (hc : cells + R'.cells ≤ R.cells) (hs : slots + R'.slots ≤ R.slots) :
    Stand p l e R' ((T.setVm s.vm).setFrames (.invoking m args :: below)) m args below meth c T [] 0 0 := by
  have htop : (T.setVm s.vm).topJava?.isSome := X.here.top
  have hF : ((T.setVm s.vm).setFrames (.invoking m args :: below)).frames = .invoking m args :: below := State.frames_setFrames _ (State.cur_lt_of_top htop)
  obtain ⟨g₀, hg0⟩ := Option.isSome_iff_exists.mp htop
  obtain ⟨r, hr⟩ := State.topJava?_eq_some.mp hg0
  have hl9 : e.platform.stackLimits (T.setVm s.vm).me = e.platform.stackLimits s.me := X.limits
  have hb9 : (T.setVm s.vm).me.stackBytes = s.me.stackBytes := X.bytes
  refine ⟨X.admits, X.cas, X.clock, hF, ?_, X.hears, X.method, X.code, X.here, X.tail, X.warmed, ?_, ?_, ?_⟩
  · have h := X.room
    have hU : ((T.setVm s.vm).setFrames (.invoking m args :: below)).localsInUse = s.localsInUse := by
      rw [State.localsInUse_invoking hF (meth := meth) (c := c) X.method X.code, State.localsInUse_invoking X.frames X.method X.code]
    simp only [State.hasRoom, Bool.and_eq_true, decide_eq_true_eq] at h ⊢
    obtain ⟨⟨⟨⟨h1, h2, h3, h4, h5, h6⟩, h7⟩, h8⟩, h9⟩ := h
    rw [X.frames, List.length_cons] at h2 h3
    have q1 := X.heapSize
    have q2 := X.used
    simp only [hF, hU, List.length_cons, State.stackLimits_setFrames, State.stackBytes_setFrames, hl9, hb9]
    refine ⟨⟨⟨⟨by omega, by omega, by omega, by omega, by omega, h6⟩, ?_⟩, ?_⟩, X.book⟩
    · show T.heap.size + R'.cells ≤ e.platform.maxCells
      omega
    · show T.slotsUsed + R'.slots ≤ e.platform.maxSlots
      omega
  · rw [State.stackLimits_setFrames]; rfl
  · rw [State.stackBytes_setFrames]; rfl
  · refine ⟨?_, Nat.le_refl _, Nat.le_refl _, ?_, ?_, fun a c9 h9 => ⟨c9, h9, rfl, rfl, fun _ _ => rfl⟩⟩
    · obtain ⟨t, ht, -⟩ := State.frames_cons hr
      show T.setVm s.vm = { ((T.setVm s.vm).setFrames (.invoking m args :: below)).setFrames (T.setVm s.vm).frames with heap := T.heap, slotsUsed := T.slotsUsed }
      rw [State.setFrames_setFrames, State.setFrames_self ht]
      rfl
    · show T.slotsUsed = T.slotsUsed + ((T.heap.toList.drop T.heap.size).map (·.slots.size)).sum
      rw [List.drop_eq_nil_of_le (Nat.le_of_eq Array.length_toList)]
      rfl
    · show ((T.heap.toList.drop T.heap.size).map (·.slots.size)).sum ≤ 0
      rw [List.drop_eq_nil_of_le (Nat.le_of_eq Array.length_toList)]
      exact Nat.le_refl _
/-- 'throw new E()': new; dup; invokespecial; athrow -/
theorem vx_throw0 {cc : ByteArray} {pc : Nat} (hexec : p.tables.exec = Jvm.exec) (hb : c.code = cc) (hl : l.stackTraces = false) {own cls : String} {names : List String} {ik ic mc ms : Nat} {A : Nat → Prop}
    (hown : s.vm.findClass own = some m.cls) (hcls : Bundle.fit cls = true) (hnames : ∀ n ∈ names, Bundle.fit n = true)
    (hk : (Cond.classLink own ik cls).before args s = true) (hini : (Cond.initialized cls).before args s = true) (hat : ∀ w ∈ vx_at0 own ic cls names, w.before args s = true)
    (hgood : ∀ w ∈ Cond.classLink own ik cls :: Cond.initialized cls :: vx_at0 own ic cls names, vx_ot w = true)
    (hU : vx_Zq Bundle.tN "UNASSIGNED_STACK" Bundle.steD A s s.heap) (hN : vx_Zq Bundle.tN "SUPPRESSED_SENTINEL" Bundle.listD A s s.heap) (hS : va_S A s.heap H locs) (hsize : ls.size = c.maxLocals)
    (d0 : decode cc pc = .ok (.new ik, 3)) (d3 : decode cc (pc + 3) = .ok (.dup, 1)) (d4 : decode cc (pc + 4) = .ok (.invokespecial ic, 3)) (d7 : decode cc (pc + 7) = .ok (.athrow, 1))
    (hout : ∀ x ∈ c.exceptionTable.toList, covers x (pc + 7) = false)
    (hRframes : names.length + 3 < R.frames) (hRlocals : (rest.map fun v => v.category).sum + (13 * (names.length + 1) + 42) ≤ R.locals) (hRcells : cells + 1 ≤ R.cells) (hRslots : slots + 6 ≤ R.slots) (hlocks : meth.locks = false)
    (hx : ∀ t : State, s.vm.Alike t.vm → H.size ≤ t.heap.size → (∀ q : Nat, q < H.size → t.heap[q]? = H[q]?) → XC cls s t)
    (hf : ∀ z ∈ locs, free z.base) (hc : cells + 1 ≤ mc) (hs : slots + 6 ≤ ms) :
    W p l e R s m args below meth c H locs cells slots (vx_MQ below Qc XC args s mc ms free) (F0 m pc ls rest) := by
  intro T hT X
  have htr : e.platform.stackTraces = false := (show e.platform.stackTraces = l.stackTraces by rw [X.admits.platform]).trans hl
  have Y := vx_rebase X (R' := { frames := R.frames, locals := R.locals, cells := 1, slots := 6 }) (Nat.le_refl _) (Nat.le_refl _) hRcells hRslots
  obtain ⟨s', hA⟩ : ∃ z, z = (T.setVm s.vm).setFrames (.invoking m args :: below) := ⟨_, rfl⟩
  rw [← hA] at Y
  have hvm : s'.vm = s.vm := by rw [hA]; rfl
  have hhp : s'.heap = H := by rw [hA]; exact hT
  have hW0 : s.WarmedH s'.vm := by rw [hvm]; exact State.WarmedH.refl s
  have hat' : ∀ w ∈ vx_at0 own ic cls names, w.before args s' = true := fun w hw => vx_ot_at hW0 hvm.symm (hgood w (List.mem_cons_of_mem _ (List.mem_cons_of_mem _ hw))) (hat w hw)
  have hk' : (Cond.classLink own ik cls).before args s' = true := vx_ot_at hW0 hvm.symm (hgood _ List.mem_cons_self) hk
  have hini' : (Cond.initialized cls).before args s' = true := vx_ot_at hW0 hvm.symm (hgood _ (List.mem_cons_of_mem _ List.mem_cons_self)) hini
  have hU' : vx_Zq Bundle.tN "UNASSIGNED_STACK" Bundle.steD A s' s'.heap := by rw [hhp]; exact vx_Zq.moved hW0.alike (hU.kept hS.2.1)
  have hN' : vx_Zq Bundle.tN "SUPPRESSED_SENTINEL" Bundle.listD A s' s'.heap := by rw [hhp]; exact vx_Zq.moved hW0.alike (hN.kept hS.2.1)
  have h : ∀ w ∈ Bundle.ownAtoms0 own ic cls names, w.before args s' = true := vx_own hat' (vx_isRefq hU'.1) (vx_isRefq hN'.1) hU'.2.word hN'.2.word
  have hown' : s'.vm.findClass own = some m.cls := by rw [hvm]; exact hown
  have hins : (Cond.instantiable cls 6).before args s' = true := h _ (by simp [Bundle.ownAtoms0])
  obtain ⟨vm₁, cX, kX, hfX, hkX, -, -, X₁, st1⟩ := Y.newCold hexec (own := own) (C := cls) (index := ik) (n := 6) hown' hk' hins hini'
    (g := F0 m pc ls rest) rfl (by rw [hb]; exact d0) (Nat.le_refl _) (Nat.le_refl _)
  generalize hT1 : (T.setVm vm₁).pushCell { cls := cX, slots := kX.instanceTypes.map defaultValue, vm := .none } = T1 at X₁ st1
  have hcat : (Value.ref T.heap.size).category = 1 := rfl
  have hcellA : T1.heap[T.heap.size]? = some (freshCell cX kX) := by rw [← hT1]; exact State.heap_pushCell_size _ _
  have d3' : decode c.code (pc + 3) = .ok (.dup, 1) := by rw [hb]; exact d3
  obtain ⟨U, hsteps, hrun, hend, hW, hsame, ce, hce, hO⟩ := X₁.ctorThrow0 hexec htr (own := own) (cls := cls) (names := names) (ic := ic) hown' hcls hnames h (fun x hx => nomatch hx) hfX hkX hcellA (by rw [hhp, hT]; exact Nat.le_refl _)
    (g := { method := m, pc := pc + 4, locals := ls, stack := .ref T.heap.size :: .ref T.heap.size :: rest, locked := none }) rfl hsize rfl rfl (rest := rest) rfl
    (by rw [hb]; exact d4) (by rw [hb]; exact d7) hout hRframes (by simp only [List.map_cons, List.sum_cons, hcat]; omega) hlocks
  obtain ⟨f1, f2⟩ := vx_frame hsame
  rw [hhp] at f1 f2
  have hWs : s.WarmedH U.vm := State.WarmedH.trans hW0 hW
  have hcl : s.vm.findClass cls = some ce.cls := by
    have h9 := hO.cls
    rw [hvm] at h9
    exact h9
  have hall : s.sameButNew ({ U with vm := s.vm } : State) locs mc ms := by
    subst hA
    obtain ⟨e1, e2⟩ := hsame
    rw [State.setFrames_setFrames] at e1
    have h2 : (T.setVm s.vm).sameButNew ({ U with vm := s.vm } : State) [] (0 + 1) (0 + 6) := ⟨e1, e2⟩
    have h3 := X.same.trans h2
    rw [List.append_nil] at h3
    exact h3.mono hc hs
  refine ⟨U, ?_, .threw T.heap.size, hrun, hend, Or.inr ⟨T.heap.size, rfl, cls, ce, locs, hx U hWs.alike f1 (fun q hq => f2 q hq (fun z hz => nomatch hz)), hce, hO.vm, hcl, hWs, hall, hf⟩⟩
  refine st1 _ ?_
  show Steps p.tables e below (T1.setTop { method := m, pc := pc + 3, locals := ls, stack := .ref T.heap.size :: rest, locked := none }) _
  jvm_step X₁.here [X₁.here.top, hexec, d3', Value.category]
  exact hsteps
/-- 'throw new E("text")': new; dup; ldc; invokespecial; athrow -/
theorem vx_throwS {cc : ByteArray} {pc : Nat} (hexec : p.tables.exec = Jvm.exec) (hb : c.code = cc) (hl : l.stackTraces = false) {own cls text : String} {names : List String} {ik is ic mc ms sa : Nat} {A : Nat → Prop}
    (hown : s.vm.findClass own = some m.cls) (hcls : Bundle.fit cls = true) (hnames : ∀ n ∈ names, Bundle.fit n = true)
    (hk : (Cond.classLink own ik cls).before args s = true) (hini : (Cond.initialized cls).before args s = true) (hstr : vk_R own is text sa s) (hat : ∀ w ∈ vx_atS own ic cls names, w.before args s = true)
    (hgood : ∀ w ∈ Cond.classLink own ik cls :: Cond.initialized cls :: vx_atS own ic cls names, vx_ot w = true)
    (hU : vx_Zq Bundle.tN "UNASSIGNED_STACK" Bundle.steD A s s.heap) (hN : vx_Zq Bundle.tN "SUPPRESSED_SENTINEL" Bundle.listD A s s.heap) (hS : va_S A s.heap H locs) (hsize : ls.size = c.maxLocals)
    (d0 : decode cc pc = .ok (.new ik, 3)) (d3 : decode cc (pc + 3) = .ok (.dup, 1)) (d4 : decode cc (pc + 4) = .ok (.ldc is, 2)) (d6 : decode cc (pc + 6) = .ok (.invokespecial ic, 3)) (d9 : decode cc (pc + 9) = .ok (.athrow, 1))
    (hout : ∀ x ∈ c.exceptionTable.toList, covers x (pc + 9) = false)
    (hRframes : names.length + 3 < R.frames) (hRlocals : (rest.map fun v => v.category).sum + (13 * (names.length + 1) + 43) ≤ R.locals) (hRcells : cells + 1 ≤ R.cells) (hRslots : slots + 6 ≤ R.slots) (hlocks : meth.locks = false)
    (hx : ∀ t : State, s.vm.Alike t.vm → H.size ≤ t.heap.size → (∀ q : Nat, q < H.size → t.heap[q]? = H[q]?) → XC cls s t)
    (hf : ∀ z ∈ locs, free z.base) (hc : cells + 1 ≤ mc) (hs : slots + 6 ≤ ms) :
    W p l e R s m args below meth c H locs cells slots (vx_MQ below Qc XC args s mc ms free) (F0 m pc ls rest) := by
  intro T hT X
  have htr : e.platform.stackTraces = false := (show e.platform.stackTraces = l.stackTraces by rw [X.admits.platform]).trans hl
  have Y := vx_rebase X (R' := { frames := R.frames, locals := R.locals, cells := 1, slots := 6 }) (Nat.le_refl _) (Nat.le_refl _) hRcells hRslots
  obtain ⟨s', hA⟩ : ∃ z, z = (T.setVm s.vm).setFrames (.invoking m args :: below) := ⟨_, rfl⟩
  rw [← hA] at Y
  have hvm : s'.vm = s.vm := by rw [hA]; rfl
  have hhp : s'.heap = H := by rw [hA]; exact hT
  have hW0 : s.WarmedH s'.vm := by rw [hvm]; exact State.WarmedH.refl s
  have hat' : ∀ w ∈ vx_atS own ic cls names, w.before args s' = true := fun w hw => vx_ot_at hW0 hvm.symm (hgood w (List.mem_cons_of_mem _ (List.mem_cons_of_mem _ hw))) (hat w hw)
  have hk' : (Cond.classLink own ik cls).before args s' = true := vx_ot_at hW0 hvm.symm (hgood _ List.mem_cons_self) hk
  have hini' : (Cond.initialized cls).before args s' = true := vx_ot_at hW0 hvm.symm (hgood _ (List.mem_cons_of_mem _ List.mem_cons_self)) hini
  have hU' : vx_Zq Bundle.tN "UNASSIGNED_STACK" Bundle.steD A s' s'.heap := by rw [hhp]; exact vx_Zq.moved hW0.alike (hU.kept hS.2.1)
  have hN' : vx_Zq Bundle.tN "SUPPRESSED_SENTINEL" Bundle.listD A s' s'.heap := by rw [hhp]; exact vx_Zq.moved hW0.alike (hN.kept hS.2.1)
  have h : ∀ w ∈ Bundle.ownAtoms own ic cls names, w.before args s' = true := vx_own hat' (vx_isRefq hU'.1) (vx_isRefq hN'.1) hU'.2.word hN'.2.word
  have hown' : s'.vm.findClass own = some m.cls := by rw [hvm]; exact hown
  have hins : (Cond.instantiable cls 6).before args s' = true := h _ (by simp [Bundle.ownAtoms])
  obtain ⟨vm₁, cX, kX, hfX, hkX, -, -, X₁, st1⟩ := Y.newCold hexec (own := own) (C := cls) (index := ik) (n := 6) hown' hk' hins hini'
    (g := F0 m pc ls rest) rfl (by rw [hb]; exact d0) (Nat.le_refl _) (Nat.le_refl _)
  generalize hT1 : (T.setVm vm₁).pushCell { cls := cX, slots := kX.instanceTypes.map defaultValue, vm := .none } = T1 at X₁ st1
  have hcat : (Value.ref T.heap.size).category = 1 := rfl
  have hcellA : T1.heap[T.heap.size]? = some (freshCell cX kX) := by rw [← hT1]; exact State.heap_pushCell_size _ _
  have d3' : decode c.code (pc + 3) = .ok (.dup, 1) := by rw [hb]; exact d3
  have d4' : decode c.code (pc + 4) = .ok (.ldc is, 2) := by rw [hb]; exact d4
  have hstr' : vk_R own is text sa s' := vk_R.warm hW0 hstr
  obtain ⟨U, hsteps, hrun, hend, hW, hsame, ce, hce, hO⟩ := X₁.ctorThrowS hexec htr (own := own) (cls := cls) (names := names) (ic := ic) hown' hcls hnames h (fun x hx => nomatch hx) hfX hkX hcellA (by rw [hhp, hT]; exact Nat.le_refl _) (msg := .ref sa) rfl
    (g := { method := m, pc := pc + 6, locals := ls, stack := .ref sa :: .ref T.heap.size :: .ref T.heap.size :: rest, locked := none }) rfl hsize rfl rfl (rest := rest) rfl
    (by rw [hb]; exact d6) (by rw [hb]; exact d9) hout hRframes (by simp only [List.map_cons, List.sum_cons, hcat]; omega) hlocks
  obtain ⟨f1, f2⟩ := vx_frame hsame
  rw [hhp] at f1 f2
  have hWs : s.WarmedH U.vm := State.WarmedH.trans hW0 hW
  have hcl : s.vm.findClass cls = some ce.cls := by
    have h9 := hO.cls
    rw [hvm] at h9
    exact h9
  have hall : s.sameButNew ({ U with vm := s.vm } : State) locs mc ms := by
    subst hA
    obtain ⟨e1, e2⟩ := hsame
    rw [State.setFrames_setFrames] at e1
    have h2 : (T.setVm s.vm).sameButNew ({ U with vm := s.vm } : State) [] (0 + 1) (0 + 6) := ⟨e1, e2⟩
    have h3 := X.same.trans h2
    rw [List.append_nil] at h3
    exact h3.mono hc hs
  refine ⟨U, ?_, .threw T.heap.size, hrun, hend, Or.inr ⟨T.heap.size, rfl, cls, ce, locs, hx U hWs.alike f1 (fun q hq => f2 q hq (fun z hz => nomatch hz)), hce, hO.vm, hcl, hWs, hall, hf⟩⟩
  refine st1 _ ?_
  show Steps p.tables e below (T1.setTop { method := m, pc := pc + 3, locals := ls, stack := .ref T.heap.size :: rest, locked := none }) _
  jvm_step X₁.here [X₁.here.top, hexec, d3', Value.category]
  exact X₁.ldcString hexec (own := own) (text := text) (index := is) (a := sa) hown' hstr'.1 hstr'.2
    (g := { method := m, pc := pc + 4, locals := ls, stack := .ref T.heap.size :: .ref T.heap.size :: rest, locked := none }) rfl d4' _ hsteps
/-- 'throw new E("text")', the text by a wide index -/
theorem vx_throwSW {cc : ByteArray} {pc : Nat} (hexec : p.tables.exec = Jvm.exec) (hb : c.code = cc) (hl : l.stackTraces = false) {own cls text : String} {names : List String} {ik is ic mc ms sa : Nat} {A : Nat → Prop}
    (hown : s.vm.findClass own = some m.cls) (hcls : Bundle.fit cls = true) (hnames : ∀ n ∈ names, Bundle.fit n = true)
    (hk : (Cond.classLink own ik cls).before args s = true) (hini : (Cond.initialized cls).before args s = true) (hstr : vk_R own is text sa s) (hat : ∀ w ∈ vx_atS own ic cls names, w.before args s = true)
    (hgood : ∀ w ∈ Cond.classLink own ik cls :: Cond.initialized cls :: vx_atS own ic cls names, vx_ot w = true)
    (hU : vx_Zq Bundle.tN "UNASSIGNED_STACK" Bundle.steD A s s.heap) (hN : vx_Zq Bundle.tN "SUPPRESSED_SENTINEL" Bundle.listD A s s.heap) (hS : va_S A s.heap H locs) (hsize : ls.size = c.maxLocals)
    (d0 : decode cc pc = .ok (.new ik, 3)) (d3 : decode cc (pc + 3) = .ok (.dup, 1)) (d4 : decode cc (pc + 4) = .ok (.ldc_w is, 3)) (d7 : decode cc (pc + 7) = .ok (.invokespecial ic, 3)) (d10 : decode cc (pc + 10) = .ok (.athrow, 1))
    (hout : ∀ x ∈ c.exceptionTable.toList, covers x (pc + 10) = false)
    (hRframes : names.length + 3 < R.frames) (hRlocals : (rest.map fun v => v.category).sum + (13 * (names.length + 1) + 43) ≤ R.locals) (hRcells : cells + 1 ≤ R.cells) (hRslots : slots + 6 ≤ R.slots) (hlocks : meth.locks = false)
    (hx : ∀ t : State, s.vm.Alike t.vm → H.size ≤ t.heap.size → (∀ q : Nat, q < H.size → t.heap[q]? = H[q]?) → XC cls s t)
    (hf : ∀ z ∈ locs, free z.base) (hc : cells + 1 ≤ mc) (hs : slots + 6 ≤ ms) :
    W p l e R s m args below meth c H locs cells slots (vx_MQ below Qc XC args s mc ms free) (F0 m pc ls rest) := by
  intro T hT X
  have htr : e.platform.stackTraces = false := (show e.platform.stackTraces = l.stackTraces by rw [X.admits.platform]).trans hl
  have Y := vx_rebase X (R' := { frames := R.frames, locals := R.locals, cells := 1, slots := 6 }) (Nat.le_refl _) (Nat.le_refl _) hRcells hRslots
  obtain ⟨s', hA⟩ : ∃ z, z = (T.setVm s.vm).setFrames (.invoking m args :: below) := ⟨_, rfl⟩
  rw [← hA] at Y
  have hvm : s'.vm = s.vm := by rw [hA]; rfl
  have hhp : s'.heap = H := by rw [hA]; exact hT
  have hW0 : s.WarmedH s'.vm := by rw [hvm]; exact State.WarmedH.refl s
  have hat' : ∀ w ∈ vx_atS own ic cls names, w.before args s' = true := fun w hw => vx_ot_at hW0 hvm.symm (hgood w (List.mem_cons_of_mem _ (List.mem_cons_of_mem _ hw))) (hat w hw)
  have hk' : (Cond.classLink own ik cls).before args s' = true := vx_ot_at hW0 hvm.symm (hgood _ List.mem_cons_self) hk
  have hini' : (Cond.initialized cls).before args s' = true := vx_ot_at hW0 hvm.symm (hgood _ (List.mem_cons_of_mem _ List.mem_cons_self)) hini
  have hU' : vx_Zq Bundle.tN "UNASSIGNED_STACK" Bundle.steD A s' s'.heap := by rw [hhp]; exact vx_Zq.moved hW0.alike (hU.kept hS.2.1)
  have hN' : vx_Zq Bundle.tN "SUPPRESSED_SENTINEL" Bundle.listD A s' s'.heap := by rw [hhp]; exact vx_Zq.moved hW0.alike (hN.kept hS.2.1)
  have h : ∀ w ∈ Bundle.ownAtoms own ic cls names, w.before args s' = true := vx_own hat' (vx_isRefq hU'.1) (vx_isRefq hN'.1) hU'.2.word hN'.2.word
  have hown' : s'.vm.findClass own = some m.cls := by rw [hvm]; exact hown
  have hins : (Cond.instantiable cls 6).before args s' = true := h _ (by simp [Bundle.ownAtoms])
  obtain ⟨vm₁, cX, kX, hfX, hkX, -, -, X₁, st1⟩ := Y.newCold hexec (own := own) (C := cls) (index := ik) (n := 6) hown' hk' hins hini'
    (g := F0 m pc ls rest) rfl (by rw [hb]; exact d0) (Nat.le_refl _) (Nat.le_refl _)
  generalize hT1 : (T.setVm vm₁).pushCell { cls := cX, slots := kX.instanceTypes.map defaultValue, vm := .none } = T1 at X₁ st1
  have hcat : (Value.ref T.heap.size).category = 1 := rfl
  have hcellA : T1.heap[T.heap.size]? = some (freshCell cX kX) := by rw [← hT1]; exact State.heap_pushCell_size _ _
  have d3' : decode c.code (pc + 3) = .ok (.dup, 1) := by rw [hb]; exact d3
  have d4' : decode c.code (pc + 4) = .ok (.ldc_w is, 3) := by rw [hb]; exact d4
  have hstr' : vk_R own is text sa s' := vk_R.warm hW0 hstr
  obtain ⟨U, hsteps, hrun, hend, hW, hsame, ce, hce, hO⟩ := X₁.ctorThrowS hexec htr (own := own) (cls := cls) (names := names) (ic := ic) hown' hcls hnames h (fun x hx => nomatch hx) hfX hkX hcellA (by rw [hhp, hT]; exact Nat.le_refl _) (msg := .ref sa) rfl
    (g := { method := m, pc := pc + 7, locals := ls, stack := .ref sa :: .ref T.heap.size :: .ref T.heap.size :: rest, locked := none }) rfl hsize rfl rfl (rest := rest) rfl
    (by rw [hb]; exact d7) (by rw [hb]; exact d10) hout hRframes (by simp only [List.map_cons, List.sum_cons, hcat]; omega) hlocks
  obtain ⟨f1, f2⟩ := vx_frame hsame
  rw [hhp] at f1 f2
  have hWs : s.WarmedH U.vm := State.WarmedH.trans hW0 hW
  have hcl : s.vm.findClass cls = some ce.cls := by
    have h9 := hO.cls
    rw [hvm] at h9
    exact h9
  have hall : s.sameButNew ({ U with vm := s.vm } : State) locs mc ms := by
    subst hA
    obtain ⟨e1, e2⟩ := hsame
    rw [State.setFrames_setFrames] at e1
    have h2 : (T.setVm s.vm).sameButNew ({ U with vm := s.vm } : State) [] (0 + 1) (0 + 6) := ⟨e1, e2⟩
    have h3 := X.same.trans h2
    rw [List.append_nil] at h3
    exact h3.mono hc hs
  refine ⟨U, ?_, .threw T.heap.size, hrun, hend, Or.inr ⟨T.heap.size, rfl, cls, ce, locs, hx U hWs.alike f1 (fun q hq => f2 q hq (fun z hz => nomatch hz)), hce, hO.vm, hcl, hWs, hall, hf⟩⟩
  refine st1 _ ?_
  show Steps p.tables e below (T1.setTop { method := m, pc := pc + 3, locals := ls, stack := .ref T.heap.size :: rest, locked := none }) _
  jvm_step X₁.here [X₁.here.top, hexec, d3', Value.category]
  exact X₁.ldcStringW hexec (own := own) (text := text) (index := is) (a := sa) hown' hstr'.1 hstr'.2
    (g := { method := m, pc := pc + 4, locals := ls, stack := .ref T.heap.size :: .ref T.heap.size :: rest, locked := none }) rfl d4' _ hsteps
end Ends
section Bodies
variable {l : Launch}
theorem vx_ofW {y : MethodName} {ws ws' : List Cond} {rm : Room} {Pc : Array Value → State → Prop} {Qc : Array Value → State → Outcome → State → Prop} {XC : String → State → State → Prop} {mc ms : Nat} {free : Addr → Prop} {cc : ByteArray} {maxL : Nat} {ret : Option FieldType}
    (hy : plainName y.cls = true) (hw : ws = Cond.code y cc maxL ret :: ws')
    (body : ∀ p e s m args below meth c s₁, BodyLoose p l y (headSpec ws rm) cc maxL ret e s m args below meth c s₁ → c.maxLocals = maxL → (∀ x ∈ c.exceptionTable.toList, False) → Pc args s →
      W p l e (headSpec ws rm).room s m args below meth c s.heap [] 0 0 (vx_MQ below Qc XC args s mc ms free) (entryFrame m args maxL)) : vx_Met l y ws rm Pc Qc XC mc ms free := by
  refine MetFree.of_bodyS (code := cc) (maxLocals := maxL) (ret := ret) hy ?_ ?_
  · intro args s m h hn
    obtain ⟨meth, c, h1, h2, h3, h4, h5, h6, -, -⟩ := Cond.code_spec hn (atoms_spec (ws := ws) h _ (by rw [hw]; exact List.mem_cons_self))
    exact ⟨meth, c, h1, h2, h3, h4, h5, h6⟩
  · intro p e s m args below meth c s₁ B hml hP _
    have hh0 : s₁.heap = s.heap := by rw [B.state]; rfl
    have ht : ∀ x ∈ c.exceptionTable.toList, False := by
      obtain ⟨meth9, c9, h1, h2, -, -, -, -, h7, -⟩ := Cond.code_spec B.named (atoms_spec (ws := ws) B.pre _ (by rw [hw]; exact List.mem_cons_self))
      cases Option.some.inj (h1.symm.trans B.method)
      cases Option.some.inj (h2.symm.trans (Stand.of_body B).code)
      intro x hx
      rw [Array.isEmpty_iff.mp h7] at hx
      cases hx
    obtain ⟨t, a1, o, b1, b2, b3⟩ := body p e s m args below meth c s₁ B hml ht hP s₁ hh0 (Stand.of_body B)
    exact ⟨t, o, a1, b1, b2, b3⟩
/-- the table of a body with handlers -/
theorem vx_table {p : Program} {x y : MethodName} {S : Spec} {cc bytes : ByteArray} {maxL maxL' : Nat} {ret ret' : Option FieldType} {e : Env} {s s₁ : State} {m : MethodId} {args : Array Value} {below : List Frame} {meth : Method} {c : Code} {hh : List (Nat × Nat × Nat × Nat)}
    (B : BodyLoose p l y S cc maxL ret e s m args below meth c s₁) (h : (Cond.codeWith y bytes maxL' ret' hh).before args s = true) : c.exceptionTable.toList = tableOf hh := by
  obtain ⟨m9, meth9, c9, hn9, h1, h2, -, -, h6, -⟩ := Cond.codeWith_spec h
  cases Option.some.inj (hn9.symm.trans B.named)
  cases Option.some.inj (h1.symm.trans B.method)
  cases Option.some.inj (h2.symm.trans (Stand.of_body B).code)
  rw [← h6, table_eq]
end Bodies
end VXA
/-! ===== END ===== -/
/-! ===== BEGIN a static call of a method with an exception table ===== -/
section VXS
variable {p : Program} {l : Launch} {e : Env} {R : Room} {s : State} {m : MethodId} {args : Array Value} {below : List Frame} {meth : Method} {c : Code} {T : State} {H : Heap} {locs : List Loc} {cells slots : Nat}
abbrev vx_CSW (R : Room) (s : State) (args : Array Value) (own : String) (index : Nat) (y : MethodName) (bytes : ByteArray) (maxL : Nat) (ret : Option FieldType) (hh : List (Nat × Nat × Nat × Nat)) (ws : List Cond) (rm : Room) (mc ms n : Nat) : Prop :=
  (rm.cells = mc ∧ rm.slots = ms ∧ rm.frames + 1 ≤ R.frames ∧ 8 + (maxL + 11) + rm.locals ≤ R.locals ∧ (∀ w ∈ ws, ∀ (a' : Array Value) (U : State), s.WarmedH U.vm → w.before a' U = true) ∧ Cond.codeWith y bytes maxL ret hh ∈ ws) ∧
  (Cond.codeWith y bytes maxL ret hh).before args s = true ∧ (Cond.initialized y.cls).before args s = true ∧ (y.cls ≠ "java/lang/invoke/MethodHandle" ∧ y.cls ≠ "java/lang/invoke/VarHandle") ∧
  (∀ sig, parseMethodDescriptor y.desc = some sig → n = sig.parameters.length) ∧ (Cond.methodLink own index y).before args s = true ∧ (Cond.static y).before args s = true
theorem vx_cwSW {own : String} {index maxL mc ms : Nat} {y : MethodName} {bytes : ByteArray} {ret : Option FieldType} {hh : List (Nat × Nat × Nat × Nat)} {Ts ws ws' : List Cond} {rm : Room} (n : Nat) (ht : ∀ w ∈ Ts, w.before args s = true) (hT : GoodIn Ts (va_wsS own index y ws)) (hw : ws = Cond.codeWith y bytes maxL ret hh :: ws') (hrc : rm.cells = mc) (hrs : rm.slots = ms)
    (hd : y.cls ≠ "java/lang/invoke/MethodHandle" ∧ y.cls ≠ "java/lang/invoke/VarHandle" ∧ (parseMethodDescriptor y.desc).map (fun d => d.parameters.length) = some n) (hR : rm.frames + 1 ≤ R.frames ∧ 8 + (maxL + 11) + rm.locals ≤ R.locals) :
    vx_CSW R s args own index y bytes maxL ret hh ws rm mc ms n := by
  have ok : ∀ w ∈ va_wsS own index y ws, w.before args s = true := fun w h => ht w (hT w h).1
  have hG : GoodIn Ts ws := fun w h => hT w (by unfold va_wsS; exact List.mem_append_right _ h)
  have hc : Cond.codeWith y bytes maxL ret hh ∈ ws := by rw [hw]; exact List.mem_cons_self
  refine ⟨⟨hrc, hrs, hR.1, hR.2, pay_in ht hG, hc⟩, ht _ (hG _ hc).1, ok _ (by simp [va_wsS]), ⟨hd.1, hd.2.1⟩, fun sig h => ?_, ok _ (by simp [va_wsS]), ok _ (by simp [va_wsS])⟩
  have h2 := hd.2.2
  rw [h] at h2
  exact (Option.some.inj h2).symm
theorem vx_callSW (X : Stand p l e R s m args below meth c T locs cells slots) (hexec : p.tables.exec = Jvm.exec) {own : String} {index : Nat} {y : MethodName} {bytes : ByteArray} {maxL : Nat} {ret : Option FieldType} {hh : List (Nat × Nat × Nat × Nat)}
    (hown : s.vm.findClass own = some m.cls) (hlink : (Cond.methodLink own index y).before args s = true) (hstat : (Cond.static y).before args s = true) (hinit : (Cond.initialized y.cls).before args s = true)
    (hcode : (Cond.codeWith y bytes maxL ret hh).before args s = true) (hy : y.cls ≠ "java/lang/invoke/MethodHandle" ∧ y.cls ≠ "java/lang/invoke/VarHandle")
    {W9 : Nat} {Pre : Pt → Array Value → Prop} {Post : Pt → Array Value → Option Value → Pt → Prop} (hK : Back l R p e below s args y 3 W9 Pre Post)
    {g : JFrame} (hg : g.method = m) (hsize : g.locals.size = c.maxLocals) {argsL rest : List Value} (hlen : ∀ sig, parseMethodDescriptor y.desc = some sig → argsL.length = sig.parameters.length)
    (hstack : g.stack = argsL.reverse ++ rest) (hW : 2 * g.monitorRoom + (rest.map fun v => v.category).sum ≤ W9) (hdg : decode c.code g.pc = .ok (.invokestatic index, 3))
    (hpre : ∀ vm₁, s.WarmedH vm₁ → Pre ⟨T.setVm vm₁, locs, cells, slots⟩ argsL.toArray) :
    ∃ (v : Option Value) (vm₁ : Vm) (B : Pt), s.WarmedH vm₁ ∧ Stand p l e R s m args below meth c B.U B.locs B.cells B.slots ∧ Post ⟨T.setVm vm₁, locs, cells, slots⟩ argsL.toArray v B ∧
      ∀ target, Steps p.tables e below (B.U.setTop { g with pc := g.pc + 3, stack := v.toList ++ rest }) target → Steps p.tables e below (T.setTop g) target := by
  obtain ⟨mk, methM, cM, hnamed, hmethM, -, -, -, -, -, -, hsigM⟩ := Cond.codeWith_spec hcode
  have hstatic : methM.isStatic = true := Cond.static_spec hnamed hmethM hstat
  obtain ⟨kP, hkP, -⟩ := className_of_methodNamed hnamed
  have hinitP : kP.init = .initialized := Cond.initialized_spec (findClass_of_methodNamed hnamed) hkP hinit
  obtain ⟨vm₁, X₁, hstep₁⟩ := X.invokestatic hexec hown hlink hnamed hmethM hstatic hkP hinitP hy (g := g) hg (argsL := argsL) (rest := rest) (hlen _ hsigM) hstack hdg
  obtain ⟨v, B, X', hpost, hsteps⟩ := hK m meth c ⟨T.setVm vm₁, locs, cells, slots⟩ { g with stack := rest } (.invokestatic index) mk argsL.toArray X₁ hg hsize hdg hW (X₁.named hnamed) (hpre vm₁ X₁.warmed)
  exact ⟨v, vm₁, B, X₁.warmed, X', hpost, fun target h => hstep₁ _ fun acts => by rw [doInvoke_state]; exact hsteps.trans h⟩
theorem vx_runSW {y : MethodName} {bytes cc : ByteArray} {maxL nL mc ms n index : Nat} {ret : Option FieldType} {hh : List (Nat × Nat × Nat × Nat)} {ws : List Cond} {rm : Room} {Pc : Array Value → State → Prop} {Qc : Array Value → State → Outcome → State → Prop} {free : Addr → Prop} {Ts : List Cond} {own : String} {As rest : List Value} {g : JFrame}
    (S : CallFix p m c cc nL s args Ts own) (hM : Met l y ws rm Pc Qc mc ms free) (cw : vx_CSW R s args own index y bytes maxL ret hh ws rm mc ms n) (hp : PreS s H Pc As)
    (hg : g.method = m) (hn : As.length = n) (hsize : g.locals.size = nL) (hstack : g.stack = As.reverse ++ rest) (hW : 2 * g.monitorRoom + (rest.map fun v => v.category).sum ≤ 8) (hdg : decode cc g.pc = .ok (.invokestatic index, 3)) (hf : cells + mc ≤ R.cells ∧ slots + ms ≤ R.slots) :
    va_Run p l e R s m args below meth c H locs cells slots mc ms g rest (Qc As.toArray) (free) := by
  obtain ⟨⟨hrc, hrs, hfr, hlo, hws, hcw⟩, hcode, hini, hy, hlen, hl, hstt⟩ := cw
  have hK : Back l R p e below s args y 3 8 (PreOf R mc ms Pc) (PostOf Qc mc ms free) := va_backW (hh := hh) (bytes := bytes) (maxL := maxL) (ret := ret) hM hp.1 hrc hrs hfr hlo hws hcw (fun a' U hW => word_at hW (Or.inl (by first | rfl | simp [Cond.onTables, Cond.keeps, Cond.steady])) hini)
  obtain ⟨hx, hb, hml, ho, -⟩ := S
  intro T hT X
  obtain ⟨v, vm₁, ⟨U', l2, c2, s2⟩, hW₁, X', ⟨g', mk, t, L, e1, e2, hq, h1, hL, h2, h3⟩, st⟩ := vx_callSW X hx (hh := hh) (bytes := bytes) (maxL := maxL) (ret := ret) ho hl hstt hini hcode hy hK hg (hsize.trans hml.symm) (argsL := As) (rest := rest) (fun sig h => hn.trans (hlen sig h)) hstack hW (by rw [hb]; exact hdg)
    (fun vm₁ hW₁ => ⟨hf.1, hf.2, hp.2 (T.setVm vm₁) hT hW₁⟩)
  dsimp only [Pt.U, Pt.locs, Pt.cells, Pt.slots] at X' e1 e2 h1 h2 h3 st
  subst h1; subst h2; subst h3
  exact ⟨v, (T.setVm vm₁).calling g' mk As.toArray, t, U', L, hT, X', hL, e1, e2, hq, st⟩
/-- not caught here, past rows that name other classes: it goes on to the caller -/
theorem vx_outP {p : Program} {l : Launch} {e : Env} {R : Room} {s : State} {m : MethodId} {args : Array Value} {below : List Frame} {meth : Method} {c : Code} {H : Heap} {locs : List Loc} {cells slots : Nat} {free : Addr → Prop} {ls : Array Slot} {rest : List Value} {Qc : Array Value → State → Outcome → State → Prop} {XC : String → State → State → Prop}
    {pc : Nat} {own E : String} {ce : Cell} {q : Addr} {mc ms : Nat} (hown : s.vm.findClass own = some m.cls) (hlocks : meth.locks = false)
    (hpass : ∀ z ∈ c.exceptionTable.toList, covers z pc = false ∨ (z.catchType ≠ 0 ∧ ∃ nm : String, (Cond.classLink own z.catchType nm).before args s = true ∧ va_Nc E nm s)) (hcell : H[q]? = some ce) (hv : ce.vm = .none) (hcl : s.vm.findClass E = some ce.cls)
    (hx : ∀ t : State, t.heap = H → s.vm.Alike t.vm → XC E s t) (hf : ∀ z ∈ locs, free z.base) (hc : cells ≤ mc) (hs : slots ≤ ms) :
    vx_W p l e R s m args below meth c H locs cells slots (vx_MQ below Qc XC args s mc ms free) (F0 m pc ls rest) q := by
  intro T hT X
  have hpl : e.platform.magicAccessors = ({} : Platform).magicAccessors := by rw [X.admits.platform]
  obtain ⟨vm', hW', X', st⟩ := X.outThrough hlocks q (g := F0 m pc ls rest) rfl rfl rfl (cell := ce) (by rw [hT]; exact hcell) (by rw [hv]; rfl)
    (by obtain ⟨k9, h9, -⟩ := Vm.findClass_spec hcl; exact ⟨k9, h9⟩) (fun z hz => by
      rcases hpass z hz with h | ⟨hz0, nm, hl1, hn1⟩
      · exact Or.inl h
      · obtain ⟨c6, hc6, hcl6⟩ := Cond.classLink_spec hown hl1 e.platform hpl
        obtain ⟨a8, b8, h1, h2, h3⟩ := hn1
        cases Option.some.inj (h1.symm.trans hcl)
        cases Option.some.inj (h2.symm.trans hc6)
        exact Or.inr ⟨hz0, _, hcl6, h3⟩)
  obtain ⟨g₀, hfr⟩ := X'.frames_eq
  have hcell9 : ((T.setVm vm').setFrames (.throwing q :: below)).heap[q]? = some ce := by
    show T.heap[q]? = some ce
    rw [hT]; exact hcell
  have hend : Ended ((T.setVm vm').setFrames (.throwing q :: below)) below (.threw q) := State.frames_setFrames _ (State.cur_lt_of_frames hfr)
  refine ⟨(T.setVm vm').setFrames (.throwing q :: below), ?_, .threw q, X'.here.running, hend, Or.inr ⟨q, rfl, E, ce, locs, hx _ hT (X'.ends _).1.alike, hcell9, hv, hcl, (X'.ends _).1, (X'.ends _).2.mono hc hs, hf⟩⟩
  rw [X.pushThrowing_eq]
  exact st
/-- a thing of a world lies in the heap -/
theorem vx_lt {D : va_G} {cl : List vw_C} {ws : va_W} {H1 : Heap} (h : va_P D cl ws H1) {k : Nat} {q : Nat × va_E} (hk : ws[k]? = some q) : q.1 < H1.size := (h k q hk).lt
end VXS
/-! ===== END ===== -/
/-! ===== BEGIN methods with a table of their own: called by a name, returning or throwing ===== -/
section VXH
/-! vx_backW, vx_callVX, vx_callSX, vx_callVW, vx_runVW, vx_runVX, vx_runSX, vx_ofWH follow the same proofs as their sisters above (Free/Laws.lean, Shelf42/LK1.lean); vx_outP calls Shelf42/NT130.lean (outThrough). -/
section
variable {l : Launch} {R : Room} {p : Program} {e : Env} {below : List Frame} {s : State} {sargs : Array Value} {y : MethodName} {len W9 : Nat}
theorem vx_backW {ws : List Cond} {rm : Room} {Pc : Array Value → State → Prop} {Qc : Array Value → State → Outcome → State → Prop} {XC : String → State → State → Prop} {mc ms : Nat} {free : Addr → Prop} {bytes : ByteArray} {maxL : Nat} {ret : Option FieldType} {hh : List (Nat × Nat × Nat × Nat)}
    (hM : vx_Met l y ws rm Pc Qc XC mc ms free) (hblind : FrameBlind Pc) (hrc : rm.cells = mc) (hrs : rm.slots = ms)
    (hframes : rm.frames + 1 ≤ R.frames) (hlocals : W9 + (maxL + 11) + rm.locals ≤ R.locals)
    (hws : ∀ w ∈ ws, ∀ a' U, s.WarmedH U.vm → w.before a' U = true) (hcode : Cond.codeWith y bytes maxL ret hh ∈ ws) (hinit : ∀ a' U, s.WarmedH U.vm → (Cond.initialized y.cls).before a' U = true) :
    vx_Back l R p e below s sargs y len W9 (PreOf R mc ms Pc) (PostOf Qc mc ms free) (vx_Post XC mc ms free) := by
  intro m meth c A g ig mk a X hg hsize hdg hW hn hp
  have h1 : (headSpec ws rm).pre.before a A.U = true := atoms_intro fun w hw => hws w hw _ _ X.warmed
  have h2 : (Cond.codeWith y bytes maxL ret hh).before a A.U = true := hws _ hcode _ _ X.warmed
  have h3 : (Cond.initialized y.cls).before a A.U = true := hinit _ _ X.warmed
  have h4 : A.cells + (headSpec ws rm).room.cells ≤ R.cells := by rw [show (headSpec ws rm).room.cells = mc from hrc]; exact hp.1
  have h5 : A.slots + (headSpec ws rm).room.slots ≤ R.slots := by rw [show (headSpec ws rm).room.slots = ms from hrs]; exact hp.2.1
  have hPc : Pc a (A.U.calling g mk a) := hblind _ _ _ _ hp.2.2
  obtain ⟨U, Ls, c0, s0⟩ := A
  dsimp only [Pt.U, Pt.locs, Pt.cells, Pt.slots] at h1 h2 h3 h4 h5 X hn hPc ⊢
  obtain ⟨m9, methY, cY, hn9, hmY, hcY, -, hlY, -⟩ := Cond.codeWith_spec h2
  cases Option.some.inj (hn9.symm.trans hn)
  obtain ⟨kY, hkY, -⟩ := className_of_methodNamed hn
  have hinitY : kY.init = .initialized := Cond.initialized_spec (findClass_of_methodNamed hn) hkY h3
  have h : At U g.method c below := by rw [hg]; exact X.here
  have hlocals9 : W9 + (maxL + 11) + (headSpec ws rm).room.locals ≤ R.locals := hlocals
  have happ : (headSpec ws rm).appliesLoose y e.platform (U.calling g mk a) = true :=
    Spec.appliesLoose_calling (g := g) h hdg hn hkY hinitY
      (X.room_calling (g := g) (R' := (headSpec ws rm).room) hsize hmY hcY hframes (by rw [hlY]; omega) h4 h5) h1
  obtain ⟨mid, hmid⟩ := h.above
  have hfr : (U.setTop g).frames = (.java g :: mid) ++ below := by rw [State.frames_setTop' g h.top, hmid]; rfl
  obtain ⟨o, s₂, hsteps, -, hend, hq⟩ := Steps.callFree hM p X.admits X.cas X.clock (acts := []) hfr happ hPc trivial
  have hq' : vx_Q Qc XC mc ms free a (U.calling g mk a) o s₂ := hq
  rw [State.frames_setTop' g h.top] at hend
  obtain ⟨g₀, hg0⟩ := Option.isSome_iff_exists.mp h.top
  obtain ⟨r, hr⟩ := State.topJava?_eq_some.mp hg0
  have hr' : (({ U with heap := s₂.heap, slotsUsed := s₂.slotsUsed } : State).setVm s₂.vm).frames = .java g₀ :: r := hr
  rcases hq' with ⟨hqc, L, hfe, hL⟩ | ⟨q, rfl, E, ce, L, hx, hce, hcv, hcl, hW₂, hsm, hL⟩
  · obtain ⟨⟨v, rfl⟩, hW₂, e2, q2, q3, q4, q5, q6⟩ := id hfe
    have e3 : s₂ = ({ (U.calling g mk a).setFrames s₂.frames with heap := s₂.heap, slotsUsed := s₂.slotsUsed } : State).setVm s₂.vm := by
      have : s₂ = ({ s₂ with vm := (U.calling g mk a).vm } : State).setVm s₂.vm := rfl
      rw [e2] at this
      exact this
    obtain ⟨c₂, i₂, len₂, hc₂, hd₂, hf₂⟩ := hend
    have hW' : U.WarmedH s₂.vm := hW₂
    have hcc : c₂ = c := by
      have h1 : s₂.code? g.method = U.code? g.method := by
        rw [State.code?_eq, State.code?_eq, hW'.alike.method?]
      exact Option.some.inj (hc₂.symm.trans (h1.trans h.code))
    subst hcc
    have hlen : len₂ = len := by rw [hdg] at hd₂; cases hd₂; rfl
    subst hlen
    have hs₂ : s₂ = (({ U with heap := s₂.heap, slotsUsed := s₂.slotsUsed } : State).setVm s₂.vm).setTop { g with pc := g.pc + len₂, stack := v.toList ++ g.stack } := by
      refine e3.trans ?_
      rw [hf₂, State.calling_eq h.top, State.setFrames_setFrames, State.setTop_of_frames _ hr', hr]
      rfl
    have hsame : U.sameButNew ({ U with heap := s₂.heap, slotsUsed := s₂.slotsUsed } : State) L mc ms := by
      refine ⟨?_, q2, q3, q4, q5, q6⟩
      obtain ⟨t, ht, -⟩ := State.frames_cons hr
      show ({ U with heap := s₂.heap, slotsUsed := s₂.slotsUsed } : State) = { U.setFrames U.frames with heap := s₂.heap, slotsUsed := s₂.slotsUsed }
      rw [State.setFrames_self ht]
    subst hg
    refine Or.inl ⟨v, ⟨(({ U with heap := s₂.heap, slotsUsed := s₂.slotsUsed } : State).setVm s₂.vm), Ls ++ L, c0 + mc, s0 + ms⟩,
      ⟨X.admits, X.cas, X.clock, X.frames, X.room, X.hears, X.method, X.code, (X.here.setHeapUsed s₂.heap s₂.slotsUsed).setVm hW'.alike, X.tail, State.WarmedH.trans X.warmed hW', X.limits, X.bytes, X.same.trans (hsame.setVm s.vm)⟩,
      ⟨g, mk, s₂, L, rfl, rfl, hqc, rfl, hL, rfl, rfl⟩, ?_⟩
    show Steps p.tables e below _ ((({ U with heap := s₂.heap, slotsUsed := s₂.slotsUsed } : State).setVm s₂.vm).setTop { g with pc := g.pc + len₂, stack := v.toList ++ g.stack })
    rw [← hs₂]
    exact hsteps
  · obtain ⟨e2, q2, q3, q4, q5, q6⟩ := id hsm
    have e3 : s₂ = ({ (U.calling g mk a).setFrames s₂.frames with heap := s₂.heap, slotsUsed := s₂.slotsUsed } : State).setVm s₂.vm := by
      have : s₂ = ({ s₂ with vm := (U.calling g mk a).vm } : State).setVm s₂.vm := rfl
      rw [e2] at this
      exact this
    have hf₂ : s₂.frames = .throwing q :: .java g :: U.frames.tail := hend
    have hW' : U.WarmedH s₂.vm := hW₂
    have hs₂ : s₂ = ((({ U with heap := s₂.heap, slotsUsed := s₂.slotsUsed } : State).setVm s₂.vm).setTop g).pushFrame (.throwing q) := by
      refine e3.trans ?_
      rw [hf₂, State.calling_eq h.top, State.setFrames_setFrames, State.pushFrame, State.frames_setTop _ hr', State.setTop_of_frames _ hr', State.setFrames_setFrames, hr]
      rfl
    have hsame : U.sameButNew ({ U with heap := s₂.heap, slotsUsed := s₂.slotsUsed } : State) L mc ms := by
      refine ⟨?_, q2, q3, q4, q5, q6⟩
      obtain ⟨t, ht, -⟩ := State.frames_cons hr
      show ({ U with heap := s₂.heap, slotsUsed := s₂.slotsUsed } : State) = { U.setFrames U.frames with heap := s₂.heap, slotsUsed := s₂.slotsUsed }
      rw [State.setFrames_self ht]
    subst hg
    refine Or.inr ⟨q, ⟨(({ U with heap := s₂.heap, slotsUsed := s₂.slotsUsed } : State).setVm s₂.vm), Ls ++ L, c0 + mc, s0 + ms⟩,
      ⟨X.admits, X.cas, X.clock, X.frames, X.room, X.hears, X.method, X.code, (X.here.setHeapUsed s₂.heap s₂.slotsUsed).setVm hW'.alike, X.tail, State.WarmedH.trans X.warmed hW', X.limits, X.bytes, X.same.trans (hsame.setVm s.vm)⟩,
      ⟨g, mk, s₂, L, E, ce, rfl, rfl, hx, hce, hcv, hcl, rfl, hL, rfl, rfl⟩, ?_⟩
    show Steps p.tables e below _ (((({ U with heap := s₂.heap, slotsUsed := s₂.slotsUsed } : State).setVm s₂.vm).setTop g).pushFrame (.throwing q))
    rw [← hs₂]
    exact hsteps
end
variable {p : Program} {l : Launch} {e : Env} {R : Room} {s : State} {m : MethodId} {args : Array Value} {below : List Frame} {meth : Method} {c : Code} {T : State} {H : Heap} {locs : List Loc} {cells slots : Nat}
theorem vx_callVX (X : Stand p l e R s m args below meth c T locs cells slots) (hexec : p.tables.exec = Jvm.exec) {own C : String} {index : Nat} {y : MethodName} {bytes : ByteArray} {maxL : Nat} {ret : Option FieldType} {hh : List (Nat × Nat × Nat × Nat)}
    (hown : s.vm.findClass own = some m.cls) (hlink : (Cond.methodLink own index y).before args s = true) (hinst : (Cond.instanceMethod y).before args s = true) (hsel : (Cond.selects C y y).before args s = true)
    (hcode : (Cond.codeWith y bytes maxL ret hh).before args s = true) (hy : y.cls ≠ "java/lang/invoke/MethodHandle" ∧ y.cls ≠ "java/lang/invoke/VarHandle")
    {W9 : Nat} {Pre : Pt → Array Value → Prop} {Post : Pt → Array Value → Option Value → Pt → Prop} {PostX : Pt → Array Value → Addr → Pt → Prop} (hK : vx_Back l R p e below s args y 3 W9 Pre Post PostX)
    {b : Addr} {cellB : Cell} (hcell : T.heap[b]? = some cellB) (hobj : cellB.vm.isStatics = false) (hcls : s.vm.findClass C = some cellB.cls)
    {g : JFrame} (hg : g.method = m) (hsize : g.locals.size = c.maxLocals) {argsL rest : List Value} (hlen : ∀ sig, parseMethodDescriptor y.desc = some sig → argsL.length = sig.parameters.length)
    (hstack : g.stack = argsL.reverse ++ .ref b :: rest) (hW : 2 * g.monitorRoom + (rest.map fun v => v.category).sum ≤ W9) (hdg : decode c.code g.pc = .ok (.invokevirtual index, 3))
    (hpre : ∀ vm₁, s.WarmedH vm₁ → Pre ⟨T.setVm vm₁, locs, cells, slots⟩ (Value.ref b :: argsL).toArray) :
    (∃ (v : Option Value) (vm₁ : Vm) (B : Pt), s.WarmedH vm₁ ∧ Stand p l e R s m args below meth c B.U B.locs B.cells B.slots ∧ Post ⟨T.setVm vm₁, locs, cells, slots⟩ (Value.ref b :: argsL).toArray v B ∧
      ∀ target, Steps p.tables e below (B.U.setTop { g with pc := g.pc + 3, stack := v.toList ++ rest }) target → Steps p.tables e below (T.setTop g) target) ∨
    (∃ (q : Addr) (vm₁ : Vm) (B : Pt), s.WarmedH vm₁ ∧ Stand p l e R s m args below meth c B.U B.locs B.cells B.slots ∧ PostX ⟨T.setVm vm₁, locs, cells, slots⟩ (Value.ref b :: argsL).toArray q B ∧
      Steps p.tables e below (T.setTop g) ((B.U.setTop { g with stack := rest }).pushFrame (.throwing q))) := by
  obtain ⟨mk, methM, hnamed, hmethM, hstM, habM⟩ := Cond.instanceMethod_spec hinst
  obtain ⟨m8, methM', cM, hn8, hmethM', -, -, -, -, -, -, hsigM⟩ := Cond.codeWith_spec hcode
  cases Option.some.inj (hn8.symm.trans hnamed)
  cases hmethM.symm.trans hmethM'
  obtain ⟨c2, r2, m2, q1, q2, q3, q4, kP, hkP, hkPi⟩ := Cond.selects_spec hsel
  cases hcls.symm.trans q1
  cases (State.methodFound?_of_named hnamed hy).symm.trans q2
  cases hnamed.symm.trans q3
  have hselP : selectMethod e.platform s.vm cellB.cls mk = .method mk := by rw [Launch.admits_selectMethod X.admits]; exact q4
  obtain ⟨vm₁, X₁, hstep₁⟩ := X.invokevirtual hexec hown hlink hnamed hmethM hstM hkP hkPi hy (a := b) (cell := cellB) hcell
    (fun z h => by rw [h] at hobj; cases hobj) hselP hmethM habM hkP hkPi (g := g) hg (argsL := argsL) (rest := rest) (hlen _ hsigM) hstack hdg
  rcases hK m meth c ⟨T.setVm vm₁, locs, cells, slots⟩ { g with stack := rest } (.invokevirtual index) mk (Value.ref b :: argsL).toArray X₁ hg hsize hdg hW (X₁.named hnamed) (hpre vm₁ X₁.warmed) with ⟨v, B, X', hpost, hsteps⟩ | ⟨q, B, X', hpost, hsteps⟩
  · exact Or.inl ⟨v, vm₁, B, X₁.warmed, X', hpost, fun target h => hstep₁ _ fun acts => by rw [doInvoke_state]; exact hsteps.trans h⟩
  · exact Or.inr ⟨q, vm₁, B, X₁.warmed, X', hpost, hstep₁ _ fun acts => by rw [doInvoke_state]; exact hsteps⟩
theorem vx_callSX (X : Stand p l e R s m args below meth c T locs cells slots) (hexec : p.tables.exec = Jvm.exec) {own : String} {index : Nat} {y : MethodName} {bytes : ByteArray} {maxL : Nat} {ret : Option FieldType} {hh : List (Nat × Nat × Nat × Nat)}
    (hown : s.vm.findClass own = some m.cls) (hlink : (Cond.methodLink own index y).before args s = true) (hstat : (Cond.static y).before args s = true) (hinit : (Cond.initialized y.cls).before args s = true)
    (hcode : (Cond.codeWith y bytes maxL ret hh).before args s = true) (hy : y.cls ≠ "java/lang/invoke/MethodHandle" ∧ y.cls ≠ "java/lang/invoke/VarHandle")
    {W9 : Nat} {Pre : Pt → Array Value → Prop} {Post : Pt → Array Value → Option Value → Pt → Prop} {PostX : Pt → Array Value → Addr → Pt → Prop} (hK : vx_Back l R p e below s args y 3 W9 Pre Post PostX)
    {g : JFrame} (hg : g.method = m) (hsize : g.locals.size = c.maxLocals) {argsL rest : List Value} (hlen : ∀ sig, parseMethodDescriptor y.desc = some sig → argsL.length = sig.parameters.length)
    (hstack : g.stack = argsL.reverse ++ rest) (hW : 2 * g.monitorRoom + (rest.map fun v => v.category).sum ≤ W9) (hdg : decode c.code g.pc = .ok (.invokestatic index, 3))
    (hpre : ∀ vm₁, s.WarmedH vm₁ → Pre ⟨T.setVm vm₁, locs, cells, slots⟩ argsL.toArray) :
    (∃ (v : Option Value) (vm₁ : Vm) (B : Pt), s.WarmedH vm₁ ∧ Stand p l e R s m args below meth c B.U B.locs B.cells B.slots ∧ Post ⟨T.setVm vm₁, locs, cells, slots⟩ argsL.toArray v B ∧
      ∀ target, Steps p.tables e below (B.U.setTop { g with pc := g.pc + 3, stack := v.toList ++ rest }) target → Steps p.tables e below (T.setTop g) target) ∨
    (∃ (q : Addr) (vm₁ : Vm) (B : Pt), s.WarmedH vm₁ ∧ Stand p l e R s m args below meth c B.U B.locs B.cells B.slots ∧ PostX ⟨T.setVm vm₁, locs, cells, slots⟩ argsL.toArray q B ∧
      Steps p.tables e below (T.setTop g) ((B.U.setTop { g with stack := rest }).pushFrame (.throwing q))) := by
  obtain ⟨mk, methM, cM, hnamed, hmethM, -, -, -, -, -, -, hsigM⟩ := Cond.codeWith_spec hcode
  have hstatic : methM.isStatic = true := Cond.static_spec hnamed hmethM hstat
  obtain ⟨kP, hkP, -⟩ := className_of_methodNamed hnamed
  have hinitP : kP.init = .initialized := Cond.initialized_spec (findClass_of_methodNamed hnamed) hkP hinit
  obtain ⟨vm₁, X₁, hstep₁⟩ := X.invokestatic hexec hown hlink hnamed hmethM hstatic hkP hinitP hy (g := g) hg (argsL := argsL) (rest := rest) (hlen _ hsigM) hstack hdg
  rcases hK m meth c ⟨T.setVm vm₁, locs, cells, slots⟩ { g with stack := rest } (.invokestatic index) mk argsL.toArray X₁ hg hsize hdg hW (X₁.named hnamed) (hpre vm₁ X₁.warmed) with ⟨v, B, X', hpost, hsteps⟩ | ⟨q, B, X', hpost, hsteps⟩
  · exact Or.inl ⟨v, vm₁, B, X₁.warmed, X', hpost, fun target h => hstep₁ _ fun acts => by rw [doInvoke_state]; exact hsteps.trans h⟩
  · exact Or.inr ⟨q, vm₁, B, X₁.warmed, X', hpost, hstep₁ _ fun acts => by rw [doInvoke_state]; exact hsteps⟩
theorem vx_callVW (X : Stand p l e R s m args below meth c T locs cells slots) (hexec : p.tables.exec = Jvm.exec) {own C : String} {index : Nat} {y : MethodName} {bytes : ByteArray} {maxL : Nat} {ret : Option FieldType} {hh : List (Nat × Nat × Nat × Nat)}
    (hown : s.vm.findClass own = some m.cls) (hlink : (Cond.methodLink own index y).before args s = true) (hinst : (Cond.instanceMethod y).before args s = true) (hsel : (Cond.selects C y y).before args s = true)
    (hcode : (Cond.codeWith y bytes maxL ret hh).before args s = true) (hy : y.cls ≠ "java/lang/invoke/MethodHandle" ∧ y.cls ≠ "java/lang/invoke/VarHandle")
    {W9 : Nat} {Pre : Pt → Array Value → Prop} {Post : Pt → Array Value → Option Value → Pt → Prop} (hK : Back l R p e below s args y 3 W9 Pre Post)
    {b : Addr} {cellB : Cell} (hcell : T.heap[b]? = some cellB) (hobj : cellB.vm.isStatics = false) (hcls : s.vm.findClass C = some cellB.cls)
    {g : JFrame} (hg : g.method = m) (hsize : g.locals.size = c.maxLocals) {argsL rest : List Value} (hlen : ∀ sig, parseMethodDescriptor y.desc = some sig → argsL.length = sig.parameters.length)
    (hstack : g.stack = argsL.reverse ++ .ref b :: rest) (hW : 2 * g.monitorRoom + (rest.map fun v => v.category).sum ≤ W9) (hdg : decode c.code g.pc = .ok (.invokevirtual index, 3))
    (hpre : ∀ vm₁, s.WarmedH vm₁ → Pre ⟨T.setVm vm₁, locs, cells, slots⟩ (Value.ref b :: argsL).toArray) :
    ∃ (v : Option Value) (vm₁ : Vm) (B : Pt), s.WarmedH vm₁ ∧ Stand p l e R s m args below meth c B.U B.locs B.cells B.slots ∧ Post ⟨T.setVm vm₁, locs, cells, slots⟩ (Value.ref b :: argsL).toArray v B ∧
      ∀ target, Steps p.tables e below (B.U.setTop { g with pc := g.pc + 3, stack := v.toList ++ rest }) target → Steps p.tables e below (T.setTop g) target := by
  obtain ⟨mk, methM, hnamed, hmethM, hstM, habM⟩ := Cond.instanceMethod_spec hinst
  obtain ⟨m8, methM', cM, hn8, hmethM', -, -, -, -, -, -, hsigM⟩ := Cond.codeWith_spec hcode
  cases Option.some.inj (hn8.symm.trans hnamed)
  cases hmethM.symm.trans hmethM'
  obtain ⟨c2, r2, m2, q1, q2, q3, q4, kP, hkP, hkPi⟩ := Cond.selects_spec hsel
  cases hcls.symm.trans q1
  cases (State.methodFound?_of_named hnamed hy).symm.trans q2
  cases hnamed.symm.trans q3
  have hselP : selectMethod e.platform s.vm cellB.cls mk = .method mk := by rw [Launch.admits_selectMethod X.admits]; exact q4
  obtain ⟨vm₁, X₁, hstep₁⟩ := X.invokevirtual hexec hown hlink hnamed hmethM hstM hkP hkPi hy (a := b) (cell := cellB) hcell
    (fun z h => by rw [h] at hobj; cases hobj) hselP hmethM habM hkP hkPi (g := g) hg (argsL := argsL) (rest := rest) (hlen _ hsigM) hstack hdg
  obtain ⟨v, B, X', hpost, hsteps⟩ := hK m meth c ⟨T.setVm vm₁, locs, cells, slots⟩ { g with stack := rest } (.invokevirtual index) mk (Value.ref b :: argsL).toArray X₁ hg hsize hdg hW (X₁.named hnamed) (hpre vm₁ X₁.warmed)
  exact ⟨v, vm₁, B, X₁.warmed, X', hpost, fun target h => hstep₁ _ fun acts => by rw [doInvoke_state]; exact hsteps.trans h⟩
abbrev vx_CVW (R : Room) (s : State) (args : Array Value) (own C : String) (index : Nat) (y : MethodName) (bytes : ByteArray) (maxL : Nat) (ret : Option FieldType) (hh : List (Nat × Nat × Nat × Nat)) (ws : List Cond) (rm : Room) (mc ms n : Nat) : Prop :=
  (rm.cells = mc ∧ rm.slots = ms ∧ rm.frames + 1 ≤ R.frames ∧ 8 + (maxL + 11) + rm.locals ≤ R.locals ∧ (∀ w ∈ ws, ∀ (a' : Array Value) (U : State), s.WarmedH U.vm → w.before a' U = true) ∧ Cond.codeWith y bytes maxL ret hh ∈ ws) ∧
  (Cond.codeWith y bytes maxL ret hh).before args s = true ∧ (Cond.initialized y.cls).before args s = true ∧ (y.cls ≠ "java/lang/invoke/MethodHandle" ∧ y.cls ≠ "java/lang/invoke/VarHandle") ∧
  (∀ sig, parseMethodDescriptor y.desc = some sig → n = sig.parameters.length) ∧ (Cond.methodLink own index y).before args s = true ∧ (Cond.instanceMethod y).before args s = true ∧ (Cond.selects C y y).before args s = true
theorem vx_cwVW {own C : String} {index maxL mc ms : Nat} {y : MethodName} {bytes : ByteArray} {ret : Option FieldType} {hh : List (Nat × Nat × Nat × Nat)} {Ts ws ws' : List Cond} {rm : Room} (n : Nat) (ht : ∀ w ∈ Ts, w.before args s = true) (hT : GoodIn Ts (wsV own index C y ws)) (hw : ws = Cond.codeWith y bytes maxL ret hh :: ws') (hrc : rm.cells = mc) (hrs : rm.slots = ms)
    (hd : y.cls = C ∧ y.cls ≠ "java/lang/invoke/MethodHandle" ∧ y.cls ≠ "java/lang/invoke/VarHandle" ∧ (parseMethodDescriptor y.desc).map (fun d => d.parameters.length) = some n) (hR : rm.frames + 1 ≤ R.frames ∧ 8 + (maxL + 11) + rm.locals ≤ R.locals) :
    vx_CVW R s args own C index y bytes maxL ret hh ws rm mc ms n := by
  obtain ⟨hC, hd⟩ := hd
  subst hC
  have ok : ∀ w ∈ wsV own index y.cls y ws, w.before args s = true := fun w h => ht w (hT w h).1
  have hG : GoodIn Ts ws := fun w h => hT w (by unfold wsV; exact List.mem_append_right _ h)
  have hc : Cond.codeWith y bytes maxL ret hh ∈ ws := by rw [hw]; exact List.mem_cons_self
  refine ⟨⟨hrc, hrs, hR.1, hR.2, pay_in ht hG, hc⟩, ht _ (hG _ hc).1, ok _ (by simp [wsV]), ⟨hd.1, hd.2.1⟩, fun sig h => ?_, ok _ (by simp [wsV]), ok _ (by simp [wsV]), ok _ (by simp [wsV])⟩
  have h2 := hd.2.2
  rw [h] at h2
  exact (Option.some.inj h2).symm
theorem vx_runVW {y : MethodName} {bytes cc : ByteArray} {maxL nL mc ms n index : Nat} {ret : Option FieldType} {hh : List (Nat × Nat × Nat × Nat)} {ws : List Cond} {rm : Room} {Pc : Array Value → State → Prop} {Qc : Array Value → State → Outcome → State → Prop} {free : Addr → Prop} {Ts : List Cond} {own C : String} {b : Addr} {As rest : List Value} {g : JFrame}
    (S : CallFix p m c cc nL s args Ts own) (hM : Met l y ws rm Pc Qc mc ms free) (cw : vx_CVW R s args own C index y bytes maxL ret hh ws rm mc ms n) (hp : PreV s H C b Pc As)
    (hg : g.method = m) (hn : As.length = n) (hsize : g.locals.size = nL) (hstack : g.stack = As.reverse ++ .ref b :: rest) (hW : 2 * g.monitorRoom + (rest.map fun v => v.category).sum ≤ 8) (hdg : decode cc g.pc = .ok (.invokevirtual index, 3)) (hf : cells + mc ≤ R.cells ∧ slots + ms ≤ R.slots) :
    va_Run p l e R s m args below meth c H locs cells slots mc ms g rest (Qc (Value.ref b :: As).toArray) free := by
  obtain ⟨⟨hrc, hrs, hfr, hlo, hws, hcw⟩, hcode, hini, hy, hlen, hl, hin, hse⟩ := cw
  have hK : Back l R p e below s args y 3 8 (PreOf R mc ms Pc) (PostOf Qc mc ms free) := va_backW (hh := hh) (bytes := bytes) (maxL := maxL) (ret := ret) hM hp.1 hrc hrs hfr hlo hws hcw (fun a' U hW => word_at hW (Or.inl (by first | rfl | simp [Cond.onTables, Cond.keeps, Cond.steady])) hini)
  obtain ⟨hx, hb, hml, ho, -⟩ := S
  obtain ⟨-, ⟨cellB, hcB, hoB, hclB⟩, hPc⟩ := hp
  intro T hT X
  obtain ⟨v, vm₁, ⟨U', l2, c2, s2⟩, hW₁, X', ⟨g', mk, t, L, e1, e2, hq, h1, hL, h2, h3⟩, st⟩ := vx_callVW X hx (C := C) (hh := hh) (bytes := bytes) (maxL := maxL) (ret := ret) ho hl hin hse hcode hy hK (by rw [hT]; exact hcB) hoB hclB hg (hsize.trans hml.symm) (argsL := As) (rest := rest) (fun sig h => hn.trans (hlen sig h)) hstack hW (by rw [hb]; exact hdg)
    (fun vm₁ hW₁ => ⟨hf.1, hf.2, hPc (T.setVm vm₁) hT hW₁⟩)
  dsimp only [Pt.U, Pt.locs, Pt.cells, Pt.slots] at X' e1 e2 h1 h2 h3 st
  subst h1; subst h2; subst h3
  exact ⟨v, (T.setVm vm₁).calling g' mk (Value.ref b :: As).toArray, t, U', L, hT, X', hL, e1, e2, hq, st⟩
section
variable {y : MethodName} {bytes cc : ByteArray} {maxL nL mc ms n index : Nat} {ret : Option FieldType} {ws : List Cond} {rm : Room} {Pc : Array Value → State → Prop} {Qc : Array Value → State → Outcome → State → Prop} {XC : String → State → State → Prop} {free : Addr → Prop} {Ts : List Cond} {own C : String} {b : Addr} {As rest : List Value} {g : JFrame}
theorem vx_runVX {hh : List (Nat × Nat × Nat × Nat)} (S : CallFix p m c cc nL s args Ts own) (hM : vx_Met l y ws rm Pc Qc XC mc ms free) (cw : vx_CVW R s args own C index y bytes maxL ret hh ws rm mc ms n) (hp : PreV s H C b Pc As)
    (hg : g.method = m) (hn : As.length = n) (hsize : g.locals.size = nL) (hstack : g.stack = As.reverse ++ .ref b :: rest) (hW : 2 * g.monitorRoom + (rest.map fun v => v.category).sum ≤ 8) (hdg : decode cc g.pc = .ok (.invokevirtual index, 3)) (hf : cells + mc ≤ R.cells ∧ slots + ms ≤ R.slots) :
    vx_Run p l e R s m args below meth c H locs cells slots mc ms g rest (Qc (Value.ref b :: As).toArray) XC free := by
  obtain ⟨⟨hrc, hrs, hfr, hlo, hws, hcw⟩, hcode, hini, hy, hlen, hl, hin, hse⟩ := cw
  have hK : vx_Back l R p e below s args y 3 8 (PreOf R mc ms Pc) (PostOf Qc mc ms free) (vx_Post XC mc ms free) := vx_backW (hh := hh) (bytes := bytes) (maxL := maxL) (ret := ret) hM hp.1 hrc hrs hfr hlo hws hcw (fun a' U hW => word_at hW (Or.inl (by first | rfl | simp [Cond.onTables, Cond.keeps, Cond.steady])) hini)
  obtain ⟨hx, hb, hml, ho, -⟩ := S
  obtain ⟨-, ⟨cellB, hcB, hoB, hclB⟩, hPc⟩ := hp
  intro T hT X
  rcases vx_callVX X hx (C := C) (hh := hh) (bytes := bytes) (maxL := maxL) (ret := ret) ho hl hin hse hcode hy hK (by rw [hT]; exact hcB) hoB hclB hg (hsize.trans hml.symm) (argsL := As) (rest := rest) (fun sig h => hn.trans (hlen sig h)) hstack hW (by rw [hb]; exact hdg)
    (fun vm₁ hW₁ => ⟨hf.1, hf.2, hPc (T.setVm vm₁) hT hW₁⟩) with ⟨v, vm₁, ⟨U', l2, c2, s2⟩, hW₁, X', ⟨g', mk, t, L, e1, e2, hq, h1, hL, h2, h3⟩, st⟩ | ⟨q, vm₁, ⟨U', l2, c2, s2⟩, hW₁, X', ⟨g', mk, t, L, E, ce, e1, e2, hq, hce, hcv, hcl, h1, hL, h2, h3⟩, st⟩
  · dsimp only [Pt.U, Pt.locs, Pt.cells, Pt.slots] at X' e1 e2 h1 h2 h3 st
    subst h1; subst h2; subst h3
    exact Or.inl ⟨v, (T.setVm vm₁).calling g' mk (Value.ref b :: As).toArray, t, U', L, hT, X', hL, e1, e2, hq, st⟩
  · dsimp only [Pt.U, Pt.locs, Pt.cells, Pt.slots] at X' e1 e2 h1 h2 h3 st hcl
    subst h1; subst h2; subst h3
    exact Or.inr ⟨q, (T.setVm vm₁).calling g' mk (Value.ref b :: As).toArray, t, U', L, E, ce, hT, X', hL, e1, e2, hq, hce, hcv, vx_cls hW₁ hcl, st⟩
theorem vx_runSX {hh : List (Nat × Nat × Nat × Nat)} (S : CallFix p m c cc nL s args Ts own) (hM : vx_Met l y ws rm Pc Qc XC mc ms free) (cw : vx_CSW R s args own index y bytes maxL ret hh ws rm mc ms n) (hp : PreS s H Pc As)
    (hg : g.method = m) (hn : As.length = n) (hsize : g.locals.size = nL) (hstack : g.stack = As.reverse ++ rest) (hW : 2 * g.monitorRoom + (rest.map fun v => v.category).sum ≤ 8) (hdg : decode cc g.pc = .ok (.invokestatic index, 3)) (hf : cells + mc ≤ R.cells ∧ slots + ms ≤ R.slots) :
    vx_Run p l e R s m args below meth c H locs cells slots mc ms g rest (Qc As.toArray) XC free := by
  obtain ⟨⟨hrc, hrs, hfr, hlo, hws, hcw⟩, hcode, hini, hy, hlen, hl, hstt⟩ := cw
  have hK : vx_Back l R p e below s args y 3 8 (PreOf R mc ms Pc) (PostOf Qc mc ms free) (vx_Post XC mc ms free) := vx_backW (hh := hh) (bytes := bytes) (maxL := maxL) (ret := ret) hM hp.1 hrc hrs hfr hlo hws hcw (fun a' U hW => word_at hW (Or.inl (by first | rfl | simp [Cond.onTables, Cond.keeps, Cond.steady])) hini)
  obtain ⟨hx, hb, hml, ho, -⟩ := S
  intro T hT X
  rcases vx_callSX X hx (hh := hh) (bytes := bytes) (maxL := maxL) (ret := ret) ho hl hstt hini hcode hy hK hg (hsize.trans hml.symm) (argsL := As) (rest := rest) (fun sig h => hn.trans (hlen sig h)) hstack hW (by rw [hb]; exact hdg)
    (fun vm₁ hW₁ => ⟨hf.1, hf.2, hp.2 (T.setVm vm₁) hT hW₁⟩) with ⟨v, vm₁, ⟨U', l2, c2, s2⟩, hW₁, X', ⟨g', mk, t, L, e1, e2, hq, h1, hL, h2, h3⟩, st⟩ | ⟨q, vm₁, ⟨U', l2, c2, s2⟩, hW₁, X', ⟨g', mk, t, L, E, ce, e1, e2, hq, hce, hcv, hcl, h1, hL, h2, h3⟩, st⟩
  · dsimp only [Pt.U, Pt.locs, Pt.cells, Pt.slots] at X' e1 e2 h1 h2 h3 st
    subst h1; subst h2; subst h3
    exact Or.inl ⟨v, (T.setVm vm₁).calling g' mk As.toArray, t, U', L, hT, X', hL, e1, e2, hq, st⟩
  · dsimp only [Pt.U, Pt.locs, Pt.cells, Pt.slots] at X' e1 e2 h1 h2 h3 st hcl
    subst h1; subst h2; subst h3
    exact Or.inr ⟨q, (T.setVm vm₁).calling g' mk As.toArray, t, U', L, E, ce, hT, X', hL, e1, e2, hq, hce, hcv, vx_cls hW₁ hcl, st⟩
end
end VXH
theorem vx_ofWH {l : Launch} {y : MethodName} {ws ws' : List Cond} {rm : Room} {Pc : Array Value → State → Prop} {Qc : Array Value → State → Outcome → State → Prop} {XC : String → State → State → Prop} {mc ms : Nat} {free : Addr → Prop} {cc : ByteArray} {maxL : Nat} {ret : Option FieldType} {hh : List (Nat × Nat × Nat × Nat)}
    (hy : plainName y.cls = true) (hw : ws = Cond.codeWith y cc maxL ret hh :: ws')
    (body : ∀ p e s m args below meth c s₁, BodyLoose p l y (headSpec ws rm) cc maxL ret e s m args below meth c s₁ → c.maxLocals = maxL → Pc args s →
      W p l e (headSpec ws rm).room s m args below meth c s.heap [] 0 0 (vx_MQ below Qc XC args s mc ms free) (entryFrame m args maxL)) : vx_Met l y ws rm Pc Qc XC mc ms free := by
  refine MetFree.of_bodyS (code := cc) (maxLocals := maxL) (ret := ret) hy ?_ ?_
  · intro args s m h hn
    obtain ⟨m9, meth, c, hn9, h1, h2, h3, h4, -, h5, h6, -⟩ := Cond.codeWith_spec (atoms_spec (ws := ws) h _ (by rw [hw]; exact List.mem_cons_self))
    cases hn.symm.trans hn9
    exact ⟨meth, c, h1, h2, h3, h4, h5, h6⟩
  · intro p e s m args below meth c s₁ B hml hP _
    have hh0 : s₁.heap = s.heap := by rw [B.state]; rfl
    obtain ⟨t, a1, o, b1, b2, b3⟩ := body p e s m args below meth c s₁ B hml hP s₁ hh0 (Stand.of_body B)
    exact ⟨t, o, a1, b1, b2, b3⟩
/-! ===== END ===== -/

/-! ===== BEGIN printed: names, fields, word lists, decode rows ===== -/
def RX0 : String := "GelBook$Cue"
def TX0 : u_T := fun k => match k with
  | 0 => ("GelBook$Cue", "number", "I", true)
  | 1 => ("GelBook$Cue", "sort", "I", true)
  | 2 => ("GelBook$Cue", "up", "I", true)
  | 3 => ("GelBook$Cue", "down", "I", true)
  | 4 => ("GelBook$Cue", "told", "[I", true)
  | 5 => ("GelBook$Cue", "shiners", "[I", true)
  | 6 => ("GelBook$Cue", "levels", "[I", true)
  | 7 => ("GelBook$Cue", "follower", "LGelBook$Cue;", false)
  | _ => ("GelBook$Cue", "delay", "I", false)
def tyX0 : Nat → FieldType := fun k => match k with
  | 0 => .int
  | 1 => .int
  | 2 => .int
  | 3 => .int
  | 4 => .array .int
  | 5 => .array .int
  | 6 => .array .int
  | 7 => .object "GelBook$Cue"
  | _ => .int
abbrev wsX00 : List Cond := u_ws RX0 TX0 9
theorem nmX0 : ∀ a, a < 9 → ∀ b, b < 9 → a ≠ b → (TX0 a).2.1 ≠ (TX0 b).2.1 := by decide +kernel
theorem tyX0_ok : ∀ k, k < 9 → parseFieldDescriptor (TX0 k).2.2.1 = some (tyX0 k) := by decide +kernel
abbrev cX0_init : ByteArray := prog_2_method_1_code
def yX0_init : MethodName := ⟨RX0, "<init>", "(IIII)V"⟩
abbrev cX0_tell : ByteArray := prog_2_method_2_code
def yX0_tell : MethodName := ⟨RX0, "tell", "(II)I"⟩
abbrev cX0_shinerFor : ByteArray := prog_2_method_3_code
def yX0_shinerFor : MethodName := ⟨RX0, "shinerFor", "(I)I"⟩
abbrev cX0_levelFor : ByteArray := prog_2_method_4_code
def yX0_levelFor : MethodName := ⟨RX0, "levelFor", "(I)I"⟩
abbrev cX0_canSpare : ByteArray := prog_2_method_5_code
def yX0_canSpare : MethodName := ⟨RX0, "canSpare", "(I)Z"⟩
abbrev cX0_arrange : ByteArray := prog_2_method_6_code
def yX0_arrange : MethodName := ⟨RX0, "arrange", "(LGelBook$Rig;)V"⟩
abbrev cX0_masterRisen : ByteArray := prog_2_method_7_code
def yX0_masterRisen : MethodName := ⟨RX0, "masterRisen", "(I)F"⟩
def RX1 : String := "GelBook$Going"
def TX1 : u_T := fun k => match k with
  | 0 => ("GelBook$Going", "cue", "LGelBook$Cue;", false)
  | 1 => ("GelBook$Going", "went", "I", false)
  | _ => ("GelBook$Going", "releasedAt", "I", false)
def tyX1 : Nat → FieldType := fun k => match k with
  | 0 => .object "GelBook$Cue"
  | 1 => .int
  | _ => .int
abbrev wsX10 : List Cond := u_ws RX1 TX1 3
theorem nmX1 : ∀ a, a < 3 → ∀ b, b < 3 → a ≠ b → (TX1 a).2.1 ≠ (TX1 b).2.1 := by decide +kernel
theorem tyX1_ok : ∀ k, k < 3 → parseFieldDescriptor (TX1 k).2.2.1 = some (tyX1 k) := by decide +kernel
abbrev cX1_init : ByteArray := prog_3_method_1_code
def yX1_init : MethodName := ⟨RX1, "<init>", "()V"⟩
abbrev cX1_begin : ByteArray := prog_3_method_2_code
def yX1_begin : MethodName := ⟨RX1, "begin", "(LGelBook$Cue;I)V"⟩
abbrev cX1_fall : ByteArray := prog_3_method_3_code
def yX1_fall : MethodName := ⟨RX1, "fall", "(I)V"⟩
abbrev cX1_isReleased : ByteArray := prog_3_method_4_code
def yX1_isReleased : MethodName := ⟨RX1, "isReleased", "()Z"⟩
abbrev cX1_isOver : ByteArray := prog_3_method_5_code
def yX1_isOver : MethodName := ⟨RX1, "isOver", "(I)Z"⟩
abbrev cX1_isOf : ByteArray := prog_3_method_6_code
def yX1_isOf : MethodName := ⟨RX1, "isOf", "(I)Z"⟩
abbrev cX1_levelFor : ByteArray := prog_3_method_7_code
def yX1_levelFor : MethodName := ⟨RX1, "levelFor", "(I)I"⟩
abbrev cX1_master : ByteArray := prog_3_method_8_code
def yX1_master : MethodName := ⟨RX1, "master", "(I)F"⟩
def RX2 : String := "GelBook$Goings"
def TX2 : u_T := fun k => match k with
  | 0 => ("GelBook$Goings", "row", "[LGelBook$Going;", true)
  | _ => ("GelBook$Goings", "count", "I", false)
def tyX2 : Nat → FieldType := fun k => match k with
  | 0 => .array (.object "GelBook$Going")
  | _ => .int
abbrev wsX20 : List Cond := u_ws RX2 TX2 2
theorem nmX2 : ∀ a, a < 2 → ∀ b, b < 2 → a ≠ b → (TX2 a).2.1 ≠ (TX2 b).2.1 := by decide +kernel
theorem tyX2_ok : ∀ k, k < 2 → parseFieldDescriptor (TX2 k).2.2.1 = some (tyX2 k) := by decide +kernel
abbrev cX2_init : ByteArray := prog_4_method_1_code
def yX2_init : MethodName := ⟨RX2, "<init>", "()V"⟩
abbrev cX2_clear : ByteArray := prog_4_method_2_code
def yX2_clear : MethodName := ⟨RX2, "clear", "()V"⟩
abbrev cX2_at : ByteArray := prog_4_method_3_code
def yX2_at : MethodName := ⟨RX2, "at", "(I)LGelBook$Going;"⟩
abbrev cX2_placeOf : ByteArray := prog_4_method_4_code
def yX2_placeOf : MethodName := ⟨RX2, "placeOf", "(LGelBook$Cue;)I"⟩
abbrev cX2_goingOf : ByteArray := prog_4_method_5_code
def yX2_goingOf : MethodName := ⟨RX2, "goingOf", "(LGelBook$Cue;)LGelBook$Going;"⟩
abbrev cX2_begin : ByteArray := prog_4_method_6_code
def yX2_begin : MethodName := ⟨RX2, "begin", "(LGelBook$Cue;I)V"⟩
abbrev cX2_fall : ByteArray := prog_4_method_7_code
def yX2_fall : MethodName := ⟨RX2, "fall", "(LGelBook$Cue;I)V"⟩
abbrev cX2_dropOver : ByteArray := prog_4_method_8_code
def yX2_dropOver : MethodName := ⟨RX2, "dropOver", "(I)V"⟩
abbrev cX2_moveLast : ByteArray := prog_4_method_9_code
def yX2_moveLast : MethodName := ⟨RX2, "moveLast", "(I)V"⟩
abbrev cX2_greatestUnreleased : ByteArray := prog_4_method_10_code
def yX2_greatestUnreleased : MethodName := ⟨RX2, "greatestUnreleased", "(I)I"⟩
abbrev cX2_mix : ByteArray := prog_4_method_11_code
def yX2_mix : MethodName := ⟨RX2, "mix", "(II)F"⟩
def RX3 : String := "GelBook$History"
def TX3 : u_T := fun k => match k with
  | 0 => ("GelBook$History", "entries", "[I", false)
  | _ => ("GelBook$History", "count", "I", false)
def tyX3 : Nat → FieldType := fun k => match k with
  | 0 => .array .int
  | _ => .int
abbrev wsX30 : List Cond := u_ws RX3 TX3 2
theorem nmX3 : ∀ a, a < 2 → ∀ b, b < 2 → a ≠ b → (TX3 a).2.1 ≠ (TX3 b).2.1 := by decide +kernel
theorem tyX3_ok : ∀ k, k < 2 → parseFieldDescriptor (TX3 k).2.2.1 = some (tyX3 k) := by decide +kernel
abbrev cX3_init : ByteArray := prog_5_method_1_code
def yX3_init : MethodName := ⟨RX3, "<init>", "()V"⟩
abbrev cX3_entryFor : ByteArray := prog_5_method_2_code
def yX3_entryFor : MethodName := ⟨RX3, "entryFor", "(III)I"⟩
abbrev cX3_tickOf : ByteArray := prog_5_method_3_code
def yX3_tickOf : MethodName := ⟨RX3, "tickOf", "(I)I"⟩
abbrev cX3_cueOf : ByteArray := prog_5_method_4_code
def yX3_cueOf : MethodName := ⟨RX3, "cueOf", "(I)I"⟩
abbrev cX3_isRelease : ByteArray := prog_5_method_5_code
def yX3_isRelease : MethodName := ⟨RX3, "isRelease", "(I)Z"⟩
abbrev cX3_entryAt : ByteArray := prog_5_method_6_code
def yX3_entryAt : MethodName := ⟨RX3, "entryAt", "(I)I"⟩
abbrev cX3_writeGoing : ByteArray := prog_5_method_7_code
def yX3_writeGoing : MethodName := ⟨RX3, "writeGoing", "(II)V"⟩
abbrev cX3_writeRelease : ByteArray := prog_5_method_8_code
def yX3_writeRelease : MethodName := ⟨RX3, "writeRelease", "(II)V"⟩
abbrev cX3_strike : ByteArray := prog_5_method_9_code
def yX3_strike : MethodName := ⟨RX3, "strike", "(I)V"⟩
abbrev cX3_removeAt : ByteArray := prog_5_method_10_code
def yX3_removeAt : MethodName := ⟨RX3, "removeAt", "(I)V"⟩
abbrev cX3_append : ByteArray := prog_5_method_11_code
def yX3_append : MethodName := ⟨RX3, "append", "(I)V"⟩
def RX4 : String := "GelBook$Lamp"
def TX4 : u_T := fun k => match k with
  | 0 => ("GelBook$Lamp", "bar", "I", true)
  | 1 => ("GelBook$Lamp", "position", "I", true)
  | 2 => ("GelBook$Lamp", "gel", "I", true)
  | 3 => ("GelBook$Lamp", "watts", "I", true)
  | 4 => ("GelBook$Lamp", "phase", "I", true)
  | _ => ("GelBook$Lamp", "dead", "Z", false)
def tyX4 : Nat → FieldType := fun k => match k with
  | 0 => .int
  | 1 => .int
  | 2 => .int
  | 3 => .int
  | 4 => .int
  | _ => .boolean
abbrev wsX40 : List Cond := u_ws RX4 TX4 6
theorem nmX4 : ∀ a, a < 6 → ∀ b, b < 6 → a ≠ b → (TX4 a).2.1 ≠ (TX4 b).2.1 := by decide +kernel
theorem tyX4_ok : ∀ k, k < 6 → parseFieldDescriptor (TX4 k).2.2.1 = some (tyX4 k) := by decide +kernel
abbrev cX4_init : ByteArray := prog_6_method_1_code
def yX4_init : MethodName := ⟨RX4, "<init>", "(IIIII)V"⟩
abbrev cX4_distanceTo : ByteArray := prog_6_method_2_code
def yX4_distanceTo : MethodName := ⟨RX4, "distanceTo", "(LGelBook$Lamp;)I"⟩
def RX5 : String := "GelBook$Rig"
def TX5 : u_T := fun k => match k with
  | 0 => ("GelBook$Rig", "lamps", "[LGelBook$Lamp;", true)
  | 1 => ("GelBook$Rig", "count", "I", false)
  | _ => ("GelBook$Rig", "bars", "I", false)
def tyX5 : Nat → FieldType := fun k => match k with
  | 0 => .array (.object "GelBook$Lamp")
  | 1 => .int
  | _ => .int
abbrev wsX50 : List Cond := u_ws RX5 TX5 3
theorem nmX5 : ∀ a, a < 3 → ∀ b, b < 3 → a ≠ b → (TX5 a).2.1 ≠ (TX5 b).2.1 := by decide +kernel
theorem tyX5_ok : ∀ k, k < 3 → parseFieldDescriptor (TX5 k).2.2.1 = some (tyX5 k) := by decide +kernel
abbrev cX5_init : ByteArray := prog_7_method_1_code
def yX5_init : MethodName := ⟨RX5, "<init>", "()V"⟩
abbrev cX5_isFull : ByteArray := prog_7_method_2_code
def yX5_isFull : MethodName := ⟨RX5, "isFull", "()Z"⟩
abbrev cX5_hang : ByteArray := prog_7_method_3_code
def yX5_hang : MethodName := ⟨RX5, "hang", "(LGelBook$Lamp;)I"⟩
abbrev cX5_lampAt : ByteArray := prog_7_method_4_code
def yX5_lampAt : MethodName := ⟨RX5, "lampAt", "(I)LGelBook$Lamp;"⟩
abbrev cX5_isUsable : ByteArray := prog_7_method_5_code
def yX5_isUsable : MethodName := ⟨RX5, "isUsable", "(LGelBook$Lamp;)Z"⟩
abbrev cX5_countUsable : ByteArray := prog_7_method_6_code
def yX5_countUsable : MethodName := ⟨RX5, "countUsable", "()I"⟩
abbrev cX5_nearestSpare : ByteArray := prog_7_method_7_code
def yX5_nearestSpare : MethodName := ⟨RX5, "nearestSpare", "(LGelBook$Lamp;LGelBook$Cue;)I"⟩
def RX6 : String := "GelBook$Waiting"
def TX6 : u_T := fun k => match k with
  | 0 => ("GelBook$Waiting", "noted", "[LGelBook$Cue;", true)
  | 1 => ("GelBook$Waiting", "dueAt", "[I", true)
  | 2 => ("GelBook$Waiting", "ready", "[LGelBook$Cue;", true)
  | 3 => ("GelBook$Waiting", "count", "I", false)
  | _ => ("GelBook$Waiting", "readyCount", "I", false)
def tyX6 : Nat → FieldType := fun k => match k with
  | 0 => .array (.object "GelBook$Cue")
  | 1 => .array .int
  | 2 => .array (.object "GelBook$Cue")
  | 3 => .int
  | _ => .int
abbrev wsX60 : List Cond := u_ws RX6 TX6 5
theorem nmX6 : ∀ a, a < 5 → ∀ b, b < 5 → a ≠ b → (TX6 a).2.1 ≠ (TX6 b).2.1 := by decide +kernel
theorem tyX6_ok : ∀ k, k < 5 → parseFieldDescriptor (TX6 k).2.2.1 = some (tyX6 k) := by decide +kernel
abbrev cX6_init : ByteArray := prog_8_method_1_code
def yX6_init : MethodName := ⟨RX6, "<init>", "()V"⟩
abbrev cX6_note : ByteArray := prog_8_method_2_code
def yX6_note : MethodName := ⟨RX6, "note", "(LGelBook$Cue;I)V"⟩
abbrev cX6_takeDue : ByteArray := prog_8_method_3_code
def yX6_takeDue : MethodName := ⟨RX6, "takeDue", "(I)V"⟩
abbrev cX6_readyAt : ByteArray := prog_8_method_4_code
def yX6_readyAt : MethodName := ⟨RX6, "readyAt", "(I)LGelBook$Cue;"⟩
def RX7 : String := "GelBook"
def TX7 : u_T := fun k => match k with
  | 0 => ("GelBook", "rig", "LGelBook$Rig;", true)
  | 1 => ("GelBook", "cues", "[LGelBook$Cue;", true)
  | 2 => ("GelBook", "powers", "[I", true)
  | 3 => ("GelBook", "live", "LGelBook$Goings;", true)
  | 4 => ("GelBook", "retold", "LGelBook$Goings;", true)
  | 5 => ("GelBook", "waiting", "LGelBook$Waiting;", true)
  | 6 => ("GelBook", "history", "LGelBook$History;", true)
  | 7 => ("GelBook", "cueCount", "I", false)
  | 8 => ("GelBook", "tick", "I", false)
  | _ => ("GelBook", "barredCount", "I", false)
def tyX7 : Nat → FieldType := fun k => match k with
  | 0 => .object "GelBook$Rig"
  | 1 => .array (.object "GelBook$Cue")
  | 2 => .array .int
  | 3 => .object "GelBook$Goings"
  | 4 => .object "GelBook$Goings"
  | 5 => .object "GelBook$Waiting"
  | 6 => .object "GelBook$History"
  | 7 => .int
  | 8 => .int
  | _ => .int
abbrev wsX70 : List Cond := u_ws RX7 TX7 10
theorem nmX7 : ∀ a, a < 10 → ∀ b, b < 10 → a ≠ b → (TX7 a).2.1 ≠ (TX7 b).2.1 := by decide +kernel
theorem tyX7_ok : ∀ k, k < 10 → parseFieldDescriptor (TX7 k).2.2.1 = some (tyX7 k) := by decide +kernel
abbrev cX7_init : ByteArray := prog_1_method_1_code
def yX7_init : MethodName := ⟨RX7, "<init>", "()V"⟩
abbrev cX7_lamp : ByteArray := prog_1_method_2_code
def yX7_lamp : MethodName := ⟨RX7, "lamp", "(IIIII)I"⟩
abbrev cX7_die : ByteArray := prog_1_method_3_code
def yX7_die : MethodName := ⟨RX7, "die", "(I)Z"⟩
abbrev cX7_house : ByteArray := prog_1_method_4_code
def yX7_house : MethodName := ⟨RX7, "house", "(I)I"⟩
abbrev cX7_power : ByteArray := prog_1_method_5_code
def yX7_power : MethodName := ⟨RX7, "power", "(II)I"⟩
abbrev cX7_cue : ByteArray := prog_1_method_6_code
def yX7_cue : MethodName := ⟨RX7, "cue", "(III)I"⟩
abbrev cX7_level : ByteArray := prog_1_method_7_code
def yX7_level : MethodName := ⟨RX7, "level", "(III)I"⟩
abbrev cX7_follow : ByteArray := prog_1_method_8_code
def yX7_follow : MethodName := ⟨RX7, "follow", "(III)I"⟩
abbrev cX7_go : ByteArray := prog_1_method_9_code
def yX7_go : MethodName := ⟨RX7, "go", "(I)I"⟩
abbrev cX7_release : ByteArray := prog_1_method_10_code
def yX7_release : MethodName := ⟨RX7, "release", "(I)Z"⟩
abbrev cX7_pass : ByteArray := prog_1_method_11_code
def yX7_pass : MethodName := ⟨RX7, "pass", "(I)I"⟩
abbrev cX7_levelOf : ByteArray := prog_1_method_12_code
def yX7_levelOf : MethodName := ⟨RX7, "levelOf", "(I)I"⟩
abbrev cX7_levelAnew : ByteArray := prog_1_method_13_code
def yX7_levelAnew : MethodName := ⟨RX7, "levelAnew", "(I)I"⟩
abbrev cX7_loadOf : ByteArray := prog_1_method_14_code
def yX7_loadOf : MethodName := ⟨RX7, "loadOf", "(I)I"⟩
abbrev cX7_watts : ByteArray := prog_1_method_15_code
def yX7_watts : MethodName := ⟨RX7, "watts", "(I)I"⟩
abbrev cX7_asks : ByteArray := prog_1_method_16_code
def yX7_asks : MethodName := ⟨RX7, "asks", "(II)I"⟩
abbrev cX7_shines : ByteArray := prog_1_method_17_code
def yX7_shines : MethodName := ⟨RX7, "shines", "(II)I"⟩
abbrev cX7_playing : ByteArray := prog_1_method_18_code
def yX7_playing : MethodName := ⟨RX7, "playing", "(II)I"⟩
abbrev cX7_barred : ByteArray := prog_1_method_19_code
def yX7_barred : MethodName := ⟨RX7, "barred", "()I"⟩
abbrev cX7_isWithin : ByteArray := prog_1_method_20_code
def yX7_isWithin : MethodName := ⟨RX7, "isWithin", "(III)Z"⟩
abbrev cX7_isPhase : ByteArray := prog_1_method_21_code
def yX7_isPhase : MethodName := ⟨RX7, "isPhase", "(I)Z"⟩
abbrev cX7_isGel : ByteArray := prog_1_method_22_code
def yX7_isGel : MethodName := ⟨RX7, "isGel", "(I)Z"⟩
abbrev cX7_cueAt : ByteArray := prog_1_method_23_code
def yX7_cueAt : MethodName := ⟨RX7, "cueAt", "(I)LGelBook$Cue;"⟩
abbrev cX7_bitsOf : ByteArray := prog_1_method_24_code
def yX7_bitsOf : MethodName := ⟨RX7, "bitsOf", "(F)I"⟩
abbrev cX7_arrangeCues : ByteArray := prog_1_method_25_code
def yX7_arrangeCues : MethodName := ⟨RX7, "arrangeCues", "()V"⟩
abbrev cX7_canGo : ByteArray := prog_1_method_26_code
def yX7_canGo : MethodName := ⟨RX7, "canGo", "(LGelBook$Cue;)Z"⟩
abbrev cX7_wattsAsked : ByteArray := prog_1_method_27_code
def yX7_wattsAsked : MethodName := ⟨RX7, "wattsAsked", "(LGelBook$Cue;I)I"⟩
abbrev cX7_begin : ByteArray := prog_1_method_28_code
def yX7_begin : MethodName := ⟨RX7, "begin", "(LGelBook$Cue;)V"⟩
abbrev cX7_passOne : ByteArray := prog_1_method_29_code
def yX7_passOne : MethodName := ⟨RX7, "passOne", "()V"⟩
abbrev cX7_loadNow : ByteArray := prog_1_method_30_code
def yX7_loadNow : MethodName := ⟨RX7, "loadNow", "(I)F"⟩
abbrev cX7_retell : ByteArray := prog_1_method_31_code
def yX7_retell : MethodName := ⟨RX7, "retell", "()V"⟩
def RX8 : String := "GelBookModel"
def TX8 : u_T := fun k => match k with
  | 0 => ("GelBookModel", "tick", "I", false)
  | 1 => ("GelBookModel", "lamps", "I", false)
  | 2 => ("GelBookModel", "bar", "[I", true)
  | 3 => ("GelBookModel", "position", "[I", true)
  | 4 => ("GelBookModel", "gel", "[I", true)
  | 5 => ("GelBookModel", "watts", "[I", true)
  | 6 => ("GelBookModel", "phase", "[I", true)
  | 7 => ("GelBookModel", "isDead", "[Z", true)
  | 8 => ("GelBookModel", "bars", "I", false)
  | 9 => ("GelBookModel", "power", "[I", true)
  | 10 => ("GelBookModel", "cues", "I", false)
  | 11 => ("GelBookModel", "sort", "[I", true)
  | 12 => ("GelBookModel", "up", "[I", true)
  | 13 => ("GelBookModel", "down", "[I", true)
  | 14 => ("GelBookModel", "level", "[I", true)
  | 15 => ("GelBookModel", "other", "[I", true)
  | 16 => ("GelBookModel", "behind", "[I", true)
  | 17 => ("GelBookModel", "isActive", "[Z", true)
  | 18 => ("GelBookModel", "went", "[I", true)
  | 19 => ("GelBookModel", "order", "[I", true)
  | 20 => ("GelBookModel", "released", "[I", true)
  | 21 => ("GelBookModel", "goings", "I", false)
  | 22 => ("GelBookModel", "noted", "I", false)
  | 23 => ("GelBookModel", "notedCue", "[I", true)
  | 24 => ("GelBookModel", "notedTick", "[I", true)
  | 25 => ("GelBookModel", "barred", "I", false)
  | 26 => ("GelBookModel", "its", "[I", true)
  | 27 => ("GelBookModel", "shining", "[I", true)
  | 28 => ("GelBookModel", "thrown", "I", false)
  | _ => ("GelBookModel", "greatest", "[I", true)
def tyX8 : Nat → FieldType := fun k => match k with
  | 0 => .int
  | 1 => .int
  | 2 => .array .int
  | 3 => .array .int
  | 4 => .array .int
  | 5 => .array .int
  | 6 => .array .int
  | 7 => .array .boolean
  | 8 => .int
  | 9 => .array .int
  | 10 => .int
  | 11 => .array .int
  | 12 => .array .int
  | 13 => .array .int
  | 14 => .array .int
  | 15 => .array .int
  | 16 => .array .int
  | 17 => .array .boolean
  | 18 => .array .int
  | 19 => .array .int
  | 20 => .array .int
  | 21 => .int
  | 22 => .int
  | 23 => .array .int
  | 24 => .array .int
  | 25 => .int
  | 26 => .array .int
  | 27 => .array .int
  | 28 => .int
  | _ => .array .int
abbrev wsX80 : List Cond := u_ws RX8 TX8 30
theorem nmX8 : ∀ a, a < 30 → ∀ b, b < 30 → a ≠ b → (TX8 a).2.1 ≠ (TX8 b).2.1 := by decide +kernel
theorem tyX8_ok : ∀ k, k < 30 → parseFieldDescriptor (TX8 k).2.2.1 = some (tyX8 k) := by decide +kernel
abbrev cX8_init : ByteArray := prog_10_method_1_code
def yX8_init : MethodName := ⟨RX8, "<init>", "()V"⟩
abbrev cX8_thrown : ByteArray := prog_10_method_2_code
def yX8_thrown : MethodName := ⟨RX8, "thrown", "()I"⟩
abbrev cX8_can : ByteArray := prog_10_method_3_code
def yX8_can : MethodName := ⟨RX8, "can", "(I)Z"⟩
abbrev cX8_isIn : ByteArray := prog_10_method_4_code
def yX8_isIn : MethodName := ⟨RX8, "isIn", "(III)Z"⟩
abbrev cX8_isLamp : ByteArray := prog_10_method_5_code
def yX8_isLamp : MethodName := ⟨RX8, "isLamp", "(I)Z"⟩
abbrev cX8_isCue : ByteArray := prog_10_method_6_code
def yX8_isCue : MethodName := ⟨RX8, "isCue", "(I)Z"⟩
abbrev cX8_isPhase : ByteArray := prog_10_method_7_code
def yX8_isPhase : MethodName := ⟨RX8, "isPhase", "(I)Z"⟩
abbrev cX8_size : ByteArray := prog_10_method_8_code
def yX8_size : MethodName := ⟨RX8, "size", "(I)I"⟩
abbrev cX8_lamp : ByteArray := prog_10_method_9_code
def yX8_lamp : MethodName := ⟨RX8, "lamp", "(IIIII)I"⟩
abbrev cX8_isUsable : ByteArray := prog_10_method_10_code
def yX8_isUsable : MethodName := ⟨RX8, "isUsable", "(I)Z"⟩
abbrev cX8_die : ByteArray := prog_10_method_11_code
def yX8_die : MethodName := ⟨RX8, "die", "(I)Z"⟩
abbrev cX8_house : ByteArray := prog_10_method_12_code
def yX8_house : MethodName := ⟨RX8, "house", "(I)I"⟩
abbrev cX8_power : ByteArray := prog_10_method_13_code
def yX8_power : MethodName := ⟨RX8, "power", "(II)I"⟩
abbrev cX8_cue : ByteArray := prog_10_method_14_code
def yX8_cue : MethodName := ⟨RX8, "cue", "(III)I"⟩
abbrev cX8_level : ByteArray := prog_10_method_15_code
def yX8_level : MethodName := ⟨RX8, "level", "(III)I"⟩
abbrev cX8_follow : ByteArray := prog_10_method_16_code
def yX8_follow : MethodName := ⟨RX8, "follow", "(III)I"⟩
abbrev cX8_distance : ByteArray := prog_10_method_17_code
def yX8_distance : MethodName := ⟨RX8, "distance", "(II)I"⟩
abbrev cX8_nearest : ByteArray := prog_10_method_18_code
def yX8_nearest : MethodName := ⟨RX8, "nearest", "(II)I"⟩
abbrev cX8_finds : ByteArray := prog_10_method_19_code
def yX8_finds : MethodName := ⟨RX8, "finds", "(I)V"⟩
abbrev cX8_raises : ByteArray := prog_10_method_20_code
def yX8_raises : MethodName := ⟨RX8, "raises", "(I)V"⟩
abbrev cX8_asked : ByteArray := prog_10_method_21_code
def yX8_asked : MethodName := ⟨RX8, "asked", "(II)I"⟩
abbrev cX8_mayGo : ByteArray := prog_10_method_22_code
def yX8_mayGo : MethodName := ⟨RX8, "mayGo", "(I)Z"⟩
abbrev cX8_active : ByteArray := prog_10_method_23_code
def yX8_active : MethodName := ⟨RX8, "active", "()I"⟩
abbrev cX8_goes : ByteArray := prog_10_method_24_code
def yX8_goes : MethodName := ⟨RX8, "goes", "(I)V"⟩
abbrev cX8_go : ByteArray := prog_10_method_25_code
def yX8_go : MethodName := ⟨RX8, "go", "(I)I"⟩
abbrev cX8_ends : ByteArray := prog_10_method_26_code
def yX8_ends : MethodName := ⟨RX8, "ends", "(I)V"⟩
abbrev cX8_release : ByteArray := prog_10_method_27_code
def yX8_release : MethodName := ⟨RX8, "release", "(I)Z"⟩
abbrev cX8_follows : ByteArray := prog_10_method_28_code
def yX8_follows : MethodName := ⟨RX8, "follows", "()V"⟩
abbrev cX8_pass : ByteArray := prog_10_method_29_code
def yX8_pass : MethodName := ⟨RX8, "pass", "(I)I"⟩
abbrev cX8_rising : ByteArray := prog_10_method_30_code
def yX8_rising : MethodName := ⟨RX8, "rising", "(II)F"⟩
abbrev cX8_master : ByteArray := prog_10_method_31_code
def yX8_master : MethodName := ⟨RX8, "master", "(I)F"⟩
abbrev cX8_after : ByteArray := prog_10_method_32_code
def yX8_after : MethodName := ⟨RX8, "after", "(I)I"⟩
abbrev cX8_levelNow : ByteArray := prog_10_method_33_code
def yX8_levelNow : MethodName := ⟨RX8, "levelNow", "(I)F"⟩
abbrev cX8_load : ByteArray := prog_10_method_34_code
def yX8_load : MethodName := ⟨RX8, "load", "(I)F"⟩
abbrev cX8_bitsOf : ByteArray := prog_10_method_35_code
def yX8_bitsOf : MethodName := ⟨RX8, "bitsOf", "(F)I"⟩
abbrev cX8_levelOf : ByteArray := prog_10_method_36_code
def yX8_levelOf : MethodName := ⟨RX8, "levelOf", "(I)I"⟩
abbrev cX8_levelAnew : ByteArray := prog_10_method_37_code
def yX8_levelAnew : MethodName := ⟨RX8, "levelAnew", "(I)I"⟩
abbrev cX8_loadOf : ByteArray := prog_10_method_38_code
def yX8_loadOf : MethodName := ⟨RX8, "loadOf", "(I)I"⟩
abbrev cX8_watts : ByteArray := prog_10_method_39_code
def yX8_watts : MethodName := ⟨RX8, "watts", "(I)I"⟩
abbrev cX8_asks : ByteArray := prog_10_method_40_code
def yX8_asks : MethodName := ⟨RX8, "asks", "(II)I"⟩
abbrev cX8_shines : ByteArray := prog_10_method_41_code
def yX8_shines : MethodName := ⟨RX8, "shines", "(II)I"⟩
abbrev cX8_playing : ByteArray := prog_10_method_42_code
def yX8_playing : MethodName := ⟨RX8, "playing", "(II)I"⟩
abbrev cX8_barred : ByteArray := prog_10_method_43_code
def yX8_barred : MethodName := ⟨RX8, "barred", "()I"⟩
def RJx145de : String := "java/io/Serializable"
def TJx145de : u_T := fun k => match k with
  | _ => ("", "", "", false)
def tyJx145de : Nat → FieldType := fun k => match k with
  | _ => .int
abbrev wsJx145de0 : List Cond := u_ws RJx145de TJx145de 0
theorem nmJx145de : ∀ a, a < 0 → ∀ b, b < 0 → a ≠ b → (TJx145de a).2.1 ≠ (TJx145de b).2.1 := by decide +kernel
theorem tyJx145de_ok : ∀ k, k < 0 → parseFieldDescriptor (TJx145de k).2.2.1 = some (tyJx145de k) := by decide +kernel
def RJx8e188 : String := "java/lang/Cloneable"
def TJx8e188 : u_T := fun k => match k with
  | _ => ("", "", "", false)
def tyJx8e188 : Nat → FieldType := fun k => match k with
  | _ => .int
abbrev wsJx8e1880 : List Cond := u_ws RJx8e188 TJx8e188 0
theorem nmJx8e188 : ∀ a, a < 0 → ∀ b, b < 0 → a ≠ b → (TJx8e188 a).2.1 ≠ (TJx8e188 b).2.1 := by decide +kernel
theorem tyJx8e188_ok : ∀ k, k < 0 → parseFieldDescriptor (TJx8e188 k).2.2.1 = some (tyJx8e188 k) := by decide +kernel
def RJ9 : String := "java/lang/Math"
def TJ9 : u_T := fun k => match k with
  | _ => ("", "", "", false)
def tyJ9 : Nat → FieldType := fun k => match k with
  | _ => .int
abbrev wsJ90 : List Cond := u_ws RJ9 TJ9 0
theorem nmJ9 : ∀ a, a < 0 → ∀ b, b < 0 → a ≠ b → (TJ9 a).2.1 ≠ (TJ9 b).2.1 := by decide +kernel
theorem tyJ9_ok : ∀ k, k < 0 → parseFieldDescriptor (TJ9 k).2.2.1 = some (tyJ9 k) := by decide +kernel
abbrev cJ9_abs_0f7a4 : ByteArray := prog_16_method_59_code
def yJ9_abs_0f7a4 : MethodName := ⟨RJ9, "abs", "(I)I"⟩
abbrev cJ9_max_7cf53 : ByteArray := prog_16_method_65_code
def yJ9_max_7cf53 : MethodName := ⟨RJ9, "max", "(II)I"⟩
abbrev cJ9_min_7cf53 : ByteArray := prog_16_method_69_code
def yJ9_min_7cf53 : MethodName := ⟨RJ9, "min", "(II)I"⟩
def RJ0 : String := "java/lang/String"
def TJ0 : u_T := fun k => match k with
  | _ => ("", "", "", false)
def tyJ0 : Nat → FieldType := fun k => match k with
  | _ => .int
abbrev wsJ00 : List Cond := u_ws RJ0 TJ0 0
theorem nmJ0 : ∀ a, a < 0 → ∀ b, b < 0 → a ≠ b → (TJ0 a).2.1 ≠ (TJ0 b).2.1 := by decide +kernel
theorem tyJ0_ok : ∀ k, k < 0 → parseFieldDescriptor (TJ0 k).2.2.1 = some (tyJ0 k) := by decide +kernel
def RJ10 : String := "java/lang/System"
def TJ10 : u_T := fun k => match k with
  | _ => ("", "", "", false)
def tyJ10 : Nat → FieldType := fun k => match k with
  | _ => .int
abbrev wsJ100 : List Cond := u_ws RJ10 TJ10 0
theorem nmJ10 : ∀ a, a < 0 → ∀ b, b < 0 → a ≠ b → (TJ10 a).2.1 ≠ (TJ10 b).2.1 := by decide +kernel
theorem tyJ10_ok : ∀ k, k < 0 → parseFieldDescriptor (TJ10 k).2.2.1 = some (tyJ10 k) := by decide +kernel
def RJ7 : String := "java/util/Arrays"
def TJ7 : u_T := fun k => match k with
  | _ => ("", "", "", false)
def tyJ7 : Nat → FieldType := fun k => match k with
  | _ => .int
abbrev wsJ70 : List Cond := u_ws RJ7 TJ7 0
theorem nmJ7 : ∀ a, a < 0 → ∀ b, b < 0 → a ≠ b → (TJ7 a).2.1 ≠ (TJ7 b).2.1 := by decide +kernel
theorem tyJ7_ok : ∀ k, k < 0 → parseFieldDescriptor (TJ7 k).2.2.1 = some (tyJ7 k) := by decide +kernel
abbrev cJ7_fill_53178 : ByteArray := prog_21_method_103_code
def yJ7_fill_53178 : MethodName := ⟨RJ7, "fill", "([II)V"⟩
abbrev cJ7_copyOf_59c91 : ByteArray := prog_21_method_123_code
def yJ7_copyOf_59c91 : MethodName := ⟨RJ7, "copyOf", "([II)[I"⟩
def RL : String := "GelBookLaw"
abbrev cL_lamp : ByteArray := method_3_code
def yL_lamp : MethodName := ⟨RL, "lamp", "(LGelBook;IIIII[J)I"⟩
abbrev cL_die : ByteArray := method_4_code
def yL_die : MethodName := ⟨RL, "die", "(LGelBook;I[J)I"⟩
abbrev cL_house : ByteArray := method_5_code
def yL_house : MethodName := ⟨RL, "house", "(LGelBook;I[J)I"⟩
abbrev cL_power : ByteArray := method_6_code
def yL_power : MethodName := ⟨RL, "power", "(LGelBook;II[J)I"⟩
abbrev cL_cue : ByteArray := method_7_code
def yL_cue : MethodName := ⟨RL, "cue", "(LGelBook;III[J)I"⟩
abbrev cL_level : ByteArray := method_8_code
def yL_level : MethodName := ⟨RL, "level", "(LGelBook;III[J)I"⟩
abbrev cL_follow : ByteArray := method_9_code
def yL_follow : MethodName := ⟨RL, "follow", "(LGelBook;III[J)I"⟩
abbrev cL_go : ByteArray := method_10_code
def yL_go : MethodName := ⟨RL, "go", "(LGelBook;I[J)I"⟩
abbrev cL_release : ByteArray := method_11_code
def yL_release : MethodName := ⟨RL, "release", "(LGelBook;I[J)I"⟩
abbrev cL_pass : ByteArray := method_12_code
def yL_pass : MethodName := ⟨RL, "pass", "(LGelBook;I[J)I"⟩
abbrev cL_levelOf : ByteArray := method_13_code
def yL_levelOf : MethodName := ⟨RL, "levelOf", "(LGelBook;I[J)I"⟩
abbrev cL_levelAnew : ByteArray := method_14_code
def yL_levelAnew : MethodName := ⟨RL, "levelAnew", "(LGelBook;I[J)I"⟩
abbrev cL_loadOf : ByteArray := method_15_code
def yL_loadOf : MethodName := ⟨RL, "loadOf", "(LGelBook;I[J)I"⟩
abbrev cL_watts : ByteArray := method_16_code
def yL_watts : MethodName := ⟨RL, "watts", "(LGelBook;I[J)I"⟩
abbrev cL_asks : ByteArray := method_17_code
def yL_asks : MethodName := ⟨RL, "asks", "(LGelBook;II[J)I"⟩
abbrev cL_shines : ByteArray := method_18_code
def yL_shines : MethodName := ⟨RL, "shines", "(LGelBook;II[J)I"⟩
abbrev cL_playing : ByteArray := method_19_code
def yL_playing : MethodName := ⟨RL, "playing", "(LGelBook;II[J)I"⟩
abbrev cL_law : ByteArray := code
def yL_law : MethodName := ⟨RL, "law", "([I)Z"⟩
def wsJ7_fill_53178 : List Cond := .code yJ7_fill_53178 cJ7_fill_53178 4 none :: ([])
def wsX0_init : List Cond := .code yX0_init cX0_init 5 none :: ([.methodLink RX0 3 objectInit, .instanceMethod objectInit, .code objectInit ⟨#[0xb1]⟩ 1 none, .fieldLink RX0 9 "GelBook$Cue" "number" "I", .fieldLink RX0 15 "GelBook$Cue" "sort" "I", .fieldLink RX0 18 "GelBook$Cue" "up" "I", .fieldLink RX0 21 "GelBook$Cue" "down" "I", .arrayClass .int, .fieldLink RX0 24 "GelBook$Cue" "told" "[I", .fieldLink RX0 28 "GelBook$Cue" "shiners" "[I", .fieldLink RX0 31 "GelBook$Cue" "levels" "[I", .methodLink RX0 34 yJ7_fill_53178, .static yJ7_fill_53178, .initialized RJ7, .code yJ7_fill_53178 cJ7_fill_53178 4 none] ++ wsX00)
def wsX0_tell : List Cond := .code yX0_tell cX0_tell 4 (some .int) :: ([.fieldLink RX0 24 "GelBook$Cue" "told" "[I"] ++ wsX00)
def wsX0_shinerFor : List Cond := .code yX0_shinerFor cX0_shinerFor 2 (some .int) :: ([.fieldLink RX0 28 "GelBook$Cue" "shiners" "[I"] ++ wsX00)
def wsX0_levelFor : List Cond := .code yX0_levelFor cX0_levelFor 2 (some .int) :: ([.fieldLink RX0 31 "GelBook$Cue" "levels" "[I"] ++ wsX00)
def wsX0_canSpare : List Cond := .code yX0_canSpare cX0_canSpare 2 (some .boolean) :: ([.fieldLink RX0 24 "GelBook$Cue" "told" "[I", .fieldLink RX0 31 "GelBook$Cue" "levels" "[I"] ++ wsX00)
def wsX5_lampAt : List Cond := .code yX5_lampAt cX5_lampAt 2 (some (.object "GelBook$Lamp")) :: ([.fieldLink RX5 11 "GelBook$Rig" "lamps" "[LGelBook$Lamp;"] ++ wsX50)
def wsX5_isUsable : List Cond := .code yX5_isUsable cX5_isUsable 2 (some .boolean) :: ([.fieldLink RX5 24 "GelBook$Lamp" "dead" "Z", .fieldLink RX5 17 "GelBook$Rig" "bars" "I", .fieldLink RX5 28 "GelBook$Lamp" "bar" "I"] ++ wsX40 ++ wsX50)
def wsX4_distanceTo : List Cond := .code yX4_distanceTo cX4_distanceTo 2 (some .int) :: ([.fieldLink RX4 7 "GelBook$Lamp" "bar" "I", .methodLink RX4 25 Lib.Math.abs.name, .static Lib.Math.abs.name, .initialized "java/lang/Math", .code Lib.Math.abs.name Lib.Math.abs.code 1 (some .int), .fieldLink RX4 13 "GelBook$Lamp" "position" "I"] ++ wsX40)
def wsX5_nearestSpare_r1 : List Cond := [Cond.fieldLink RX5 11 "GelBook$Rig" "lamps" "[LGelBook$Lamp;", Cond.fieldLink RX5 35 "GelBook$Lamp" "gel" "I", Cond.methodLink RX5 31 yX5_isUsable, Cond.instanceMethod yX5_isUsable, Cond.selects RX5 yX5_isUsable yX5_isUsable, Cond.initialized RX5, Cond.code yX5_isUsable cX5_isUsable 2 (some .boolean), Cond.fieldLink RX5 24 "GelBook$Lamp" "dead" "Z", Cond.fieldLink RX5 17 "GelBook$Rig" "bars" "I", Cond.fieldLink RX5 28 "GelBook$Lamp" "bar" "I", Cond.methodLink RX5 38 yX0_canSpare, Cond.instanceMethod yX0_canSpare, Cond.selects RX0 yX0_canSpare yX0_canSpare, Cond.initialized RX0, Cond.code yX0_canSpare cX0_canSpare 2 (some .boolean), Cond.fieldLink RX0 24 "GelBook$Cue" "told" "[I", Cond.fieldLink RX0 31 "GelBook$Cue" "levels" "[I", Cond.methodLink RX5 44 yX4_distanceTo, Cond.instanceMethod yX4_distanceTo, Cond.selects RX4 yX4_distanceTo yX4_distanceTo, Cond.initialized RX4, Cond.code yX4_distanceTo cX4_distanceTo 2 (some .int), Cond.fieldLink RX4 7 "GelBook$Lamp" "bar" "I", Cond.methodLink RX4 25 Lib.Math.abs.name]
def wsX5_nearestSpare_r2 : List Cond := [Cond.static Lib.Math.abs.name, Cond.initialized "java/lang/Math", Cond.code Lib.Math.abs.name Lib.Math.abs.code 1 (some .int), Cond.fieldLink RX4 13 "GelBook$Lamp" "position" "I"]
def wsX5_nearestSpare : List Cond := .code yX5_nearestSpare cX5_nearestSpare 8 (some .int) :: ((wsX5_nearestSpare_r1 ++ wsX5_nearestSpare_r2) ++ wsX50 ++ wsX40 ++ wsX00)
def wsX0_arrange_r1 : List Cond := [Cond.fieldLink RX0 28 "GelBook$Cue" "shiners" "[I", Cond.fieldLink RX0 31 "GelBook$Cue" "levels" "[I", Cond.fieldLink RX0 24 "GelBook$Cue" "told" "[I", Cond.methodLink RX0 34 yJ7_fill_53178, Cond.static yJ7_fill_53178, Cond.initialized RJ7, Cond.code yJ7_fill_53178 cJ7_fill_53178 4 none, Cond.methodLink RX0 40 yX5_lampAt, Cond.instanceMethod yX5_lampAt, Cond.selects RX5 yX5_lampAt yX5_lampAt, Cond.initialized RX5, Cond.code yX5_lampAt cX5_lampAt 2 (some (.object "GelBook$Lamp")), Cond.fieldLink RX5 11 "GelBook$Rig" "lamps" "[LGelBook$Lamp;", Cond.methodLink RX0 46 yX5_isUsable, Cond.instanceMethod yX5_isUsable, Cond.selects RX5 yX5_isUsable yX5_isUsable, Cond.code yX5_isUsable cX5_isUsable 2 (some .boolean), Cond.fieldLink RX5 24 "GelBook$Lamp" "dead" "Z", Cond.fieldLink RX5 17 "GelBook$Rig" "bars" "I", Cond.fieldLink RX5 28 "GelBook$Lamp" "bar" "I", Cond.methodLink RX0 50 yX5_nearestSpare, Cond.instanceMethod yX5_nearestSpare, Cond.selects RX5 yX5_nearestSpare yX5_nearestSpare, Cond.code yX5_nearestSpare cX5_nearestSpare 8 (some .int)]
def wsX0_arrange_r2 : List Cond := [Cond.fieldLink RX5 35 "GelBook$Lamp" "gel" "I", Cond.methodLink RX5 31 yX5_isUsable, Cond.methodLink RX5 38 yX0_canSpare, Cond.instanceMethod yX0_canSpare, Cond.selects RX0 yX0_canSpare yX0_canSpare, Cond.initialized RX0, Cond.code yX0_canSpare cX0_canSpare 2 (some .boolean), Cond.methodLink RX5 44 yX4_distanceTo, Cond.instanceMethod yX4_distanceTo, Cond.selects RX4 yX4_distanceTo yX4_distanceTo, Cond.initialized RX4, Cond.code yX4_distanceTo cX4_distanceTo 2 (some .int), Cond.fieldLink RX4 7 "GelBook$Lamp" "bar" "I", Cond.methodLink RX4 25 Lib.Math.abs.name, Cond.static Lib.Math.abs.name, Cond.initialized "java/lang/Math", Cond.code Lib.Math.abs.name Lib.Math.abs.code 1 (some .int), Cond.fieldLink RX4 13 "GelBook$Lamp" "position" "I"]
def wsX0_arrange : List Cond := .code yX0_arrange cX0_arrange 5 none :: ((wsX0_arrange_r1 ++ wsX0_arrange_r2) ++ wsX00 ++ wsX50 ++ wsX40)
def wsX0_masterRisen : List Cond := .code yX0_masterRisen cX0_masterRisen 3 (some .float) :: ([.fieldLink RX0 18 "GelBook$Cue" "up" "I"] ++ wsX00)
def wsX1_init : List Cond := .code yX1_init cX1_init 1 none :: ([.methodLink RX1 3 objectInit, .instanceMethod objectInit, .code objectInit ⟨#[0xb1]⟩ 1 none, .fieldLink RX1 9 "GelBook$Going" "releasedAt" "I"] ++ wsX10)
def wsX1_begin : List Cond := .code yX1_begin cX1_begin 3 none :: ([.fieldLink RX1 15 "GelBook$Going" "cue" "LGelBook$Cue;", .fieldLink RX1 19 "GelBook$Going" "went" "I", .fieldLink RX1 9 "GelBook$Going" "releasedAt" "I"] ++ wsX10)
def wsX1_fall : List Cond := .code yX1_fall cX1_fall 2 none :: ([.fieldLink RX1 9 "GelBook$Going" "releasedAt" "I"] ++ wsX10)
def wsX1_isReleased : List Cond := .code yX1_isReleased cX1_isReleased 1 (some .boolean) :: ([.fieldLink RX1 9 "GelBook$Going" "releasedAt" "I"] ++ wsX10)
def wsX1_isOver : List Cond := .code yX1_isOver cX1_isOver 2 (some .boolean) :: ([.fieldLink RX1 15 "GelBook$Going" "cue" "LGelBook$Cue;", .fieldLink RX1 9 "GelBook$Going" "releasedAt" "I", .fieldLink RX1 26 "GelBook$Cue" "down" "I", .methodLink RX1 22 yX1_isReleased, .instanceMethod yX1_isReleased, .selects RX1 yX1_isReleased yX1_isReleased, .initialized RX1, .code yX1_isReleased cX1_isReleased 1 (some .boolean)] ++ wsX10 ++ wsX00)
def wsX1_isOf : List Cond := .code yX1_isOf cX1_isOf 2 (some .boolean) :: ([.fieldLink RX1 15 "GelBook$Going" "cue" "LGelBook$Cue;", .fieldLink RX1 31 "GelBook$Cue" "sort" "I"] ++ wsX10 ++ wsX00)
def wsX1_levelFor : List Cond := .code yX1_levelFor cX1_levelFor 2 (some .int) :: ([.fieldLink RX1 15 "GelBook$Going" "cue" "LGelBook$Cue;", .methodLink RX1 34 yX0_levelFor, .instanceMethod yX0_levelFor, .selects RX0 yX0_levelFor yX0_levelFor, .initialized RX0, .code yX0_levelFor cX0_levelFor 2 (some .int), .fieldLink RX0 31 "GelBook$Cue" "levels" "[I"] ++ wsX10 ++ wsX00)
def wsX1_master : List Cond := .code yX1_master cX1_master 2 (some .float) :: ([.fieldLink RX1 15 "GelBook$Going" "cue" "LGelBook$Cue;", .fieldLink RX1 19 "GelBook$Going" "went" "I", .fieldLink RX1 26 "GelBook$Cue" "down" "I", .fieldLink RX1 9 "GelBook$Going" "releasedAt" "I", .methodLink RX1 22 yX1_isReleased, .instanceMethod yX1_isReleased, .selects RX1 yX1_isReleased yX1_isReleased, .initialized RX1, .code yX1_isReleased cX1_isReleased 1 (some .boolean), .methodLink RX1 38 yX0_masterRisen, .instanceMethod yX0_masterRisen, .selects RX0 yX0_masterRisen yX0_masterRisen, .initialized RX0, .code yX0_masterRisen cX0_masterRisen 3 (some .float), .fieldLink RX0 18 "GelBook$Cue" "up" "I"] ++ wsX10 ++ wsX00)
def wsX2_init : List Cond := .code yX2_init cX2_init 2 none :: ([.methodLink RX2 3 objectInit, .instanceMethod objectInit, .code objectInit ⟨#[0xb1]⟩ 1 none, .classLink RX2 9 RX1, .fieldLink RX2 11 "GelBook$Goings" "row" "[LGelBook$Going;", .instantiable RX1 3, .initialized RX1, .methodLink RX2 17 yX1_init, .instanceMethod yX1_init, .code yX1_init cX1_init 1 none, .methodLink RX1 3 objectInit, .fieldLink RX1 9 "GelBook$Going" "releasedAt" "I"] ++ wsX20 ++ wsX10)
def wsX2_clear : List Cond := .code yX2_clear cX2_clear 1 none :: ([.fieldLink RX2 18 "GelBook$Goings" "count" "I"] ++ wsX20)
def wsX2_at : List Cond := .code yX2_at cX2_at 2 (some (.object "GelBook$Going")) :: ([.fieldLink RX2 18 "GelBook$Goings" "count" "I", .fieldLink RX2 11 "GelBook$Goings" "row" "[LGelBook$Going;"] ++ wsX20)
def wsX2_placeOf : List Cond := .code yX2_placeOf cX2_placeOf 4 (some .int) :: ([.fieldLink RX2 18 "GelBook$Goings" "count" "I", .fieldLink RX2 26 "GelBook$Going" "cue" "LGelBook$Cue;", .methodLink RX2 22 yX2_at, .instanceMethod yX2_at, .selects RX2 yX2_at yX2_at, .initialized RX2, .code yX2_at cX2_at 2 (some (.object "GelBook$Going")), .fieldLink RX2 11 "GelBook$Goings" "row" "[LGelBook$Going;"] ++ wsX20 ++ wsX10)
def wsX2_goingOf : List Cond := .code yX2_goingOf cX2_goingOf 2 (some (.object "GelBook$Going")) :: ([.methodLink RX2 30 yX2_placeOf, .instanceMethod yX2_placeOf, .selects RX2 yX2_placeOf yX2_placeOf, .initialized RX2, .code yX2_placeOf cX2_placeOf 4 (some .int), .fieldLink RX2 18 "GelBook$Goings" "count" "I", .fieldLink RX2 26 "GelBook$Going" "cue" "LGelBook$Cue;", .methodLink RX2 22 yX2_at, .instanceMethod yX2_at, .selects RX2 yX2_at yX2_at, .code yX2_at cX2_at 2 (some (.object "GelBook$Going")), .fieldLink RX2 11 "GelBook$Goings" "row" "[LGelBook$Going;"] ++ wsX20 ++ wsX10)
def wsX2_moveLast : List Cond := .code yX2_moveLast cX2_moveLast 4 none :: ([.fieldLink RX2 18 "GelBook$Goings" "count" "I", .fieldLink RX2 11 "GelBook$Goings" "row" "[LGelBook$Going;", .methodLink RX2 22 yX2_at, .instanceMethod yX2_at, .selects RX2 yX2_at yX2_at, .initialized RX2, .code yX2_at cX2_at 2 (some (.object "GelBook$Going"))] ++ wsX20)
def wsX2_begin : List Cond := .code yX2_begin cX2_begin 5 none :: ([.fieldLink RX2 18 "GelBook$Goings" "count" "I", .fieldLink RX2 11 "GelBook$Goings" "row" "[LGelBook$Going;", .methodLink RX2 30 yX2_placeOf, .instanceMethod yX2_placeOf, .selects RX2 yX2_placeOf yX2_placeOf, .initialized RX2, .code yX2_placeOf cX2_placeOf 4 (some .int), .fieldLink RX2 26 "GelBook$Going" "cue" "LGelBook$Cue;", .methodLink RX2 22 yX2_at, .instanceMethod yX2_at, .selects RX2 yX2_at yX2_at, .code yX2_at cX2_at 2 (some (.object "GelBook$Going")), .methodLink RX2 34 yX2_moveLast, .instanceMethod yX2_moveLast, .selects RX2 yX2_moveLast yX2_moveLast, .code yX2_moveLast cX2_moveLast 4 none, .methodLink RX2 38 yX1_begin, .instanceMethod yX1_begin, .selects RX1 yX1_begin yX1_begin, .initialized RX1, .code yX1_begin cX1_begin 3 none, .fieldLink RX1 15 "GelBook$Going" "cue" "LGelBook$Cue;", .fieldLink RX1 19 "GelBook$Going" "went" "I", .fieldLink RX1 9 "GelBook$Going" "releasedAt" "I"] ++ wsX20 ++ wsX10)
def wsX2_fall : List Cond := .code yX2_fall cX2_fall 4 none :: ([.methodLink RX2 42 yX2_goingOf, .instanceMethod yX2_goingOf, .selects RX2 yX2_goingOf yX2_goingOf, .initialized RX2, .code yX2_goingOf cX2_goingOf 2 (some (.object "GelBook$Going")), .methodLink RX2 30 yX2_placeOf, .instanceMethod yX2_placeOf, .selects RX2 yX2_placeOf yX2_placeOf, .code yX2_placeOf cX2_placeOf 4 (some .int), .fieldLink RX2 18 "GelBook$Goings" "count" "I", .fieldLink RX2 26 "GelBook$Going" "cue" "LGelBook$Cue;", .methodLink RX2 22 yX2_at, .instanceMethod yX2_at, .selects RX2 yX2_at yX2_at, .code yX2_at cX2_at 2 (some (.object "GelBook$Going")), .fieldLink RX2 11 "GelBook$Goings" "row" "[LGelBook$Going;", .methodLink RX2 46 yX1_fall, .instanceMethod yX1_fall, .selects RX1 yX1_fall yX1_fall, .initialized RX1, .code yX1_fall cX1_fall 2 none, .fieldLink RX1 9 "GelBook$Going" "releasedAt" "I"] ++ wsX20 ++ wsX10)
def wsX2_dropOver : List Cond := .code yX2_dropOver cX2_dropOver 4 none :: ([.fieldLink RX2 18 "GelBook$Goings" "count" "I", .methodLink RX2 22 yX2_at, .instanceMethod yX2_at, .selects RX2 yX2_at yX2_at, .initialized RX2, .code yX2_at cX2_at 2 (some (.object "GelBook$Going")), .fieldLink RX2 11 "GelBook$Goings" "row" "[LGelBook$Going;", .methodLink RX2 49 yX1_isOver, .instanceMethod yX1_isOver, .selects RX1 yX1_isOver yX1_isOver, .initialized RX1, .code yX1_isOver cX1_isOver 2 (some .boolean), .fieldLink RX1 15 "GelBook$Going" "cue" "LGelBook$Cue;", .fieldLink RX1 9 "GelBook$Going" "releasedAt" "I", .fieldLink RX1 26 "GelBook$Cue" "down" "I", .methodLink RX1 22 yX1_isReleased, .instanceMethod yX1_isReleased, .selects RX1 yX1_isReleased yX1_isReleased, .code yX1_isReleased cX1_isReleased 1 (some .boolean), .methodLink RX2 34 yX2_moveLast, .instanceMethod yX2_moveLast, .selects RX2 yX2_moveLast yX2_moveLast, .code yX2_moveLast cX2_moveLast 4 none] ++ wsX20 ++ wsX10 ++ wsX00)
def wsX2_greatestUnreleased_r1 : List Cond := [Cond.fieldLink RX2 18 "GelBook$Goings" "count" "I", Cond.methodLink RX2 61 Lib.Math.max.name, Cond.static Lib.Math.max.name, Cond.initialized "java/lang/Math", Cond.code Lib.Math.max.name Lib.Math.max.code 2 (some .int), Cond.methodLink RX2 22 yX2_at, Cond.instanceMethod yX2_at, Cond.selects RX2 yX2_at yX2_at, Cond.initialized RX2, Cond.code yX2_at cX2_at 2 (some (.object "GelBook$Going")), Cond.fieldLink RX2 11 "GelBook$Goings" "row" "[LGelBook$Going;", Cond.methodLink RX2 53 yX1_isReleased, Cond.instanceMethod yX1_isReleased, Cond.selects RX1 yX1_isReleased yX1_isReleased, Cond.initialized RX1, Cond.code yX1_isReleased cX1_isReleased 1 (some .boolean), Cond.fieldLink RX1 9 "GelBook$Going" "releasedAt" "I", Cond.methodLink RX2 57 yX1_levelFor, Cond.instanceMethod yX1_levelFor, Cond.selects RX1 yX1_levelFor yX1_levelFor, Cond.code yX1_levelFor cX1_levelFor 2 (some .int), Cond.fieldLink RX1 15 "GelBook$Going" "cue" "LGelBook$Cue;", Cond.methodLink RX1 34 yX0_levelFor, Cond.instanceMethod yX0_levelFor]
def wsX2_greatestUnreleased_r2 : List Cond := [Cond.selects RX0 yX0_levelFor yX0_levelFor, Cond.initialized RX0, Cond.code yX0_levelFor cX0_levelFor 2 (some .int), Cond.fieldLink RX0 31 "GelBook$Cue" "levels" "[I"]
def wsX2_greatestUnreleased : List Cond := .code yX2_greatestUnreleased cX2_greatestUnreleased 5 (some .int) :: ((wsX2_greatestUnreleased_r1 ++ wsX2_greatestUnreleased_r2) ++ wsX20 ++ wsX10 ++ wsX00)
def wsX2_mix_r1 : List Cond := [Cond.fieldLink RX2 18 "GelBook$Goings" "count" "I", Cond.methodLink RX2 22 yX2_at, Cond.instanceMethod yX2_at, Cond.selects RX2 yX2_at yX2_at, Cond.initialized RX2, Cond.code yX2_at cX2_at 2 (some (.object "GelBook$Going")), Cond.fieldLink RX2 11 "GelBook$Goings" "row" "[LGelBook$Going;", Cond.methodLink RX2 67 yX1_isOf, Cond.instanceMethod yX1_isOf, Cond.selects RX1 yX1_isOf yX1_isOf, Cond.initialized RX1, Cond.code yX1_isOf cX1_isOf 2 (some .boolean), Cond.fieldLink RX1 15 "GelBook$Going" "cue" "LGelBook$Cue;", Cond.fieldLink RX1 31 "GelBook$Cue" "sort" "I", Cond.methodLink RX2 57 yX1_levelFor, Cond.instanceMethod yX1_levelFor, Cond.selects RX1 yX1_levelFor yX1_levelFor, Cond.code yX1_levelFor cX1_levelFor 2 (some .int), Cond.methodLink RX1 34 yX0_levelFor, Cond.instanceMethod yX0_levelFor, Cond.selects RX0 yX0_levelFor yX0_levelFor, Cond.initialized RX0, Cond.code yX0_levelFor cX0_levelFor 2 (some .int), Cond.fieldLink RX0 31 "GelBook$Cue" "levels" "[I"]
def wsX2_mix_r2 : List Cond := [Cond.methodLink RX2 70 yX1_master, Cond.instanceMethod yX1_master, Cond.selects RX1 yX1_master yX1_master, Cond.code yX1_master cX1_master 2 (some .float), Cond.fieldLink RX1 19 "GelBook$Going" "went" "I", Cond.fieldLink RX1 26 "GelBook$Cue" "down" "I", Cond.fieldLink RX1 9 "GelBook$Going" "releasedAt" "I", Cond.methodLink RX1 22 yX1_isReleased, Cond.instanceMethod yX1_isReleased, Cond.selects RX1 yX1_isReleased yX1_isReleased, Cond.code yX1_isReleased cX1_isReleased 1 (some .boolean), Cond.methodLink RX1 38 yX0_masterRisen, Cond.instanceMethod yX0_masterRisen, Cond.selects RX0 yX0_masterRisen yX0_masterRisen, Cond.code yX0_masterRisen cX0_masterRisen 3 (some .float), Cond.fieldLink RX0 18 "GelBook$Cue" "up" "I"]
def wsX2_mix : List Cond := .code yX2_mix cX2_mix 7 (some .float) :: ((wsX2_mix_r1 ++ wsX2_mix_r2) ++ wsX20 ++ wsX10 ++ wsX00)
def wsX3_init : List Cond := .code yX3_init cX3_init 1 none :: ([.methodLink RX3 3 objectInit, .instanceMethod objectInit, .code objectInit ⟨#[0xb1]⟩ 1 none, .arrayClass .int, .fieldLink RX3 9 "GelBook$History" "entries" "[I"] ++ wsX30)
def wsX3_entryFor : List Cond := .code yX3_entryFor cX3_entryFor 3 (some .int) :: ([])
def wsX3_tickOf : List Cond := .code yX3_tickOf cX3_tickOf 1 (some .int) :: ([])
def wsX3_cueOf : List Cond := .code yX3_cueOf cX3_cueOf 1 (some .int) :: ([])
def wsX3_isRelease : List Cond := .code yX3_isRelease cX3_isRelease 1 (some .boolean) :: ([])
def wsX3_entryAt : List Cond := .code yX3_entryAt cX3_entryAt 2 (some .int) :: ([.fieldLink RX3 9 "GelBook$History" "entries" "[I"] ++ wsX30)
def wsX3_removeAt : List Cond := .code yX3_removeAt cX3_removeAt 3 none :: ([.fieldLink RX3 26 "GelBook$History" "count" "I", .fieldLink RX3 9 "GelBook$History" "entries" "[I"] ++ wsX30)
def wsX3_strike : List Cond := .code yX3_strike cX3_strike 3 none :: ([.fieldLink RX3 26 "GelBook$History" "count" "I", .methodLink RX3 30 yX3_entryAt, .instanceMethod yX3_entryAt, .selects RX3 yX3_entryAt yX3_entryAt, .initialized RX3, .code yX3_entryAt cX3_entryAt 2 (some .int), .fieldLink RX3 9 "GelBook$History" "entries" "[I", .methodLink RX3 34 yX3_tickOf, .static yX3_tickOf, .code yX3_tickOf cX3_tickOf 1 (some .int), .methodLink RX3 37 yX3_removeAt, .instanceMethod yX3_removeAt, .selects RX3 yX3_removeAt yX3_removeAt, .code yX3_removeAt cX3_removeAt 3 none] ++ wsX30)
def wsJ7_copyOf_59c91 : List Cond := .code yJ7_copyOf_59c91 cJ7_copyOf_59c91 3 (some (.array .int)) :: ([.methodLink RJ7 316 ⟨"[I", "clone", "()Ljava/lang/Object;"⟩, .sameMethod "[I" "java/lang/Object" "clone" "()Ljava/lang/Object;", .native ⟨"java/lang/Object", "clone", "()Ljava/lang/Object;"⟩, .instanceMethod ⟨"java/lang/Object", "clone", "()Ljava/lang/Object;"⟩, .selects "[I" ⟨"[I", "clone", "()Ljava/lang/Object;"⟩ ⟨"java/lang/Object", "clone", "()Ljava/lang/Object;"⟩, .classLink RJ7 317 "[I", .arrayClass .int, .methodLink RJ7 304 Lib.Math.min.name, .static Lib.Math.min.name, .initialized "java/lang/Math", .code Lib.Math.min.name Lib.Math.min.code 2 (some .int), .methodLink RJ7 150 arraycopyName, .native arraycopyName, .static arraycopyName, .initialized "java/lang/System"])
def wsX3_append : List Cond := .code yX3_append cX3_append 2 none :: ([.fieldLink RX3 26 "GelBook$History" "count" "I", .fieldLink RX3 9 "GelBook$History" "entries" "[I", .constant RX3 40 (122880), .methodLink RX3 41 Lib.Math.min.name, .static Lib.Math.min.name, .initialized "java/lang/Math", .code Lib.Math.min.name Lib.Math.min.code 2 (some .int), .methodLink RX3 47 yJ7_copyOf_59c91, .static yJ7_copyOf_59c91, .initialized RJ7, .code yJ7_copyOf_59c91 cJ7_copyOf_59c91 3 (some (.array .int)), .methodLink RJ7 316 ⟨"[I", "clone", "()Ljava/lang/Object;"⟩, .sameMethod "[I" "java/lang/Object" "clone" "()Ljava/lang/Object;", .native ⟨"java/lang/Object", "clone", "()Ljava/lang/Object;"⟩, .instanceMethod ⟨"java/lang/Object", "clone", "()Ljava/lang/Object;"⟩, .selects "[I" ⟨"[I", "clone", "()Ljava/lang/Object;"⟩ ⟨"java/lang/Object", "clone", "()Ljava/lang/Object;"⟩, .classLink RJ7 317 "[I", .arrayClass .int, .methodLink RJ7 304 Lib.Math.min.name, .methodLink RJ7 150 arraycopyName, .native arraycopyName, .static arraycopyName, .initialized "java/lang/System"] ++ wsX30)
def wsX3_writeGoing_r1 : List Cond := [Cond.methodLink RX3 15 yX3_entryFor, Cond.static yX3_entryFor, Cond.initialized RX3, Cond.code yX3_entryFor cX3_entryFor 3 (some .int), Cond.methodLink RX3 19 yX3_strike, Cond.instanceMethod yX3_strike, Cond.selects RX3 yX3_strike yX3_strike, Cond.code yX3_strike cX3_strike 3 none, Cond.fieldLink RX3 26 "GelBook$History" "count" "I", Cond.methodLink RX3 30 yX3_entryAt, Cond.instanceMethod yX3_entryAt, Cond.selects RX3 yX3_entryAt yX3_entryAt, Cond.code yX3_entryAt cX3_entryAt 2 (some .int), Cond.fieldLink RX3 9 "GelBook$History" "entries" "[I", Cond.methodLink RX3 34 yX3_tickOf, Cond.static yX3_tickOf, Cond.code yX3_tickOf cX3_tickOf 1 (some .int), Cond.methodLink RX3 37 yX3_removeAt, Cond.instanceMethod yX3_removeAt, Cond.selects RX3 yX3_removeAt yX3_removeAt, Cond.code yX3_removeAt cX3_removeAt 3 none, Cond.methodLink RX3 23 yX3_append, Cond.instanceMethod yX3_append, Cond.selects RX3 yX3_append yX3_append]
def wsX3_writeGoing_r2 : List Cond := [Cond.code yX3_append cX3_append 2 none, Cond.constant RX3 40 (122880), Cond.methodLink RX3 41 Lib.Math.min.name, Cond.static Lib.Math.min.name, Cond.initialized "java/lang/Math", Cond.code Lib.Math.min.name Lib.Math.min.code 2 (some .int), Cond.methodLink RX3 47 yJ7_copyOf_59c91, Cond.static yJ7_copyOf_59c91, Cond.initialized RJ7, Cond.code yJ7_copyOf_59c91 cJ7_copyOf_59c91 3 (some (.array .int)), Cond.methodLink RJ7 316 ⟨"[I", "clone", "()Ljava/lang/Object;"⟩, Cond.sameMethod "[I" "java/lang/Object" "clone" "()Ljava/lang/Object;", Cond.native ⟨"java/lang/Object", "clone", "()Ljava/lang/Object;"⟩, Cond.instanceMethod ⟨"java/lang/Object", "clone", "()Ljava/lang/Object;"⟩, Cond.selects "[I" ⟨"[I", "clone", "()Ljava/lang/Object;"⟩ ⟨"java/lang/Object", "clone", "()Ljava/lang/Object;"⟩, Cond.classLink RJ7 317 "[I", Cond.arrayClass .int, Cond.methodLink RJ7 304 Lib.Math.min.name, Cond.methodLink RJ7 150 arraycopyName, Cond.native arraycopyName, Cond.static arraycopyName, Cond.initialized "java/lang/System"]
def wsX3_writeGoing : List Cond := .code yX3_writeGoing cX3_writeGoing 4 none :: ((wsX3_writeGoing_r1 ++ wsX3_writeGoing_r2) ++ wsX30)
def wsX3_writeRelease_r1 : List Cond := [Cond.methodLink RX3 15 yX3_entryFor, Cond.static yX3_entryFor, Cond.initialized RX3, Cond.code yX3_entryFor cX3_entryFor 3 (some .int), Cond.methodLink RX3 23 yX3_append, Cond.instanceMethod yX3_append, Cond.selects RX3 yX3_append yX3_append, Cond.code yX3_append cX3_append 2 none, Cond.fieldLink RX3 26 "GelBook$History" "count" "I", Cond.fieldLink RX3 9 "GelBook$History" "entries" "[I", Cond.constant RX3 40 (122880), Cond.methodLink RX3 41 Lib.Math.min.name, Cond.static Lib.Math.min.name, Cond.initialized "java/lang/Math", Cond.code Lib.Math.min.name Lib.Math.min.code 2 (some .int), Cond.methodLink RX3 47 yJ7_copyOf_59c91, Cond.static yJ7_copyOf_59c91, Cond.initialized RJ7, Cond.code yJ7_copyOf_59c91 cJ7_copyOf_59c91 3 (some (.array .int)), Cond.methodLink RJ7 316 ⟨"[I", "clone", "()Ljava/lang/Object;"⟩, Cond.sameMethod "[I" "java/lang/Object" "clone" "()Ljava/lang/Object;", Cond.native ⟨"java/lang/Object", "clone", "()Ljava/lang/Object;"⟩, Cond.instanceMethod ⟨"java/lang/Object", "clone", "()Ljava/lang/Object;"⟩, Cond.selects "[I" ⟨"[I", "clone", "()Ljava/lang/Object;"⟩ ⟨"java/lang/Object", "clone", "()Ljava/lang/Object;"⟩]
def wsX3_writeRelease_r2 : List Cond := [Cond.classLink RJ7 317 "[I", Cond.arrayClass .int, Cond.methodLink RJ7 304 Lib.Math.min.name, Cond.methodLink RJ7 150 arraycopyName, Cond.native arraycopyName, Cond.static arraycopyName, Cond.initialized "java/lang/System"]
def wsX3_writeRelease : List Cond := .code yX3_writeRelease cX3_writeRelease 3 none :: ((wsX3_writeRelease_r1 ++ wsX3_writeRelease_r2) ++ wsX30)
def wsX4_init : List Cond := .code yX4_init cX4_init 6 none :: ([.methodLink RX4 1 objectInit, .instanceMethod objectInit, .code objectInit ⟨#[0xb1]⟩ 1 none, .fieldLink RX4 7 "GelBook$Lamp" "bar" "I", .fieldLink RX4 13 "GelBook$Lamp" "position" "I", .fieldLink RX4 16 "GelBook$Lamp" "gel" "I", .fieldLink RX4 19 "GelBook$Lamp" "watts" "I", .fieldLink RX4 22 "GelBook$Lamp" "phase" "I"] ++ wsX40)
def wsX5_init : List Cond := .code yX5_init cX5_init 1 none :: ([.methodLink RX5 3 objectInit, .instanceMethod objectInit, .code objectInit ⟨#[0xb1]⟩ 1 none, .classLink RX5 9 RX4, .fieldLink RX5 11 "GelBook$Rig" "lamps" "[LGelBook$Lamp;", .fieldLink RX5 17 "GelBook$Rig" "bars" "I"] ++ wsX50)
def wsX5_isFull : List Cond := .code yX5_isFull cX5_isFull 1 (some .boolean) :: ([.fieldLink RX5 21 "GelBook$Rig" "count" "I", .fieldLink RX5 11 "GelBook$Rig" "lamps" "[LGelBook$Lamp;"] ++ wsX50)
def wsX5_hang : List Cond := .code yX5_hang cX5_hang 2 (some .int) :: ([.fieldLink RX5 21 "GelBook$Rig" "count" "I", .fieldLink RX5 11 "GelBook$Rig" "lamps" "[LGelBook$Lamp;"] ++ wsX50)
def wsX5_countUsable : List Cond := .code yX5_countUsable cX5_countUsable 3 (some .int) :: ([.fieldLink RX5 11 "GelBook$Rig" "lamps" "[LGelBook$Lamp;", .methodLink RX5 31 yX5_isUsable, .instanceMethod yX5_isUsable, .selects RX5 yX5_isUsable yX5_isUsable, .initialized RX5, .code yX5_isUsable cX5_isUsable 2 (some .boolean), .fieldLink RX5 24 "GelBook$Lamp" "dead" "Z", .fieldLink RX5 17 "GelBook$Rig" "bars" "I", .fieldLink RX5 28 "GelBook$Lamp" "bar" "I"] ++ wsX50 ++ wsX40)
def wsX6_init : List Cond := .code yX6_init cX6_init 1 none :: ([.methodLink RX6 3 objectInit, .instanceMethod objectInit, .code objectInit ⟨#[0xb1]⟩ 1 none, .classLink RX6 9 RX0, .fieldLink RX6 11 "GelBook$Waiting" "noted" "[LGelBook$Cue;", .arrayClass .int, .fieldLink RX6 17 "GelBook$Waiting" "dueAt" "[I", .fieldLink RX6 21 "GelBook$Waiting" "ready" "[LGelBook$Cue;"] ++ wsX60)
def wsX6_note : List Cond := .code yX6_note cX6_note 3 none :: ([.fieldLink RX6 24 "GelBook$Waiting" "count" "I", .fieldLink RX6 11 "GelBook$Waiting" "noted" "[LGelBook$Cue;", .fieldLink RX6 17 "GelBook$Waiting" "dueAt" "[I"] ++ wsX60)
def wsX6_takeDue : List Cond := .code yX6_takeDue cX6_takeDue 4 none :: ([.fieldLink RX6 28 "GelBook$Waiting" "readyCount" "I", .fieldLink RX6 24 "GelBook$Waiting" "count" "I", .fieldLink RX6 11 "GelBook$Waiting" "noted" "[LGelBook$Cue;", .fieldLink RX6 17 "GelBook$Waiting" "dueAt" "[I", .fieldLink RX6 21 "GelBook$Waiting" "ready" "[LGelBook$Cue;"] ++ wsX60)
def wsX6_readyAt : List Cond := .code yX6_readyAt cX6_readyAt 2 (some (.object "GelBook$Cue")) :: ([.fieldLink RX6 28 "GelBook$Waiting" "readyCount" "I", .fieldLink RX6 21 "GelBook$Waiting" "ready" "[LGelBook$Cue;"] ++ wsX60)
def wsX7_init_r1 : List Cond := [Cond.methodLink RX7 1 objectInit, Cond.instanceMethod objectInit, Cond.code objectInit ⟨#[0xb1]⟩ 1 none, Cond.classLink RX7 7 RX5, Cond.instantiable RX5 3, Cond.initialized RX5, Cond.fieldLink RX7 10 "GelBook" "rig" "LGelBook$Rig;", Cond.classLink RX7 16 RX0, Cond.fieldLink RX7 18 "GelBook" "cues" "[LGelBook$Cue;", Cond.arrayClass .int, Cond.fieldLink RX7 22 "GelBook" "powers" "[I", Cond.classLink RX7 32 RX2, Cond.instantiable RX2 2, Cond.initialized RX2, Cond.fieldLink RX7 35 "GelBook" "live" "LGelBook$Goings;", Cond.fieldLink RX7 39 "GelBook" "retold" "LGelBook$Goings;", Cond.classLink RX7 42 RX6, Cond.instantiable RX6 5, Cond.initialized RX6, Cond.fieldLink RX7 45 "GelBook" "waiting" "LGelBook$Waiting;", Cond.classLink RX7 49 RX3, Cond.instantiable RX3 2, Cond.initialized RX3, Cond.fieldLink RX7 52 "GelBook" "history" "LGelBook$History;"]
def wsX7_init_r2 : List Cond := [Cond.methodLink RX7 9 yX5_init, Cond.instanceMethod yX5_init, Cond.code yX5_init cX5_init 1 none, Cond.methodLink RX5 3 objectInit, Cond.classLink RX5 9 RX4, Cond.fieldLink RX5 11 "GelBook$Rig" "lamps" "[LGelBook$Lamp;", Cond.fieldLink RX5 17 "GelBook$Rig" "bars" "I", Cond.methodLink RX7 26 yJ7_fill_53178, Cond.static yJ7_fill_53178, Cond.initialized RJ7, Cond.code yJ7_fill_53178 cJ7_fill_53178 4 none, Cond.methodLink RX7 34 yX2_init, Cond.instanceMethod yX2_init, Cond.code yX2_init cX2_init 2 none, Cond.methodLink RX2 3 objectInit, Cond.classLink RX2 9 RX1, Cond.fieldLink RX2 11 "GelBook$Goings" "row" "[LGelBook$Going;", Cond.instantiable RX1 3, Cond.initialized RX1, Cond.methodLink RX2 17 yX1_init, Cond.instanceMethod yX1_init, Cond.code yX1_init cX1_init 1 none, Cond.methodLink RX1 3 objectInit, Cond.fieldLink RX1 9 "GelBook$Going" "releasedAt" "I"]
def wsX7_init_r3 : List Cond := [Cond.methodLink RX7 44 yX6_init, Cond.instanceMethod yX6_init, Cond.code yX6_init cX6_init 1 none, Cond.methodLink RX6 3 objectInit, Cond.classLink RX6 9 RX0, Cond.fieldLink RX6 11 "GelBook$Waiting" "noted" "[LGelBook$Cue;", Cond.fieldLink RX6 17 "GelBook$Waiting" "dueAt" "[I", Cond.fieldLink RX6 21 "GelBook$Waiting" "ready" "[LGelBook$Cue;", Cond.methodLink RX7 51 yX3_init, Cond.instanceMethod yX3_init, Cond.code yX3_init cX3_init 1 none, Cond.methodLink RX3 3 objectInit, Cond.fieldLink RX3 9 "GelBook$History" "entries" "[I"]
def wsX7_init : List Cond := .code yX7_init cX7_init 1 none :: ((wsX7_init_r1 ++ (wsX7_init_r2 ++ wsX7_init_r3)) ++ wsX50 ++ wsX70 ++ wsX20 ++ wsX60 ++ wsX30 ++ wsX10)
def wsX7_isWithin : List Cond := .code yX7_isWithin cX7_isWithin 3 (some .boolean) :: ([])
def wsX7_isGel : List Cond := .code yX7_isGel cX7_isGel 1 (some .boolean) :: ([])
def wsX7_isPhase : List Cond := .code yX7_isPhase cX7_isPhase 1 (some .boolean) :: ([.methodLink RX7 56 yX7_isWithin, .static yX7_isWithin, .initialized RX7, .code yX7_isWithin cX7_isWithin 3 (some .boolean)])
def wsX7_arrangeCues_r1 : List Cond := [Cond.fieldLink RX7 18 "GelBook" "cues" "[LGelBook$Cue;", Cond.fieldLink RX7 10 "GelBook" "rig" "LGelBook$Rig;", Cond.methodLink RX7 144 yX0_arrange, Cond.instanceMethod yX0_arrange, Cond.selects RX0 yX0_arrange yX0_arrange, Cond.initialized RX0, Cond.code yX0_arrange cX0_arrange 5 none, Cond.fieldLink RX0 28 "GelBook$Cue" "shiners" "[I", Cond.fieldLink RX0 31 "GelBook$Cue" "levels" "[I", Cond.fieldLink RX0 24 "GelBook$Cue" "told" "[I", Cond.methodLink RX0 34 yJ7_fill_53178, Cond.static yJ7_fill_53178, Cond.initialized RJ7, Cond.code yJ7_fill_53178 cJ7_fill_53178 4 none, Cond.methodLink RX0 40 yX5_lampAt, Cond.instanceMethod yX5_lampAt, Cond.selects RX5 yX5_lampAt yX5_lampAt, Cond.initialized RX5, Cond.code yX5_lampAt cX5_lampAt 2 (some (.object "GelBook$Lamp")), Cond.fieldLink RX5 11 "GelBook$Rig" "lamps" "[LGelBook$Lamp;", Cond.methodLink RX0 46 yX5_isUsable, Cond.instanceMethod yX5_isUsable, Cond.selects RX5 yX5_isUsable yX5_isUsable, Cond.code yX5_isUsable cX5_isUsable 2 (some .boolean)]
def wsX7_arrangeCues_r2 : List Cond := [Cond.fieldLink RX5 24 "GelBook$Lamp" "dead" "Z", Cond.fieldLink RX5 17 "GelBook$Rig" "bars" "I", Cond.fieldLink RX5 28 "GelBook$Lamp" "bar" "I", Cond.methodLink RX0 50 yX5_nearestSpare, Cond.instanceMethod yX5_nearestSpare, Cond.selects RX5 yX5_nearestSpare yX5_nearestSpare, Cond.code yX5_nearestSpare cX5_nearestSpare 8 (some .int), Cond.fieldLink RX5 35 "GelBook$Lamp" "gel" "I", Cond.methodLink RX5 31 yX5_isUsable, Cond.methodLink RX5 38 yX0_canSpare, Cond.instanceMethod yX0_canSpare, Cond.selects RX0 yX0_canSpare yX0_canSpare, Cond.code yX0_canSpare cX0_canSpare 2 (some .boolean), Cond.methodLink RX5 44 yX4_distanceTo, Cond.instanceMethod yX4_distanceTo, Cond.selects RX4 yX4_distanceTo yX4_distanceTo, Cond.initialized RX4, Cond.code yX4_distanceTo cX4_distanceTo 2 (some .int), Cond.fieldLink RX4 7 "GelBook$Lamp" "bar" "I", Cond.methodLink RX4 25 Lib.Math.abs.name, Cond.static Lib.Math.abs.name, Cond.initialized "java/lang/Math", Cond.code Lib.Math.abs.name Lib.Math.abs.code 1 (some .int), Cond.fieldLink RX4 13 "GelBook$Lamp" "position" "I"]
def wsX7_arrangeCues : List Cond := .code yX7_arrangeCues cX7_arrangeCues 3 none :: ((wsX7_arrangeCues_r1 ++ wsX7_arrangeCues_r2) ++ wsX70 ++ wsX00 ++ wsX50 ++ wsX40)
def wsX7_lamp_r1 : List Cond := [Cond.classLink RX7 67 "java/lang/IllegalArgumentException", Cond.initialized "java/lang/IllegalArgumentException", Cond.classLink RX7 78 "java/lang/IllegalStateException", Cond.initialized "java/lang/IllegalStateException", Cond.fieldLink RX7 10 "GelBook" "rig" "LGelBook$Rig;", Cond.classLink RX7 83 RX4, Cond.instantiable RX4 6, Cond.initialized RX4, Cond.methodLink RX7 56 yX7_isWithin, Cond.static yX7_isWithin, Cond.initialized RX7, Cond.code yX7_isWithin cX7_isWithin 3 (some .boolean), Cond.methodLink RX7 60 yX7_isGel, Cond.static yX7_isGel, Cond.code yX7_isGel cX7_isGel 1 (some .boolean), Cond.methodLink RX7 64 yX7_isPhase, Cond.static yX7_isPhase, Cond.code yX7_isPhase cX7_isPhase 1 (some .boolean), Cond.methodLink RX7 74 yX5_isFull, Cond.instanceMethod yX5_isFull, Cond.selects RX5 yX5_isFull yX5_isFull, Cond.initialized RX5, Cond.code yX5_isFull cX5_isFull 1 (some .boolean), Cond.fieldLink RX5 21 "GelBook$Rig" "count" "I"]
def wsX7_lamp_r2 : List Cond := [Cond.fieldLink RX5 11 "GelBook$Rig" "lamps" "[LGelBook$Lamp;", Cond.methodLink RX7 85 yX4_init, Cond.instanceMethod yX4_init, Cond.code yX4_init cX4_init 6 none, Cond.methodLink RX4 1 objectInit, Cond.instanceMethod objectInit, Cond.code objectInit ⟨#[0xb1]⟩ 1 none, Cond.fieldLink RX4 7 "GelBook$Lamp" "bar" "I", Cond.fieldLink RX4 13 "GelBook$Lamp" "position" "I", Cond.fieldLink RX4 16 "GelBook$Lamp" "gel" "I", Cond.fieldLink RX4 19 "GelBook$Lamp" "watts" "I", Cond.fieldLink RX4 22 "GelBook$Lamp" "phase" "I", Cond.methodLink RX7 88 yX5_hang, Cond.instanceMethod yX5_hang, Cond.selects RX5 yX5_hang yX5_hang, Cond.code yX5_hang cX5_hang 2 (some .int), Cond.methodLink RX7 92 yX7_arrangeCues, Cond.instanceMethod yX7_arrangeCues, Cond.selects RX7 yX7_arrangeCues yX7_arrangeCues, Cond.code yX7_arrangeCues cX7_arrangeCues 3 none, Cond.fieldLink RX7 18 "GelBook" "cues" "[LGelBook$Cue;", Cond.methodLink RX7 144 yX0_arrange, Cond.instanceMethod yX0_arrange, Cond.selects RX0 yX0_arrange yX0_arrange]
def wsX7_lamp_r3 : List Cond := [Cond.initialized RX0, Cond.code yX0_arrange cX0_arrange 5 none, Cond.fieldLink RX0 28 "GelBook$Cue" "shiners" "[I", Cond.fieldLink RX0 31 "GelBook$Cue" "levels" "[I", Cond.fieldLink RX0 24 "GelBook$Cue" "told" "[I", Cond.methodLink RX0 34 yJ7_fill_53178, Cond.static yJ7_fill_53178, Cond.initialized RJ7, Cond.code yJ7_fill_53178 cJ7_fill_53178 4 none, Cond.methodLink RX0 40 yX5_lampAt, Cond.instanceMethod yX5_lampAt, Cond.selects RX5 yX5_lampAt yX5_lampAt, Cond.code yX5_lampAt cX5_lampAt 2 (some (.object "GelBook$Lamp")), Cond.methodLink RX0 46 yX5_isUsable, Cond.instanceMethod yX5_isUsable, Cond.selects RX5 yX5_isUsable yX5_isUsable, Cond.code yX5_isUsable cX5_isUsable 2 (some .boolean), Cond.fieldLink RX5 24 "GelBook$Lamp" "dead" "Z", Cond.fieldLink RX5 17 "GelBook$Rig" "bars" "I", Cond.fieldLink RX5 28 "GelBook$Lamp" "bar" "I", Cond.methodLink RX0 50 yX5_nearestSpare, Cond.instanceMethod yX5_nearestSpare, Cond.selects RX5 yX5_nearestSpare yX5_nearestSpare, Cond.code yX5_nearestSpare cX5_nearestSpare 8 (some .int)]
def wsX7_lamp_r4 : List Cond := [Cond.fieldLink RX5 35 "GelBook$Lamp" "gel" "I", Cond.methodLink RX5 31 yX5_isUsable, Cond.methodLink RX5 38 yX0_canSpare, Cond.instanceMethod yX0_canSpare, Cond.selects RX0 yX0_canSpare yX0_canSpare, Cond.code yX0_canSpare cX0_canSpare 2 (some .boolean), Cond.methodLink RX5 44 yX4_distanceTo, Cond.instanceMethod yX4_distanceTo, Cond.selects RX4 yX4_distanceTo yX4_distanceTo, Cond.code yX4_distanceTo cX4_distanceTo 2 (some .int), Cond.methodLink RX4 25 Lib.Math.abs.name, Cond.static Lib.Math.abs.name, Cond.initialized "java/lang/Math", Cond.code Lib.Math.abs.name Lib.Math.abs.code 1 (some .int)]
def wsX7_lamp : List Cond := .code yX7_lamp cX7_lamp 7 (some .int) :: ((wsX7_lamp_r1 ++ (wsX7_lamp_r2 ++ (wsX7_lamp_r3 ++ wsX7_lamp_r4))) ++ wsX70 ++ wsX40 ++ wsX50 ++ wsX00 ++ (vx_atS RX7 71 "java/lang/IllegalArgumentException" ["java/lang/RuntimeException", "java/lang/Exception"]).filter goodWord ++ (vx_atS RX7 82 "java/lang/IllegalStateException" ["java/lang/RuntimeException", "java/lang/Exception"]).filter goodWord)
def wsX7_die_r1 : List Cond := [Cond.classLink RX7 99 "java/lang/IndexOutOfBoundsException", Cond.initialized "java/lang/IndexOutOfBoundsException", Cond.fieldLink RX7 10 "GelBook" "rig" "LGelBook$Rig;", Cond.fieldLink RX7 104 "GelBook$Lamp" "dead" "Z", Cond.methodLink RX7 95 yX5_lampAt, Cond.instanceMethod yX5_lampAt, Cond.selects RX5 yX5_lampAt yX5_lampAt, Cond.initialized RX5, Cond.code yX5_lampAt cX5_lampAt 2 (some (.object "GelBook$Lamp")), Cond.fieldLink RX5 11 "GelBook$Rig" "lamps" "[LGelBook$Lamp;", Cond.methodLink RX7 92 yX7_arrangeCues, Cond.instanceMethod yX7_arrangeCues, Cond.selects RX7 yX7_arrangeCues yX7_arrangeCues, Cond.initialized RX7, Cond.code yX7_arrangeCues cX7_arrangeCues 3 none, Cond.fieldLink RX7 18 "GelBook" "cues" "[LGelBook$Cue;", Cond.methodLink RX7 144 yX0_arrange, Cond.instanceMethod yX0_arrange, Cond.selects RX0 yX0_arrange yX0_arrange, Cond.initialized RX0, Cond.code yX0_arrange cX0_arrange 5 none, Cond.fieldLink RX0 28 "GelBook$Cue" "shiners" "[I", Cond.fieldLink RX0 31 "GelBook$Cue" "levels" "[I", Cond.fieldLink RX0 24 "GelBook$Cue" "told" "[I"]
def wsX7_die_r2 : List Cond := [Cond.methodLink RX0 34 yJ7_fill_53178, Cond.static yJ7_fill_53178, Cond.initialized RJ7, Cond.code yJ7_fill_53178 cJ7_fill_53178 4 none, Cond.methodLink RX0 40 yX5_lampAt, Cond.methodLink RX0 46 yX5_isUsable, Cond.instanceMethod yX5_isUsable, Cond.selects RX5 yX5_isUsable yX5_isUsable, Cond.code yX5_isUsable cX5_isUsable 2 (some .boolean), Cond.fieldLink RX5 24 "GelBook$Lamp" "dead" "Z", Cond.fieldLink RX5 17 "GelBook$Rig" "bars" "I", Cond.fieldLink RX5 28 "GelBook$Lamp" "bar" "I", Cond.methodLink RX0 50 yX5_nearestSpare, Cond.instanceMethod yX5_nearestSpare, Cond.selects RX5 yX5_nearestSpare yX5_nearestSpare, Cond.code yX5_nearestSpare cX5_nearestSpare 8 (some .int), Cond.fieldLink RX5 35 "GelBook$Lamp" "gel" "I", Cond.methodLink RX5 31 yX5_isUsable, Cond.methodLink RX5 38 yX0_canSpare, Cond.instanceMethod yX0_canSpare, Cond.selects RX0 yX0_canSpare yX0_canSpare, Cond.code yX0_canSpare cX0_canSpare 2 (some .boolean), Cond.methodLink RX5 44 yX4_distanceTo, Cond.instanceMethod yX4_distanceTo]
def wsX7_die_r3 : List Cond := [Cond.selects RX4 yX4_distanceTo yX4_distanceTo, Cond.initialized RX4, Cond.code yX4_distanceTo cX4_distanceTo 2 (some .int), Cond.fieldLink RX4 7 "GelBook$Lamp" "bar" "I", Cond.methodLink RX4 25 Lib.Math.abs.name, Cond.static Lib.Math.abs.name, Cond.initialized "java/lang/Math", Cond.code Lib.Math.abs.name Lib.Math.abs.code 1 (some .int), Cond.fieldLink RX4 13 "GelBook$Lamp" "position" "I"]
def wsX7_die : List Cond := .code yX7_die cX7_die 3 (some .boolean) :: ((wsX7_die_r1 ++ (wsX7_die_r2 ++ wsX7_die_r3)) ++ wsX70 ++ wsX40 ++ wsX50 ++ wsX00 ++ (vx_atS RX7 103 "java/lang/IndexOutOfBoundsException" ["java/lang/RuntimeException", "java/lang/Exception"]).filter goodWord)
def wsX7_house_r1 : List Cond := [Cond.classLink RX7 67 "java/lang/IllegalArgumentException", Cond.initialized "java/lang/IllegalArgumentException", Cond.fieldLink RX7 10 "GelBook" "rig" "LGelBook$Rig;", Cond.fieldLink RX7 110 "GelBook$Rig" "bars" "I", Cond.methodLink RX7 56 yX7_isWithin, Cond.static yX7_isWithin, Cond.initialized RX7, Cond.code yX7_isWithin cX7_isWithin 3 (some .boolean), Cond.methodLink RX7 92 yX7_arrangeCues, Cond.instanceMethod yX7_arrangeCues, Cond.selects RX7 yX7_arrangeCues yX7_arrangeCues, Cond.code yX7_arrangeCues cX7_arrangeCues 3 none, Cond.fieldLink RX7 18 "GelBook" "cues" "[LGelBook$Cue;", Cond.methodLink RX7 144 yX0_arrange, Cond.instanceMethod yX0_arrange, Cond.selects RX0 yX0_arrange yX0_arrange, Cond.initialized RX0, Cond.code yX0_arrange cX0_arrange 5 none, Cond.fieldLink RX0 28 "GelBook$Cue" "shiners" "[I", Cond.fieldLink RX0 31 "GelBook$Cue" "levels" "[I", Cond.fieldLink RX0 24 "GelBook$Cue" "told" "[I", Cond.methodLink RX0 34 yJ7_fill_53178, Cond.static yJ7_fill_53178, Cond.initialized RJ7]
def wsX7_house_r2 : List Cond := [Cond.code yJ7_fill_53178 cJ7_fill_53178 4 none, Cond.methodLink RX0 40 yX5_lampAt, Cond.instanceMethod yX5_lampAt, Cond.selects RX5 yX5_lampAt yX5_lampAt, Cond.initialized RX5, Cond.code yX5_lampAt cX5_lampAt 2 (some (.object "GelBook$Lamp")), Cond.fieldLink RX5 11 "GelBook$Rig" "lamps" "[LGelBook$Lamp;", Cond.methodLink RX0 46 yX5_isUsable, Cond.instanceMethod yX5_isUsable, Cond.selects RX5 yX5_isUsable yX5_isUsable, Cond.code yX5_isUsable cX5_isUsable 2 (some .boolean), Cond.fieldLink RX5 24 "GelBook$Lamp" "dead" "Z", Cond.fieldLink RX5 17 "GelBook$Rig" "bars" "I", Cond.fieldLink RX5 28 "GelBook$Lamp" "bar" "I", Cond.methodLink RX0 50 yX5_nearestSpare, Cond.instanceMethod yX5_nearestSpare, Cond.selects RX5 yX5_nearestSpare yX5_nearestSpare, Cond.code yX5_nearestSpare cX5_nearestSpare 8 (some .int), Cond.fieldLink RX5 35 "GelBook$Lamp" "gel" "I", Cond.methodLink RX5 31 yX5_isUsable, Cond.methodLink RX5 38 yX0_canSpare, Cond.instanceMethod yX0_canSpare, Cond.selects RX0 yX0_canSpare yX0_canSpare, Cond.code yX0_canSpare cX0_canSpare 2 (some .boolean)]
def wsX7_house_r3 : List Cond := [Cond.methodLink RX5 44 yX4_distanceTo, Cond.instanceMethod yX4_distanceTo, Cond.selects RX4 yX4_distanceTo yX4_distanceTo, Cond.initialized RX4, Cond.code yX4_distanceTo cX4_distanceTo 2 (some .int), Cond.fieldLink RX4 7 "GelBook$Lamp" "bar" "I", Cond.methodLink RX4 25 Lib.Math.abs.name, Cond.static Lib.Math.abs.name, Cond.initialized "java/lang/Math", Cond.code Lib.Math.abs.name Lib.Math.abs.code 1 (some .int), Cond.fieldLink RX4 13 "GelBook$Lamp" "position" "I", Cond.methodLink RX7 114 yX5_countUsable, Cond.instanceMethod yX5_countUsable, Cond.selects RX5 yX5_countUsable yX5_countUsable, Cond.code yX5_countUsable cX5_countUsable 3 (some .int)]
def wsX7_house : List Cond := .code yX7_house cX7_house 2 (some .int) :: ((wsX7_house_r1 ++ (wsX7_house_r2 ++ wsX7_house_r3)) ++ wsX70 ++ wsX50 ++ wsX00 ++ wsX40 ++ (vx_atS RX7 71 "java/lang/IllegalArgumentException" ["java/lang/RuntimeException", "java/lang/Exception"]).filter goodWord)
def wsX7_power : List Cond := .code yX7_power cX7_power 4 (some .int) :: ([.classLink RX7 99 "java/lang/IndexOutOfBoundsException", .initialized "java/lang/IndexOutOfBoundsException", .classLink RX7 67 "java/lang/IllegalArgumentException", .initialized "java/lang/IllegalArgumentException", .fieldLink RX7 22 "GelBook" "powers" "[I", .methodLink RX7 64 yX7_isPhase, .static yX7_isPhase, .initialized RX7, .code yX7_isPhase cX7_isPhase 1 (some .boolean), .methodLink RX7 56 yX7_isWithin, .static yX7_isWithin, .code yX7_isWithin cX7_isWithin 3 (some .boolean)] ++ wsX70 ++ (vx_atS RX7 103 "java/lang/IndexOutOfBoundsException" ["java/lang/RuntimeException", "java/lang/Exception"]).filter goodWord ++ (vx_atS RX7 71 "java/lang/IllegalArgumentException" ["java/lang/RuntimeException", "java/lang/Exception"]).filter goodWord)
def wsX7_cue_r1 : List Cond := [Cond.classLink RX7 67 "java/lang/IllegalArgumentException", Cond.initialized "java/lang/IllegalArgumentException", Cond.classLink RX7 78 "java/lang/IllegalStateException", Cond.initialized "java/lang/IllegalStateException", Cond.fieldLink RX7 124 "GelBook" "cueCount" "I", Cond.fieldLink RX7 18 "GelBook" "cues" "[LGelBook$Cue;", Cond.classLink RX7 16 RX0, Cond.instantiable RX0 9, Cond.initialized RX0, Cond.methodLink RX7 56 yX7_isWithin, Cond.static yX7_isWithin, Cond.initialized RX7, Cond.code yX7_isWithin cX7_isWithin 3 (some .boolean), Cond.methodLink RX7 129 yX0_init, Cond.instanceMethod yX0_init, Cond.code yX0_init cX0_init 5 none, Cond.methodLink RX0 3 objectInit, Cond.instanceMethod objectInit, Cond.code objectInit ⟨#[0xb1]⟩ 1 none, Cond.fieldLink RX0 9 "GelBook$Cue" "number" "I", Cond.fieldLink RX0 15 "GelBook$Cue" "sort" "I", Cond.fieldLink RX0 18 "GelBook$Cue" "up" "I", Cond.fieldLink RX0 21 "GelBook$Cue" "down" "I", Cond.arrayClass .int]
def wsX7_cue_r2 : List Cond := [Cond.fieldLink RX0 24 "GelBook$Cue" "told" "[I", Cond.fieldLink RX0 28 "GelBook$Cue" "shiners" "[I", Cond.fieldLink RX0 31 "GelBook$Cue" "levels" "[I", Cond.methodLink RX0 34 yJ7_fill_53178, Cond.static yJ7_fill_53178, Cond.initialized RJ7, Cond.code yJ7_fill_53178 cJ7_fill_53178 4 none]
def wsX7_cue : List Cond := .code yX7_cue cX7_cue 5 (some .int) :: ((wsX7_cue_r1 ++ wsX7_cue_r2) ++ wsX70 ++ wsX00 ++ (vx_atS RX7 71 "java/lang/IllegalArgumentException" ["java/lang/RuntimeException", "java/lang/Exception"]).filter goodWord ++ (vx_atS RX7 82 "java/lang/IllegalStateException" ["java/lang/RuntimeException", "java/lang/Exception"]).filter goodWord)
def wsX7_cueAt : List Cond := .code yX7_cueAt cX7_cueAt 2 (some (.object "GelBook$Cue")) :: ([.fieldLink RX7 18 "GelBook" "cues" "[LGelBook$Cue;"] ++ wsX70)
def wsX7_level_r1 : List Cond := [Cond.classLink RX7 99 "java/lang/IndexOutOfBoundsException", Cond.initialized "java/lang/IndexOutOfBoundsException", Cond.classLink RX7 67 "java/lang/IllegalArgumentException", Cond.initialized "java/lang/IllegalArgumentException", Cond.fieldLink RX7 10 "GelBook" "rig" "LGelBook$Rig;", Cond.methodLink RX7 132 yX7_cueAt, Cond.instanceMethod yX7_cueAt, Cond.selects RX7 yX7_cueAt yX7_cueAt, Cond.initialized RX7, Cond.code yX7_cueAt cX7_cueAt 2 (some (.object "GelBook$Cue")), Cond.fieldLink RX7 18 "GelBook" "cues" "[LGelBook$Cue;", Cond.methodLink RX7 95 yX5_lampAt, Cond.instanceMethod yX5_lampAt, Cond.selects RX5 yX5_lampAt yX5_lampAt, Cond.initialized RX5, Cond.code yX5_lampAt cX5_lampAt 2 (some (.object "GelBook$Lamp")), Cond.fieldLink RX5 11 "GelBook$Rig" "lamps" "[LGelBook$Lamp;", Cond.methodLink RX7 56 yX7_isWithin, Cond.static yX7_isWithin, Cond.code yX7_isWithin cX7_isWithin 3 (some .boolean), Cond.methodLink RX7 140 yX0_tell, Cond.instanceMethod yX0_tell, Cond.selects RX0 yX0_tell yX0_tell, Cond.initialized RX0]
def wsX7_level_r2 : List Cond := [Cond.code yX0_tell cX0_tell 4 (some .int), Cond.fieldLink RX0 24 "GelBook$Cue" "told" "[I", Cond.methodLink RX7 144 yX0_arrange, Cond.instanceMethod yX0_arrange, Cond.selects RX0 yX0_arrange yX0_arrange, Cond.code yX0_arrange cX0_arrange 5 none, Cond.fieldLink RX0 28 "GelBook$Cue" "shiners" "[I", Cond.fieldLink RX0 31 "GelBook$Cue" "levels" "[I", Cond.methodLink RX0 34 yJ7_fill_53178, Cond.static yJ7_fill_53178, Cond.initialized RJ7, Cond.code yJ7_fill_53178 cJ7_fill_53178 4 none, Cond.methodLink RX0 40 yX5_lampAt, Cond.methodLink RX0 46 yX5_isUsable, Cond.instanceMethod yX5_isUsable, Cond.selects RX5 yX5_isUsable yX5_isUsable, Cond.code yX5_isUsable cX5_isUsable 2 (some .boolean), Cond.fieldLink RX5 24 "GelBook$Lamp" "dead" "Z", Cond.fieldLink RX5 17 "GelBook$Rig" "bars" "I", Cond.fieldLink RX5 28 "GelBook$Lamp" "bar" "I", Cond.methodLink RX0 50 yX5_nearestSpare, Cond.instanceMethod yX5_nearestSpare, Cond.selects RX5 yX5_nearestSpare yX5_nearestSpare, Cond.code yX5_nearestSpare cX5_nearestSpare 8 (some .int)]
def wsX7_level_r3 : List Cond := [Cond.fieldLink RX5 35 "GelBook$Lamp" "gel" "I", Cond.methodLink RX5 31 yX5_isUsable, Cond.methodLink RX5 38 yX0_canSpare, Cond.instanceMethod yX0_canSpare, Cond.selects RX0 yX0_canSpare yX0_canSpare, Cond.code yX0_canSpare cX0_canSpare 2 (some .boolean), Cond.methodLink RX5 44 yX4_distanceTo, Cond.instanceMethod yX4_distanceTo, Cond.selects RX4 yX4_distanceTo yX4_distanceTo, Cond.initialized RX4, Cond.code yX4_distanceTo cX4_distanceTo 2 (some .int), Cond.fieldLink RX4 7 "GelBook$Lamp" "bar" "I", Cond.methodLink RX4 25 Lib.Math.abs.name, Cond.static Lib.Math.abs.name, Cond.initialized "java/lang/Math", Cond.code Lib.Math.abs.name Lib.Math.abs.code 1 (some .int), Cond.fieldLink RX4 13 "GelBook$Lamp" "position" "I"]
def wsX7_level : List Cond := .code yX7_level cX7_level 6 (some .int) :: ((wsX7_level_r1 ++ (wsX7_level_r2 ++ wsX7_level_r3)) ++ wsX70 ++ wsX50 ++ wsX00 ++ wsX40 ++ (vx_atS RX7 103 "java/lang/IndexOutOfBoundsException" ["java/lang/RuntimeException", "java/lang/Exception"]).filter goodWord ++ (vx_atS RX7 71 "java/lang/IllegalArgumentException" ["java/lang/RuntimeException", "java/lang/Exception"]).filter goodWord)
def wsX7_follow : List Cond := .code yX7_follow cX7_follow 7 (some .int) :: ([.classLink RX7 99 "java/lang/IndexOutOfBoundsException", .initialized "java/lang/IndexOutOfBoundsException", .classLink RX7 67 "java/lang/IllegalArgumentException", .initialized "java/lang/IllegalArgumentException", .fieldLink RX7 152 "GelBook$Cue" "follower" "LGelBook$Cue;", .fieldLink RX7 156 "GelBook$Cue" "delay" "I", .fieldLink RX7 159 "GelBook$Cue" "number" "I", .methodLink RX7 132 yX7_cueAt, .instanceMethod yX7_cueAt, .selects RX7 yX7_cueAt yX7_cueAt, .initialized RX7, .code yX7_cueAt cX7_cueAt 2 (some (.object "GelBook$Cue")), .fieldLink RX7 18 "GelBook" "cues" "[LGelBook$Cue;", .methodLink RX7 56 yX7_isWithin, .static yX7_isWithin, .code yX7_isWithin cX7_isWithin 3 (some .boolean)] ++ wsX00 ++ wsX70 ++ (vx_atS RX7 103 "java/lang/IndexOutOfBoundsException" ["java/lang/RuntimeException", "java/lang/Exception"]).filter goodWord ++ (vx_atS RX7 71 "java/lang/IllegalArgumentException" ["java/lang/RuntimeException", "java/lang/Exception"]).filter goodWord)
def wsX7_wattsAsked_r1 : List Cond := [Cond.fieldLink RX7 10 "GelBook" "rig" "LGelBook$Rig;", Cond.fieldLink RX7 240 "GelBook$Lamp" "phase" "I", Cond.fieldLink RX7 243 "GelBook$Lamp" "watts" "I", Cond.fieldLink RX7 35 "GelBook" "live" "LGelBook$Goings;", Cond.methodLink RX7 252 Lib.Math.max.name, Cond.static Lib.Math.max.name, Cond.initialized "java/lang/Math", Cond.code Lib.Math.max.name Lib.Math.max.code 2 (some .int), Cond.methodLink RX7 95 yX5_lampAt, Cond.instanceMethod yX5_lampAt, Cond.selects RX5 yX5_lampAt yX5_lampAt, Cond.initialized RX5, Cond.code yX5_lampAt cX5_lampAt 2 (some (.object "GelBook$Lamp")), Cond.fieldLink RX5 11 "GelBook$Rig" "lamps" "[LGelBook$Lamp;", Cond.methodLink RX7 246 yX0_levelFor, Cond.instanceMethod yX0_levelFor, Cond.selects RX0 yX0_levelFor yX0_levelFor, Cond.initialized RX0, Cond.code yX0_levelFor cX0_levelFor 2 (some .int), Cond.fieldLink RX0 31 "GelBook$Cue" "levels" "[I", Cond.methodLink RX7 249 yX2_greatestUnreleased, Cond.instanceMethod yX2_greatestUnreleased, Cond.selects RX2 yX2_greatestUnreleased yX2_greatestUnreleased, Cond.initialized RX2]
def wsX7_wattsAsked_r2 : List Cond := [Cond.code yX2_greatestUnreleased cX2_greatestUnreleased 5 (some .int), Cond.fieldLink RX2 18 "GelBook$Goings" "count" "I", Cond.methodLink RX2 61 Lib.Math.max.name, Cond.methodLink RX2 22 yX2_at, Cond.instanceMethod yX2_at, Cond.selects RX2 yX2_at yX2_at, Cond.code yX2_at cX2_at 2 (some (.object "GelBook$Going")), Cond.fieldLink RX2 11 "GelBook$Goings" "row" "[LGelBook$Going;", Cond.methodLink RX2 53 yX1_isReleased, Cond.instanceMethod yX1_isReleased, Cond.selects RX1 yX1_isReleased yX1_isReleased, Cond.initialized RX1, Cond.code yX1_isReleased cX1_isReleased 1 (some .boolean), Cond.fieldLink RX1 9 "GelBook$Going" "releasedAt" "I", Cond.methodLink RX2 57 yX1_levelFor, Cond.instanceMethod yX1_levelFor, Cond.selects RX1 yX1_levelFor yX1_levelFor, Cond.code yX1_levelFor cX1_levelFor 2 (some .int), Cond.fieldLink RX1 15 "GelBook$Going" "cue" "LGelBook$Cue;", Cond.methodLink RX1 34 yX0_levelFor]
def wsX7_wattsAsked : List Cond := .code yX7_wattsAsked cX7_wattsAsked 6 (some .int) :: ((wsX7_wattsAsked_r1 ++ wsX7_wattsAsked_r2) ++ wsX70 ++ wsX40 ++ wsX50 ++ wsX00 ++ wsX20 ++ wsX10)
def wsX7_canGo_r1 : List Cond := [Cond.fieldLink RX7 22 "GelBook" "powers" "[I", Cond.methodLink RX7 220 yX7_wattsAsked, Cond.instanceMethod yX7_wattsAsked, Cond.selects RX7 yX7_wattsAsked yX7_wattsAsked, Cond.initialized RX7, Cond.code yX7_wattsAsked cX7_wattsAsked 6 (some .int), Cond.fieldLink RX7 10 "GelBook" "rig" "LGelBook$Rig;", Cond.fieldLink RX7 240 "GelBook$Lamp" "phase" "I", Cond.fieldLink RX7 243 "GelBook$Lamp" "watts" "I", Cond.fieldLink RX7 35 "GelBook" "live" "LGelBook$Goings;", Cond.methodLink RX7 252 Lib.Math.max.name, Cond.static Lib.Math.max.name, Cond.initialized "java/lang/Math", Cond.code Lib.Math.max.name Lib.Math.max.code 2 (some .int), Cond.methodLink RX7 95 yX5_lampAt, Cond.instanceMethod yX5_lampAt, Cond.selects RX5 yX5_lampAt yX5_lampAt, Cond.initialized RX5, Cond.code yX5_lampAt cX5_lampAt 2 (some (.object "GelBook$Lamp")), Cond.fieldLink RX5 11 "GelBook$Rig" "lamps" "[LGelBook$Lamp;", Cond.methodLink RX7 246 yX0_levelFor, Cond.instanceMethod yX0_levelFor, Cond.selects RX0 yX0_levelFor yX0_levelFor, Cond.initialized RX0]
def wsX7_canGo_r2 : List Cond := [Cond.code yX0_levelFor cX0_levelFor 2 (some .int), Cond.fieldLink RX0 31 "GelBook$Cue" "levels" "[I", Cond.methodLink RX7 249 yX2_greatestUnreleased, Cond.instanceMethod yX2_greatestUnreleased, Cond.selects RX2 yX2_greatestUnreleased yX2_greatestUnreleased, Cond.initialized RX2, Cond.code yX2_greatestUnreleased cX2_greatestUnreleased 5 (some .int), Cond.fieldLink RX2 18 "GelBook$Goings" "count" "I", Cond.methodLink RX2 61 Lib.Math.max.name, Cond.methodLink RX2 22 yX2_at, Cond.instanceMethod yX2_at, Cond.selects RX2 yX2_at yX2_at, Cond.code yX2_at cX2_at 2 (some (.object "GelBook$Going")), Cond.fieldLink RX2 11 "GelBook$Goings" "row" "[LGelBook$Going;", Cond.methodLink RX2 53 yX1_isReleased, Cond.instanceMethod yX1_isReleased, Cond.selects RX1 yX1_isReleased yX1_isReleased, Cond.initialized RX1, Cond.code yX1_isReleased cX1_isReleased 1 (some .boolean), Cond.fieldLink RX1 9 "GelBook$Going" "releasedAt" "I", Cond.methodLink RX2 57 yX1_levelFor, Cond.instanceMethod yX1_levelFor, Cond.selects RX1 yX1_levelFor yX1_levelFor, Cond.code yX1_levelFor cX1_levelFor 2 (some .int)]
def wsX7_canGo_r3 : List Cond := [Cond.fieldLink RX1 15 "GelBook$Going" "cue" "LGelBook$Cue;", Cond.methodLink RX1 34 yX0_levelFor]
def wsX7_canGo : List Cond := .code yX7_canGo cX7_canGo 3 (some .boolean) :: ((wsX7_canGo_r1 ++ (wsX7_canGo_r2 ++ wsX7_canGo_r3)) ++ wsX70 ++ wsX40 ++ wsX50 ++ wsX00 ++ wsX20 ++ wsX10)
def wsX7_begin_r1 : List Cond := [Cond.fieldLink RX7 35 "GelBook" "live" "LGelBook$Goings;", Cond.fieldLink RX7 186 "GelBook" "tick" "I", Cond.fieldLink RX7 52 "GelBook" "history" "LGelBook$History;", Cond.fieldLink RX7 159 "GelBook$Cue" "number" "I", Cond.fieldLink RX7 152 "GelBook$Cue" "follower" "LGelBook$Cue;", Cond.fieldLink RX7 45 "GelBook" "waiting" "LGelBook$Waiting;", Cond.fieldLink RX7 156 "GelBook$Cue" "delay" "I", Cond.methodLink RX7 257 yX2_begin, Cond.instanceMethod yX2_begin, Cond.selects RX2 yX2_begin yX2_begin, Cond.initialized RX2, Cond.code yX2_begin cX2_begin 5 none, Cond.fieldLink RX2 18 "GelBook$Goings" "count" "I", Cond.fieldLink RX2 11 "GelBook$Goings" "row" "[LGelBook$Going;", Cond.methodLink RX2 30 yX2_placeOf, Cond.instanceMethod yX2_placeOf, Cond.selects RX2 yX2_placeOf yX2_placeOf, Cond.code yX2_placeOf cX2_placeOf 4 (some .int), Cond.fieldLink RX2 26 "GelBook$Going" "cue" "LGelBook$Cue;", Cond.methodLink RX2 22 yX2_at, Cond.instanceMethod yX2_at, Cond.selects RX2 yX2_at yX2_at, Cond.code yX2_at cX2_at 2 (some (.object "GelBook$Going")), Cond.methodLink RX2 34 yX2_moveLast]
def wsX7_begin_r2 : List Cond := [Cond.instanceMethod yX2_moveLast, Cond.selects RX2 yX2_moveLast yX2_moveLast, Cond.code yX2_moveLast cX2_moveLast 4 none, Cond.methodLink RX2 38 yX1_begin, Cond.instanceMethod yX1_begin, Cond.selects RX1 yX1_begin yX1_begin, Cond.initialized RX1, Cond.code yX1_begin cX1_begin 3 none, Cond.fieldLink RX1 15 "GelBook$Going" "cue" "LGelBook$Cue;", Cond.fieldLink RX1 19 "GelBook$Going" "went" "I", Cond.fieldLink RX1 9 "GelBook$Going" "releasedAt" "I", Cond.methodLink RX7 260 yX3_writeGoing, Cond.instanceMethod yX3_writeGoing, Cond.selects RX3 yX3_writeGoing yX3_writeGoing, Cond.initialized RX3, Cond.code yX3_writeGoing cX3_writeGoing 4 none, Cond.methodLink RX3 15 yX3_entryFor, Cond.static yX3_entryFor, Cond.code yX3_entryFor cX3_entryFor 3 (some .int), Cond.methodLink RX3 19 yX3_strike, Cond.instanceMethod yX3_strike, Cond.selects RX3 yX3_strike yX3_strike, Cond.code yX3_strike cX3_strike 3 none, Cond.fieldLink RX3 26 "GelBook$History" "count" "I"]
def wsX7_begin_r3 : List Cond := [Cond.methodLink RX3 30 yX3_entryAt, Cond.instanceMethod yX3_entryAt, Cond.selects RX3 yX3_entryAt yX3_entryAt, Cond.code yX3_entryAt cX3_entryAt 2 (some .int), Cond.fieldLink RX3 9 "GelBook$History" "entries" "[I", Cond.methodLink RX3 34 yX3_tickOf, Cond.static yX3_tickOf, Cond.code yX3_tickOf cX3_tickOf 1 (some .int), Cond.methodLink RX3 37 yX3_removeAt, Cond.instanceMethod yX3_removeAt, Cond.selects RX3 yX3_removeAt yX3_removeAt, Cond.code yX3_removeAt cX3_removeAt 3 none, Cond.methodLink RX3 23 yX3_append, Cond.instanceMethod yX3_append, Cond.selects RX3 yX3_append yX3_append, Cond.code yX3_append cX3_append 2 none, Cond.constant RX3 40 (122880), Cond.methodLink RX3 41 Lib.Math.min.name, Cond.static Lib.Math.min.name, Cond.initialized "java/lang/Math", Cond.code Lib.Math.min.name Lib.Math.min.code 2 (some .int), Cond.methodLink RX3 47 yJ7_copyOf_59c91, Cond.static yJ7_copyOf_59c91, Cond.initialized RJ7]
def wsX7_begin_r4 : List Cond := [Cond.code yJ7_copyOf_59c91 cJ7_copyOf_59c91 3 (some (.array .int)), Cond.methodLink RJ7 316 ⟨"[I", "clone", "()Ljava/lang/Object;"⟩, Cond.sameMethod "[I" "java/lang/Object" "clone" "()Ljava/lang/Object;", Cond.native ⟨"java/lang/Object", "clone", "()Ljava/lang/Object;"⟩, Cond.instanceMethod ⟨"java/lang/Object", "clone", "()Ljava/lang/Object;"⟩, Cond.selects "[I" ⟨"[I", "clone", "()Ljava/lang/Object;"⟩ ⟨"java/lang/Object", "clone", "()Ljava/lang/Object;"⟩, Cond.classLink RJ7 317 "[I", Cond.arrayClass .int, Cond.methodLink RJ7 304 Lib.Math.min.name, Cond.methodLink RJ7 150 arraycopyName, Cond.native arraycopyName, Cond.static arraycopyName, Cond.initialized "java/lang/System", Cond.methodLink RX7 263 yX6_note, Cond.instanceMethod yX6_note, Cond.selects RX6 yX6_note yX6_note, Cond.initialized RX6, Cond.code yX6_note cX6_note 3 none, Cond.fieldLink RX6 24 "GelBook$Waiting" "count" "I", Cond.fieldLink RX6 11 "GelBook$Waiting" "noted" "[LGelBook$Cue;", Cond.fieldLink RX6 17 "GelBook$Waiting" "dueAt" "[I"]
def wsX7_begin : List Cond := .code yX7_begin cX7_begin 2 none :: ((wsX7_begin_r1 ++ (wsX7_begin_r2 ++ (wsX7_begin_r3 ++ wsX7_begin_r4))) ++ wsX70 ++ wsX00 ++ wsX20 ++ wsX10 ++ wsX30 ++ wsX60)
def wsX7_go_r1 : List Cond := [Cond.classLink RX7 99 "java/lang/IndexOutOfBoundsException", Cond.initialized "java/lang/IndexOutOfBoundsException", Cond.classLink RX7 78 "java/lang/IllegalStateException", Cond.initialized "java/lang/IllegalStateException", Cond.fieldLink RX7 35 "GelBook" "live" "LGelBook$Goings;", Cond.fieldLink RX7 172 "GelBook$Goings" "count" "I", Cond.methodLink RX7 132 yX7_cueAt, Cond.instanceMethod yX7_cueAt, Cond.selects RX7 yX7_cueAt yX7_cueAt, Cond.initialized RX7, Cond.code yX7_cueAt cX7_cueAt 2 (some (.object "GelBook$Cue")), Cond.fieldLink RX7 18 "GelBook" "cues" "[LGelBook$Cue;", Cond.methodLink RX7 162 yX7_canGo, Cond.instanceMethod yX7_canGo, Cond.selects RX7 yX7_canGo yX7_canGo, Cond.code yX7_canGo cX7_canGo 3 (some .boolean), Cond.fieldLink RX7 22 "GelBook" "powers" "[I", Cond.methodLink RX7 220 yX7_wattsAsked, Cond.instanceMethod yX7_wattsAsked, Cond.selects RX7 yX7_wattsAsked yX7_wattsAsked, Cond.code yX7_wattsAsked cX7_wattsAsked 6 (some .int), Cond.fieldLink RX7 10 "GelBook" "rig" "LGelBook$Rig;", Cond.fieldLink RX7 240 "GelBook$Lamp" "phase" "I", Cond.fieldLink RX7 243 "GelBook$Lamp" "watts" "I"]
def wsX7_go_r2 : List Cond := [Cond.methodLink RX7 252 Lib.Math.max.name, Cond.static Lib.Math.max.name, Cond.initialized "java/lang/Math", Cond.code Lib.Math.max.name Lib.Math.max.code 2 (some .int), Cond.methodLink RX7 95 yX5_lampAt, Cond.instanceMethod yX5_lampAt, Cond.selects RX5 yX5_lampAt yX5_lampAt, Cond.initialized RX5, Cond.code yX5_lampAt cX5_lampAt 2 (some (.object "GelBook$Lamp")), Cond.fieldLink RX5 11 "GelBook$Rig" "lamps" "[LGelBook$Lamp;", Cond.methodLink RX7 246 yX0_levelFor, Cond.instanceMethod yX0_levelFor, Cond.selects RX0 yX0_levelFor yX0_levelFor, Cond.initialized RX0, Cond.code yX0_levelFor cX0_levelFor 2 (some .int), Cond.fieldLink RX0 31 "GelBook$Cue" "levels" "[I", Cond.methodLink RX7 249 yX2_greatestUnreleased, Cond.instanceMethod yX2_greatestUnreleased, Cond.selects RX2 yX2_greatestUnreleased yX2_greatestUnreleased, Cond.initialized RX2, Cond.code yX2_greatestUnreleased cX2_greatestUnreleased 5 (some .int), Cond.fieldLink RX2 18 "GelBook$Goings" "count" "I", Cond.methodLink RX2 61 Lib.Math.max.name, Cond.methodLink RX2 22 yX2_at]
def wsX7_go_r3 : List Cond := [Cond.instanceMethod yX2_at, Cond.selects RX2 yX2_at yX2_at, Cond.code yX2_at cX2_at 2 (some (.object "GelBook$Going")), Cond.fieldLink RX2 11 "GelBook$Goings" "row" "[LGelBook$Going;", Cond.methodLink RX2 53 yX1_isReleased, Cond.instanceMethod yX1_isReleased, Cond.selects RX1 yX1_isReleased yX1_isReleased, Cond.initialized RX1, Cond.code yX1_isReleased cX1_isReleased 1 (some .boolean), Cond.fieldLink RX1 9 "GelBook$Going" "releasedAt" "I", Cond.methodLink RX2 57 yX1_levelFor, Cond.instanceMethod yX1_levelFor, Cond.selects RX1 yX1_levelFor yX1_levelFor, Cond.code yX1_levelFor cX1_levelFor 2 (some .int), Cond.fieldLink RX1 15 "GelBook$Going" "cue" "LGelBook$Cue;", Cond.methodLink RX1 34 yX0_levelFor, Cond.methodLink RX7 168 yX7_begin, Cond.instanceMethod yX7_begin, Cond.selects RX7 yX7_begin yX7_begin, Cond.code yX7_begin cX7_begin 2 none, Cond.fieldLink RX7 186 "GelBook" "tick" "I", Cond.fieldLink RX7 52 "GelBook" "history" "LGelBook$History;", Cond.fieldLink RX7 159 "GelBook$Cue" "number" "I", Cond.fieldLink RX7 152 "GelBook$Cue" "follower" "LGelBook$Cue;"]
def wsX7_go_r4 : List Cond := [Cond.fieldLink RX7 45 "GelBook" "waiting" "LGelBook$Waiting;", Cond.fieldLink RX7 156 "GelBook$Cue" "delay" "I", Cond.methodLink RX7 257 yX2_begin, Cond.instanceMethod yX2_begin, Cond.selects RX2 yX2_begin yX2_begin, Cond.code yX2_begin cX2_begin 5 none, Cond.methodLink RX2 30 yX2_placeOf, Cond.instanceMethod yX2_placeOf, Cond.selects RX2 yX2_placeOf yX2_placeOf, Cond.code yX2_placeOf cX2_placeOf 4 (some .int), Cond.fieldLink RX2 26 "GelBook$Going" "cue" "LGelBook$Cue;", Cond.methodLink RX2 34 yX2_moveLast, Cond.instanceMethod yX2_moveLast, Cond.selects RX2 yX2_moveLast yX2_moveLast, Cond.code yX2_moveLast cX2_moveLast 4 none, Cond.methodLink RX2 38 yX1_begin, Cond.instanceMethod yX1_begin, Cond.selects RX1 yX1_begin yX1_begin, Cond.code yX1_begin cX1_begin 3 none, Cond.fieldLink RX1 19 "GelBook$Going" "went" "I", Cond.methodLink RX7 260 yX3_writeGoing, Cond.instanceMethod yX3_writeGoing, Cond.selects RX3 yX3_writeGoing yX3_writeGoing, Cond.initialized RX3]
def wsX7_go_r5 : List Cond := [Cond.code yX3_writeGoing cX3_writeGoing 4 none, Cond.methodLink RX3 15 yX3_entryFor, Cond.static yX3_entryFor, Cond.code yX3_entryFor cX3_entryFor 3 (some .int), Cond.methodLink RX3 19 yX3_strike, Cond.instanceMethod yX3_strike, Cond.selects RX3 yX3_strike yX3_strike, Cond.code yX3_strike cX3_strike 3 none, Cond.fieldLink RX3 26 "GelBook$History" "count" "I", Cond.methodLink RX3 30 yX3_entryAt, Cond.instanceMethod yX3_entryAt, Cond.selects RX3 yX3_entryAt yX3_entryAt, Cond.code yX3_entryAt cX3_entryAt 2 (some .int), Cond.fieldLink RX3 9 "GelBook$History" "entries" "[I", Cond.methodLink RX3 34 yX3_tickOf, Cond.static yX3_tickOf, Cond.code yX3_tickOf cX3_tickOf 1 (some .int), Cond.methodLink RX3 37 yX3_removeAt, Cond.instanceMethod yX3_removeAt, Cond.selects RX3 yX3_removeAt yX3_removeAt, Cond.code yX3_removeAt cX3_removeAt 3 none, Cond.methodLink RX3 23 yX3_append, Cond.instanceMethod yX3_append, Cond.selects RX3 yX3_append yX3_append]
def wsX7_go_r6 : List Cond := [Cond.code yX3_append cX3_append 2 none, Cond.constant RX3 40 (122880), Cond.methodLink RX3 41 Lib.Math.min.name, Cond.static Lib.Math.min.name, Cond.code Lib.Math.min.name Lib.Math.min.code 2 (some .int), Cond.methodLink RX3 47 yJ7_copyOf_59c91, Cond.static yJ7_copyOf_59c91, Cond.initialized RJ7, Cond.code yJ7_copyOf_59c91 cJ7_copyOf_59c91 3 (some (.array .int)), Cond.methodLink RJ7 316 ⟨"[I", "clone", "()Ljava/lang/Object;"⟩, Cond.sameMethod "[I" "java/lang/Object" "clone" "()Ljava/lang/Object;", Cond.native ⟨"java/lang/Object", "clone", "()Ljava/lang/Object;"⟩, Cond.instanceMethod ⟨"java/lang/Object", "clone", "()Ljava/lang/Object;"⟩, Cond.selects "[I" ⟨"[I", "clone", "()Ljava/lang/Object;"⟩ ⟨"java/lang/Object", "clone", "()Ljava/lang/Object;"⟩, Cond.classLink RJ7 317 "[I", Cond.arrayClass .int, Cond.methodLink RJ7 304 Lib.Math.min.name, Cond.methodLink RJ7 150 arraycopyName, Cond.native arraycopyName, Cond.static arraycopyName, Cond.initialized "java/lang/System", Cond.methodLink RX7 263 yX6_note, Cond.instanceMethod yX6_note, Cond.selects RX6 yX6_note yX6_note]
def wsX7_go_r7 : List Cond := [Cond.initialized RX6, Cond.code yX6_note cX6_note 3 none, Cond.fieldLink RX6 24 "GelBook$Waiting" "count" "I", Cond.fieldLink RX6 11 "GelBook$Waiting" "noted" "[LGelBook$Cue;", Cond.fieldLink RX6 17 "GelBook$Waiting" "dueAt" "[I"]
def wsX7_go : List Cond := .code yX7_go cX7_go 3 (some .int) :: ((wsX7_go_r1 ++ (wsX7_go_r2 ++ (wsX7_go_r3 ++ (wsX7_go_r4 ++ (wsX7_go_r5 ++ (wsX7_go_r6 ++ wsX7_go_r7)))))) ++ wsX70 ++ wsX20 ++ wsX40 ++ wsX50 ++ wsX00 ++ wsX10 ++ wsX30 ++ wsX60 ++ (vx_atS RX7 103 "java/lang/IndexOutOfBoundsException" ["java/lang/RuntimeException", "java/lang/Exception"]).filter goodWord ++ (vx_atS RX7 82 "java/lang/IllegalStateException" ["java/lang/RuntimeException", "java/lang/Exception"]).filter goodWord)
def wsX7_release_r1 : List Cond := [Cond.classLink RX7 99 "java/lang/IndexOutOfBoundsException", Cond.initialized "java/lang/IndexOutOfBoundsException", Cond.classLink RX7 78 "java/lang/IllegalStateException", Cond.initialized "java/lang/IllegalStateException", Cond.fieldLink RX7 35 "GelBook" "live" "LGelBook$Goings;", Cond.fieldLink RX7 186 "GelBook" "tick" "I", Cond.fieldLink RX7 52 "GelBook" "history" "LGelBook$History;", Cond.fieldLink RX7 159 "GelBook$Cue" "number" "I", Cond.methodLink RX7 132 yX7_cueAt, Cond.instanceMethod yX7_cueAt, Cond.selects RX7 yX7_cueAt yX7_cueAt, Cond.initialized RX7, Cond.code yX7_cueAt cX7_cueAt 2 (some (.object "GelBook$Cue")), Cond.fieldLink RX7 18 "GelBook" "cues" "[LGelBook$Cue;", Cond.methodLink RX7 175 yX2_goingOf, Cond.instanceMethod yX2_goingOf, Cond.selects RX2 yX2_goingOf yX2_goingOf, Cond.initialized RX2, Cond.code yX2_goingOf cX2_goingOf 2 (some (.object "GelBook$Going")), Cond.methodLink RX2 30 yX2_placeOf, Cond.instanceMethod yX2_placeOf, Cond.selects RX2 yX2_placeOf yX2_placeOf, Cond.code yX2_placeOf cX2_placeOf 4 (some .int), Cond.fieldLink RX2 18 "GelBook$Goings" "count" "I"]
def wsX7_release_r2 : List Cond := [Cond.fieldLink RX2 26 "GelBook$Going" "cue" "LGelBook$Cue;", Cond.methodLink RX2 22 yX2_at, Cond.instanceMethod yX2_at, Cond.selects RX2 yX2_at yX2_at, Cond.code yX2_at cX2_at 2 (some (.object "GelBook$Going")), Cond.fieldLink RX2 11 "GelBook$Goings" "row" "[LGelBook$Going;", Cond.methodLink RX7 179 yX1_isReleased, Cond.instanceMethod yX1_isReleased, Cond.selects RX1 yX1_isReleased yX1_isReleased, Cond.initialized RX1, Cond.code yX1_isReleased cX1_isReleased 1 (some .boolean), Cond.fieldLink RX1 9 "GelBook$Going" "releasedAt" "I", Cond.methodLink RX7 189 yX1_fall, Cond.instanceMethod yX1_fall, Cond.selects RX1 yX1_fall yX1_fall, Cond.code yX1_fall cX1_fall 2 none, Cond.methodLink RX7 193 yX3_writeRelease, Cond.instanceMethod yX3_writeRelease, Cond.selects RX3 yX3_writeRelease yX3_writeRelease, Cond.initialized RX3, Cond.code yX3_writeRelease cX3_writeRelease 3 none, Cond.methodLink RX3 15 yX3_entryFor, Cond.static yX3_entryFor, Cond.code yX3_entryFor cX3_entryFor 3 (some .int)]
def wsX7_release_r3 : List Cond := [Cond.methodLink RX3 23 yX3_append, Cond.instanceMethod yX3_append, Cond.selects RX3 yX3_append yX3_append, Cond.code yX3_append cX3_append 2 none, Cond.fieldLink RX3 26 "GelBook$History" "count" "I", Cond.fieldLink RX3 9 "GelBook$History" "entries" "[I", Cond.constant RX3 40 (122880), Cond.methodLink RX3 41 Lib.Math.min.name, Cond.static Lib.Math.min.name, Cond.initialized "java/lang/Math", Cond.code Lib.Math.min.name Lib.Math.min.code 2 (some .int), Cond.methodLink RX3 47 yJ7_copyOf_59c91, Cond.static yJ7_copyOf_59c91, Cond.initialized RJ7, Cond.code yJ7_copyOf_59c91 cJ7_copyOf_59c91 3 (some (.array .int)), Cond.methodLink RJ7 316 ⟨"[I", "clone", "()Ljava/lang/Object;"⟩, Cond.sameMethod "[I" "java/lang/Object" "clone" "()Ljava/lang/Object;", Cond.native ⟨"java/lang/Object", "clone", "()Ljava/lang/Object;"⟩, Cond.instanceMethod ⟨"java/lang/Object", "clone", "()Ljava/lang/Object;"⟩, Cond.selects "[I" ⟨"[I", "clone", "()Ljava/lang/Object;"⟩ ⟨"java/lang/Object", "clone", "()Ljava/lang/Object;"⟩, Cond.classLink RJ7 317 "[I", Cond.arrayClass .int, Cond.methodLink RJ7 304 Lib.Math.min.name, Cond.methodLink RJ7 150 arraycopyName]
def wsX7_release_r4 : List Cond := [Cond.native arraycopyName, Cond.static arraycopyName, Cond.initialized "java/lang/System", Cond.methodLink RX7 197 yX2_dropOver, Cond.instanceMethod yX2_dropOver, Cond.selects RX2 yX2_dropOver yX2_dropOver, Cond.code yX2_dropOver cX2_dropOver 4 none, Cond.methodLink RX2 49 yX1_isOver, Cond.instanceMethod yX1_isOver, Cond.selects RX1 yX1_isOver yX1_isOver, Cond.code yX1_isOver cX1_isOver 2 (some .boolean), Cond.fieldLink RX1 15 "GelBook$Going" "cue" "LGelBook$Cue;", Cond.fieldLink RX1 26 "GelBook$Cue" "down" "I", Cond.methodLink RX1 22 yX1_isReleased, Cond.methodLink RX2 34 yX2_moveLast, Cond.instanceMethod yX2_moveLast, Cond.selects RX2 yX2_moveLast yX2_moveLast, Cond.code yX2_moveLast cX2_moveLast 4 none]
def wsX7_release : List Cond := .code yX7_release cX7_release 4 (some .boolean) :: ((wsX7_release_r1 ++ (wsX7_release_r2 ++ (wsX7_release_r3 ++ wsX7_release_r4))) ++ wsX70 ++ wsX00 ++ wsX20 ++ wsX10 ++ wsX30 ++ (vx_atS RX7 103 "java/lang/IndexOutOfBoundsException" ["java/lang/RuntimeException", "java/lang/Exception"]).filter goodWord ++ (vx_atS RX7 82 "java/lang/IllegalStateException" ["java/lang/RuntimeException", "java/lang/Exception"]).filter goodWord)
def wsX7_passOne_r1 : List Cond := [Cond.fieldLink RX7 186 "GelBook" "tick" "I", Cond.fieldLink RX7 35 "GelBook" "live" "LGelBook$Goings;", Cond.fieldLink RX7 45 "GelBook" "waiting" "LGelBook$Waiting;", Cond.fieldLink RX7 269 "GelBook$Waiting" "readyCount" "I", Cond.fieldLink RX7 236 "GelBook" "barredCount" "I", Cond.methodLink RX7 197 yX2_dropOver, Cond.instanceMethod yX2_dropOver, Cond.selects RX2 yX2_dropOver yX2_dropOver, Cond.initialized RX2, Cond.code yX2_dropOver cX2_dropOver 4 none, Cond.fieldLink RX2 18 "GelBook$Goings" "count" "I", Cond.methodLink RX2 22 yX2_at, Cond.instanceMethod yX2_at, Cond.selects RX2 yX2_at yX2_at, Cond.code yX2_at cX2_at 2 (some (.object "GelBook$Going")), Cond.fieldLink RX2 11 "GelBook$Goings" "row" "[LGelBook$Going;", Cond.methodLink RX2 49 yX1_isOver, Cond.instanceMethod yX1_isOver, Cond.selects RX1 yX1_isOver yX1_isOver, Cond.initialized RX1, Cond.code yX1_isOver cX1_isOver 2 (some .boolean), Cond.fieldLink RX1 15 "GelBook$Going" "cue" "LGelBook$Cue;", Cond.fieldLink RX1 9 "GelBook$Going" "releasedAt" "I", Cond.fieldLink RX1 26 "GelBook$Cue" "down" "I"]
def wsX7_passOne_r2 : List Cond := [Cond.methodLink RX1 22 yX1_isReleased, Cond.instanceMethod yX1_isReleased, Cond.selects RX1 yX1_isReleased yX1_isReleased, Cond.code yX1_isReleased cX1_isReleased 1 (some .boolean), Cond.methodLink RX2 34 yX2_moveLast, Cond.instanceMethod yX2_moveLast, Cond.selects RX2 yX2_moveLast yX2_moveLast, Cond.code yX2_moveLast cX2_moveLast 4 none, Cond.methodLink RX7 266 yX6_takeDue, Cond.instanceMethod yX6_takeDue, Cond.selects RX6 yX6_takeDue yX6_takeDue, Cond.initialized RX6, Cond.code yX6_takeDue cX6_takeDue 4 none, Cond.fieldLink RX6 28 "GelBook$Waiting" "readyCount" "I", Cond.fieldLink RX6 24 "GelBook$Waiting" "count" "I", Cond.fieldLink RX6 11 "GelBook$Waiting" "noted" "[LGelBook$Cue;", Cond.fieldLink RX6 17 "GelBook$Waiting" "dueAt" "[I", Cond.fieldLink RX6 21 "GelBook$Waiting" "ready" "[LGelBook$Cue;", Cond.methodLink RX7 272 yX6_readyAt, Cond.instanceMethod yX6_readyAt, Cond.selects RX6 yX6_readyAt yX6_readyAt, Cond.code yX6_readyAt cX6_readyAt 2 (some (.object "GelBook$Cue")), Cond.methodLink RX7 162 yX7_canGo, Cond.instanceMethod yX7_canGo]
def wsX7_passOne_r3 : List Cond := [Cond.selects RX7 yX7_canGo yX7_canGo, Cond.initialized RX7, Cond.code yX7_canGo cX7_canGo 3 (some .boolean), Cond.fieldLink RX7 22 "GelBook" "powers" "[I", Cond.methodLink RX7 220 yX7_wattsAsked, Cond.instanceMethod yX7_wattsAsked, Cond.selects RX7 yX7_wattsAsked yX7_wattsAsked, Cond.code yX7_wattsAsked cX7_wattsAsked 6 (some .int), Cond.fieldLink RX7 10 "GelBook" "rig" "LGelBook$Rig;", Cond.fieldLink RX7 240 "GelBook$Lamp" "phase" "I", Cond.fieldLink RX7 243 "GelBook$Lamp" "watts" "I", Cond.methodLink RX7 252 Lib.Math.max.name, Cond.static Lib.Math.max.name, Cond.initialized "java/lang/Math", Cond.code Lib.Math.max.name Lib.Math.max.code 2 (some .int), Cond.methodLink RX7 95 yX5_lampAt, Cond.instanceMethod yX5_lampAt, Cond.selects RX5 yX5_lampAt yX5_lampAt, Cond.initialized RX5, Cond.code yX5_lampAt cX5_lampAt 2 (some (.object "GelBook$Lamp")), Cond.fieldLink RX5 11 "GelBook$Rig" "lamps" "[LGelBook$Lamp;", Cond.methodLink RX7 246 yX0_levelFor, Cond.instanceMethod yX0_levelFor, Cond.selects RX0 yX0_levelFor yX0_levelFor]
def wsX7_passOne_r4 : List Cond := [Cond.initialized RX0, Cond.code yX0_levelFor cX0_levelFor 2 (some .int), Cond.fieldLink RX0 31 "GelBook$Cue" "levels" "[I", Cond.methodLink RX7 249 yX2_greatestUnreleased, Cond.instanceMethod yX2_greatestUnreleased, Cond.selects RX2 yX2_greatestUnreleased yX2_greatestUnreleased, Cond.code yX2_greatestUnreleased cX2_greatestUnreleased 5 (some .int), Cond.methodLink RX2 61 Lib.Math.max.name, Cond.methodLink RX2 53 yX1_isReleased, Cond.methodLink RX2 57 yX1_levelFor, Cond.instanceMethod yX1_levelFor, Cond.selects RX1 yX1_levelFor yX1_levelFor, Cond.code yX1_levelFor cX1_levelFor 2 (some .int), Cond.methodLink RX1 34 yX0_levelFor, Cond.methodLink RX7 168 yX7_begin, Cond.instanceMethod yX7_begin, Cond.selects RX7 yX7_begin yX7_begin, Cond.code yX7_begin cX7_begin 2 none, Cond.fieldLink RX7 52 "GelBook" "history" "LGelBook$History;", Cond.fieldLink RX7 159 "GelBook$Cue" "number" "I", Cond.fieldLink RX7 152 "GelBook$Cue" "follower" "LGelBook$Cue;", Cond.fieldLink RX7 156 "GelBook$Cue" "delay" "I", Cond.methodLink RX7 257 yX2_begin, Cond.instanceMethod yX2_begin]
def wsX7_passOne_r5 : List Cond := [Cond.selects RX2 yX2_begin yX2_begin, Cond.code yX2_begin cX2_begin 5 none, Cond.methodLink RX2 30 yX2_placeOf, Cond.instanceMethod yX2_placeOf, Cond.selects RX2 yX2_placeOf yX2_placeOf, Cond.code yX2_placeOf cX2_placeOf 4 (some .int), Cond.fieldLink RX2 26 "GelBook$Going" "cue" "LGelBook$Cue;", Cond.methodLink RX2 38 yX1_begin, Cond.instanceMethod yX1_begin, Cond.selects RX1 yX1_begin yX1_begin, Cond.code yX1_begin cX1_begin 3 none, Cond.fieldLink RX1 19 "GelBook$Going" "went" "I", Cond.methodLink RX7 260 yX3_writeGoing, Cond.instanceMethod yX3_writeGoing, Cond.selects RX3 yX3_writeGoing yX3_writeGoing, Cond.initialized RX3, Cond.code yX3_writeGoing cX3_writeGoing 4 none, Cond.methodLink RX3 15 yX3_entryFor, Cond.static yX3_entryFor, Cond.code yX3_entryFor cX3_entryFor 3 (some .int), Cond.methodLink RX3 19 yX3_strike, Cond.instanceMethod yX3_strike, Cond.selects RX3 yX3_strike yX3_strike, Cond.code yX3_strike cX3_strike 3 none]
def wsX7_passOne_r6 : List Cond := [Cond.fieldLink RX3 26 "GelBook$History" "count" "I", Cond.methodLink RX3 30 yX3_entryAt, Cond.instanceMethod yX3_entryAt, Cond.selects RX3 yX3_entryAt yX3_entryAt, Cond.code yX3_entryAt cX3_entryAt 2 (some .int), Cond.fieldLink RX3 9 "GelBook$History" "entries" "[I", Cond.methodLink RX3 34 yX3_tickOf, Cond.static yX3_tickOf, Cond.code yX3_tickOf cX3_tickOf 1 (some .int), Cond.methodLink RX3 37 yX3_removeAt, Cond.instanceMethod yX3_removeAt, Cond.selects RX3 yX3_removeAt yX3_removeAt, Cond.code yX3_removeAt cX3_removeAt 3 none, Cond.methodLink RX3 23 yX3_append, Cond.instanceMethod yX3_append, Cond.selects RX3 yX3_append yX3_append, Cond.code yX3_append cX3_append 2 none, Cond.constant RX3 40 (122880), Cond.methodLink RX3 41 Lib.Math.min.name, Cond.static Lib.Math.min.name, Cond.code Lib.Math.min.name Lib.Math.min.code 2 (some .int), Cond.methodLink RX3 47 yJ7_copyOf_59c91, Cond.static yJ7_copyOf_59c91, Cond.initialized RJ7]
def wsX7_passOne_r7 : List Cond := [Cond.code yJ7_copyOf_59c91 cJ7_copyOf_59c91 3 (some (.array .int)), Cond.methodLink RJ7 316 ⟨"[I", "clone", "()Ljava/lang/Object;"⟩, Cond.sameMethod "[I" "java/lang/Object" "clone" "()Ljava/lang/Object;", Cond.native ⟨"java/lang/Object", "clone", "()Ljava/lang/Object;"⟩, Cond.instanceMethod ⟨"java/lang/Object", "clone", "()Ljava/lang/Object;"⟩, Cond.selects "[I" ⟨"[I", "clone", "()Ljava/lang/Object;"⟩ ⟨"java/lang/Object", "clone", "()Ljava/lang/Object;"⟩, Cond.classLink RJ7 317 "[I", Cond.arrayClass .int, Cond.methodLink RJ7 304 Lib.Math.min.name, Cond.methodLink RJ7 150 arraycopyName, Cond.native arraycopyName, Cond.static arraycopyName, Cond.initialized "java/lang/System", Cond.methodLink RX7 263 yX6_note, Cond.instanceMethod yX6_note, Cond.selects RX6 yX6_note yX6_note, Cond.code yX6_note cX6_note 3 none]
def wsX7_passOne : List Cond := .code yX7_passOne cX7_passOne 3 none :: ((wsX7_passOne_r1 ++ (wsX7_passOne_r2 ++ (wsX7_passOne_r3 ++ (wsX7_passOne_r4 ++ (wsX7_passOne_r5 ++ (wsX7_passOne_r6 ++ wsX7_passOne_r7)))))) ++ wsX70 ++ wsX60 ++ wsX20 ++ wsX10 ++ wsX00 ++ wsX40 ++ wsX50 ++ wsX30)
def wsX7_pass_r1 : List Cond := [Cond.classLink RX7 67 "java/lang/IllegalArgumentException", Cond.initialized "java/lang/IllegalArgumentException", Cond.fieldLink RX7 186 "GelBook" "tick" "I", Cond.methodLink RX7 56 yX7_isWithin, Cond.static yX7_isWithin, Cond.initialized RX7, Cond.code yX7_isWithin cX7_isWithin 3 (some .boolean), Cond.methodLink RX7 200 yX7_passOne, Cond.instanceMethod yX7_passOne, Cond.selects RX7 yX7_passOne yX7_passOne, Cond.code yX7_passOne cX7_passOne 3 none, Cond.fieldLink RX7 35 "GelBook" "live" "LGelBook$Goings;", Cond.fieldLink RX7 45 "GelBook" "waiting" "LGelBook$Waiting;", Cond.fieldLink RX7 269 "GelBook$Waiting" "readyCount" "I", Cond.fieldLink RX7 236 "GelBook" "barredCount" "I", Cond.methodLink RX7 197 yX2_dropOver, Cond.instanceMethod yX2_dropOver, Cond.selects RX2 yX2_dropOver yX2_dropOver, Cond.initialized RX2, Cond.code yX2_dropOver cX2_dropOver 4 none, Cond.fieldLink RX2 18 "GelBook$Goings" "count" "I", Cond.methodLink RX2 22 yX2_at, Cond.instanceMethod yX2_at, Cond.selects RX2 yX2_at yX2_at]
def wsX7_pass_r2 : List Cond := [Cond.code yX2_at cX2_at 2 (some (.object "GelBook$Going")), Cond.fieldLink RX2 11 "GelBook$Goings" "row" "[LGelBook$Going;", Cond.methodLink RX2 49 yX1_isOver, Cond.instanceMethod yX1_isOver, Cond.selects RX1 yX1_isOver yX1_isOver, Cond.initialized RX1, Cond.code yX1_isOver cX1_isOver 2 (some .boolean), Cond.fieldLink RX1 15 "GelBook$Going" "cue" "LGelBook$Cue;", Cond.fieldLink RX1 9 "GelBook$Going" "releasedAt" "I", Cond.fieldLink RX1 26 "GelBook$Cue" "down" "I", Cond.methodLink RX1 22 yX1_isReleased, Cond.instanceMethod yX1_isReleased, Cond.selects RX1 yX1_isReleased yX1_isReleased, Cond.code yX1_isReleased cX1_isReleased 1 (some .boolean), Cond.methodLink RX2 34 yX2_moveLast, Cond.instanceMethod yX2_moveLast, Cond.selects RX2 yX2_moveLast yX2_moveLast, Cond.code yX2_moveLast cX2_moveLast 4 none, Cond.methodLink RX7 266 yX6_takeDue, Cond.instanceMethod yX6_takeDue, Cond.selects RX6 yX6_takeDue yX6_takeDue, Cond.initialized RX6, Cond.code yX6_takeDue cX6_takeDue 4 none, Cond.fieldLink RX6 28 "GelBook$Waiting" "readyCount" "I"]
def wsX7_pass_r3 : List Cond := [Cond.fieldLink RX6 24 "GelBook$Waiting" "count" "I", Cond.fieldLink RX6 11 "GelBook$Waiting" "noted" "[LGelBook$Cue;", Cond.fieldLink RX6 17 "GelBook$Waiting" "dueAt" "[I", Cond.fieldLink RX6 21 "GelBook$Waiting" "ready" "[LGelBook$Cue;", Cond.methodLink RX7 272 yX6_readyAt, Cond.instanceMethod yX6_readyAt, Cond.selects RX6 yX6_readyAt yX6_readyAt, Cond.code yX6_readyAt cX6_readyAt 2 (some (.object "GelBook$Cue")), Cond.methodLink RX7 162 yX7_canGo, Cond.instanceMethod yX7_canGo, Cond.selects RX7 yX7_canGo yX7_canGo, Cond.code yX7_canGo cX7_canGo 3 (some .boolean), Cond.fieldLink RX7 22 "GelBook" "powers" "[I", Cond.methodLink RX7 220 yX7_wattsAsked, Cond.instanceMethod yX7_wattsAsked, Cond.selects RX7 yX7_wattsAsked yX7_wattsAsked, Cond.code yX7_wattsAsked cX7_wattsAsked 6 (some .int), Cond.fieldLink RX7 10 "GelBook" "rig" "LGelBook$Rig;", Cond.fieldLink RX7 240 "GelBook$Lamp" "phase" "I", Cond.fieldLink RX7 243 "GelBook$Lamp" "watts" "I", Cond.methodLink RX7 252 Lib.Math.max.name, Cond.static Lib.Math.max.name, Cond.initialized "java/lang/Math", Cond.code Lib.Math.max.name Lib.Math.max.code 2 (some .int)]
def wsX7_pass_r4 : List Cond := [Cond.methodLink RX7 95 yX5_lampAt, Cond.instanceMethod yX5_lampAt, Cond.selects RX5 yX5_lampAt yX5_lampAt, Cond.initialized RX5, Cond.code yX5_lampAt cX5_lampAt 2 (some (.object "GelBook$Lamp")), Cond.fieldLink RX5 11 "GelBook$Rig" "lamps" "[LGelBook$Lamp;", Cond.methodLink RX7 246 yX0_levelFor, Cond.instanceMethod yX0_levelFor, Cond.selects RX0 yX0_levelFor yX0_levelFor, Cond.initialized RX0, Cond.code yX0_levelFor cX0_levelFor 2 (some .int), Cond.fieldLink RX0 31 "GelBook$Cue" "levels" "[I", Cond.methodLink RX7 249 yX2_greatestUnreleased, Cond.instanceMethod yX2_greatestUnreleased, Cond.selects RX2 yX2_greatestUnreleased yX2_greatestUnreleased, Cond.code yX2_greatestUnreleased cX2_greatestUnreleased 5 (some .int), Cond.methodLink RX2 61 Lib.Math.max.name, Cond.methodLink RX2 53 yX1_isReleased, Cond.methodLink RX2 57 yX1_levelFor, Cond.instanceMethod yX1_levelFor, Cond.selects RX1 yX1_levelFor yX1_levelFor, Cond.code yX1_levelFor cX1_levelFor 2 (some .int), Cond.methodLink RX1 34 yX0_levelFor, Cond.methodLink RX7 168 yX7_begin]
def wsX7_pass_r5 : List Cond := [Cond.instanceMethod yX7_begin, Cond.selects RX7 yX7_begin yX7_begin, Cond.code yX7_begin cX7_begin 2 none, Cond.fieldLink RX7 52 "GelBook" "history" "LGelBook$History;", Cond.fieldLink RX7 159 "GelBook$Cue" "number" "I", Cond.fieldLink RX7 152 "GelBook$Cue" "follower" "LGelBook$Cue;", Cond.fieldLink RX7 156 "GelBook$Cue" "delay" "I", Cond.methodLink RX7 257 yX2_begin, Cond.instanceMethod yX2_begin, Cond.selects RX2 yX2_begin yX2_begin, Cond.code yX2_begin cX2_begin 5 none, Cond.methodLink RX2 30 yX2_placeOf, Cond.instanceMethod yX2_placeOf, Cond.selects RX2 yX2_placeOf yX2_placeOf, Cond.code yX2_placeOf cX2_placeOf 4 (some .int), Cond.fieldLink RX2 26 "GelBook$Going" "cue" "LGelBook$Cue;", Cond.methodLink RX2 38 yX1_begin, Cond.instanceMethod yX1_begin, Cond.selects RX1 yX1_begin yX1_begin, Cond.code yX1_begin cX1_begin 3 none, Cond.fieldLink RX1 19 "GelBook$Going" "went" "I", Cond.methodLink RX7 260 yX3_writeGoing, Cond.instanceMethod yX3_writeGoing, Cond.selects RX3 yX3_writeGoing yX3_writeGoing]
def wsX7_pass_r6 : List Cond := [Cond.initialized RX3, Cond.code yX3_writeGoing cX3_writeGoing 4 none, Cond.methodLink RX3 15 yX3_entryFor, Cond.static yX3_entryFor, Cond.code yX3_entryFor cX3_entryFor 3 (some .int), Cond.methodLink RX3 19 yX3_strike, Cond.instanceMethod yX3_strike, Cond.selects RX3 yX3_strike yX3_strike, Cond.code yX3_strike cX3_strike 3 none, Cond.fieldLink RX3 26 "GelBook$History" "count" "I", Cond.methodLink RX3 30 yX3_entryAt, Cond.instanceMethod yX3_entryAt, Cond.selects RX3 yX3_entryAt yX3_entryAt, Cond.code yX3_entryAt cX3_entryAt 2 (some .int), Cond.fieldLink RX3 9 "GelBook$History" "entries" "[I", Cond.methodLink RX3 34 yX3_tickOf, Cond.static yX3_tickOf, Cond.code yX3_tickOf cX3_tickOf 1 (some .int), Cond.methodLink RX3 37 yX3_removeAt, Cond.instanceMethod yX3_removeAt, Cond.selects RX3 yX3_removeAt yX3_removeAt, Cond.code yX3_removeAt cX3_removeAt 3 none, Cond.methodLink RX3 23 yX3_append, Cond.instanceMethod yX3_append]
def wsX7_pass_r7 : List Cond := [Cond.selects RX3 yX3_append yX3_append, Cond.code yX3_append cX3_append 2 none, Cond.constant RX3 40 (122880), Cond.methodLink RX3 41 Lib.Math.min.name, Cond.static Lib.Math.min.name, Cond.code Lib.Math.min.name Lib.Math.min.code 2 (some .int), Cond.methodLink RX3 47 yJ7_copyOf_59c91, Cond.static yJ7_copyOf_59c91, Cond.initialized RJ7, Cond.code yJ7_copyOf_59c91 cJ7_copyOf_59c91 3 (some (.array .int)), Cond.methodLink RJ7 316 ⟨"[I", "clone", "()Ljava/lang/Object;"⟩, Cond.sameMethod "[I" "java/lang/Object" "clone" "()Ljava/lang/Object;", Cond.native ⟨"java/lang/Object", "clone", "()Ljava/lang/Object;"⟩, Cond.instanceMethod ⟨"java/lang/Object", "clone", "()Ljava/lang/Object;"⟩, Cond.selects "[I" ⟨"[I", "clone", "()Ljava/lang/Object;"⟩ ⟨"java/lang/Object", "clone", "()Ljava/lang/Object;"⟩, Cond.classLink RJ7 317 "[I", Cond.arrayClass .int, Cond.methodLink RJ7 304 Lib.Math.min.name, Cond.methodLink RJ7 150 arraycopyName, Cond.native arraycopyName, Cond.static arraycopyName, Cond.initialized "java/lang/System", Cond.methodLink RX7 263 yX6_note, Cond.instanceMethod yX6_note]
def wsX7_pass_r8 : List Cond := [Cond.selects RX6 yX6_note yX6_note, Cond.code yX6_note cX6_note 3 none]
def wsX7_pass : List Cond := .code yX7_pass cX7_pass 3 (some .int) :: ((wsX7_pass_r1 ++ (wsX7_pass_r2 ++ (wsX7_pass_r3 ++ (wsX7_pass_r4 ++ (wsX7_pass_r5 ++ (wsX7_pass_r6 ++ (wsX7_pass_r7 ++ wsX7_pass_r8))))))) ++ wsX70 ++ wsX60 ++ wsX20 ++ wsX10 ++ wsX00 ++ wsX40 ++ wsX50 ++ wsX30 ++ (vx_atS RX7 71 "java/lang/IllegalArgumentException" ["java/lang/RuntimeException", "java/lang/Exception"]).filter goodWord)
def wsX7_bitsOf : List Cond := .code yX7_bitsOf cX7_bitsOf 3 (some .int) :: ([.constantFloat RX7 239 (1258291200)])
def wsX7_levelOf_r1 : List Cond := [Cond.classLink RX7 99 "java/lang/IndexOutOfBoundsException", Cond.initialized "java/lang/IndexOutOfBoundsException", Cond.fieldLink RX7 10 "GelBook" "rig" "LGelBook$Rig;", Cond.fieldLink RX7 35 "GelBook" "live" "LGelBook$Goings;", Cond.fieldLink RX7 186 "GelBook" "tick" "I", Cond.methodLink RX7 95 yX5_lampAt, Cond.instanceMethod yX5_lampAt, Cond.selects RX5 yX5_lampAt yX5_lampAt, Cond.initialized RX5, Cond.code yX5_lampAt cX5_lampAt 2 (some (.object "GelBook$Lamp")), Cond.fieldLink RX5 11 "GelBook$Rig" "lamps" "[LGelBook$Lamp;", Cond.methodLink RX7 203 yX2_mix, Cond.instanceMethod yX2_mix, Cond.selects RX2 yX2_mix yX2_mix, Cond.initialized RX2, Cond.code yX2_mix cX2_mix 7 (some .float), Cond.fieldLink RX2 18 "GelBook$Goings" "count" "I", Cond.methodLink RX2 22 yX2_at, Cond.instanceMethod yX2_at, Cond.selects RX2 yX2_at yX2_at, Cond.code yX2_at cX2_at 2 (some (.object "GelBook$Going")), Cond.fieldLink RX2 11 "GelBook$Goings" "row" "[LGelBook$Going;", Cond.methodLink RX2 67 yX1_isOf, Cond.instanceMethod yX1_isOf]
def wsX7_levelOf_r2 : List Cond := [Cond.selects RX1 yX1_isOf yX1_isOf, Cond.initialized RX1, Cond.code yX1_isOf cX1_isOf 2 (some .boolean), Cond.fieldLink RX1 15 "GelBook$Going" "cue" "LGelBook$Cue;", Cond.fieldLink RX1 31 "GelBook$Cue" "sort" "I", Cond.methodLink RX2 57 yX1_levelFor, Cond.instanceMethod yX1_levelFor, Cond.selects RX1 yX1_levelFor yX1_levelFor, Cond.code yX1_levelFor cX1_levelFor 2 (some .int), Cond.methodLink RX1 34 yX0_levelFor, Cond.instanceMethod yX0_levelFor, Cond.selects RX0 yX0_levelFor yX0_levelFor, Cond.initialized RX0, Cond.code yX0_levelFor cX0_levelFor 2 (some .int), Cond.fieldLink RX0 31 "GelBook$Cue" "levels" "[I", Cond.methodLink RX2 70 yX1_master, Cond.instanceMethod yX1_master, Cond.selects RX1 yX1_master yX1_master, Cond.code yX1_master cX1_master 2 (some .float), Cond.fieldLink RX1 19 "GelBook$Going" "went" "I", Cond.fieldLink RX1 26 "GelBook$Cue" "down" "I", Cond.fieldLink RX1 9 "GelBook$Going" "releasedAt" "I", Cond.methodLink RX1 22 yX1_isReleased, Cond.instanceMethod yX1_isReleased]
def wsX7_levelOf_r3 : List Cond := [Cond.selects RX1 yX1_isReleased yX1_isReleased, Cond.code yX1_isReleased cX1_isReleased 1 (some .boolean), Cond.methodLink RX1 38 yX0_masterRisen, Cond.instanceMethod yX0_masterRisen, Cond.selects RX0 yX0_masterRisen yX0_masterRisen, Cond.code yX0_masterRisen cX0_masterRisen 3 (some .float), Cond.fieldLink RX0 18 "GelBook$Cue" "up" "I", Cond.methodLink RX7 207 yX7_bitsOf, Cond.static yX7_bitsOf, Cond.initialized RX7, Cond.code yX7_bitsOf cX7_bitsOf 3 (some .int), Cond.constantFloat RX7 239 (1258291200)]
def wsX7_levelOf : List Cond := .code yX7_levelOf cX7_levelOf 2 (some .int) :: ((wsX7_levelOf_r1 ++ (wsX7_levelOf_r2 ++ wsX7_levelOf_r3)) ++ wsX70 ++ wsX50 ++ wsX20 ++ wsX10 ++ wsX00 ++ (vx_atS RX7 103 "java/lang/IndexOutOfBoundsException" ["java/lang/RuntimeException", "java/lang/Exception"]).filter goodWord)
def wsX7_retell_r1 : List Cond := [Cond.fieldLink RX7 39 "GelBook" "retold" "LGelBook$Goings;", Cond.fieldLink RX7 52 "GelBook" "history" "LGelBook$History;", Cond.fieldLink RX7 279 "GelBook$History" "count" "I", Cond.fieldLink RX7 186 "GelBook" "tick" "I", Cond.methodLink RX7 276 yX2_clear, Cond.instanceMethod yX2_clear, Cond.selects RX2 yX2_clear yX2_clear, Cond.initialized RX2, Cond.code yX2_clear cX2_clear 1 none, Cond.fieldLink RX2 18 "GelBook$Goings" "count" "I", Cond.methodLink RX7 280 yX3_entryAt, Cond.instanceMethod yX3_entryAt, Cond.selects RX3 yX3_entryAt yX3_entryAt, Cond.initialized RX3, Cond.code yX3_entryAt cX3_entryAt 2 (some .int), Cond.fieldLink RX3 9 "GelBook$History" "entries" "[I", Cond.methodLink RX7 283 yX3_cueOf, Cond.static yX3_cueOf, Cond.code yX3_cueOf cX3_cueOf 1 (some .int), Cond.methodLink RX7 132 yX7_cueAt, Cond.instanceMethod yX7_cueAt, Cond.selects RX7 yX7_cueAt yX7_cueAt, Cond.initialized RX7, Cond.code yX7_cueAt cX7_cueAt 2 (some (.object "GelBook$Cue"))]
def wsX7_retell_r2 : List Cond := [Cond.fieldLink RX7 18 "GelBook" "cues" "[LGelBook$Cue;", Cond.methodLink RX7 286 yX3_isRelease, Cond.static yX3_isRelease, Cond.code yX3_isRelease cX3_isRelease 1 (some .boolean), Cond.methodLink RX7 289 yX3_tickOf, Cond.static yX3_tickOf, Cond.code yX3_tickOf cX3_tickOf 1 (some .int), Cond.methodLink RX7 292 yX2_fall, Cond.instanceMethod yX2_fall, Cond.selects RX2 yX2_fall yX2_fall, Cond.code yX2_fall cX2_fall 4 none, Cond.methodLink RX2 42 yX2_goingOf, Cond.instanceMethod yX2_goingOf, Cond.selects RX2 yX2_goingOf yX2_goingOf, Cond.code yX2_goingOf cX2_goingOf 2 (some (.object "GelBook$Going")), Cond.methodLink RX2 30 yX2_placeOf, Cond.instanceMethod yX2_placeOf, Cond.selects RX2 yX2_placeOf yX2_placeOf, Cond.code yX2_placeOf cX2_placeOf 4 (some .int), Cond.fieldLink RX2 26 "GelBook$Going" "cue" "LGelBook$Cue;", Cond.methodLink RX2 22 yX2_at, Cond.instanceMethod yX2_at, Cond.selects RX2 yX2_at yX2_at, Cond.code yX2_at cX2_at 2 (some (.object "GelBook$Going"))]
def wsX7_retell_r3 : List Cond := [Cond.fieldLink RX2 11 "GelBook$Goings" "row" "[LGelBook$Going;", Cond.methodLink RX2 46 yX1_fall, Cond.instanceMethod yX1_fall, Cond.selects RX1 yX1_fall yX1_fall, Cond.initialized RX1, Cond.code yX1_fall cX1_fall 2 none, Cond.fieldLink RX1 9 "GelBook$Going" "releasedAt" "I", Cond.methodLink RX7 257 yX2_begin, Cond.instanceMethod yX2_begin, Cond.selects RX2 yX2_begin yX2_begin, Cond.code yX2_begin cX2_begin 5 none, Cond.methodLink RX2 34 yX2_moveLast, Cond.instanceMethod yX2_moveLast, Cond.selects RX2 yX2_moveLast yX2_moveLast, Cond.code yX2_moveLast cX2_moveLast 4 none, Cond.methodLink RX2 38 yX1_begin, Cond.instanceMethod yX1_begin, Cond.selects RX1 yX1_begin yX1_begin, Cond.code yX1_begin cX1_begin 3 none, Cond.fieldLink RX1 15 "GelBook$Going" "cue" "LGelBook$Cue;", Cond.fieldLink RX1 19 "GelBook$Going" "went" "I", Cond.methodLink RX7 197 yX2_dropOver, Cond.instanceMethod yX2_dropOver, Cond.selects RX2 yX2_dropOver yX2_dropOver]
def wsX7_retell_r4 : List Cond := [Cond.code yX2_dropOver cX2_dropOver 4 none, Cond.methodLink RX2 49 yX1_isOver, Cond.instanceMethod yX1_isOver, Cond.selects RX1 yX1_isOver yX1_isOver, Cond.code yX1_isOver cX1_isOver 2 (some .boolean), Cond.fieldLink RX1 26 "GelBook$Cue" "down" "I", Cond.methodLink RX1 22 yX1_isReleased, Cond.instanceMethod yX1_isReleased, Cond.selects RX1 yX1_isReleased yX1_isReleased, Cond.code yX1_isReleased cX1_isReleased 1 (some .boolean)]
def wsX7_retell : List Cond := .code yX7_retell cX7_retell 4 none :: ((wsX7_retell_r1 ++ (wsX7_retell_r2 ++ (wsX7_retell_r3 ++ wsX7_retell_r4))) ++ wsX70 ++ wsX30 ++ wsX20 ++ wsX10 ++ wsX00)
def wsX7_levelAnew_r1 : List Cond := [Cond.classLink RX7 99 "java/lang/IndexOutOfBoundsException", Cond.initialized "java/lang/IndexOutOfBoundsException", Cond.fieldLink RX7 10 "GelBook" "rig" "LGelBook$Rig;", Cond.fieldLink RX7 39 "GelBook" "retold" "LGelBook$Goings;", Cond.fieldLink RX7 186 "GelBook" "tick" "I", Cond.methodLink RX7 95 yX5_lampAt, Cond.instanceMethod yX5_lampAt, Cond.selects RX5 yX5_lampAt yX5_lampAt, Cond.initialized RX5, Cond.code yX5_lampAt cX5_lampAt 2 (some (.object "GelBook$Lamp")), Cond.fieldLink RX5 11 "GelBook$Rig" "lamps" "[LGelBook$Lamp;", Cond.methodLink RX7 211 yX7_retell, Cond.instanceMethod yX7_retell, Cond.selects RX7 yX7_retell yX7_retell, Cond.initialized RX7, Cond.code yX7_retell cX7_retell 4 none, Cond.fieldLink RX7 52 "GelBook" "history" "LGelBook$History;", Cond.fieldLink RX7 279 "GelBook$History" "count" "I", Cond.methodLink RX7 276 yX2_clear, Cond.instanceMethod yX2_clear, Cond.selects RX2 yX2_clear yX2_clear, Cond.initialized RX2, Cond.code yX2_clear cX2_clear 1 none, Cond.fieldLink RX2 18 "GelBook$Goings" "count" "I"]
def wsX7_levelAnew_r2 : List Cond := [Cond.methodLink RX7 280 yX3_entryAt, Cond.instanceMethod yX3_entryAt, Cond.selects RX3 yX3_entryAt yX3_entryAt, Cond.initialized RX3, Cond.code yX3_entryAt cX3_entryAt 2 (some .int), Cond.fieldLink RX3 9 "GelBook$History" "entries" "[I", Cond.methodLink RX7 283 yX3_cueOf, Cond.static yX3_cueOf, Cond.code yX3_cueOf cX3_cueOf 1 (some .int), Cond.methodLink RX7 132 yX7_cueAt, Cond.instanceMethod yX7_cueAt, Cond.selects RX7 yX7_cueAt yX7_cueAt, Cond.code yX7_cueAt cX7_cueAt 2 (some (.object "GelBook$Cue")), Cond.fieldLink RX7 18 "GelBook" "cues" "[LGelBook$Cue;", Cond.methodLink RX7 286 yX3_isRelease, Cond.static yX3_isRelease, Cond.code yX3_isRelease cX3_isRelease 1 (some .boolean), Cond.methodLink RX7 289 yX3_tickOf, Cond.static yX3_tickOf, Cond.code yX3_tickOf cX3_tickOf 1 (some .int), Cond.methodLink RX7 292 yX2_fall, Cond.instanceMethod yX2_fall, Cond.selects RX2 yX2_fall yX2_fall, Cond.code yX2_fall cX2_fall 4 none]
def wsX7_levelAnew_r3 : List Cond := [Cond.methodLink RX2 42 yX2_goingOf, Cond.instanceMethod yX2_goingOf, Cond.selects RX2 yX2_goingOf yX2_goingOf, Cond.code yX2_goingOf cX2_goingOf 2 (some (.object "GelBook$Going")), Cond.methodLink RX2 30 yX2_placeOf, Cond.instanceMethod yX2_placeOf, Cond.selects RX2 yX2_placeOf yX2_placeOf, Cond.code yX2_placeOf cX2_placeOf 4 (some .int), Cond.fieldLink RX2 26 "GelBook$Going" "cue" "LGelBook$Cue;", Cond.methodLink RX2 22 yX2_at, Cond.instanceMethod yX2_at, Cond.selects RX2 yX2_at yX2_at, Cond.code yX2_at cX2_at 2 (some (.object "GelBook$Going")), Cond.fieldLink RX2 11 "GelBook$Goings" "row" "[LGelBook$Going;", Cond.methodLink RX2 46 yX1_fall, Cond.instanceMethod yX1_fall, Cond.selects RX1 yX1_fall yX1_fall, Cond.initialized RX1, Cond.code yX1_fall cX1_fall 2 none, Cond.fieldLink RX1 9 "GelBook$Going" "releasedAt" "I", Cond.methodLink RX7 257 yX2_begin, Cond.instanceMethod yX2_begin, Cond.selects RX2 yX2_begin yX2_begin, Cond.code yX2_begin cX2_begin 5 none]
def wsX7_levelAnew_r4 : List Cond := [Cond.methodLink RX2 34 yX2_moveLast, Cond.instanceMethod yX2_moveLast, Cond.selects RX2 yX2_moveLast yX2_moveLast, Cond.code yX2_moveLast cX2_moveLast 4 none, Cond.methodLink RX2 38 yX1_begin, Cond.instanceMethod yX1_begin, Cond.selects RX1 yX1_begin yX1_begin, Cond.code yX1_begin cX1_begin 3 none, Cond.fieldLink RX1 15 "GelBook$Going" "cue" "LGelBook$Cue;", Cond.fieldLink RX1 19 "GelBook$Going" "went" "I", Cond.methodLink RX7 197 yX2_dropOver, Cond.instanceMethod yX2_dropOver, Cond.selects RX2 yX2_dropOver yX2_dropOver, Cond.code yX2_dropOver cX2_dropOver 4 none, Cond.methodLink RX2 49 yX1_isOver, Cond.instanceMethod yX1_isOver, Cond.selects RX1 yX1_isOver yX1_isOver, Cond.code yX1_isOver cX1_isOver 2 (some .boolean), Cond.fieldLink RX1 26 "GelBook$Cue" "down" "I", Cond.methodLink RX1 22 yX1_isReleased, Cond.instanceMethod yX1_isReleased, Cond.selects RX1 yX1_isReleased yX1_isReleased, Cond.code yX1_isReleased cX1_isReleased 1 (some .boolean), Cond.methodLink RX7 203 yX2_mix]
def wsX7_levelAnew_r5 : List Cond := [Cond.instanceMethod yX2_mix, Cond.selects RX2 yX2_mix yX2_mix, Cond.code yX2_mix cX2_mix 7 (some .float), Cond.methodLink RX2 67 yX1_isOf, Cond.instanceMethod yX1_isOf, Cond.selects RX1 yX1_isOf yX1_isOf, Cond.code yX1_isOf cX1_isOf 2 (some .boolean), Cond.fieldLink RX1 31 "GelBook$Cue" "sort" "I", Cond.methodLink RX2 57 yX1_levelFor, Cond.instanceMethod yX1_levelFor, Cond.selects RX1 yX1_levelFor yX1_levelFor, Cond.code yX1_levelFor cX1_levelFor 2 (some .int), Cond.methodLink RX1 34 yX0_levelFor, Cond.instanceMethod yX0_levelFor, Cond.selects RX0 yX0_levelFor yX0_levelFor, Cond.initialized RX0, Cond.code yX0_levelFor cX0_levelFor 2 (some .int), Cond.fieldLink RX0 31 "GelBook$Cue" "levels" "[I", Cond.methodLink RX2 70 yX1_master, Cond.instanceMethod yX1_master, Cond.selects RX1 yX1_master yX1_master, Cond.code yX1_master cX1_master 2 (some .float), Cond.methodLink RX1 38 yX0_masterRisen, Cond.instanceMethod yX0_masterRisen]
def wsX7_levelAnew_r6 : List Cond := [Cond.selects RX0 yX0_masterRisen yX0_masterRisen, Cond.code yX0_masterRisen cX0_masterRisen 3 (some .float), Cond.fieldLink RX0 18 "GelBook$Cue" "up" "I", Cond.methodLink RX7 207 yX7_bitsOf, Cond.static yX7_bitsOf, Cond.code yX7_bitsOf cX7_bitsOf 3 (some .int), Cond.constantFloat RX7 239 (1258291200)]
def wsX7_levelAnew : List Cond := .code yX7_levelAnew cX7_levelAnew 2 (some .int) :: ((wsX7_levelAnew_r1 ++ (wsX7_levelAnew_r2 ++ (wsX7_levelAnew_r3 ++ (wsX7_levelAnew_r4 ++ (wsX7_levelAnew_r5 ++ wsX7_levelAnew_r6))))) ++ wsX70 ++ wsX50 ++ wsX30 ++ wsX20 ++ wsX10 ++ wsX00 ++ (vx_atS RX7 103 "java/lang/IndexOutOfBoundsException" ["java/lang/RuntimeException", "java/lang/Exception"]).filter goodWord)
def wsX7_loadNow_r1 : List Cond := [Cond.fieldLink RX7 10 "GelBook" "rig" "LGelBook$Rig;", Cond.fieldLink RX7 240 "GelBook$Lamp" "phase" "I", Cond.fieldLink RX7 243 "GelBook$Lamp" "watts" "I", Cond.fieldLink RX7 35 "GelBook" "live" "LGelBook$Goings;", Cond.fieldLink RX7 186 "GelBook" "tick" "I", Cond.constantFloat RX7 275 (1120403456), Cond.methodLink RX7 95 yX5_lampAt, Cond.instanceMethod yX5_lampAt, Cond.selects RX5 yX5_lampAt yX5_lampAt, Cond.initialized RX5, Cond.code yX5_lampAt cX5_lampAt 2 (some (.object "GelBook$Lamp")), Cond.fieldLink RX5 11 "GelBook$Rig" "lamps" "[LGelBook$Lamp;", Cond.methodLink RX7 203 yX2_mix, Cond.instanceMethod yX2_mix, Cond.selects RX2 yX2_mix yX2_mix, Cond.initialized RX2, Cond.code yX2_mix cX2_mix 7 (some .float), Cond.fieldLink RX2 18 "GelBook$Goings" "count" "I", Cond.methodLink RX2 22 yX2_at, Cond.instanceMethod yX2_at, Cond.selects RX2 yX2_at yX2_at, Cond.code yX2_at cX2_at 2 (some (.object "GelBook$Going")), Cond.fieldLink RX2 11 "GelBook$Goings" "row" "[LGelBook$Going;", Cond.methodLink RX2 67 yX1_isOf]
def wsX7_loadNow_r2 : List Cond := [Cond.instanceMethod yX1_isOf, Cond.selects RX1 yX1_isOf yX1_isOf, Cond.initialized RX1, Cond.code yX1_isOf cX1_isOf 2 (some .boolean), Cond.fieldLink RX1 15 "GelBook$Going" "cue" "LGelBook$Cue;", Cond.fieldLink RX1 31 "GelBook$Cue" "sort" "I", Cond.methodLink RX2 57 yX1_levelFor, Cond.instanceMethod yX1_levelFor, Cond.selects RX1 yX1_levelFor yX1_levelFor, Cond.code yX1_levelFor cX1_levelFor 2 (some .int), Cond.methodLink RX1 34 yX0_levelFor, Cond.instanceMethod yX0_levelFor, Cond.selects RX0 yX0_levelFor yX0_levelFor, Cond.initialized RX0, Cond.code yX0_levelFor cX0_levelFor 2 (some .int), Cond.fieldLink RX0 31 "GelBook$Cue" "levels" "[I", Cond.methodLink RX2 70 yX1_master, Cond.instanceMethod yX1_master, Cond.selects RX1 yX1_master yX1_master, Cond.code yX1_master cX1_master 2 (some .float), Cond.fieldLink RX1 19 "GelBook$Going" "went" "I", Cond.fieldLink RX1 26 "GelBook$Cue" "down" "I", Cond.fieldLink RX1 9 "GelBook$Going" "releasedAt" "I", Cond.methodLink RX1 22 yX1_isReleased]
def wsX7_loadNow_r3 : List Cond := [Cond.instanceMethod yX1_isReleased, Cond.selects RX1 yX1_isReleased yX1_isReleased, Cond.code yX1_isReleased cX1_isReleased 1 (some .boolean), Cond.methodLink RX1 38 yX0_masterRisen, Cond.instanceMethod yX0_masterRisen, Cond.selects RX0 yX0_masterRisen yX0_masterRisen, Cond.code yX0_masterRisen cX0_masterRisen 3 (some .float), Cond.fieldLink RX0 18 "GelBook$Cue" "up" "I"]
def wsX7_loadNow : List Cond := .code yX7_loadNow cX7_loadNow 5 (some .float) :: ((wsX7_loadNow_r1 ++ (wsX7_loadNow_r2 ++ wsX7_loadNow_r3)) ++ wsX70 ++ wsX40 ++ wsX50 ++ wsX20 ++ wsX10 ++ wsX00)
def wsX7_loadOf_r1 : List Cond := [Cond.classLink RX7 99 "java/lang/IndexOutOfBoundsException", Cond.initialized "java/lang/IndexOutOfBoundsException", Cond.methodLink RX7 64 yX7_isPhase, Cond.static yX7_isPhase, Cond.initialized RX7, Cond.code yX7_isPhase cX7_isPhase 1 (some .boolean), Cond.methodLink RX7 56 yX7_isWithin, Cond.static yX7_isWithin, Cond.code yX7_isWithin cX7_isWithin 3 (some .boolean), Cond.methodLink RX7 214 yX7_loadNow, Cond.instanceMethod yX7_loadNow, Cond.selects RX7 yX7_loadNow yX7_loadNow, Cond.code yX7_loadNow cX7_loadNow 5 (some .float), Cond.fieldLink RX7 10 "GelBook" "rig" "LGelBook$Rig;", Cond.fieldLink RX7 240 "GelBook$Lamp" "phase" "I", Cond.fieldLink RX7 243 "GelBook$Lamp" "watts" "I", Cond.fieldLink RX7 35 "GelBook" "live" "LGelBook$Goings;", Cond.fieldLink RX7 186 "GelBook" "tick" "I", Cond.constantFloat RX7 275 (1120403456), Cond.methodLink RX7 95 yX5_lampAt, Cond.instanceMethod yX5_lampAt, Cond.selects RX5 yX5_lampAt yX5_lampAt, Cond.initialized RX5, Cond.code yX5_lampAt cX5_lampAt 2 (some (.object "GelBook$Lamp"))]
def wsX7_loadOf_r2 : List Cond := [Cond.fieldLink RX5 11 "GelBook$Rig" "lamps" "[LGelBook$Lamp;", Cond.methodLink RX7 203 yX2_mix, Cond.instanceMethod yX2_mix, Cond.selects RX2 yX2_mix yX2_mix, Cond.initialized RX2, Cond.code yX2_mix cX2_mix 7 (some .float), Cond.fieldLink RX2 18 "GelBook$Goings" "count" "I", Cond.methodLink RX2 22 yX2_at, Cond.instanceMethod yX2_at, Cond.selects RX2 yX2_at yX2_at, Cond.code yX2_at cX2_at 2 (some (.object "GelBook$Going")), Cond.fieldLink RX2 11 "GelBook$Goings" "row" "[LGelBook$Going;", Cond.methodLink RX2 67 yX1_isOf, Cond.instanceMethod yX1_isOf, Cond.selects RX1 yX1_isOf yX1_isOf, Cond.initialized RX1, Cond.code yX1_isOf cX1_isOf 2 (some .boolean), Cond.fieldLink RX1 15 "GelBook$Going" "cue" "LGelBook$Cue;", Cond.fieldLink RX1 31 "GelBook$Cue" "sort" "I", Cond.methodLink RX2 57 yX1_levelFor, Cond.instanceMethod yX1_levelFor, Cond.selects RX1 yX1_levelFor yX1_levelFor, Cond.code yX1_levelFor cX1_levelFor 2 (some .int), Cond.methodLink RX1 34 yX0_levelFor]
def wsX7_loadOf_r3 : List Cond := [Cond.instanceMethod yX0_levelFor, Cond.selects RX0 yX0_levelFor yX0_levelFor, Cond.initialized RX0, Cond.code yX0_levelFor cX0_levelFor 2 (some .int), Cond.fieldLink RX0 31 "GelBook$Cue" "levels" "[I", Cond.methodLink RX2 70 yX1_master, Cond.instanceMethod yX1_master, Cond.selects RX1 yX1_master yX1_master, Cond.code yX1_master cX1_master 2 (some .float), Cond.fieldLink RX1 19 "GelBook$Going" "went" "I", Cond.fieldLink RX1 26 "GelBook$Cue" "down" "I", Cond.fieldLink RX1 9 "GelBook$Going" "releasedAt" "I", Cond.methodLink RX1 22 yX1_isReleased, Cond.instanceMethod yX1_isReleased, Cond.selects RX1 yX1_isReleased yX1_isReleased, Cond.code yX1_isReleased cX1_isReleased 1 (some .boolean), Cond.methodLink RX1 38 yX0_masterRisen, Cond.instanceMethod yX0_masterRisen, Cond.selects RX0 yX0_masterRisen yX0_masterRisen, Cond.code yX0_masterRisen cX0_masterRisen 3 (some .float), Cond.fieldLink RX0 18 "GelBook$Cue" "up" "I", Cond.methodLink RX7 207 yX7_bitsOf, Cond.static yX7_bitsOf, Cond.code yX7_bitsOf cX7_bitsOf 3 (some .int)]
def wsX7_loadOf_r4 : List Cond := [Cond.constantFloat RX7 239 (1258291200)]
def wsX7_loadOf : List Cond := .code yX7_loadOf cX7_loadOf 2 (some .int) :: ((wsX7_loadOf_r1 ++ (wsX7_loadOf_r2 ++ (wsX7_loadOf_r3 ++ wsX7_loadOf_r4))) ++ wsX70 ++ wsX40 ++ wsX50 ++ wsX20 ++ wsX10 ++ wsX00 ++ (vx_atS RX7 103 "java/lang/IndexOutOfBoundsException" ["java/lang/RuntimeException", "java/lang/Exception"]).filter goodWord)
def wsX7_watts_r1 : List Cond := [Cond.classLink RX7 99 "java/lang/IndexOutOfBoundsException", Cond.initialized "java/lang/IndexOutOfBoundsException", Cond.methodLink RX7 64 yX7_isPhase, Cond.static yX7_isPhase, Cond.initialized RX7, Cond.code yX7_isPhase cX7_isPhase 1 (some .boolean), Cond.methodLink RX7 56 yX7_isWithin, Cond.static yX7_isWithin, Cond.code yX7_isWithin cX7_isWithin 3 (some .boolean), Cond.methodLink RX7 214 yX7_loadNow, Cond.instanceMethod yX7_loadNow, Cond.selects RX7 yX7_loadNow yX7_loadNow, Cond.code yX7_loadNow cX7_loadNow 5 (some .float), Cond.fieldLink RX7 10 "GelBook" "rig" "LGelBook$Rig;", Cond.fieldLink RX7 240 "GelBook$Lamp" "phase" "I", Cond.fieldLink RX7 243 "GelBook$Lamp" "watts" "I", Cond.fieldLink RX7 35 "GelBook" "live" "LGelBook$Goings;", Cond.fieldLink RX7 186 "GelBook" "tick" "I", Cond.constantFloat RX7 275 (1120403456), Cond.methodLink RX7 95 yX5_lampAt, Cond.instanceMethod yX5_lampAt, Cond.selects RX5 yX5_lampAt yX5_lampAt, Cond.initialized RX5, Cond.code yX5_lampAt cX5_lampAt 2 (some (.object "GelBook$Lamp"))]
def wsX7_watts_r2 : List Cond := [Cond.fieldLink RX5 11 "GelBook$Rig" "lamps" "[LGelBook$Lamp;", Cond.methodLink RX7 203 yX2_mix, Cond.instanceMethod yX2_mix, Cond.selects RX2 yX2_mix yX2_mix, Cond.initialized RX2, Cond.code yX2_mix cX2_mix 7 (some .float), Cond.fieldLink RX2 18 "GelBook$Goings" "count" "I", Cond.methodLink RX2 22 yX2_at, Cond.instanceMethod yX2_at, Cond.selects RX2 yX2_at yX2_at, Cond.code yX2_at cX2_at 2 (some (.object "GelBook$Going")), Cond.fieldLink RX2 11 "GelBook$Goings" "row" "[LGelBook$Going;", Cond.methodLink RX2 67 yX1_isOf, Cond.instanceMethod yX1_isOf, Cond.selects RX1 yX1_isOf yX1_isOf, Cond.initialized RX1, Cond.code yX1_isOf cX1_isOf 2 (some .boolean), Cond.fieldLink RX1 15 "GelBook$Going" "cue" "LGelBook$Cue;", Cond.fieldLink RX1 31 "GelBook$Cue" "sort" "I", Cond.methodLink RX2 57 yX1_levelFor, Cond.instanceMethod yX1_levelFor, Cond.selects RX1 yX1_levelFor yX1_levelFor, Cond.code yX1_levelFor cX1_levelFor 2 (some .int), Cond.methodLink RX1 34 yX0_levelFor]
def wsX7_watts_r3 : List Cond := [Cond.instanceMethod yX0_levelFor, Cond.selects RX0 yX0_levelFor yX0_levelFor, Cond.initialized RX0, Cond.code yX0_levelFor cX0_levelFor 2 (some .int), Cond.fieldLink RX0 31 "GelBook$Cue" "levels" "[I", Cond.methodLink RX2 70 yX1_master, Cond.instanceMethod yX1_master, Cond.selects RX1 yX1_master yX1_master, Cond.code yX1_master cX1_master 2 (some .float), Cond.fieldLink RX1 19 "GelBook$Going" "went" "I", Cond.fieldLink RX1 26 "GelBook$Cue" "down" "I", Cond.fieldLink RX1 9 "GelBook$Going" "releasedAt" "I", Cond.methodLink RX1 22 yX1_isReleased, Cond.instanceMethod yX1_isReleased, Cond.selects RX1 yX1_isReleased yX1_isReleased, Cond.code yX1_isReleased cX1_isReleased 1 (some .boolean), Cond.methodLink RX1 38 yX0_masterRisen, Cond.instanceMethod yX0_masterRisen, Cond.selects RX0 yX0_masterRisen yX0_masterRisen, Cond.code yX0_masterRisen cX0_masterRisen 3 (some .float), Cond.fieldLink RX0 18 "GelBook$Cue" "up" "I"]
def wsX7_watts : List Cond := .code yX7_watts cX7_watts 2 (some .int) :: ((wsX7_watts_r1 ++ (wsX7_watts_r2 ++ wsX7_watts_r3)) ++ wsX70 ++ wsX40 ++ wsX50 ++ wsX20 ++ wsX10 ++ wsX00 ++ (vx_atS RX7 103 "java/lang/IndexOutOfBoundsException" ["java/lang/RuntimeException", "java/lang/Exception"]).filter goodWord)
def wsX7_asks_r1 : List Cond := [Cond.classLink RX7 99 "java/lang/IndexOutOfBoundsException", Cond.initialized "java/lang/IndexOutOfBoundsException", Cond.methodLink RX7 132 yX7_cueAt, Cond.instanceMethod yX7_cueAt, Cond.selects RX7 yX7_cueAt yX7_cueAt, Cond.initialized RX7, Cond.code yX7_cueAt cX7_cueAt 2 (some (.object "GelBook$Cue")), Cond.fieldLink RX7 18 "GelBook" "cues" "[LGelBook$Cue;", Cond.methodLink RX7 64 yX7_isPhase, Cond.static yX7_isPhase, Cond.code yX7_isPhase cX7_isPhase 1 (some .boolean), Cond.methodLink RX7 56 yX7_isWithin, Cond.static yX7_isWithin, Cond.code yX7_isWithin cX7_isWithin 3 (some .boolean), Cond.methodLink RX7 220 yX7_wattsAsked, Cond.instanceMethod yX7_wattsAsked, Cond.selects RX7 yX7_wattsAsked yX7_wattsAsked, Cond.code yX7_wattsAsked cX7_wattsAsked 6 (some .int), Cond.fieldLink RX7 10 "GelBook" "rig" "LGelBook$Rig;", Cond.fieldLink RX7 240 "GelBook$Lamp" "phase" "I", Cond.fieldLink RX7 243 "GelBook$Lamp" "watts" "I", Cond.fieldLink RX7 35 "GelBook" "live" "LGelBook$Goings;", Cond.methodLink RX7 252 Lib.Math.max.name, Cond.static Lib.Math.max.name]
def wsX7_asks_r2 : List Cond := [Cond.initialized "java/lang/Math", Cond.code Lib.Math.max.name Lib.Math.max.code 2 (some .int), Cond.methodLink RX7 95 yX5_lampAt, Cond.instanceMethod yX5_lampAt, Cond.selects RX5 yX5_lampAt yX5_lampAt, Cond.initialized RX5, Cond.code yX5_lampAt cX5_lampAt 2 (some (.object "GelBook$Lamp")), Cond.fieldLink RX5 11 "GelBook$Rig" "lamps" "[LGelBook$Lamp;", Cond.methodLink RX7 246 yX0_levelFor, Cond.instanceMethod yX0_levelFor, Cond.selects RX0 yX0_levelFor yX0_levelFor, Cond.initialized RX0, Cond.code yX0_levelFor cX0_levelFor 2 (some .int), Cond.fieldLink RX0 31 "GelBook$Cue" "levels" "[I", Cond.methodLink RX7 249 yX2_greatestUnreleased, Cond.instanceMethod yX2_greatestUnreleased, Cond.selects RX2 yX2_greatestUnreleased yX2_greatestUnreleased, Cond.initialized RX2, Cond.code yX2_greatestUnreleased cX2_greatestUnreleased 5 (some .int), Cond.fieldLink RX2 18 "GelBook$Goings" "count" "I", Cond.methodLink RX2 61 Lib.Math.max.name, Cond.methodLink RX2 22 yX2_at, Cond.instanceMethod yX2_at, Cond.selects RX2 yX2_at yX2_at]
def wsX7_asks_r3 : List Cond := [Cond.code yX2_at cX2_at 2 (some (.object "GelBook$Going")), Cond.fieldLink RX2 11 "GelBook$Goings" "row" "[LGelBook$Going;", Cond.methodLink RX2 53 yX1_isReleased, Cond.instanceMethod yX1_isReleased, Cond.selects RX1 yX1_isReleased yX1_isReleased, Cond.initialized RX1, Cond.code yX1_isReleased cX1_isReleased 1 (some .boolean), Cond.fieldLink RX1 9 "GelBook$Going" "releasedAt" "I", Cond.methodLink RX2 57 yX1_levelFor, Cond.instanceMethod yX1_levelFor, Cond.selects RX1 yX1_levelFor yX1_levelFor, Cond.code yX1_levelFor cX1_levelFor 2 (some .int), Cond.fieldLink RX1 15 "GelBook$Going" "cue" "LGelBook$Cue;", Cond.methodLink RX1 34 yX0_levelFor]
def wsX7_asks : List Cond := .code yX7_asks cX7_asks 4 (some .int) :: ((wsX7_asks_r1 ++ (wsX7_asks_r2 ++ wsX7_asks_r3)) ++ wsX70 ++ wsX40 ++ wsX50 ++ wsX00 ++ wsX20 ++ wsX10 ++ (vx_atS RX7 103 "java/lang/IndexOutOfBoundsException" ["java/lang/RuntimeException", "java/lang/Exception"]).filter goodWord)
def wsX7_shines : List Cond := .code yX7_shines cX7_shines 4 (some .int) :: ([.classLink RX7 99 "java/lang/IndexOutOfBoundsException", .initialized "java/lang/IndexOutOfBoundsException", .fieldLink RX7 10 "GelBook" "rig" "LGelBook$Rig;", .methodLink RX7 132 yX7_cueAt, .instanceMethod yX7_cueAt, .selects RX7 yX7_cueAt yX7_cueAt, .initialized RX7, .code yX7_cueAt cX7_cueAt 2 (some (.object "GelBook$Cue")), .fieldLink RX7 18 "GelBook" "cues" "[LGelBook$Cue;", .methodLink RX7 95 yX5_lampAt, .instanceMethod yX5_lampAt, .selects RX5 yX5_lampAt yX5_lampAt, .initialized RX5, .code yX5_lampAt cX5_lampAt 2 (some (.object "GelBook$Lamp")), .fieldLink RX5 11 "GelBook$Rig" "lamps" "[LGelBook$Lamp;", .methodLink RX7 224 yX0_shinerFor, .instanceMethod yX0_shinerFor, .selects RX0 yX0_shinerFor yX0_shinerFor, .initialized RX0, .code yX0_shinerFor cX0_shinerFor 2 (some .int), .fieldLink RX0 28 "GelBook$Cue" "shiners" "[I"] ++ wsX70 ++ wsX50 ++ wsX00 ++ (vx_atS RX7 103 "java/lang/IndexOutOfBoundsException" ["java/lang/RuntimeException", "java/lang/Exception"]).filter goodWord)
def wsX7_playing_r1 : List Cond := [Cond.classLink RX7 99 "java/lang/IndexOutOfBoundsException", Cond.initialized "java/lang/IndexOutOfBoundsException", Cond.classLink RX7 67 "java/lang/IllegalArgumentException", Cond.initialized "java/lang/IllegalArgumentException", Cond.fieldLink RX7 35 "GelBook" "live" "LGelBook$Goings;", Cond.fieldLink RX7 230 "GelBook$Going" "went" "I", Cond.fieldLink RX7 186 "GelBook" "tick" "I", Cond.methodLink RX7 132 yX7_cueAt, Cond.instanceMethod yX7_cueAt, Cond.selects RX7 yX7_cueAt yX7_cueAt, Cond.initialized RX7, Cond.code yX7_cueAt cX7_cueAt 2 (some (.object "GelBook$Cue")), Cond.fieldLink RX7 18 "GelBook" "cues" "[LGelBook$Cue;", Cond.methodLink RX7 56 yX7_isWithin, Cond.static yX7_isWithin, Cond.code yX7_isWithin cX7_isWithin 3 (some .boolean), Cond.methodLink RX7 175 yX2_goingOf, Cond.instanceMethod yX2_goingOf, Cond.selects RX2 yX2_goingOf yX2_goingOf, Cond.initialized RX2, Cond.code yX2_goingOf cX2_goingOf 2 (some (.object "GelBook$Going")), Cond.methodLink RX2 30 yX2_placeOf, Cond.instanceMethod yX2_placeOf, Cond.selects RX2 yX2_placeOf yX2_placeOf]
def wsX7_playing_r2 : List Cond := [Cond.code yX2_placeOf cX2_placeOf 4 (some .int), Cond.fieldLink RX2 18 "GelBook$Goings" "count" "I", Cond.fieldLink RX2 26 "GelBook$Going" "cue" "LGelBook$Cue;", Cond.methodLink RX2 22 yX2_at, Cond.instanceMethod yX2_at, Cond.selects RX2 yX2_at yX2_at, Cond.code yX2_at cX2_at 2 (some (.object "GelBook$Going")), Cond.fieldLink RX2 11 "GelBook$Goings" "row" "[LGelBook$Going;", Cond.methodLink RX7 179 yX1_isReleased, Cond.instanceMethod yX1_isReleased, Cond.selects RX1 yX1_isReleased yX1_isReleased, Cond.initialized RX1, Cond.code yX1_isReleased cX1_isReleased 1 (some .boolean), Cond.fieldLink RX1 9 "GelBook$Going" "releasedAt" "I", Cond.methodLink RX7 233 yX1_master, Cond.instanceMethod yX1_master, Cond.selects RX1 yX1_master yX1_master, Cond.code yX1_master cX1_master 2 (some .float), Cond.fieldLink RX1 15 "GelBook$Going" "cue" "LGelBook$Cue;", Cond.fieldLink RX1 19 "GelBook$Going" "went" "I", Cond.fieldLink RX1 26 "GelBook$Cue" "down" "I", Cond.methodLink RX1 22 yX1_isReleased, Cond.methodLink RX1 38 yX0_masterRisen, Cond.instanceMethod yX0_masterRisen]
def wsX7_playing_r3 : List Cond := [Cond.selects RX0 yX0_masterRisen yX0_masterRisen, Cond.initialized RX0, Cond.code yX0_masterRisen cX0_masterRisen 3 (some .float), Cond.fieldLink RX0 18 "GelBook$Cue" "up" "I", Cond.methodLink RX7 207 yX7_bitsOf, Cond.static yX7_bitsOf, Cond.code yX7_bitsOf cX7_bitsOf 3 (some .int), Cond.constantFloat RX7 239 (1258291200)]
def wsX7_playing : List Cond := .code yX7_playing cX7_playing 5 (some .int) :: ((wsX7_playing_r1 ++ (wsX7_playing_r2 ++ wsX7_playing_r3)) ++ wsX70 ++ wsX10 ++ wsX20 ++ wsX00 ++ (vx_atS RX7 103 "java/lang/IndexOutOfBoundsException" ["java/lang/RuntimeException", "java/lang/Exception"]).filter goodWord ++ (vx_atS RX7 71 "java/lang/IllegalArgumentException" ["java/lang/RuntimeException", "java/lang/Exception"]).filter goodWord)
def wsX7_barred : List Cond := .code yX7_barred cX7_barred 1 (some .int) :: ([.fieldLink RX7 236 "GelBook" "barredCount" "I"] ++ wsX70)
def wsX8_init_r1 : List Cond := [Cond.methodLink RX8 1 objectInit, Cond.instanceMethod objectInit, Cond.code objectInit ⟨#[0xb1]⟩ 1 none, Cond.arrayClass .int, Cond.fieldLink RX8 7 "GelBookModel" "bar" "[I", Cond.fieldLink RX8 13 "GelBookModel" "position" "[I", Cond.fieldLink RX8 16 "GelBookModel" "gel" "[I", Cond.fieldLink RX8 19 "GelBookModel" "watts" "[I", Cond.fieldLink RX8 22 "GelBookModel" "phase" "[I", Cond.arrayClass .boolean, Cond.fieldLink RX8 25 "GelBookModel" "isDead" "[Z", Cond.fieldLink RX8 29 "GelBookModel" "bars" "I", Cond.fieldLink RX8 33 "GelBookModel" "power" "[I", Cond.fieldLink RX8 36 "GelBookModel" "sort" "[I", Cond.fieldLink RX8 39 "GelBookModel" "up" "[I", Cond.fieldLink RX8 42 "GelBookModel" "down" "[I", Cond.fieldLink RX8 45 "GelBookModel" "level" "[I", Cond.fieldLink RX8 48 "GelBookModel" "other" "[I", Cond.fieldLink RX8 51 "GelBookModel" "behind" "[I", Cond.fieldLink RX8 54 "GelBookModel" "isActive" "[Z", Cond.fieldLink RX8 57 "GelBookModel" "went" "[I", Cond.fieldLink RX8 60 "GelBookModel" "order" "[I", Cond.fieldLink RX8 63 "GelBookModel" "released" "[I", Cond.fieldLink RX8 66 "GelBookModel" "notedCue" "[I"]
def wsX8_init_r2 : List Cond := [Cond.fieldLink RX8 69 "GelBookModel" "notedTick" "[I", Cond.fieldLink RX8 72 "GelBookModel" "its" "[I", Cond.fieldLink RX8 75 "GelBookModel" "shining" "[I", Cond.fieldLink RX8 78 "GelBookModel" "greatest" "[I"]
def wsX8_init : List Cond := .code yX8_init cX8_init 2 none :: ((wsX8_init_r1 ++ wsX8_init_r2) ++ wsX80)
def wsX8_thrown : List Cond := .code yX8_thrown cX8_thrown 1 (some .int) :: ([.fieldLink RX8 81 "GelBookModel" "thrown" "I"] ++ wsX80)
def wsX8_can : List Cond := .code yX8_can cX8_can 2 (some .boolean) :: ([.fieldLink RX8 81 "GelBookModel" "thrown" "I"] ++ wsX80)
def wsX8_isIn : List Cond := .code yX8_isIn cX8_isIn 3 (some .boolean) :: ([])
def wsX8_isLamp : List Cond := .code yX8_isLamp cX8_isLamp 2 (some .boolean) :: ([.fieldLink RX8 84 "GelBookModel" "lamps" "I", .methodLink RX8 87 yX8_isIn, .static yX8_isIn, .initialized RX8, .code yX8_isIn cX8_isIn 3 (some .boolean)] ++ wsX80)
def wsX8_isCue : List Cond := .code yX8_isCue cX8_isCue 2 (some .boolean) :: ([.fieldLink RX8 91 "GelBookModel" "cues" "I", .methodLink RX8 87 yX8_isIn, .static yX8_isIn, .initialized RX8, .code yX8_isIn cX8_isIn 3 (some .boolean)] ++ wsX80)
def wsX8_isPhase : List Cond := .code yX8_isPhase cX8_isPhase 1 (some .boolean) :: ([.methodLink RX8 87 yX8_isIn, .static yX8_isIn, .initialized RX8, .code yX8_isIn cX8_isIn 3 (some .boolean)])
def wsX8_size : List Cond := .code yX8_size cX8_size 1 (some .int) :: ([])
def wsX8_lamp : List Cond := .code yX8_lamp cX8_lamp 7 (some .int) :: ([.fieldLink RX8 84 "GelBookModel" "lamps" "I", .fieldLink RX8 7 "GelBookModel" "bar" "[I", .fieldLink RX8 13 "GelBookModel" "position" "[I", .fieldLink RX8 16 "GelBookModel" "gel" "[I", .fieldLink RX8 19 "GelBookModel" "watts" "[I", .fieldLink RX8 22 "GelBookModel" "phase" "[I", .methodLink RX8 87 yX8_isIn, .static yX8_isIn, .initialized RX8, .code yX8_isIn cX8_isIn 3 (some .boolean), .methodLink RX8 94 yX8_isPhase, .static yX8_isPhase, .code yX8_isPhase cX8_isPhase 1 (some .boolean), .methodLink RX8 98 yX8_can, .instanceMethod yX8_can, .selects RX8 yX8_can yX8_can, .code yX8_can cX8_can 2 (some .boolean), .fieldLink RX8 81 "GelBookModel" "thrown" "I"] ++ wsX80)
def wsX8_isUsable : List Cond := .code yX8_isUsable cX8_isUsable 2 (some .boolean) :: ([.fieldLink RX8 25 "GelBookModel" "isDead" "[Z", .fieldLink RX8 29 "GelBookModel" "bars" "I", .fieldLink RX8 7 "GelBookModel" "bar" "[I"] ++ wsX80)
def wsX8_die : List Cond := .code yX8_die cX8_die 2 (some .boolean) :: ([.fieldLink RX8 25 "GelBookModel" "isDead" "[Z", .methodLink RX8 101 yX8_isLamp, .instanceMethod yX8_isLamp, .selects RX8 yX8_isLamp yX8_isLamp, .initialized RX8, .code yX8_isLamp cX8_isLamp 2 (some .boolean), .fieldLink RX8 84 "GelBookModel" "lamps" "I", .methodLink RX8 87 yX8_isIn, .static yX8_isIn, .code yX8_isIn cX8_isIn 3 (some .boolean), .methodLink RX8 98 yX8_can, .instanceMethod yX8_can, .selects RX8 yX8_can yX8_can, .code yX8_can cX8_can 2 (some .boolean), .fieldLink RX8 81 "GelBookModel" "thrown" "I"] ++ wsX80)
def wsX8_house : List Cond := .code yX8_house cX8_house 4 (some .int) :: ([.fieldLink RX8 29 "GelBookModel" "bars" "I", .fieldLink RX8 84 "GelBookModel" "lamps" "I", .methodLink RX8 87 yX8_isIn, .static yX8_isIn, .initialized RX8, .code yX8_isIn cX8_isIn 3 (some .boolean), .methodLink RX8 98 yX8_can, .instanceMethod yX8_can, .selects RX8 yX8_can yX8_can, .code yX8_can cX8_can 2 (some .boolean), .fieldLink RX8 81 "GelBookModel" "thrown" "I", .methodLink RX8 104 yX8_isUsable, .instanceMethod yX8_isUsable, .selects RX8 yX8_isUsable yX8_isUsable, .code yX8_isUsable cX8_isUsable 2 (some .boolean), .fieldLink RX8 25 "GelBookModel" "isDead" "[Z", .fieldLink RX8 7 "GelBookModel" "bar" "[I"] ++ wsX80)
def wsX8_power : List Cond := .code yX8_power cX8_power 4 (some .int) :: ([.fieldLink RX8 33 "GelBookModel" "power" "[I", .methodLink RX8 94 yX8_isPhase, .static yX8_isPhase, .initialized RX8, .code yX8_isPhase cX8_isPhase 1 (some .boolean), .methodLink RX8 87 yX8_isIn, .static yX8_isIn, .code yX8_isIn cX8_isIn 3 (some .boolean), .methodLink RX8 98 yX8_can, .instanceMethod yX8_can, .selects RX8 yX8_can yX8_can, .code yX8_can cX8_can 2 (some .boolean), .fieldLink RX8 81 "GelBookModel" "thrown" "I"] ++ wsX80)
def wsX8_cue : List Cond := .code yX8_cue cX8_cue 5 (some .int) :: ([.fieldLink RX8 91 "GelBookModel" "cues" "I", .fieldLink RX8 36 "GelBookModel" "sort" "[I", .fieldLink RX8 39 "GelBookModel" "up" "[I", .fieldLink RX8 42 "GelBookModel" "down" "[I", .fieldLink RX8 48 "GelBookModel" "other" "[I", .fieldLink RX8 63 "GelBookModel" "released" "[I", .methodLink RX8 87 yX8_isIn, .static yX8_isIn, .initialized RX8, .code yX8_isIn cX8_isIn 3 (some .boolean), .methodLink RX8 98 yX8_can, .instanceMethod yX8_can, .selects RX8 yX8_can yX8_can, .code yX8_can cX8_can 2 (some .boolean), .fieldLink RX8 81 "GelBookModel" "thrown" "I"] ++ wsX80)
def wsX8_level : List Cond := .code yX8_level cX8_level 6 (some .int) :: ([.fieldLink RX8 45 "GelBookModel" "level" "[I", .methodLink RX8 107 yX8_isCue, .instanceMethod yX8_isCue, .selects RX8 yX8_isCue yX8_isCue, .initialized RX8, .code yX8_isCue cX8_isCue 2 (some .boolean), .fieldLink RX8 91 "GelBookModel" "cues" "I", .methodLink RX8 87 yX8_isIn, .static yX8_isIn, .code yX8_isIn cX8_isIn 3 (some .boolean), .methodLink RX8 101 yX8_isLamp, .instanceMethod yX8_isLamp, .selects RX8 yX8_isLamp yX8_isLamp, .code yX8_isLamp cX8_isLamp 2 (some .boolean), .fieldLink RX8 84 "GelBookModel" "lamps" "I", .methodLink RX8 98 yX8_can, .instanceMethod yX8_can, .selects RX8 yX8_can yX8_can, .code yX8_can cX8_can 2 (some .boolean), .fieldLink RX8 81 "GelBookModel" "thrown" "I"] ++ wsX80)
def wsX8_follow : List Cond := .code yX8_follow cX8_follow 6 (some .int) :: ([.fieldLink RX8 48 "GelBookModel" "other" "[I", .fieldLink RX8 51 "GelBookModel" "behind" "[I", .methodLink RX8 107 yX8_isCue, .instanceMethod yX8_isCue, .selects RX8 yX8_isCue yX8_isCue, .initialized RX8, .code yX8_isCue cX8_isCue 2 (some .boolean), .fieldLink RX8 91 "GelBookModel" "cues" "I", .methodLink RX8 87 yX8_isIn, .static yX8_isIn, .code yX8_isIn cX8_isIn 3 (some .boolean), .methodLink RX8 98 yX8_can, .instanceMethod yX8_can, .selects RX8 yX8_can yX8_can, .code yX8_can cX8_can 2 (some .boolean), .fieldLink RX8 81 "GelBookModel" "thrown" "I"] ++ wsX80)
def wsX8_distance : List Cond := .code yX8_distance cX8_distance 3 (some .int) :: ([.fieldLink RX8 7 "GelBookModel" "bar" "[I", .fieldLink RX8 13 "GelBookModel" "position" "[I", .methodLink RX8 110 yX8_size, .static yX8_size, .initialized RX8, .code yX8_size cX8_size 1 (some .int)] ++ wsX80)
def wsX8_nearest : List Cond := .code yX8_nearest cX8_nearest 6 (some .int) :: ([.fieldLink RX8 84 "GelBookModel" "lamps" "I", .fieldLink RX8 16 "GelBookModel" "gel" "[I", .fieldLink RX8 45 "GelBookModel" "level" "[I", .fieldLink RX8 72 "GelBookModel" "its" "[I", .methodLink RX8 104 yX8_isUsable, .instanceMethod yX8_isUsable, .selects RX8 yX8_isUsable yX8_isUsable, .initialized RX8, .code yX8_isUsable cX8_isUsable 2 (some .boolean), .fieldLink RX8 25 "GelBookModel" "isDead" "[Z", .fieldLink RX8 29 "GelBookModel" "bars" "I", .fieldLink RX8 7 "GelBookModel" "bar" "[I", .methodLink RX8 114 yX8_distance, .instanceMethod yX8_distance, .selects RX8 yX8_distance yX8_distance, .code yX8_distance cX8_distance 3 (some .int), .fieldLink RX8 13 "GelBookModel" "position" "[I", .methodLink RX8 110 yX8_size, .static yX8_size, .code yX8_size cX8_size 1 (some .int)] ++ wsX80)
def wsX8_finds_r1 : List Cond := [Cond.fieldLink RX8 84 "GelBookModel" "lamps" "I", Cond.fieldLink RX8 45 "GelBookModel" "level" "[I", Cond.fieldLink RX8 72 "GelBookModel" "its" "[I", Cond.fieldLink RX8 75 "GelBookModel" "shining" "[I", Cond.methodLink RX8 104 yX8_isUsable, Cond.instanceMethod yX8_isUsable, Cond.selects RX8 yX8_isUsable yX8_isUsable, Cond.initialized RX8, Cond.code yX8_isUsable cX8_isUsable 2 (some .boolean), Cond.fieldLink RX8 25 "GelBookModel" "isDead" "[Z", Cond.fieldLink RX8 29 "GelBookModel" "bars" "I", Cond.fieldLink RX8 7 "GelBookModel" "bar" "[I", Cond.methodLink RX8 118 yX8_nearest, Cond.instanceMethod yX8_nearest, Cond.selects RX8 yX8_nearest yX8_nearest, Cond.code yX8_nearest cX8_nearest 6 (some .int), Cond.fieldLink RX8 16 "GelBookModel" "gel" "[I", Cond.methodLink RX8 114 yX8_distance, Cond.instanceMethod yX8_distance, Cond.selects RX8 yX8_distance yX8_distance, Cond.code yX8_distance cX8_distance 3 (some .int), Cond.fieldLink RX8 13 "GelBookModel" "position" "[I", Cond.methodLink RX8 110 yX8_size, Cond.static yX8_size]
def wsX8_finds_r2 : List Cond := [Cond.code yX8_size cX8_size 1 (some .int)]
def wsX8_finds : List Cond := .code yX8_finds cX8_finds 4 none :: ((wsX8_finds_r1 ++ wsX8_finds_r2) ++ wsX80)
def wsX8_raises_r1 : List Cond := [Cond.fieldLink RX8 84 "GelBookModel" "lamps" "I", Cond.fieldLink RX8 78 "GelBookModel" "greatest" "[I", Cond.fieldLink RX8 72 "GelBookModel" "its" "[I", Cond.methodLink RX8 121 yX8_finds, Cond.instanceMethod yX8_finds, Cond.selects RX8 yX8_finds yX8_finds, Cond.initialized RX8, Cond.code yX8_finds cX8_finds 4 none, Cond.fieldLink RX8 45 "GelBookModel" "level" "[I", Cond.fieldLink RX8 75 "GelBookModel" "shining" "[I", Cond.methodLink RX8 104 yX8_isUsable, Cond.instanceMethod yX8_isUsable, Cond.selects RX8 yX8_isUsable yX8_isUsable, Cond.code yX8_isUsable cX8_isUsable 2 (some .boolean), Cond.fieldLink RX8 25 "GelBookModel" "isDead" "[Z", Cond.fieldLink RX8 29 "GelBookModel" "bars" "I", Cond.fieldLink RX8 7 "GelBookModel" "bar" "[I", Cond.methodLink RX8 118 yX8_nearest, Cond.instanceMethod yX8_nearest, Cond.selects RX8 yX8_nearest yX8_nearest, Cond.code yX8_nearest cX8_nearest 6 (some .int), Cond.fieldLink RX8 16 "GelBookModel" "gel" "[I", Cond.methodLink RX8 114 yX8_distance, Cond.instanceMethod yX8_distance]
def wsX8_raises_r2 : List Cond := [Cond.selects RX8 yX8_distance yX8_distance, Cond.code yX8_distance cX8_distance 3 (some .int), Cond.fieldLink RX8 13 "GelBookModel" "position" "[I", Cond.methodLink RX8 110 yX8_size, Cond.static yX8_size, Cond.code yX8_size cX8_size 1 (some .int)]
def wsX8_raises : List Cond := .code yX8_raises cX8_raises 3 none :: ((wsX8_raises_r1 ++ wsX8_raises_r2) ++ wsX80)
def wsX8_asked_r1 : List Cond := [Cond.fieldLink RX8 84 "GelBookModel" "lamps" "I", Cond.fieldLink RX8 78 "GelBookModel" "greatest" "[I", Cond.fieldLink RX8 91 "GelBookModel" "cues" "I", Cond.fieldLink RX8 54 "GelBookModel" "isActive" "[Z", Cond.fieldLink RX8 63 "GelBookModel" "released" "[I", Cond.fieldLink RX8 22 "GelBookModel" "phase" "[I", Cond.fieldLink RX8 19 "GelBookModel" "watts" "[I", Cond.methodLink RX8 125 yX8_raises, Cond.instanceMethod yX8_raises, Cond.selects RX8 yX8_raises yX8_raises, Cond.initialized RX8, Cond.code yX8_raises cX8_raises 3 none, Cond.fieldLink RX8 72 "GelBookModel" "its" "[I", Cond.methodLink RX8 121 yX8_finds, Cond.instanceMethod yX8_finds, Cond.selects RX8 yX8_finds yX8_finds, Cond.code yX8_finds cX8_finds 4 none, Cond.fieldLink RX8 45 "GelBookModel" "level" "[I", Cond.fieldLink RX8 75 "GelBookModel" "shining" "[I", Cond.methodLink RX8 104 yX8_isUsable, Cond.instanceMethod yX8_isUsable, Cond.selects RX8 yX8_isUsable yX8_isUsable, Cond.code yX8_isUsable cX8_isUsable 2 (some .boolean), Cond.fieldLink RX8 25 "GelBookModel" "isDead" "[Z"]
def wsX8_asked_r2 : List Cond := [Cond.fieldLink RX8 29 "GelBookModel" "bars" "I", Cond.fieldLink RX8 7 "GelBookModel" "bar" "[I", Cond.methodLink RX8 118 yX8_nearest, Cond.instanceMethod yX8_nearest, Cond.selects RX8 yX8_nearest yX8_nearest, Cond.code yX8_nearest cX8_nearest 6 (some .int), Cond.fieldLink RX8 16 "GelBookModel" "gel" "[I", Cond.methodLink RX8 114 yX8_distance, Cond.instanceMethod yX8_distance, Cond.selects RX8 yX8_distance yX8_distance, Cond.code yX8_distance cX8_distance 3 (some .int), Cond.fieldLink RX8 13 "GelBookModel" "position" "[I", Cond.methodLink RX8 110 yX8_size, Cond.static yX8_size, Cond.code yX8_size cX8_size 1 (some .int)]
def wsX8_asked : List Cond := .code yX8_asked cX8_asked 5 (some .int) :: ((wsX8_asked_r1 ++ wsX8_asked_r2) ++ wsX80)
def wsX8_mayGo_r1 : List Cond := [Cond.fieldLink RX8 33 "GelBookModel" "power" "[I", Cond.methodLink RX8 128 yX8_asked, Cond.instanceMethod yX8_asked, Cond.selects RX8 yX8_asked yX8_asked, Cond.initialized RX8, Cond.code yX8_asked cX8_asked 5 (some .int), Cond.fieldLink RX8 84 "GelBookModel" "lamps" "I", Cond.fieldLink RX8 78 "GelBookModel" "greatest" "[I", Cond.fieldLink RX8 91 "GelBookModel" "cues" "I", Cond.fieldLink RX8 54 "GelBookModel" "isActive" "[Z", Cond.fieldLink RX8 63 "GelBookModel" "released" "[I", Cond.fieldLink RX8 22 "GelBookModel" "phase" "[I", Cond.fieldLink RX8 19 "GelBookModel" "watts" "[I", Cond.methodLink RX8 125 yX8_raises, Cond.instanceMethod yX8_raises, Cond.selects RX8 yX8_raises yX8_raises, Cond.code yX8_raises cX8_raises 3 none, Cond.fieldLink RX8 72 "GelBookModel" "its" "[I", Cond.methodLink RX8 121 yX8_finds, Cond.instanceMethod yX8_finds, Cond.selects RX8 yX8_finds yX8_finds, Cond.code yX8_finds cX8_finds 4 none, Cond.fieldLink RX8 45 "GelBookModel" "level" "[I", Cond.fieldLink RX8 75 "GelBookModel" "shining" "[I"]
def wsX8_mayGo_r2 : List Cond := [Cond.methodLink RX8 104 yX8_isUsable, Cond.instanceMethod yX8_isUsable, Cond.selects RX8 yX8_isUsable yX8_isUsable, Cond.code yX8_isUsable cX8_isUsable 2 (some .boolean), Cond.fieldLink RX8 25 "GelBookModel" "isDead" "[Z", Cond.fieldLink RX8 29 "GelBookModel" "bars" "I", Cond.fieldLink RX8 7 "GelBookModel" "bar" "[I", Cond.methodLink RX8 118 yX8_nearest, Cond.instanceMethod yX8_nearest, Cond.selects RX8 yX8_nearest yX8_nearest, Cond.code yX8_nearest cX8_nearest 6 (some .int), Cond.fieldLink RX8 16 "GelBookModel" "gel" "[I", Cond.methodLink RX8 114 yX8_distance, Cond.instanceMethod yX8_distance, Cond.selects RX8 yX8_distance yX8_distance, Cond.code yX8_distance cX8_distance 3 (some .int), Cond.fieldLink RX8 13 "GelBookModel" "position" "[I", Cond.methodLink RX8 110 yX8_size, Cond.static yX8_size, Cond.code yX8_size cX8_size 1 (some .int)]
def wsX8_mayGo : List Cond := .code yX8_mayGo cX8_mayGo 4 (some .boolean) :: ((wsX8_mayGo_r1 ++ wsX8_mayGo_r2) ++ wsX80)
def wsX8_active : List Cond := .code yX8_active cX8_active 3 (some .int) :: ([.fieldLink RX8 91 "GelBookModel" "cues" "I", .fieldLink RX8 54 "GelBookModel" "isActive" "[Z"] ++ wsX80)
def wsX8_goes : List Cond := .code yX8_goes cX8_goes 2 none :: ([.fieldLink RX8 54 "GelBookModel" "isActive" "[Z", .fieldLink RX8 57 "GelBookModel" "went" "[I", .fieldLink RX8 131 "GelBookModel" "tick" "I", .fieldLink RX8 63 "GelBookModel" "released" "[I", .fieldLink RX8 60 "GelBookModel" "order" "[I", .fieldLink RX8 134 "GelBookModel" "goings" "I", .fieldLink RX8 48 "GelBookModel" "other" "[I", .fieldLink RX8 66 "GelBookModel" "notedCue" "[I", .fieldLink RX8 137 "GelBookModel" "noted" "I", .fieldLink RX8 69 "GelBookModel" "notedTick" "[I", .fieldLink RX8 51 "GelBookModel" "behind" "[I"] ++ wsX80)
def wsX8_go_r1 : List Cond := [Cond.methodLink RX8 107 yX8_isCue, Cond.instanceMethod yX8_isCue, Cond.selects RX8 yX8_isCue yX8_isCue, Cond.initialized RX8, Cond.code yX8_isCue cX8_isCue 2 (some .boolean), Cond.fieldLink RX8 91 "GelBookModel" "cues" "I", Cond.methodLink RX8 87 yX8_isIn, Cond.static yX8_isIn, Cond.code yX8_isIn cX8_isIn 3 (some .boolean), Cond.methodLink RX8 140 yX8_mayGo, Cond.instanceMethod yX8_mayGo, Cond.selects RX8 yX8_mayGo yX8_mayGo, Cond.code yX8_mayGo cX8_mayGo 4 (some .boolean), Cond.fieldLink RX8 33 "GelBookModel" "power" "[I", Cond.methodLink RX8 128 yX8_asked, Cond.instanceMethod yX8_asked, Cond.selects RX8 yX8_asked yX8_asked, Cond.code yX8_asked cX8_asked 5 (some .int), Cond.fieldLink RX8 84 "GelBookModel" "lamps" "I", Cond.fieldLink RX8 78 "GelBookModel" "greatest" "[I", Cond.fieldLink RX8 54 "GelBookModel" "isActive" "[Z", Cond.fieldLink RX8 63 "GelBookModel" "released" "[I", Cond.fieldLink RX8 22 "GelBookModel" "phase" "[I", Cond.fieldLink RX8 19 "GelBookModel" "watts" "[I"]
def wsX8_go_r2 : List Cond := [Cond.methodLink RX8 125 yX8_raises, Cond.instanceMethod yX8_raises, Cond.selects RX8 yX8_raises yX8_raises, Cond.code yX8_raises cX8_raises 3 none, Cond.fieldLink RX8 72 "GelBookModel" "its" "[I", Cond.methodLink RX8 121 yX8_finds, Cond.instanceMethod yX8_finds, Cond.selects RX8 yX8_finds yX8_finds, Cond.code yX8_finds cX8_finds 4 none, Cond.fieldLink RX8 45 "GelBookModel" "level" "[I", Cond.fieldLink RX8 75 "GelBookModel" "shining" "[I", Cond.methodLink RX8 104 yX8_isUsable, Cond.instanceMethod yX8_isUsable, Cond.selects RX8 yX8_isUsable yX8_isUsable, Cond.code yX8_isUsable cX8_isUsable 2 (some .boolean), Cond.fieldLink RX8 25 "GelBookModel" "isDead" "[Z", Cond.fieldLink RX8 29 "GelBookModel" "bars" "I", Cond.fieldLink RX8 7 "GelBookModel" "bar" "[I", Cond.methodLink RX8 118 yX8_nearest, Cond.instanceMethod yX8_nearest, Cond.selects RX8 yX8_nearest yX8_nearest, Cond.code yX8_nearest cX8_nearest 6 (some .int), Cond.fieldLink RX8 16 "GelBookModel" "gel" "[I", Cond.methodLink RX8 114 yX8_distance]
def wsX8_go_r3 : List Cond := [Cond.instanceMethod yX8_distance, Cond.selects RX8 yX8_distance yX8_distance, Cond.code yX8_distance cX8_distance 3 (some .int), Cond.fieldLink RX8 13 "GelBookModel" "position" "[I", Cond.methodLink RX8 110 yX8_size, Cond.static yX8_size, Cond.code yX8_size cX8_size 1 (some .int), Cond.methodLink RX8 98 yX8_can, Cond.instanceMethod yX8_can, Cond.selects RX8 yX8_can yX8_can, Cond.code yX8_can cX8_can 2 (some .boolean), Cond.fieldLink RX8 81 "GelBookModel" "thrown" "I", Cond.methodLink RX8 143 yX8_goes, Cond.instanceMethod yX8_goes, Cond.selects RX8 yX8_goes yX8_goes, Cond.code yX8_goes cX8_goes 2 none, Cond.fieldLink RX8 57 "GelBookModel" "went" "[I", Cond.fieldLink RX8 131 "GelBookModel" "tick" "I", Cond.fieldLink RX8 60 "GelBookModel" "order" "[I", Cond.fieldLink RX8 134 "GelBookModel" "goings" "I", Cond.fieldLink RX8 48 "GelBookModel" "other" "[I", Cond.fieldLink RX8 66 "GelBookModel" "notedCue" "[I", Cond.fieldLink RX8 137 "GelBookModel" "noted" "I", Cond.fieldLink RX8 69 "GelBookModel" "notedTick" "[I"]
def wsX8_go_r4 : List Cond := [Cond.fieldLink RX8 51 "GelBookModel" "behind" "[I", Cond.methodLink RX8 146 yX8_active, Cond.instanceMethod yX8_active, Cond.selects RX8 yX8_active yX8_active, Cond.code yX8_active cX8_active 3 (some .int)]
def wsX8_go : List Cond := .code yX8_go cX8_go 3 (some .int) :: ((wsX8_go_r1 ++ (wsX8_go_r2 ++ (wsX8_go_r3 ++ wsX8_go_r4))) ++ wsX80)
def wsX8_ends : List Cond := .code yX8_ends cX8_ends 2 none :: ([.fieldLink RX8 54 "GelBookModel" "isActive" "[Z", .fieldLink RX8 63 "GelBookModel" "released" "[I", .fieldLink RX8 131 "GelBookModel" "tick" "I", .fieldLink RX8 42 "GelBookModel" "down" "[I"] ++ wsX80)
def wsX8_release : List Cond := .code yX8_release cX8_release 3 (some .boolean) :: ([.fieldLink RX8 54 "GelBookModel" "isActive" "[Z", .fieldLink RX8 63 "GelBookModel" "released" "[I", .fieldLink RX8 131 "GelBookModel" "tick" "I", .methodLink RX8 107 yX8_isCue, .instanceMethod yX8_isCue, .selects RX8 yX8_isCue yX8_isCue, .initialized RX8, .code yX8_isCue cX8_isCue 2 (some .boolean), .fieldLink RX8 91 "GelBookModel" "cues" "I", .methodLink RX8 87 yX8_isIn, .static yX8_isIn, .code yX8_isIn cX8_isIn 3 (some .boolean), .methodLink RX8 98 yX8_can, .instanceMethod yX8_can, .selects RX8 yX8_can yX8_can, .code yX8_can cX8_can 2 (some .boolean), .fieldLink RX8 81 "GelBookModel" "thrown" "I", .methodLink RX8 150 yX8_ends, .instanceMethod yX8_ends, .selects RX8 yX8_ends yX8_ends, .code yX8_ends cX8_ends 2 none, .fieldLink RX8 42 "GelBookModel" "down" "[I"] ++ wsX80)
def wsX8_follows_r1 : List Cond := [Cond.fieldLink RX8 137 "GelBookModel" "noted" "I", Cond.fieldLink RX8 69 "GelBookModel" "notedTick" "[I", Cond.fieldLink RX8 131 "GelBookModel" "tick" "I", Cond.fieldLink RX8 66 "GelBookModel" "notedCue" "[I", Cond.fieldLink RX8 153 "GelBookModel" "barred" "I", Cond.methodLink RX8 140 yX8_mayGo, Cond.instanceMethod yX8_mayGo, Cond.selects RX8 yX8_mayGo yX8_mayGo, Cond.initialized RX8, Cond.code yX8_mayGo cX8_mayGo 4 (some .boolean), Cond.fieldLink RX8 33 "GelBookModel" "power" "[I", Cond.methodLink RX8 128 yX8_asked, Cond.instanceMethod yX8_asked, Cond.selects RX8 yX8_asked yX8_asked, Cond.code yX8_asked cX8_asked 5 (some .int), Cond.fieldLink RX8 84 "GelBookModel" "lamps" "I", Cond.fieldLink RX8 78 "GelBookModel" "greatest" "[I", Cond.fieldLink RX8 91 "GelBookModel" "cues" "I", Cond.fieldLink RX8 54 "GelBookModel" "isActive" "[Z", Cond.fieldLink RX8 63 "GelBookModel" "released" "[I", Cond.fieldLink RX8 22 "GelBookModel" "phase" "[I", Cond.fieldLink RX8 19 "GelBookModel" "watts" "[I", Cond.methodLink RX8 125 yX8_raises, Cond.instanceMethod yX8_raises]
def wsX8_follows_r2 : List Cond := [Cond.selects RX8 yX8_raises yX8_raises, Cond.code yX8_raises cX8_raises 3 none, Cond.fieldLink RX8 72 "GelBookModel" "its" "[I", Cond.methodLink RX8 121 yX8_finds, Cond.instanceMethod yX8_finds, Cond.selects RX8 yX8_finds yX8_finds, Cond.code yX8_finds cX8_finds 4 none, Cond.fieldLink RX8 45 "GelBookModel" "level" "[I", Cond.fieldLink RX8 75 "GelBookModel" "shining" "[I", Cond.methodLink RX8 104 yX8_isUsable, Cond.instanceMethod yX8_isUsable, Cond.selects RX8 yX8_isUsable yX8_isUsable, Cond.code yX8_isUsable cX8_isUsable 2 (some .boolean), Cond.fieldLink RX8 25 "GelBookModel" "isDead" "[Z", Cond.fieldLink RX8 29 "GelBookModel" "bars" "I", Cond.fieldLink RX8 7 "GelBookModel" "bar" "[I", Cond.methodLink RX8 118 yX8_nearest, Cond.instanceMethod yX8_nearest, Cond.selects RX8 yX8_nearest yX8_nearest, Cond.code yX8_nearest cX8_nearest 6 (some .int), Cond.fieldLink RX8 16 "GelBookModel" "gel" "[I", Cond.methodLink RX8 114 yX8_distance, Cond.instanceMethod yX8_distance, Cond.selects RX8 yX8_distance yX8_distance]
def wsX8_follows_r3 : List Cond := [Cond.code yX8_distance cX8_distance 3 (some .int), Cond.fieldLink RX8 13 "GelBookModel" "position" "[I", Cond.methodLink RX8 110 yX8_size, Cond.static yX8_size, Cond.code yX8_size cX8_size 1 (some .int), Cond.methodLink RX8 143 yX8_goes, Cond.instanceMethod yX8_goes, Cond.selects RX8 yX8_goes yX8_goes, Cond.code yX8_goes cX8_goes 2 none, Cond.fieldLink RX8 57 "GelBookModel" "went" "[I", Cond.fieldLink RX8 60 "GelBookModel" "order" "[I", Cond.fieldLink RX8 134 "GelBookModel" "goings" "I", Cond.fieldLink RX8 48 "GelBookModel" "other" "[I", Cond.fieldLink RX8 51 "GelBookModel" "behind" "[I"]
def wsX8_follows : List Cond := .code yX8_follows cX8_follows 5 none :: ((wsX8_follows_r1 ++ (wsX8_follows_r2 ++ wsX8_follows_r3)) ++ wsX80)
def wsX8_pass_r1 : List Cond := [Cond.fieldLink RX8 131 "GelBookModel" "tick" "I", Cond.fieldLink RX8 91 "GelBookModel" "cues" "I", Cond.methodLink RX8 87 yX8_isIn, Cond.static yX8_isIn, Cond.initialized RX8, Cond.code yX8_isIn cX8_isIn 3 (some .boolean), Cond.methodLink RX8 98 yX8_can, Cond.instanceMethod yX8_can, Cond.selects RX8 yX8_can yX8_can, Cond.code yX8_can cX8_can 2 (some .boolean), Cond.fieldLink RX8 81 "GelBookModel" "thrown" "I", Cond.methodLink RX8 150 yX8_ends, Cond.instanceMethod yX8_ends, Cond.selects RX8 yX8_ends yX8_ends, Cond.code yX8_ends cX8_ends 2 none, Cond.fieldLink RX8 54 "GelBookModel" "isActive" "[Z", Cond.fieldLink RX8 63 "GelBookModel" "released" "[I", Cond.fieldLink RX8 42 "GelBookModel" "down" "[I", Cond.methodLink RX8 156 yX8_follows, Cond.instanceMethod yX8_follows, Cond.selects RX8 yX8_follows yX8_follows, Cond.code yX8_follows cX8_follows 5 none, Cond.fieldLink RX8 137 "GelBookModel" "noted" "I", Cond.fieldLink RX8 69 "GelBookModel" "notedTick" "[I"]
def wsX8_pass_r2 : List Cond := [Cond.fieldLink RX8 66 "GelBookModel" "notedCue" "[I", Cond.fieldLink RX8 153 "GelBookModel" "barred" "I", Cond.methodLink RX8 140 yX8_mayGo, Cond.instanceMethod yX8_mayGo, Cond.selects RX8 yX8_mayGo yX8_mayGo, Cond.code yX8_mayGo cX8_mayGo 4 (some .boolean), Cond.fieldLink RX8 33 "GelBookModel" "power" "[I", Cond.methodLink RX8 128 yX8_asked, Cond.instanceMethod yX8_asked, Cond.selects RX8 yX8_asked yX8_asked, Cond.code yX8_asked cX8_asked 5 (some .int), Cond.fieldLink RX8 84 "GelBookModel" "lamps" "I", Cond.fieldLink RX8 78 "GelBookModel" "greatest" "[I", Cond.fieldLink RX8 22 "GelBookModel" "phase" "[I", Cond.fieldLink RX8 19 "GelBookModel" "watts" "[I", Cond.methodLink RX8 125 yX8_raises, Cond.instanceMethod yX8_raises, Cond.selects RX8 yX8_raises yX8_raises, Cond.code yX8_raises cX8_raises 3 none, Cond.fieldLink RX8 72 "GelBookModel" "its" "[I", Cond.methodLink RX8 121 yX8_finds, Cond.instanceMethod yX8_finds, Cond.selects RX8 yX8_finds yX8_finds, Cond.code yX8_finds cX8_finds 4 none]
def wsX8_pass_r3 : List Cond := [Cond.fieldLink RX8 45 "GelBookModel" "level" "[I", Cond.fieldLink RX8 75 "GelBookModel" "shining" "[I", Cond.methodLink RX8 104 yX8_isUsable, Cond.instanceMethod yX8_isUsable, Cond.selects RX8 yX8_isUsable yX8_isUsable, Cond.code yX8_isUsable cX8_isUsable 2 (some .boolean), Cond.fieldLink RX8 25 "GelBookModel" "isDead" "[Z", Cond.fieldLink RX8 29 "GelBookModel" "bars" "I", Cond.fieldLink RX8 7 "GelBookModel" "bar" "[I", Cond.methodLink RX8 118 yX8_nearest, Cond.instanceMethod yX8_nearest, Cond.selects RX8 yX8_nearest yX8_nearest, Cond.code yX8_nearest cX8_nearest 6 (some .int), Cond.fieldLink RX8 16 "GelBookModel" "gel" "[I", Cond.methodLink RX8 114 yX8_distance, Cond.instanceMethod yX8_distance, Cond.selects RX8 yX8_distance yX8_distance, Cond.code yX8_distance cX8_distance 3 (some .int), Cond.fieldLink RX8 13 "GelBookModel" "position" "[I", Cond.methodLink RX8 110 yX8_size, Cond.static yX8_size, Cond.code yX8_size cX8_size 1 (some .int), Cond.methodLink RX8 143 yX8_goes, Cond.instanceMethod yX8_goes]
def wsX8_pass_r4 : List Cond := [Cond.selects RX8 yX8_goes yX8_goes, Cond.code yX8_goes cX8_goes 2 none, Cond.fieldLink RX8 57 "GelBookModel" "went" "[I", Cond.fieldLink RX8 60 "GelBookModel" "order" "[I", Cond.fieldLink RX8 134 "GelBookModel" "goings" "I", Cond.fieldLink RX8 48 "GelBookModel" "other" "[I", Cond.fieldLink RX8 51 "GelBookModel" "behind" "[I"]
def wsX8_pass : List Cond := .code yX8_pass cX8_pass 4 (some .int) :: ((wsX8_pass_r1 ++ (wsX8_pass_r2 ++ (wsX8_pass_r3 ++ wsX8_pass_r4))) ++ wsX80)
def wsX8_rising : List Cond := .code yX8_rising cX8_rising 4 (some .float) :: ([.fieldLink RX8 39 "GelBookModel" "up" "[I", .fieldLink RX8 57 "GelBookModel" "went" "[I"] ++ wsX80)
def wsX8_master : List Cond := .code yX8_master cX8_master 2 (some .float) :: ([.fieldLink RX8 63 "GelBookModel" "released" "[I", .fieldLink RX8 131 "GelBookModel" "tick" "I", .fieldLink RX8 42 "GelBookModel" "down" "[I", .methodLink RX8 159 yX8_rising, .instanceMethod yX8_rising, .selects RX8 yX8_rising yX8_rising, .initialized RX8, .code yX8_rising cX8_rising 4 (some .float), .fieldLink RX8 39 "GelBookModel" "up" "[I", .fieldLink RX8 57 "GelBookModel" "went" "[I"] ++ wsX80)
def wsX8_after : List Cond := .code yX8_after cX8_after 4 (some .int) :: ([.fieldLink RX8 91 "GelBookModel" "cues" "I", .fieldLink RX8 54 "GelBookModel" "isActive" "[Z", .fieldLink RX8 60 "GelBookModel" "order" "[I"] ++ wsX80)
def wsX8_levelNow_r1 : List Cond := [Cond.fieldLink RX8 36 "GelBookModel" "sort" "[I", Cond.fieldLink RX8 72 "GelBookModel" "its" "[I", Cond.fieldLink RX8 60 "GelBookModel" "order" "[I", Cond.methodLink RX8 163 yX8_after, Cond.instanceMethod yX8_after, Cond.selects RX8 yX8_after yX8_after, Cond.initialized RX8, Cond.code yX8_after cX8_after 4 (some .int), Cond.fieldLink RX8 91 "GelBookModel" "cues" "I", Cond.fieldLink RX8 54 "GelBookModel" "isActive" "[Z", Cond.methodLink RX8 121 yX8_finds, Cond.instanceMethod yX8_finds, Cond.selects RX8 yX8_finds yX8_finds, Cond.code yX8_finds cX8_finds 4 none, Cond.fieldLink RX8 84 "GelBookModel" "lamps" "I", Cond.fieldLink RX8 45 "GelBookModel" "level" "[I", Cond.fieldLink RX8 75 "GelBookModel" "shining" "[I", Cond.methodLink RX8 104 yX8_isUsable, Cond.instanceMethod yX8_isUsable, Cond.selects RX8 yX8_isUsable yX8_isUsable, Cond.code yX8_isUsable cX8_isUsable 2 (some .boolean), Cond.fieldLink RX8 25 "GelBookModel" "isDead" "[Z", Cond.fieldLink RX8 29 "GelBookModel" "bars" "I", Cond.fieldLink RX8 7 "GelBookModel" "bar" "[I"]
def wsX8_levelNow_r2 : List Cond := [Cond.methodLink RX8 118 yX8_nearest, Cond.instanceMethod yX8_nearest, Cond.selects RX8 yX8_nearest yX8_nearest, Cond.code yX8_nearest cX8_nearest 6 (some .int), Cond.fieldLink RX8 16 "GelBookModel" "gel" "[I", Cond.methodLink RX8 114 yX8_distance, Cond.instanceMethod yX8_distance, Cond.selects RX8 yX8_distance yX8_distance, Cond.code yX8_distance cX8_distance 3 (some .int), Cond.fieldLink RX8 13 "GelBookModel" "position" "[I", Cond.methodLink RX8 110 yX8_size, Cond.static yX8_size, Cond.code yX8_size cX8_size 1 (some .int), Cond.methodLink RX8 166 yX8_master, Cond.instanceMethod yX8_master, Cond.selects RX8 yX8_master yX8_master, Cond.code yX8_master cX8_master 2 (some .float), Cond.fieldLink RX8 63 "GelBookModel" "released" "[I", Cond.fieldLink RX8 131 "GelBookModel" "tick" "I", Cond.fieldLink RX8 42 "GelBookModel" "down" "[I", Cond.methodLink RX8 159 yX8_rising, Cond.instanceMethod yX8_rising, Cond.selects RX8 yX8_rising yX8_rising, Cond.code yX8_rising cX8_rising 4 (some .float)]
def wsX8_levelNow_r3 : List Cond := [Cond.fieldLink RX8 39 "GelBookModel" "up" "[I", Cond.fieldLink RX8 57 "GelBookModel" "went" "[I"]
def wsX8_levelNow : List Cond := .code yX8_levelNow cX8_levelNow 7 (some .float) :: ((wsX8_levelNow_r1 ++ (wsX8_levelNow_r2 ++ wsX8_levelNow_r3)) ++ wsX80)
def wsX8_load_r1 : List Cond := [Cond.fieldLink RX8 84 "GelBookModel" "lamps" "I", Cond.fieldLink RX8 22 "GelBookModel" "phase" "[I", Cond.fieldLink RX8 19 "GelBookModel" "watts" "[I", Cond.constantFloat RX8 173 (1120403456), Cond.methodLink RX8 170 yX8_levelNow, Cond.instanceMethod yX8_levelNow, Cond.selects RX8 yX8_levelNow yX8_levelNow, Cond.initialized RX8, Cond.code yX8_levelNow cX8_levelNow 7 (some .float), Cond.fieldLink RX8 36 "GelBookModel" "sort" "[I", Cond.fieldLink RX8 72 "GelBookModel" "its" "[I", Cond.fieldLink RX8 60 "GelBookModel" "order" "[I", Cond.methodLink RX8 163 yX8_after, Cond.instanceMethod yX8_after, Cond.selects RX8 yX8_after yX8_after, Cond.code yX8_after cX8_after 4 (some .int), Cond.fieldLink RX8 91 "GelBookModel" "cues" "I", Cond.fieldLink RX8 54 "GelBookModel" "isActive" "[Z", Cond.methodLink RX8 121 yX8_finds, Cond.instanceMethod yX8_finds, Cond.selects RX8 yX8_finds yX8_finds, Cond.code yX8_finds cX8_finds 4 none, Cond.fieldLink RX8 45 "GelBookModel" "level" "[I", Cond.fieldLink RX8 75 "GelBookModel" "shining" "[I"]
def wsX8_load_r2 : List Cond := [Cond.methodLink RX8 104 yX8_isUsable, Cond.instanceMethod yX8_isUsable, Cond.selects RX8 yX8_isUsable yX8_isUsable, Cond.code yX8_isUsable cX8_isUsable 2 (some .boolean), Cond.fieldLink RX8 25 "GelBookModel" "isDead" "[Z", Cond.fieldLink RX8 29 "GelBookModel" "bars" "I", Cond.fieldLink RX8 7 "GelBookModel" "bar" "[I", Cond.methodLink RX8 118 yX8_nearest, Cond.instanceMethod yX8_nearest, Cond.selects RX8 yX8_nearest yX8_nearest, Cond.code yX8_nearest cX8_nearest 6 (some .int), Cond.fieldLink RX8 16 "GelBookModel" "gel" "[I", Cond.methodLink RX8 114 yX8_distance, Cond.instanceMethod yX8_distance, Cond.selects RX8 yX8_distance yX8_distance, Cond.code yX8_distance cX8_distance 3 (some .int), Cond.fieldLink RX8 13 "GelBookModel" "position" "[I", Cond.methodLink RX8 110 yX8_size, Cond.static yX8_size, Cond.code yX8_size cX8_size 1 (some .int), Cond.methodLink RX8 166 yX8_master, Cond.instanceMethod yX8_master, Cond.selects RX8 yX8_master yX8_master, Cond.code yX8_master cX8_master 2 (some .float)]
def wsX8_load_r3 : List Cond := [Cond.fieldLink RX8 63 "GelBookModel" "released" "[I", Cond.fieldLink RX8 131 "GelBookModel" "tick" "I", Cond.fieldLink RX8 42 "GelBookModel" "down" "[I", Cond.methodLink RX8 159 yX8_rising, Cond.instanceMethod yX8_rising, Cond.selects RX8 yX8_rising yX8_rising, Cond.code yX8_rising cX8_rising 4 (some .float), Cond.fieldLink RX8 39 "GelBookModel" "up" "[I", Cond.fieldLink RX8 57 "GelBookModel" "went" "[I"]
def wsX8_load : List Cond := .code yX8_load cX8_load 4 (some .float) :: ((wsX8_load_r1 ++ (wsX8_load_r2 ++ wsX8_load_r3)) ++ wsX80)
def wsX8_bitsOf : List Cond := .code yX8_bitsOf cX8_bitsOf 3 (some .int) :: ([.constant RX8 174 (8388608), .constantFloat RX8 175 (1258291200)])
def wsX8_levelOf_r1 : List Cond := [Cond.methodLink RX8 101 yX8_isLamp, Cond.instanceMethod yX8_isLamp, Cond.selects RX8 yX8_isLamp yX8_isLamp, Cond.initialized RX8, Cond.code yX8_isLamp cX8_isLamp 2 (some .boolean), Cond.fieldLink RX8 84 "GelBookModel" "lamps" "I", Cond.methodLink RX8 87 yX8_isIn, Cond.static yX8_isIn, Cond.code yX8_isIn cX8_isIn 3 (some .boolean), Cond.methodLink RX8 98 yX8_can, Cond.instanceMethod yX8_can, Cond.selects RX8 yX8_can yX8_can, Cond.code yX8_can cX8_can 2 (some .boolean), Cond.fieldLink RX8 81 "GelBookModel" "thrown" "I", Cond.methodLink RX8 170 yX8_levelNow, Cond.instanceMethod yX8_levelNow, Cond.selects RX8 yX8_levelNow yX8_levelNow, Cond.code yX8_levelNow cX8_levelNow 7 (some .float), Cond.fieldLink RX8 36 "GelBookModel" "sort" "[I", Cond.fieldLink RX8 72 "GelBookModel" "its" "[I", Cond.fieldLink RX8 60 "GelBookModel" "order" "[I", Cond.methodLink RX8 163 yX8_after, Cond.instanceMethod yX8_after, Cond.selects RX8 yX8_after yX8_after]
def wsX8_levelOf_r2 : List Cond := [Cond.code yX8_after cX8_after 4 (some .int), Cond.fieldLink RX8 91 "GelBookModel" "cues" "I", Cond.fieldLink RX8 54 "GelBookModel" "isActive" "[Z", Cond.methodLink RX8 121 yX8_finds, Cond.instanceMethod yX8_finds, Cond.selects RX8 yX8_finds yX8_finds, Cond.code yX8_finds cX8_finds 4 none, Cond.fieldLink RX8 45 "GelBookModel" "level" "[I", Cond.fieldLink RX8 75 "GelBookModel" "shining" "[I", Cond.methodLink RX8 104 yX8_isUsable, Cond.instanceMethod yX8_isUsable, Cond.selects RX8 yX8_isUsable yX8_isUsable, Cond.code yX8_isUsable cX8_isUsable 2 (some .boolean), Cond.fieldLink RX8 25 "GelBookModel" "isDead" "[Z", Cond.fieldLink RX8 29 "GelBookModel" "bars" "I", Cond.fieldLink RX8 7 "GelBookModel" "bar" "[I", Cond.methodLink RX8 118 yX8_nearest, Cond.instanceMethod yX8_nearest, Cond.selects RX8 yX8_nearest yX8_nearest, Cond.code yX8_nearest cX8_nearest 6 (some .int), Cond.fieldLink RX8 16 "GelBookModel" "gel" "[I", Cond.methodLink RX8 114 yX8_distance, Cond.instanceMethod yX8_distance, Cond.selects RX8 yX8_distance yX8_distance]
def wsX8_levelOf_r3 : List Cond := [Cond.code yX8_distance cX8_distance 3 (some .int), Cond.fieldLink RX8 13 "GelBookModel" "position" "[I", Cond.methodLink RX8 110 yX8_size, Cond.static yX8_size, Cond.code yX8_size cX8_size 1 (some .int), Cond.methodLink RX8 166 yX8_master, Cond.instanceMethod yX8_master, Cond.selects RX8 yX8_master yX8_master, Cond.code yX8_master cX8_master 2 (some .float), Cond.fieldLink RX8 63 "GelBookModel" "released" "[I", Cond.fieldLink RX8 131 "GelBookModel" "tick" "I", Cond.fieldLink RX8 42 "GelBookModel" "down" "[I", Cond.methodLink RX8 159 yX8_rising, Cond.instanceMethod yX8_rising, Cond.selects RX8 yX8_rising yX8_rising, Cond.code yX8_rising cX8_rising 4 (some .float), Cond.fieldLink RX8 39 "GelBookModel" "up" "[I", Cond.fieldLink RX8 57 "GelBookModel" "went" "[I", Cond.methodLink RX8 176 yX8_bitsOf, Cond.static yX8_bitsOf, Cond.code yX8_bitsOf cX8_bitsOf 3 (some .int), Cond.constant RX8 174 (8388608), Cond.constantFloat RX8 175 (1258291200)]
def wsX8_levelOf : List Cond := .code yX8_levelOf cX8_levelOf 2 (some .int) :: ((wsX8_levelOf_r1 ++ (wsX8_levelOf_r2 ++ wsX8_levelOf_r3)) ++ wsX80)
def wsX8_levelAnew_r1 : List Cond := [Cond.methodLink RX8 101 yX8_isLamp, Cond.instanceMethod yX8_isLamp, Cond.selects RX8 yX8_isLamp yX8_isLamp, Cond.initialized RX8, Cond.code yX8_isLamp cX8_isLamp 2 (some .boolean), Cond.fieldLink RX8 84 "GelBookModel" "lamps" "I", Cond.methodLink RX8 87 yX8_isIn, Cond.static yX8_isIn, Cond.code yX8_isIn cX8_isIn 3 (some .boolean), Cond.methodLink RX8 98 yX8_can, Cond.instanceMethod yX8_can, Cond.selects RX8 yX8_can yX8_can, Cond.code yX8_can cX8_can 2 (some .boolean), Cond.fieldLink RX8 81 "GelBookModel" "thrown" "I", Cond.methodLink RX8 170 yX8_levelNow, Cond.instanceMethod yX8_levelNow, Cond.selects RX8 yX8_levelNow yX8_levelNow, Cond.code yX8_levelNow cX8_levelNow 7 (some .float), Cond.fieldLink RX8 36 "GelBookModel" "sort" "[I", Cond.fieldLink RX8 72 "GelBookModel" "its" "[I", Cond.fieldLink RX8 60 "GelBookModel" "order" "[I", Cond.methodLink RX8 163 yX8_after, Cond.instanceMethod yX8_after, Cond.selects RX8 yX8_after yX8_after]
def wsX8_levelAnew_r2 : List Cond := [Cond.code yX8_after cX8_after 4 (some .int), Cond.fieldLink RX8 91 "GelBookModel" "cues" "I", Cond.fieldLink RX8 54 "GelBookModel" "isActive" "[Z", Cond.methodLink RX8 121 yX8_finds, Cond.instanceMethod yX8_finds, Cond.selects RX8 yX8_finds yX8_finds, Cond.code yX8_finds cX8_finds 4 none, Cond.fieldLink RX8 45 "GelBookModel" "level" "[I", Cond.fieldLink RX8 75 "GelBookModel" "shining" "[I", Cond.methodLink RX8 104 yX8_isUsable, Cond.instanceMethod yX8_isUsable, Cond.selects RX8 yX8_isUsable yX8_isUsable, Cond.code yX8_isUsable cX8_isUsable 2 (some .boolean), Cond.fieldLink RX8 25 "GelBookModel" "isDead" "[Z", Cond.fieldLink RX8 29 "GelBookModel" "bars" "I", Cond.fieldLink RX8 7 "GelBookModel" "bar" "[I", Cond.methodLink RX8 118 yX8_nearest, Cond.instanceMethod yX8_nearest, Cond.selects RX8 yX8_nearest yX8_nearest, Cond.code yX8_nearest cX8_nearest 6 (some .int), Cond.fieldLink RX8 16 "GelBookModel" "gel" "[I", Cond.methodLink RX8 114 yX8_distance, Cond.instanceMethod yX8_distance, Cond.selects RX8 yX8_distance yX8_distance]
def wsX8_levelAnew_r3 : List Cond := [Cond.code yX8_distance cX8_distance 3 (some .int), Cond.fieldLink RX8 13 "GelBookModel" "position" "[I", Cond.methodLink RX8 110 yX8_size, Cond.static yX8_size, Cond.code yX8_size cX8_size 1 (some .int), Cond.methodLink RX8 166 yX8_master, Cond.instanceMethod yX8_master, Cond.selects RX8 yX8_master yX8_master, Cond.code yX8_master cX8_master 2 (some .float), Cond.fieldLink RX8 63 "GelBookModel" "released" "[I", Cond.fieldLink RX8 131 "GelBookModel" "tick" "I", Cond.fieldLink RX8 42 "GelBookModel" "down" "[I", Cond.methodLink RX8 159 yX8_rising, Cond.instanceMethod yX8_rising, Cond.selects RX8 yX8_rising yX8_rising, Cond.code yX8_rising cX8_rising 4 (some .float), Cond.fieldLink RX8 39 "GelBookModel" "up" "[I", Cond.fieldLink RX8 57 "GelBookModel" "went" "[I", Cond.methodLink RX8 176 yX8_bitsOf, Cond.static yX8_bitsOf, Cond.code yX8_bitsOf cX8_bitsOf 3 (some .int), Cond.constant RX8 174 (8388608), Cond.constantFloat RX8 175 (1258291200)]
def wsX8_levelAnew : List Cond := .code yX8_levelAnew cX8_levelAnew 2 (some .int) :: ((wsX8_levelAnew_r1 ++ (wsX8_levelAnew_r2 ++ wsX8_levelAnew_r3)) ++ wsX80)
def wsX8_loadOf_r1 : List Cond := [Cond.methodLink RX8 94 yX8_isPhase, Cond.static yX8_isPhase, Cond.initialized RX8, Cond.code yX8_isPhase cX8_isPhase 1 (some .boolean), Cond.methodLink RX8 87 yX8_isIn, Cond.static yX8_isIn, Cond.code yX8_isIn cX8_isIn 3 (some .boolean), Cond.methodLink RX8 98 yX8_can, Cond.instanceMethod yX8_can, Cond.selects RX8 yX8_can yX8_can, Cond.code yX8_can cX8_can 2 (some .boolean), Cond.fieldLink RX8 81 "GelBookModel" "thrown" "I", Cond.methodLink RX8 180 yX8_load, Cond.instanceMethod yX8_load, Cond.selects RX8 yX8_load yX8_load, Cond.code yX8_load cX8_load 4 (some .float), Cond.fieldLink RX8 84 "GelBookModel" "lamps" "I", Cond.fieldLink RX8 22 "GelBookModel" "phase" "[I", Cond.fieldLink RX8 19 "GelBookModel" "watts" "[I", Cond.constantFloat RX8 173 (1120403456), Cond.methodLink RX8 170 yX8_levelNow, Cond.instanceMethod yX8_levelNow, Cond.selects RX8 yX8_levelNow yX8_levelNow, Cond.code yX8_levelNow cX8_levelNow 7 (some .float)]
def wsX8_loadOf_r2 : List Cond := [Cond.fieldLink RX8 36 "GelBookModel" "sort" "[I", Cond.fieldLink RX8 72 "GelBookModel" "its" "[I", Cond.fieldLink RX8 60 "GelBookModel" "order" "[I", Cond.methodLink RX8 163 yX8_after, Cond.instanceMethod yX8_after, Cond.selects RX8 yX8_after yX8_after, Cond.code yX8_after cX8_after 4 (some .int), Cond.fieldLink RX8 91 "GelBookModel" "cues" "I", Cond.fieldLink RX8 54 "GelBookModel" "isActive" "[Z", Cond.methodLink RX8 121 yX8_finds, Cond.instanceMethod yX8_finds, Cond.selects RX8 yX8_finds yX8_finds, Cond.code yX8_finds cX8_finds 4 none, Cond.fieldLink RX8 45 "GelBookModel" "level" "[I", Cond.fieldLink RX8 75 "GelBookModel" "shining" "[I", Cond.methodLink RX8 104 yX8_isUsable, Cond.instanceMethod yX8_isUsable, Cond.selects RX8 yX8_isUsable yX8_isUsable, Cond.code yX8_isUsable cX8_isUsable 2 (some .boolean), Cond.fieldLink RX8 25 "GelBookModel" "isDead" "[Z", Cond.fieldLink RX8 29 "GelBookModel" "bars" "I", Cond.fieldLink RX8 7 "GelBookModel" "bar" "[I", Cond.methodLink RX8 118 yX8_nearest, Cond.instanceMethod yX8_nearest]
def wsX8_loadOf_r3 : List Cond := [Cond.selects RX8 yX8_nearest yX8_nearest, Cond.code yX8_nearest cX8_nearest 6 (some .int), Cond.fieldLink RX8 16 "GelBookModel" "gel" "[I", Cond.methodLink RX8 114 yX8_distance, Cond.instanceMethod yX8_distance, Cond.selects RX8 yX8_distance yX8_distance, Cond.code yX8_distance cX8_distance 3 (some .int), Cond.fieldLink RX8 13 "GelBookModel" "position" "[I", Cond.methodLink RX8 110 yX8_size, Cond.static yX8_size, Cond.code yX8_size cX8_size 1 (some .int), Cond.methodLink RX8 166 yX8_master, Cond.instanceMethod yX8_master, Cond.selects RX8 yX8_master yX8_master, Cond.code yX8_master cX8_master 2 (some .float), Cond.fieldLink RX8 63 "GelBookModel" "released" "[I", Cond.fieldLink RX8 131 "GelBookModel" "tick" "I", Cond.fieldLink RX8 42 "GelBookModel" "down" "[I", Cond.methodLink RX8 159 yX8_rising, Cond.instanceMethod yX8_rising, Cond.selects RX8 yX8_rising yX8_rising, Cond.code yX8_rising cX8_rising 4 (some .float), Cond.fieldLink RX8 39 "GelBookModel" "up" "[I", Cond.fieldLink RX8 57 "GelBookModel" "went" "[I"]
def wsX8_loadOf_r4 : List Cond := [Cond.methodLink RX8 176 yX8_bitsOf, Cond.static yX8_bitsOf, Cond.code yX8_bitsOf cX8_bitsOf 3 (some .int), Cond.constant RX8 174 (8388608), Cond.constantFloat RX8 175 (1258291200)]
def wsX8_loadOf : List Cond := .code yX8_loadOf cX8_loadOf 2 (some .int) :: ((wsX8_loadOf_r1 ++ (wsX8_loadOf_r2 ++ (wsX8_loadOf_r3 ++ wsX8_loadOf_r4))) ++ wsX80)
def wsX8_watts_r1 : List Cond := [Cond.methodLink RX8 94 yX8_isPhase, Cond.static yX8_isPhase, Cond.initialized RX8, Cond.code yX8_isPhase cX8_isPhase 1 (some .boolean), Cond.methodLink RX8 87 yX8_isIn, Cond.static yX8_isIn, Cond.code yX8_isIn cX8_isIn 3 (some .boolean), Cond.methodLink RX8 98 yX8_can, Cond.instanceMethod yX8_can, Cond.selects RX8 yX8_can yX8_can, Cond.code yX8_can cX8_can 2 (some .boolean), Cond.fieldLink RX8 81 "GelBookModel" "thrown" "I", Cond.methodLink RX8 180 yX8_load, Cond.instanceMethod yX8_load, Cond.selects RX8 yX8_load yX8_load, Cond.code yX8_load cX8_load 4 (some .float), Cond.fieldLink RX8 84 "GelBookModel" "lamps" "I", Cond.fieldLink RX8 22 "GelBookModel" "phase" "[I", Cond.fieldLink RX8 19 "GelBookModel" "watts" "[I", Cond.constantFloat RX8 173 (1120403456), Cond.methodLink RX8 170 yX8_levelNow, Cond.instanceMethod yX8_levelNow, Cond.selects RX8 yX8_levelNow yX8_levelNow, Cond.code yX8_levelNow cX8_levelNow 7 (some .float)]
def wsX8_watts_r2 : List Cond := [Cond.fieldLink RX8 36 "GelBookModel" "sort" "[I", Cond.fieldLink RX8 72 "GelBookModel" "its" "[I", Cond.fieldLink RX8 60 "GelBookModel" "order" "[I", Cond.methodLink RX8 163 yX8_after, Cond.instanceMethod yX8_after, Cond.selects RX8 yX8_after yX8_after, Cond.code yX8_after cX8_after 4 (some .int), Cond.fieldLink RX8 91 "GelBookModel" "cues" "I", Cond.fieldLink RX8 54 "GelBookModel" "isActive" "[Z", Cond.methodLink RX8 121 yX8_finds, Cond.instanceMethod yX8_finds, Cond.selects RX8 yX8_finds yX8_finds, Cond.code yX8_finds cX8_finds 4 none, Cond.fieldLink RX8 45 "GelBookModel" "level" "[I", Cond.fieldLink RX8 75 "GelBookModel" "shining" "[I", Cond.methodLink RX8 104 yX8_isUsable, Cond.instanceMethod yX8_isUsable, Cond.selects RX8 yX8_isUsable yX8_isUsable, Cond.code yX8_isUsable cX8_isUsable 2 (some .boolean), Cond.fieldLink RX8 25 "GelBookModel" "isDead" "[Z", Cond.fieldLink RX8 29 "GelBookModel" "bars" "I", Cond.fieldLink RX8 7 "GelBookModel" "bar" "[I", Cond.methodLink RX8 118 yX8_nearest, Cond.instanceMethod yX8_nearest]
def wsX8_watts_r3 : List Cond := [Cond.selects RX8 yX8_nearest yX8_nearest, Cond.code yX8_nearest cX8_nearest 6 (some .int), Cond.fieldLink RX8 16 "GelBookModel" "gel" "[I", Cond.methodLink RX8 114 yX8_distance, Cond.instanceMethod yX8_distance, Cond.selects RX8 yX8_distance yX8_distance, Cond.code yX8_distance cX8_distance 3 (some .int), Cond.fieldLink RX8 13 "GelBookModel" "position" "[I", Cond.methodLink RX8 110 yX8_size, Cond.static yX8_size, Cond.code yX8_size cX8_size 1 (some .int), Cond.methodLink RX8 166 yX8_master, Cond.instanceMethod yX8_master, Cond.selects RX8 yX8_master yX8_master, Cond.code yX8_master cX8_master 2 (some .float), Cond.fieldLink RX8 63 "GelBookModel" "released" "[I", Cond.fieldLink RX8 131 "GelBookModel" "tick" "I", Cond.fieldLink RX8 42 "GelBookModel" "down" "[I", Cond.methodLink RX8 159 yX8_rising, Cond.instanceMethod yX8_rising, Cond.selects RX8 yX8_rising yX8_rising, Cond.code yX8_rising cX8_rising 4 (some .float), Cond.fieldLink RX8 39 "GelBookModel" "up" "[I", Cond.fieldLink RX8 57 "GelBookModel" "went" "[I"]
def wsX8_watts : List Cond := .code yX8_watts cX8_watts 2 (some .int) :: ((wsX8_watts_r1 ++ (wsX8_watts_r2 ++ wsX8_watts_r3)) ++ wsX80)
def wsX8_asks_r1 : List Cond := [Cond.methodLink RX8 107 yX8_isCue, Cond.instanceMethod yX8_isCue, Cond.selects RX8 yX8_isCue yX8_isCue, Cond.initialized RX8, Cond.code yX8_isCue cX8_isCue 2 (some .boolean), Cond.fieldLink RX8 91 "GelBookModel" "cues" "I", Cond.methodLink RX8 87 yX8_isIn, Cond.static yX8_isIn, Cond.code yX8_isIn cX8_isIn 3 (some .boolean), Cond.methodLink RX8 94 yX8_isPhase, Cond.static yX8_isPhase, Cond.code yX8_isPhase cX8_isPhase 1 (some .boolean), Cond.methodLink RX8 98 yX8_can, Cond.instanceMethod yX8_can, Cond.selects RX8 yX8_can yX8_can, Cond.code yX8_can cX8_can 2 (some .boolean), Cond.fieldLink RX8 81 "GelBookModel" "thrown" "I", Cond.methodLink RX8 128 yX8_asked, Cond.instanceMethod yX8_asked, Cond.selects RX8 yX8_asked yX8_asked, Cond.code yX8_asked cX8_asked 5 (some .int), Cond.fieldLink RX8 84 "GelBookModel" "lamps" "I", Cond.fieldLink RX8 78 "GelBookModel" "greatest" "[I", Cond.fieldLink RX8 54 "GelBookModel" "isActive" "[Z"]
def wsX8_asks_r2 : List Cond := [Cond.fieldLink RX8 63 "GelBookModel" "released" "[I", Cond.fieldLink RX8 22 "GelBookModel" "phase" "[I", Cond.fieldLink RX8 19 "GelBookModel" "watts" "[I", Cond.methodLink RX8 125 yX8_raises, Cond.instanceMethod yX8_raises, Cond.selects RX8 yX8_raises yX8_raises, Cond.code yX8_raises cX8_raises 3 none, Cond.fieldLink RX8 72 "GelBookModel" "its" "[I", Cond.methodLink RX8 121 yX8_finds, Cond.instanceMethod yX8_finds, Cond.selects RX8 yX8_finds yX8_finds, Cond.code yX8_finds cX8_finds 4 none, Cond.fieldLink RX8 45 "GelBookModel" "level" "[I", Cond.fieldLink RX8 75 "GelBookModel" "shining" "[I", Cond.methodLink RX8 104 yX8_isUsable, Cond.instanceMethod yX8_isUsable, Cond.selects RX8 yX8_isUsable yX8_isUsable, Cond.code yX8_isUsable cX8_isUsable 2 (some .boolean), Cond.fieldLink RX8 25 "GelBookModel" "isDead" "[Z", Cond.fieldLink RX8 29 "GelBookModel" "bars" "I", Cond.fieldLink RX8 7 "GelBookModel" "bar" "[I", Cond.methodLink RX8 118 yX8_nearest, Cond.instanceMethod yX8_nearest, Cond.selects RX8 yX8_nearest yX8_nearest]
def wsX8_asks_r3 : List Cond := [Cond.code yX8_nearest cX8_nearest 6 (some .int), Cond.fieldLink RX8 16 "GelBookModel" "gel" "[I", Cond.methodLink RX8 114 yX8_distance, Cond.instanceMethod yX8_distance, Cond.selects RX8 yX8_distance yX8_distance, Cond.code yX8_distance cX8_distance 3 (some .int), Cond.fieldLink RX8 13 "GelBookModel" "position" "[I", Cond.methodLink RX8 110 yX8_size, Cond.static yX8_size, Cond.code yX8_size cX8_size 1 (some .int)]
def wsX8_asks : List Cond := .code yX8_asks cX8_asks 3 (some .int) :: ((wsX8_asks_r1 ++ (wsX8_asks_r2 ++ wsX8_asks_r3)) ++ wsX80)
def wsX8_shines_r1 : List Cond := [Cond.fieldLink RX8 75 "GelBookModel" "shining" "[I", Cond.methodLink RX8 107 yX8_isCue, Cond.instanceMethod yX8_isCue, Cond.selects RX8 yX8_isCue yX8_isCue, Cond.initialized RX8, Cond.code yX8_isCue cX8_isCue 2 (some .boolean), Cond.fieldLink RX8 91 "GelBookModel" "cues" "I", Cond.methodLink RX8 87 yX8_isIn, Cond.static yX8_isIn, Cond.code yX8_isIn cX8_isIn 3 (some .boolean), Cond.methodLink RX8 101 yX8_isLamp, Cond.instanceMethod yX8_isLamp, Cond.selects RX8 yX8_isLamp yX8_isLamp, Cond.code yX8_isLamp cX8_isLamp 2 (some .boolean), Cond.fieldLink RX8 84 "GelBookModel" "lamps" "I", Cond.methodLink RX8 98 yX8_can, Cond.instanceMethod yX8_can, Cond.selects RX8 yX8_can yX8_can, Cond.code yX8_can cX8_can 2 (some .boolean), Cond.fieldLink RX8 81 "GelBookModel" "thrown" "I", Cond.methodLink RX8 121 yX8_finds, Cond.instanceMethod yX8_finds, Cond.selects RX8 yX8_finds yX8_finds, Cond.code yX8_finds cX8_finds 4 none]
def wsX8_shines_r2 : List Cond := [Cond.fieldLink RX8 45 "GelBookModel" "level" "[I", Cond.fieldLink RX8 72 "GelBookModel" "its" "[I", Cond.methodLink RX8 104 yX8_isUsable, Cond.instanceMethod yX8_isUsable, Cond.selects RX8 yX8_isUsable yX8_isUsable, Cond.code yX8_isUsable cX8_isUsable 2 (some .boolean), Cond.fieldLink RX8 25 "GelBookModel" "isDead" "[Z", Cond.fieldLink RX8 29 "GelBookModel" "bars" "I", Cond.fieldLink RX8 7 "GelBookModel" "bar" "[I", Cond.methodLink RX8 118 yX8_nearest, Cond.instanceMethod yX8_nearest, Cond.selects RX8 yX8_nearest yX8_nearest, Cond.code yX8_nearest cX8_nearest 6 (some .int), Cond.fieldLink RX8 16 "GelBookModel" "gel" "[I", Cond.methodLink RX8 114 yX8_distance, Cond.instanceMethod yX8_distance, Cond.selects RX8 yX8_distance yX8_distance, Cond.code yX8_distance cX8_distance 3 (some .int), Cond.fieldLink RX8 13 "GelBookModel" "position" "[I", Cond.methodLink RX8 110 yX8_size, Cond.static yX8_size, Cond.code yX8_size cX8_size 1 (some .int)]
def wsX8_shines : List Cond := .code yX8_shines cX8_shines 3 (some .int) :: ((wsX8_shines_r1 ++ wsX8_shines_r2) ++ wsX80)
def wsX8_playing_r1 : List Cond := [Cond.fieldLink RX8 54 "GelBookModel" "isActive" "[Z", Cond.fieldLink RX8 63 "GelBookModel" "released" "[I", Cond.fieldLink RX8 57 "GelBookModel" "went" "[I", Cond.methodLink RX8 107 yX8_isCue, Cond.instanceMethod yX8_isCue, Cond.selects RX8 yX8_isCue yX8_isCue, Cond.initialized RX8, Cond.code yX8_isCue cX8_isCue 2 (some .boolean), Cond.fieldLink RX8 91 "GelBookModel" "cues" "I", Cond.methodLink RX8 87 yX8_isIn, Cond.static yX8_isIn, Cond.code yX8_isIn cX8_isIn 3 (some .boolean), Cond.methodLink RX8 98 yX8_can, Cond.instanceMethod yX8_can, Cond.selects RX8 yX8_can yX8_can, Cond.code yX8_can cX8_can 2 (some .boolean), Cond.fieldLink RX8 81 "GelBookModel" "thrown" "I", Cond.methodLink RX8 166 yX8_master, Cond.instanceMethod yX8_master, Cond.selects RX8 yX8_master yX8_master, Cond.code yX8_master cX8_master 2 (some .float), Cond.fieldLink RX8 131 "GelBookModel" "tick" "I", Cond.fieldLink RX8 42 "GelBookModel" "down" "[I", Cond.methodLink RX8 159 yX8_rising]
def wsX8_playing_r2 : List Cond := [Cond.instanceMethod yX8_rising, Cond.selects RX8 yX8_rising yX8_rising, Cond.code yX8_rising cX8_rising 4 (some .float), Cond.fieldLink RX8 39 "GelBookModel" "up" "[I", Cond.methodLink RX8 176 yX8_bitsOf, Cond.static yX8_bitsOf, Cond.code yX8_bitsOf cX8_bitsOf 3 (some .int), Cond.constant RX8 174 (8388608), Cond.constantFloat RX8 175 (1258291200)]
def wsX8_playing : List Cond := .code yX8_playing cX8_playing 3 (some .int) :: ((wsX8_playing_r1 ++ wsX8_playing_r2) ++ wsX80)
def wsX8_barred : List Cond := .code yX8_barred cX8_barred 1 (some .int) :: ([.fieldLink RX8 81 "GelBookModel" "thrown" "I", .fieldLink RX8 153 "GelBookModel" "barred" "I"] ++ wsX80)
def wsJ9_abs_0f7a4 : List Cond := .code yJ9_abs_0f7a4 cJ9_abs_0f7a4 1 (some .int) :: ([])
def wsJ9_max_7cf53 : List Cond := .code yJ9_max_7cf53 cJ9_max_7cf53 2 (some .int) :: ([])
def wsJ9_min_7cf53 : List Cond := .code yJ9_min_7cf53 cJ9_min_7cf53 2 (some .int) :: ([])
def wsL_lamp_r1 : List Cond := [Cond.classLink RL 13 "java/lang/IllegalArgumentException", Cond.classLink RL 15 "java/lang/IllegalStateException", Cond.methodLink RL 7 yX7_lamp, Cond.instanceMethod yX7_lamp, Cond.selects RX7 yX7_lamp yX7_lamp, Cond.initialized RX7, Cond.code yX7_lamp cX7_lamp 7 (some .int), Cond.classLink RX7 67 "java/lang/IllegalArgumentException", Cond.initialized "java/lang/IllegalArgumentException", Cond.classLink RX7 78 "java/lang/IllegalStateException", Cond.initialized "java/lang/IllegalStateException", Cond.fieldLink RX7 10 "GelBook" "rig" "LGelBook$Rig;", Cond.classLink RX7 83 RX4, Cond.instantiable RX4 6, Cond.initialized RX4, Cond.methodLink RX7 56 yX7_isWithin, Cond.static yX7_isWithin, Cond.code yX7_isWithin cX7_isWithin 3 (some .boolean), Cond.methodLink RX7 60 yX7_isGel, Cond.static yX7_isGel, Cond.code yX7_isGel cX7_isGel 1 (some .boolean), Cond.methodLink RX7 64 yX7_isPhase, Cond.static yX7_isPhase, Cond.code yX7_isPhase cX7_isPhase 1 (some .boolean)]
def wsL_lamp_r2 : List Cond := [Cond.methodLink RX7 74 yX5_isFull, Cond.instanceMethod yX5_isFull, Cond.selects RX5 yX5_isFull yX5_isFull, Cond.initialized RX5, Cond.code yX5_isFull cX5_isFull 1 (some .boolean), Cond.fieldLink RX5 21 "GelBook$Rig" "count" "I", Cond.fieldLink RX5 11 "GelBook$Rig" "lamps" "[LGelBook$Lamp;", Cond.methodLink RX7 85 yX4_init, Cond.instanceMethod yX4_init, Cond.code yX4_init cX4_init 6 none, Cond.methodLink RX4 1 objectInit, Cond.instanceMethod objectInit, Cond.code objectInit ⟨#[0xb1]⟩ 1 none, Cond.fieldLink RX4 7 "GelBook$Lamp" "bar" "I", Cond.fieldLink RX4 13 "GelBook$Lamp" "position" "I", Cond.fieldLink RX4 16 "GelBook$Lamp" "gel" "I", Cond.fieldLink RX4 19 "GelBook$Lamp" "watts" "I", Cond.fieldLink RX4 22 "GelBook$Lamp" "phase" "I", Cond.methodLink RX7 88 yX5_hang, Cond.instanceMethod yX5_hang, Cond.selects RX5 yX5_hang yX5_hang, Cond.code yX5_hang cX5_hang 2 (some .int), Cond.methodLink RX7 92 yX7_arrangeCues, Cond.instanceMethod yX7_arrangeCues]
def wsL_lamp_r3 : List Cond := [Cond.selects RX7 yX7_arrangeCues yX7_arrangeCues, Cond.code yX7_arrangeCues cX7_arrangeCues 3 none, Cond.fieldLink RX7 18 "GelBook" "cues" "[LGelBook$Cue;", Cond.methodLink RX7 144 yX0_arrange, Cond.instanceMethod yX0_arrange, Cond.selects RX0 yX0_arrange yX0_arrange, Cond.initialized RX0, Cond.code yX0_arrange cX0_arrange 5 none, Cond.fieldLink RX0 28 "GelBook$Cue" "shiners" "[I", Cond.fieldLink RX0 31 "GelBook$Cue" "levels" "[I", Cond.fieldLink RX0 24 "GelBook$Cue" "told" "[I", Cond.methodLink RX0 34 yJ7_fill_53178, Cond.static yJ7_fill_53178, Cond.initialized RJ7, Cond.code yJ7_fill_53178 cJ7_fill_53178 4 none, Cond.methodLink RX0 40 yX5_lampAt, Cond.instanceMethod yX5_lampAt, Cond.selects RX5 yX5_lampAt yX5_lampAt, Cond.code yX5_lampAt cX5_lampAt 2 (some (.object "GelBook$Lamp")), Cond.methodLink RX0 46 yX5_isUsable, Cond.instanceMethod yX5_isUsable, Cond.selects RX5 yX5_isUsable yX5_isUsable, Cond.code yX5_isUsable cX5_isUsable 2 (some .boolean), Cond.fieldLink RX5 24 "GelBook$Lamp" "dead" "Z"]
def wsL_lamp_r4 : List Cond := [Cond.fieldLink RX5 17 "GelBook$Rig" "bars" "I", Cond.fieldLink RX5 28 "GelBook$Lamp" "bar" "I", Cond.methodLink RX0 50 yX5_nearestSpare, Cond.instanceMethod yX5_nearestSpare, Cond.selects RX5 yX5_nearestSpare yX5_nearestSpare, Cond.code yX5_nearestSpare cX5_nearestSpare 8 (some .int), Cond.fieldLink RX5 35 "GelBook$Lamp" "gel" "I", Cond.methodLink RX5 31 yX5_isUsable, Cond.methodLink RX5 38 yX0_canSpare, Cond.instanceMethod yX0_canSpare, Cond.selects RX0 yX0_canSpare yX0_canSpare, Cond.code yX0_canSpare cX0_canSpare 2 (some .boolean), Cond.methodLink RX5 44 yX4_distanceTo, Cond.instanceMethod yX4_distanceTo, Cond.selects RX4 yX4_distanceTo yX4_distanceTo, Cond.code yX4_distanceTo cX4_distanceTo 2 (some .int), Cond.methodLink RX4 25 Lib.Math.abs.name, Cond.static Lib.Math.abs.name, Cond.initialized "java/lang/Math", Cond.code Lib.Math.abs.name Lib.Math.abs.code 1 (some .int)]
def wsL_lamp : List Cond := .codeWith yL_lamp cL_lamp 8 (some .int) [(0, 16, 19, 13), (0, 16, 23, 15)] :: ((wsL_lamp_r1 ++ (wsL_lamp_r2 ++ (wsL_lamp_r3 ++ wsL_lamp_r4))) ++ wsX70 ++ wsX40 ++ wsX50 ++ wsX00 ++ (vx_atS RX7 71 "java/lang/IllegalArgumentException" ["java/lang/RuntimeException", "java/lang/Exception"]).filter goodWord ++ (vx_atS RX7 82 "java/lang/IllegalStateException" ["java/lang/RuntimeException", "java/lang/Exception"]).filter goodWord)
def wsL_die_r1 : List Cond := [Cond.classLink RL 21 "java/lang/IndexOutOfBoundsException", Cond.methodLink RL 17 yX7_die, Cond.instanceMethod yX7_die, Cond.selects RX7 yX7_die yX7_die, Cond.initialized RX7, Cond.code yX7_die cX7_die 3 (some .boolean), Cond.classLink RX7 99 "java/lang/IndexOutOfBoundsException", Cond.initialized "java/lang/IndexOutOfBoundsException", Cond.fieldLink RX7 10 "GelBook" "rig" "LGelBook$Rig;", Cond.fieldLink RX7 104 "GelBook$Lamp" "dead" "Z", Cond.methodLink RX7 95 yX5_lampAt, Cond.instanceMethod yX5_lampAt, Cond.selects RX5 yX5_lampAt yX5_lampAt, Cond.initialized RX5, Cond.code yX5_lampAt cX5_lampAt 2 (some (.object "GelBook$Lamp")), Cond.fieldLink RX5 11 "GelBook$Rig" "lamps" "[LGelBook$Lamp;", Cond.methodLink RX7 92 yX7_arrangeCues, Cond.instanceMethod yX7_arrangeCues, Cond.selects RX7 yX7_arrangeCues yX7_arrangeCues, Cond.code yX7_arrangeCues cX7_arrangeCues 3 none, Cond.fieldLink RX7 18 "GelBook" "cues" "[LGelBook$Cue;", Cond.methodLink RX7 144 yX0_arrange, Cond.instanceMethod yX0_arrange, Cond.selects RX0 yX0_arrange yX0_arrange]
def wsL_die_r2 : List Cond := [Cond.initialized RX0, Cond.code yX0_arrange cX0_arrange 5 none, Cond.fieldLink RX0 28 "GelBook$Cue" "shiners" "[I", Cond.fieldLink RX0 31 "GelBook$Cue" "levels" "[I", Cond.fieldLink RX0 24 "GelBook$Cue" "told" "[I", Cond.methodLink RX0 34 yJ7_fill_53178, Cond.static yJ7_fill_53178, Cond.initialized RJ7, Cond.code yJ7_fill_53178 cJ7_fill_53178 4 none, Cond.methodLink RX0 40 yX5_lampAt, Cond.methodLink RX0 46 yX5_isUsable, Cond.instanceMethod yX5_isUsable, Cond.selects RX5 yX5_isUsable yX5_isUsable, Cond.code yX5_isUsable cX5_isUsable 2 (some .boolean), Cond.fieldLink RX5 24 "GelBook$Lamp" "dead" "Z", Cond.fieldLink RX5 17 "GelBook$Rig" "bars" "I", Cond.fieldLink RX5 28 "GelBook$Lamp" "bar" "I", Cond.methodLink RX0 50 yX5_nearestSpare, Cond.instanceMethod yX5_nearestSpare, Cond.selects RX5 yX5_nearestSpare yX5_nearestSpare, Cond.code yX5_nearestSpare cX5_nearestSpare 8 (some .int), Cond.fieldLink RX5 35 "GelBook$Lamp" "gel" "I", Cond.methodLink RX5 31 yX5_isUsable, Cond.methodLink RX5 38 yX0_canSpare]
def wsL_die_r3 : List Cond := [Cond.instanceMethod yX0_canSpare, Cond.selects RX0 yX0_canSpare yX0_canSpare, Cond.code yX0_canSpare cX0_canSpare 2 (some .boolean), Cond.methodLink RX5 44 yX4_distanceTo, Cond.instanceMethod yX4_distanceTo, Cond.selects RX4 yX4_distanceTo yX4_distanceTo, Cond.initialized RX4, Cond.code yX4_distanceTo cX4_distanceTo 2 (some .int), Cond.fieldLink RX4 7 "GelBook$Lamp" "bar" "I", Cond.methodLink RX4 25 Lib.Math.abs.name, Cond.static Lib.Math.abs.name, Cond.initialized "java/lang/Math", Cond.code Lib.Math.abs.name Lib.Math.abs.code 1 (some .int), Cond.fieldLink RX4 13 "GelBook$Lamp" "position" "I"]
def wsL_die : List Cond := .codeWith yL_die cL_die 4 (some .int) [(0, 16, 19, 21)] :: ((wsL_die_r1 ++ (wsL_die_r2 ++ wsL_die_r3)) ++ wsX70 ++ wsX40 ++ wsX50 ++ wsX00 ++ (vx_atS RX7 103 "java/lang/IndexOutOfBoundsException" ["java/lang/RuntimeException", "java/lang/Exception"]).filter goodWord)
def wsL_house_r1 : List Cond := [Cond.classLink RL 13 "java/lang/IllegalArgumentException", Cond.methodLink RL 23 yX7_house, Cond.instanceMethod yX7_house, Cond.selects RX7 yX7_house yX7_house, Cond.initialized RX7, Cond.code yX7_house cX7_house 2 (some .int), Cond.classLink RX7 67 "java/lang/IllegalArgumentException", Cond.initialized "java/lang/IllegalArgumentException", Cond.fieldLink RX7 10 "GelBook" "rig" "LGelBook$Rig;", Cond.fieldLink RX7 110 "GelBook$Rig" "bars" "I", Cond.methodLink RX7 56 yX7_isWithin, Cond.static yX7_isWithin, Cond.code yX7_isWithin cX7_isWithin 3 (some .boolean), Cond.methodLink RX7 92 yX7_arrangeCues, Cond.instanceMethod yX7_arrangeCues, Cond.selects RX7 yX7_arrangeCues yX7_arrangeCues, Cond.code yX7_arrangeCues cX7_arrangeCues 3 none, Cond.fieldLink RX7 18 "GelBook" "cues" "[LGelBook$Cue;", Cond.methodLink RX7 144 yX0_arrange, Cond.instanceMethod yX0_arrange, Cond.selects RX0 yX0_arrange yX0_arrange, Cond.initialized RX0, Cond.code yX0_arrange cX0_arrange 5 none, Cond.fieldLink RX0 28 "GelBook$Cue" "shiners" "[I"]
def wsL_house_r2 : List Cond := [Cond.fieldLink RX0 31 "GelBook$Cue" "levels" "[I", Cond.fieldLink RX0 24 "GelBook$Cue" "told" "[I", Cond.methodLink RX0 34 yJ7_fill_53178, Cond.static yJ7_fill_53178, Cond.initialized RJ7, Cond.code yJ7_fill_53178 cJ7_fill_53178 4 none, Cond.methodLink RX0 40 yX5_lampAt, Cond.instanceMethod yX5_lampAt, Cond.selects RX5 yX5_lampAt yX5_lampAt, Cond.initialized RX5, Cond.code yX5_lampAt cX5_lampAt 2 (some (.object "GelBook$Lamp")), Cond.fieldLink RX5 11 "GelBook$Rig" "lamps" "[LGelBook$Lamp;", Cond.methodLink RX0 46 yX5_isUsable, Cond.instanceMethod yX5_isUsable, Cond.selects RX5 yX5_isUsable yX5_isUsable, Cond.code yX5_isUsable cX5_isUsable 2 (some .boolean), Cond.fieldLink RX5 24 "GelBook$Lamp" "dead" "Z", Cond.fieldLink RX5 17 "GelBook$Rig" "bars" "I", Cond.fieldLink RX5 28 "GelBook$Lamp" "bar" "I", Cond.methodLink RX0 50 yX5_nearestSpare, Cond.instanceMethod yX5_nearestSpare, Cond.selects RX5 yX5_nearestSpare yX5_nearestSpare, Cond.code yX5_nearestSpare cX5_nearestSpare 8 (some .int), Cond.fieldLink RX5 35 "GelBook$Lamp" "gel" "I"]
def wsL_house_r3 : List Cond := [Cond.methodLink RX5 31 yX5_isUsable, Cond.methodLink RX5 38 yX0_canSpare, Cond.instanceMethod yX0_canSpare, Cond.selects RX0 yX0_canSpare yX0_canSpare, Cond.code yX0_canSpare cX0_canSpare 2 (some .boolean), Cond.methodLink RX5 44 yX4_distanceTo, Cond.instanceMethod yX4_distanceTo, Cond.selects RX4 yX4_distanceTo yX4_distanceTo, Cond.initialized RX4, Cond.code yX4_distanceTo cX4_distanceTo 2 (some .int), Cond.fieldLink RX4 7 "GelBook$Lamp" "bar" "I", Cond.methodLink RX4 25 Lib.Math.abs.name, Cond.static Lib.Math.abs.name, Cond.initialized "java/lang/Math", Cond.code Lib.Math.abs.name Lib.Math.abs.code 1 (some .int), Cond.fieldLink RX4 13 "GelBook$Lamp" "position" "I", Cond.methodLink RX7 114 yX5_countUsable, Cond.instanceMethod yX5_countUsable, Cond.selects RX5 yX5_countUsable yX5_countUsable, Cond.code yX5_countUsable cX5_countUsable 3 (some .int)]
def wsL_house : List Cond := .codeWith yL_house cL_house 4 (some .int) [(0, 9, 12, 13)] :: ((wsL_house_r1 ++ (wsL_house_r2 ++ wsL_house_r3)) ++ wsX70 ++ wsX50 ++ wsX00 ++ wsX40 ++ (vx_atS RX7 71 "java/lang/IllegalArgumentException" ["java/lang/RuntimeException", "java/lang/Exception"]).filter goodWord)
def wsL_power : List Cond := .codeWith yL_power cL_power 5 (some .int) [(0, 10, 13, 21), (0, 10, 17, 13)] :: ([.classLink RL 21 "java/lang/IndexOutOfBoundsException", .classLink RL 13 "java/lang/IllegalArgumentException", .methodLink RL 27 yX7_power, .instanceMethod yX7_power, .selects RX7 yX7_power yX7_power, .initialized RX7, .code yX7_power cX7_power 4 (some .int), .classLink RX7 99 "java/lang/IndexOutOfBoundsException", .initialized "java/lang/IndexOutOfBoundsException", .classLink RX7 67 "java/lang/IllegalArgumentException", .initialized "java/lang/IllegalArgumentException", .fieldLink RX7 22 "GelBook" "powers" "[I", .methodLink RX7 64 yX7_isPhase, .static yX7_isPhase, .code yX7_isPhase cX7_isPhase 1 (some .boolean), .methodLink RX7 56 yX7_isWithin, .static yX7_isWithin, .code yX7_isWithin cX7_isWithin 3 (some .boolean)] ++ wsX70 ++ (vx_atS RX7 103 "java/lang/IndexOutOfBoundsException" ["java/lang/RuntimeException", "java/lang/Exception"]).filter goodWord ++ (vx_atS RX7 71 "java/lang/IllegalArgumentException" ["java/lang/RuntimeException", "java/lang/Exception"]).filter goodWord)
def wsL_cue_r1 : List Cond := [Cond.classLink RL 13 "java/lang/IllegalArgumentException", Cond.classLink RL 15 "java/lang/IllegalStateException", Cond.methodLink RL 31 yX7_cue, Cond.instanceMethod yX7_cue, Cond.selects RX7 yX7_cue yX7_cue, Cond.initialized RX7, Cond.code yX7_cue cX7_cue 5 (some .int), Cond.classLink RX7 67 "java/lang/IllegalArgumentException", Cond.initialized "java/lang/IllegalArgumentException", Cond.classLink RX7 78 "java/lang/IllegalStateException", Cond.initialized "java/lang/IllegalStateException", Cond.fieldLink RX7 124 "GelBook" "cueCount" "I", Cond.fieldLink RX7 18 "GelBook" "cues" "[LGelBook$Cue;", Cond.classLink RX7 16 RX0, Cond.instantiable RX0 9, Cond.initialized RX0, Cond.methodLink RX7 56 yX7_isWithin, Cond.static yX7_isWithin, Cond.code yX7_isWithin cX7_isWithin 3 (some .boolean), Cond.methodLink RX7 129 yX0_init, Cond.instanceMethod yX0_init, Cond.code yX0_init cX0_init 5 none, Cond.methodLink RX0 3 objectInit, Cond.instanceMethod objectInit]
def wsL_cue_r2 : List Cond := [Cond.code objectInit ⟨#[0xb1]⟩ 1 none, Cond.fieldLink RX0 9 "GelBook$Cue" "number" "I", Cond.fieldLink RX0 15 "GelBook$Cue" "sort" "I", Cond.fieldLink RX0 18 "GelBook$Cue" "up" "I", Cond.fieldLink RX0 21 "GelBook$Cue" "down" "I", Cond.arrayClass .int, Cond.fieldLink RX0 24 "GelBook$Cue" "told" "[I", Cond.fieldLink RX0 28 "GelBook$Cue" "shiners" "[I", Cond.fieldLink RX0 31 "GelBook$Cue" "levels" "[I", Cond.methodLink RX0 34 yJ7_fill_53178, Cond.static yJ7_fill_53178, Cond.initialized RJ7, Cond.code yJ7_fill_53178 cJ7_fill_53178 4 none]
def wsL_cue : List Cond := .codeWith yL_cue cL_cue 6 (some .int) [(0, 12, 15, 13), (0, 12, 19, 15)] :: ((wsL_cue_r1 ++ wsL_cue_r2) ++ wsX70 ++ wsX00 ++ (vx_atS RX7 71 "java/lang/IllegalArgumentException" ["java/lang/RuntimeException", "java/lang/Exception"]).filter goodWord ++ (vx_atS RX7 82 "java/lang/IllegalStateException" ["java/lang/RuntimeException", "java/lang/Exception"]).filter goodWord)
def wsL_level_r1 : List Cond := [Cond.classLink RL 21 "java/lang/IndexOutOfBoundsException", Cond.classLink RL 13 "java/lang/IllegalArgumentException", Cond.methodLink RL 35 yX7_level, Cond.instanceMethod yX7_level, Cond.selects RX7 yX7_level yX7_level, Cond.initialized RX7, Cond.code yX7_level cX7_level 6 (some .int), Cond.classLink RX7 99 "java/lang/IndexOutOfBoundsException", Cond.initialized "java/lang/IndexOutOfBoundsException", Cond.classLink RX7 67 "java/lang/IllegalArgumentException", Cond.initialized "java/lang/IllegalArgumentException", Cond.fieldLink RX7 10 "GelBook" "rig" "LGelBook$Rig;", Cond.methodLink RX7 132 yX7_cueAt, Cond.instanceMethod yX7_cueAt, Cond.selects RX7 yX7_cueAt yX7_cueAt, Cond.code yX7_cueAt cX7_cueAt 2 (some (.object "GelBook$Cue")), Cond.fieldLink RX7 18 "GelBook" "cues" "[LGelBook$Cue;", Cond.methodLink RX7 95 yX5_lampAt, Cond.instanceMethod yX5_lampAt, Cond.selects RX5 yX5_lampAt yX5_lampAt, Cond.initialized RX5, Cond.code yX5_lampAt cX5_lampAt 2 (some (.object "GelBook$Lamp")), Cond.fieldLink RX5 11 "GelBook$Rig" "lamps" "[LGelBook$Lamp;", Cond.methodLink RX7 56 yX7_isWithin]
def wsL_level_r2 : List Cond := [Cond.static yX7_isWithin, Cond.code yX7_isWithin cX7_isWithin 3 (some .boolean), Cond.methodLink RX7 140 yX0_tell, Cond.instanceMethod yX0_tell, Cond.selects RX0 yX0_tell yX0_tell, Cond.initialized RX0, Cond.code yX0_tell cX0_tell 4 (some .int), Cond.fieldLink RX0 24 "GelBook$Cue" "told" "[I", Cond.methodLink RX7 144 yX0_arrange, Cond.instanceMethod yX0_arrange, Cond.selects RX0 yX0_arrange yX0_arrange, Cond.code yX0_arrange cX0_arrange 5 none, Cond.fieldLink RX0 28 "GelBook$Cue" "shiners" "[I", Cond.fieldLink RX0 31 "GelBook$Cue" "levels" "[I", Cond.methodLink RX0 34 yJ7_fill_53178, Cond.static yJ7_fill_53178, Cond.initialized RJ7, Cond.code yJ7_fill_53178 cJ7_fill_53178 4 none, Cond.methodLink RX0 40 yX5_lampAt, Cond.methodLink RX0 46 yX5_isUsable, Cond.instanceMethod yX5_isUsable, Cond.selects RX5 yX5_isUsable yX5_isUsable, Cond.code yX5_isUsable cX5_isUsable 2 (some .boolean), Cond.fieldLink RX5 24 "GelBook$Lamp" "dead" "Z"]
def wsL_level_r3 : List Cond := [Cond.fieldLink RX5 17 "GelBook$Rig" "bars" "I", Cond.fieldLink RX5 28 "GelBook$Lamp" "bar" "I", Cond.methodLink RX0 50 yX5_nearestSpare, Cond.instanceMethod yX5_nearestSpare, Cond.selects RX5 yX5_nearestSpare yX5_nearestSpare, Cond.code yX5_nearestSpare cX5_nearestSpare 8 (some .int), Cond.fieldLink RX5 35 "GelBook$Lamp" "gel" "I", Cond.methodLink RX5 31 yX5_isUsable, Cond.methodLink RX5 38 yX0_canSpare, Cond.instanceMethod yX0_canSpare, Cond.selects RX0 yX0_canSpare yX0_canSpare, Cond.code yX0_canSpare cX0_canSpare 2 (some .boolean), Cond.methodLink RX5 44 yX4_distanceTo, Cond.instanceMethod yX4_distanceTo, Cond.selects RX4 yX4_distanceTo yX4_distanceTo, Cond.initialized RX4, Cond.code yX4_distanceTo cX4_distanceTo 2 (some .int), Cond.fieldLink RX4 7 "GelBook$Lamp" "bar" "I", Cond.methodLink RX4 25 Lib.Math.abs.name, Cond.static Lib.Math.abs.name, Cond.initialized "java/lang/Math", Cond.code Lib.Math.abs.name Lib.Math.abs.code 1 (some .int), Cond.fieldLink RX4 13 "GelBook$Lamp" "position" "I"]
def wsL_level : List Cond := .codeWith yL_level cL_level 6 (some .int) [(0, 12, 15, 21), (0, 12, 19, 13)] :: ((wsL_level_r1 ++ (wsL_level_r2 ++ wsL_level_r3)) ++ wsX70 ++ wsX50 ++ wsX00 ++ wsX40 ++ (vx_atS RX7 103 "java/lang/IndexOutOfBoundsException" ["java/lang/RuntimeException", "java/lang/Exception"]).filter goodWord ++ (vx_atS RX7 71 "java/lang/IllegalArgumentException" ["java/lang/RuntimeException", "java/lang/Exception"]).filter goodWord)
def wsL_follow : List Cond := .codeWith yL_follow cL_follow 6 (some .int) [(0, 12, 15, 21), (0, 12, 19, 13)] :: ([.classLink RL 21 "java/lang/IndexOutOfBoundsException", .classLink RL 13 "java/lang/IllegalArgumentException", .methodLink RL 38 yX7_follow, .instanceMethod yX7_follow, .selects RX7 yX7_follow yX7_follow, .initialized RX7, .code yX7_follow cX7_follow 7 (some .int), .classLink RX7 99 "java/lang/IndexOutOfBoundsException", .initialized "java/lang/IndexOutOfBoundsException", .classLink RX7 67 "java/lang/IllegalArgumentException", .initialized "java/lang/IllegalArgumentException", .fieldLink RX7 152 "GelBook$Cue" "follower" "LGelBook$Cue;", .fieldLink RX7 156 "GelBook$Cue" "delay" "I", .fieldLink RX7 159 "GelBook$Cue" "number" "I", .methodLink RX7 132 yX7_cueAt, .instanceMethod yX7_cueAt, .selects RX7 yX7_cueAt yX7_cueAt, .code yX7_cueAt cX7_cueAt 2 (some (.object "GelBook$Cue")), .fieldLink RX7 18 "GelBook" "cues" "[LGelBook$Cue;", .methodLink RX7 56 yX7_isWithin, .static yX7_isWithin, .code yX7_isWithin cX7_isWithin 3 (some .boolean)] ++ wsX00 ++ wsX70 ++ (vx_atS RX7 103 "java/lang/IndexOutOfBoundsException" ["java/lang/RuntimeException", "java/lang/Exception"]).filter goodWord ++ (vx_atS RX7 71 "java/lang/IllegalArgumentException" ["java/lang/RuntimeException", "java/lang/Exception"]).filter goodWord)
def wsL_go_r1 : List Cond := [Cond.classLink RL 21 "java/lang/IndexOutOfBoundsException", Cond.classLink RL 15 "java/lang/IllegalStateException", Cond.methodLink RL 41 yX7_go, Cond.instanceMethod yX7_go, Cond.selects RX7 yX7_go yX7_go, Cond.initialized RX7, Cond.code yX7_go cX7_go 3 (some .int), Cond.classLink RX7 99 "java/lang/IndexOutOfBoundsException", Cond.initialized "java/lang/IndexOutOfBoundsException", Cond.classLink RX7 78 "java/lang/IllegalStateException", Cond.initialized "java/lang/IllegalStateException", Cond.fieldLink RX7 35 "GelBook" "live" "LGelBook$Goings;", Cond.fieldLink RX7 172 "GelBook$Goings" "count" "I", Cond.methodLink RX7 132 yX7_cueAt, Cond.instanceMethod yX7_cueAt, Cond.selects RX7 yX7_cueAt yX7_cueAt, Cond.code yX7_cueAt cX7_cueAt 2 (some (.object "GelBook$Cue")), Cond.fieldLink RX7 18 "GelBook" "cues" "[LGelBook$Cue;", Cond.methodLink RX7 162 yX7_canGo, Cond.instanceMethod yX7_canGo, Cond.selects RX7 yX7_canGo yX7_canGo, Cond.code yX7_canGo cX7_canGo 3 (some .boolean), Cond.fieldLink RX7 22 "GelBook" "powers" "[I", Cond.methodLink RX7 220 yX7_wattsAsked]
def wsL_go_r2 : List Cond := [Cond.instanceMethod yX7_wattsAsked, Cond.selects RX7 yX7_wattsAsked yX7_wattsAsked, Cond.code yX7_wattsAsked cX7_wattsAsked 6 (some .int), Cond.fieldLink RX7 10 "GelBook" "rig" "LGelBook$Rig;", Cond.fieldLink RX7 240 "GelBook$Lamp" "phase" "I", Cond.fieldLink RX7 243 "GelBook$Lamp" "watts" "I", Cond.methodLink RX7 252 Lib.Math.max.name, Cond.static Lib.Math.max.name, Cond.initialized "java/lang/Math", Cond.code Lib.Math.max.name Lib.Math.max.code 2 (some .int), Cond.methodLink RX7 95 yX5_lampAt, Cond.instanceMethod yX5_lampAt, Cond.selects RX5 yX5_lampAt yX5_lampAt, Cond.initialized RX5, Cond.code yX5_lampAt cX5_lampAt 2 (some (.object "GelBook$Lamp")), Cond.fieldLink RX5 11 "GelBook$Rig" "lamps" "[LGelBook$Lamp;", Cond.methodLink RX7 246 yX0_levelFor, Cond.instanceMethod yX0_levelFor, Cond.selects RX0 yX0_levelFor yX0_levelFor, Cond.initialized RX0, Cond.code yX0_levelFor cX0_levelFor 2 (some .int), Cond.fieldLink RX0 31 "GelBook$Cue" "levels" "[I", Cond.methodLink RX7 249 yX2_greatestUnreleased, Cond.instanceMethod yX2_greatestUnreleased]
def wsL_go_r3 : List Cond := [Cond.selects RX2 yX2_greatestUnreleased yX2_greatestUnreleased, Cond.initialized RX2, Cond.code yX2_greatestUnreleased cX2_greatestUnreleased 5 (some .int), Cond.fieldLink RX2 18 "GelBook$Goings" "count" "I", Cond.methodLink RX2 61 Lib.Math.max.name, Cond.methodLink RX2 22 yX2_at, Cond.instanceMethod yX2_at, Cond.selects RX2 yX2_at yX2_at, Cond.code yX2_at cX2_at 2 (some (.object "GelBook$Going")), Cond.fieldLink RX2 11 "GelBook$Goings" "row" "[LGelBook$Going;", Cond.methodLink RX2 53 yX1_isReleased, Cond.instanceMethod yX1_isReleased, Cond.selects RX1 yX1_isReleased yX1_isReleased, Cond.initialized RX1, Cond.code yX1_isReleased cX1_isReleased 1 (some .boolean), Cond.fieldLink RX1 9 "GelBook$Going" "releasedAt" "I", Cond.methodLink RX2 57 yX1_levelFor, Cond.instanceMethod yX1_levelFor, Cond.selects RX1 yX1_levelFor yX1_levelFor, Cond.code yX1_levelFor cX1_levelFor 2 (some .int), Cond.fieldLink RX1 15 "GelBook$Going" "cue" "LGelBook$Cue;", Cond.methodLink RX1 34 yX0_levelFor, Cond.methodLink RX7 168 yX7_begin, Cond.instanceMethod yX7_begin]
def wsL_go_r4 : List Cond := [Cond.selects RX7 yX7_begin yX7_begin, Cond.code yX7_begin cX7_begin 2 none, Cond.fieldLink RX7 186 "GelBook" "tick" "I", Cond.fieldLink RX7 52 "GelBook" "history" "LGelBook$History;", Cond.fieldLink RX7 159 "GelBook$Cue" "number" "I", Cond.fieldLink RX7 152 "GelBook$Cue" "follower" "LGelBook$Cue;", Cond.fieldLink RX7 45 "GelBook" "waiting" "LGelBook$Waiting;", Cond.fieldLink RX7 156 "GelBook$Cue" "delay" "I", Cond.methodLink RX7 257 yX2_begin, Cond.instanceMethod yX2_begin, Cond.selects RX2 yX2_begin yX2_begin, Cond.code yX2_begin cX2_begin 5 none, Cond.methodLink RX2 30 yX2_placeOf, Cond.instanceMethod yX2_placeOf, Cond.selects RX2 yX2_placeOf yX2_placeOf, Cond.code yX2_placeOf cX2_placeOf 4 (some .int), Cond.fieldLink RX2 26 "GelBook$Going" "cue" "LGelBook$Cue;", Cond.methodLink RX2 34 yX2_moveLast, Cond.instanceMethod yX2_moveLast, Cond.selects RX2 yX2_moveLast yX2_moveLast, Cond.code yX2_moveLast cX2_moveLast 4 none, Cond.methodLink RX2 38 yX1_begin, Cond.instanceMethod yX1_begin, Cond.selects RX1 yX1_begin yX1_begin]
def wsL_go_r5 : List Cond := [Cond.code yX1_begin cX1_begin 3 none, Cond.fieldLink RX1 19 "GelBook$Going" "went" "I", Cond.methodLink RX7 260 yX3_writeGoing, Cond.instanceMethod yX3_writeGoing, Cond.selects RX3 yX3_writeGoing yX3_writeGoing, Cond.initialized RX3, Cond.code yX3_writeGoing cX3_writeGoing 4 none, Cond.methodLink RX3 15 yX3_entryFor, Cond.static yX3_entryFor, Cond.code yX3_entryFor cX3_entryFor 3 (some .int), Cond.methodLink RX3 19 yX3_strike, Cond.instanceMethod yX3_strike, Cond.selects RX3 yX3_strike yX3_strike, Cond.code yX3_strike cX3_strike 3 none, Cond.fieldLink RX3 26 "GelBook$History" "count" "I", Cond.methodLink RX3 30 yX3_entryAt, Cond.instanceMethod yX3_entryAt, Cond.selects RX3 yX3_entryAt yX3_entryAt, Cond.code yX3_entryAt cX3_entryAt 2 (some .int), Cond.fieldLink RX3 9 "GelBook$History" "entries" "[I", Cond.methodLink RX3 34 yX3_tickOf, Cond.static yX3_tickOf, Cond.code yX3_tickOf cX3_tickOf 1 (some .int), Cond.methodLink RX3 37 yX3_removeAt]
def wsL_go_r6 : List Cond := [Cond.instanceMethod yX3_removeAt, Cond.selects RX3 yX3_removeAt yX3_removeAt, Cond.code yX3_removeAt cX3_removeAt 3 none, Cond.methodLink RX3 23 yX3_append, Cond.instanceMethod yX3_append, Cond.selects RX3 yX3_append yX3_append, Cond.code yX3_append cX3_append 2 none, Cond.constant RX3 40 (122880), Cond.methodLink RX3 41 Lib.Math.min.name, Cond.static Lib.Math.min.name, Cond.code Lib.Math.min.name Lib.Math.min.code 2 (some .int), Cond.methodLink RX3 47 yJ7_copyOf_59c91, Cond.static yJ7_copyOf_59c91, Cond.initialized RJ7, Cond.code yJ7_copyOf_59c91 cJ7_copyOf_59c91 3 (some (.array .int)), Cond.methodLink RJ7 316 ⟨"[I", "clone", "()Ljava/lang/Object;"⟩, Cond.sameMethod "[I" "java/lang/Object" "clone" "()Ljava/lang/Object;", Cond.native ⟨"java/lang/Object", "clone", "()Ljava/lang/Object;"⟩, Cond.instanceMethod ⟨"java/lang/Object", "clone", "()Ljava/lang/Object;"⟩, Cond.selects "[I" ⟨"[I", "clone", "()Ljava/lang/Object;"⟩ ⟨"java/lang/Object", "clone", "()Ljava/lang/Object;"⟩, Cond.classLink RJ7 317 "[I", Cond.arrayClass .int, Cond.methodLink RJ7 304 Lib.Math.min.name, Cond.methodLink RJ7 150 arraycopyName]
def wsL_go_r7 : List Cond := [Cond.native arraycopyName, Cond.static arraycopyName, Cond.initialized "java/lang/System", Cond.methodLink RX7 263 yX6_note, Cond.instanceMethod yX6_note, Cond.selects RX6 yX6_note yX6_note, Cond.initialized RX6, Cond.code yX6_note cX6_note 3 none, Cond.fieldLink RX6 24 "GelBook$Waiting" "count" "I", Cond.fieldLink RX6 11 "GelBook$Waiting" "noted" "[LGelBook$Cue;", Cond.fieldLink RX6 17 "GelBook$Waiting" "dueAt" "[I"]
def wsL_go : List Cond := .codeWith yL_go cL_go 4 (some .int) [(0, 9, 12, 21), (0, 9, 15, 15)] :: ((wsL_go_r1 ++ (wsL_go_r2 ++ (wsL_go_r3 ++ (wsL_go_r4 ++ (wsL_go_r5 ++ (wsL_go_r6 ++ wsL_go_r7)))))) ++ wsX70 ++ wsX20 ++ wsX40 ++ wsX50 ++ wsX00 ++ wsX10 ++ wsX30 ++ wsX60 ++ (vx_atS RX7 103 "java/lang/IndexOutOfBoundsException" ["java/lang/RuntimeException", "java/lang/Exception"]).filter goodWord ++ (vx_atS RX7 82 "java/lang/IllegalStateException" ["java/lang/RuntimeException", "java/lang/Exception"]).filter goodWord)
def wsL_release_r1 : List Cond := [Cond.classLink RL 21 "java/lang/IndexOutOfBoundsException", Cond.classLink RL 15 "java/lang/IllegalStateException", Cond.methodLink RL 44 yX7_release, Cond.instanceMethod yX7_release, Cond.selects RX7 yX7_release yX7_release, Cond.initialized RX7, Cond.code yX7_release cX7_release 4 (some .boolean), Cond.classLink RX7 99 "java/lang/IndexOutOfBoundsException", Cond.initialized "java/lang/IndexOutOfBoundsException", Cond.classLink RX7 78 "java/lang/IllegalStateException", Cond.initialized "java/lang/IllegalStateException", Cond.fieldLink RX7 35 "GelBook" "live" "LGelBook$Goings;", Cond.fieldLink RX7 186 "GelBook" "tick" "I", Cond.fieldLink RX7 52 "GelBook" "history" "LGelBook$History;", Cond.fieldLink RX7 159 "GelBook$Cue" "number" "I", Cond.methodLink RX7 132 yX7_cueAt, Cond.instanceMethod yX7_cueAt, Cond.selects RX7 yX7_cueAt yX7_cueAt, Cond.code yX7_cueAt cX7_cueAt 2 (some (.object "GelBook$Cue")), Cond.fieldLink RX7 18 "GelBook" "cues" "[LGelBook$Cue;", Cond.methodLink RX7 175 yX2_goingOf, Cond.instanceMethod yX2_goingOf, Cond.selects RX2 yX2_goingOf yX2_goingOf, Cond.initialized RX2]
def wsL_release_r2 : List Cond := [Cond.code yX2_goingOf cX2_goingOf 2 (some (.object "GelBook$Going")), Cond.methodLink RX2 30 yX2_placeOf, Cond.instanceMethod yX2_placeOf, Cond.selects RX2 yX2_placeOf yX2_placeOf, Cond.code yX2_placeOf cX2_placeOf 4 (some .int), Cond.fieldLink RX2 18 "GelBook$Goings" "count" "I", Cond.fieldLink RX2 26 "GelBook$Going" "cue" "LGelBook$Cue;", Cond.methodLink RX2 22 yX2_at, Cond.instanceMethod yX2_at, Cond.selects RX2 yX2_at yX2_at, Cond.code yX2_at cX2_at 2 (some (.object "GelBook$Going")), Cond.fieldLink RX2 11 "GelBook$Goings" "row" "[LGelBook$Going;", Cond.methodLink RX7 179 yX1_isReleased, Cond.instanceMethod yX1_isReleased, Cond.selects RX1 yX1_isReleased yX1_isReleased, Cond.initialized RX1, Cond.code yX1_isReleased cX1_isReleased 1 (some .boolean), Cond.fieldLink RX1 9 "GelBook$Going" "releasedAt" "I", Cond.methodLink RX7 189 yX1_fall, Cond.instanceMethod yX1_fall, Cond.selects RX1 yX1_fall yX1_fall, Cond.code yX1_fall cX1_fall 2 none, Cond.methodLink RX7 193 yX3_writeRelease, Cond.instanceMethod yX3_writeRelease]
def wsL_release_r3 : List Cond := [Cond.selects RX3 yX3_writeRelease yX3_writeRelease, Cond.initialized RX3, Cond.code yX3_writeRelease cX3_writeRelease 3 none, Cond.methodLink RX3 15 yX3_entryFor, Cond.static yX3_entryFor, Cond.code yX3_entryFor cX3_entryFor 3 (some .int), Cond.methodLink RX3 23 yX3_append, Cond.instanceMethod yX3_append, Cond.selects RX3 yX3_append yX3_append, Cond.code yX3_append cX3_append 2 none, Cond.fieldLink RX3 26 "GelBook$History" "count" "I", Cond.fieldLink RX3 9 "GelBook$History" "entries" "[I", Cond.constant RX3 40 (122880), Cond.methodLink RX3 41 Lib.Math.min.name, Cond.static Lib.Math.min.name, Cond.initialized "java/lang/Math", Cond.code Lib.Math.min.name Lib.Math.min.code 2 (some .int), Cond.methodLink RX3 47 yJ7_copyOf_59c91, Cond.static yJ7_copyOf_59c91, Cond.initialized RJ7, Cond.code yJ7_copyOf_59c91 cJ7_copyOf_59c91 3 (some (.array .int)), Cond.methodLink RJ7 316 ⟨"[I", "clone", "()Ljava/lang/Object;"⟩, Cond.sameMethod "[I" "java/lang/Object" "clone" "()Ljava/lang/Object;", Cond.native ⟨"java/lang/Object", "clone", "()Ljava/lang/Object;"⟩]
def wsL_release_r4 : List Cond := [Cond.instanceMethod ⟨"java/lang/Object", "clone", "()Ljava/lang/Object;"⟩, Cond.selects "[I" ⟨"[I", "clone", "()Ljava/lang/Object;"⟩ ⟨"java/lang/Object", "clone", "()Ljava/lang/Object;"⟩, Cond.classLink RJ7 317 "[I", Cond.arrayClass .int, Cond.methodLink RJ7 304 Lib.Math.min.name, Cond.methodLink RJ7 150 arraycopyName, Cond.native arraycopyName, Cond.static arraycopyName, Cond.initialized "java/lang/System", Cond.methodLink RX7 197 yX2_dropOver, Cond.instanceMethod yX2_dropOver, Cond.selects RX2 yX2_dropOver yX2_dropOver, Cond.code yX2_dropOver cX2_dropOver 4 none, Cond.methodLink RX2 49 yX1_isOver, Cond.instanceMethod yX1_isOver, Cond.selects RX1 yX1_isOver yX1_isOver, Cond.code yX1_isOver cX1_isOver 2 (some .boolean), Cond.fieldLink RX1 15 "GelBook$Going" "cue" "LGelBook$Cue;", Cond.fieldLink RX1 26 "GelBook$Cue" "down" "I", Cond.methodLink RX1 22 yX1_isReleased, Cond.methodLink RX2 34 yX2_moveLast, Cond.instanceMethod yX2_moveLast, Cond.selects RX2 yX2_moveLast yX2_moveLast, Cond.code yX2_moveLast cX2_moveLast 4 none]
def wsL_release : List Cond := .codeWith yL_release cL_release 4 (some .int) [(0, 16, 19, 21), (0, 16, 22, 15)] :: ((wsL_release_r1 ++ (wsL_release_r2 ++ (wsL_release_r3 ++ wsL_release_r4))) ++ wsX70 ++ wsX00 ++ wsX20 ++ wsX10 ++ wsX30 ++ (vx_atS RX7 103 "java/lang/IndexOutOfBoundsException" ["java/lang/RuntimeException", "java/lang/Exception"]).filter goodWord ++ (vx_atS RX7 82 "java/lang/IllegalStateException" ["java/lang/RuntimeException", "java/lang/Exception"]).filter goodWord)
def wsL_pass_r1 : List Cond := [Cond.classLink RL 13 "java/lang/IllegalArgumentException", Cond.methodLink RL 47 yX7_pass, Cond.instanceMethod yX7_pass, Cond.selects RX7 yX7_pass yX7_pass, Cond.initialized RX7, Cond.code yX7_pass cX7_pass 3 (some .int), Cond.classLink RX7 67 "java/lang/IllegalArgumentException", Cond.initialized "java/lang/IllegalArgumentException", Cond.fieldLink RX7 186 "GelBook" "tick" "I", Cond.methodLink RX7 56 yX7_isWithin, Cond.static yX7_isWithin, Cond.code yX7_isWithin cX7_isWithin 3 (some .boolean), Cond.methodLink RX7 200 yX7_passOne, Cond.instanceMethod yX7_passOne, Cond.selects RX7 yX7_passOne yX7_passOne, Cond.code yX7_passOne cX7_passOne 3 none, Cond.fieldLink RX7 35 "GelBook" "live" "LGelBook$Goings;", Cond.fieldLink RX7 45 "GelBook" "waiting" "LGelBook$Waiting;", Cond.fieldLink RX7 269 "GelBook$Waiting" "readyCount" "I", Cond.fieldLink RX7 236 "GelBook" "barredCount" "I", Cond.methodLink RX7 197 yX2_dropOver, Cond.instanceMethod yX2_dropOver, Cond.selects RX2 yX2_dropOver yX2_dropOver, Cond.initialized RX2]
def wsL_pass_r2 : List Cond := [Cond.code yX2_dropOver cX2_dropOver 4 none, Cond.fieldLink RX2 18 "GelBook$Goings" "count" "I", Cond.methodLink RX2 22 yX2_at, Cond.instanceMethod yX2_at, Cond.selects RX2 yX2_at yX2_at, Cond.code yX2_at cX2_at 2 (some (.object "GelBook$Going")), Cond.fieldLink RX2 11 "GelBook$Goings" "row" "[LGelBook$Going;", Cond.methodLink RX2 49 yX1_isOver, Cond.instanceMethod yX1_isOver, Cond.selects RX1 yX1_isOver yX1_isOver, Cond.initialized RX1, Cond.code yX1_isOver cX1_isOver 2 (some .boolean), Cond.fieldLink RX1 15 "GelBook$Going" "cue" "LGelBook$Cue;", Cond.fieldLink RX1 9 "GelBook$Going" "releasedAt" "I", Cond.fieldLink RX1 26 "GelBook$Cue" "down" "I", Cond.methodLink RX1 22 yX1_isReleased, Cond.instanceMethod yX1_isReleased, Cond.selects RX1 yX1_isReleased yX1_isReleased, Cond.code yX1_isReleased cX1_isReleased 1 (some .boolean), Cond.methodLink RX2 34 yX2_moveLast, Cond.instanceMethod yX2_moveLast, Cond.selects RX2 yX2_moveLast yX2_moveLast, Cond.code yX2_moveLast cX2_moveLast 4 none, Cond.methodLink RX7 266 yX6_takeDue]
def wsL_pass_r3 : List Cond := [Cond.instanceMethod yX6_takeDue, Cond.selects RX6 yX6_takeDue yX6_takeDue, Cond.initialized RX6, Cond.code yX6_takeDue cX6_takeDue 4 none, Cond.fieldLink RX6 28 "GelBook$Waiting" "readyCount" "I", Cond.fieldLink RX6 24 "GelBook$Waiting" "count" "I", Cond.fieldLink RX6 11 "GelBook$Waiting" "noted" "[LGelBook$Cue;", Cond.fieldLink RX6 17 "GelBook$Waiting" "dueAt" "[I", Cond.fieldLink RX6 21 "GelBook$Waiting" "ready" "[LGelBook$Cue;", Cond.methodLink RX7 272 yX6_readyAt, Cond.instanceMethod yX6_readyAt, Cond.selects RX6 yX6_readyAt yX6_readyAt, Cond.code yX6_readyAt cX6_readyAt 2 (some (.object "GelBook$Cue")), Cond.methodLink RX7 162 yX7_canGo, Cond.instanceMethod yX7_canGo, Cond.selects RX7 yX7_canGo yX7_canGo, Cond.code yX7_canGo cX7_canGo 3 (some .boolean), Cond.fieldLink RX7 22 "GelBook" "powers" "[I", Cond.methodLink RX7 220 yX7_wattsAsked, Cond.instanceMethod yX7_wattsAsked, Cond.selects RX7 yX7_wattsAsked yX7_wattsAsked, Cond.code yX7_wattsAsked cX7_wattsAsked 6 (some .int), Cond.fieldLink RX7 10 "GelBook" "rig" "LGelBook$Rig;", Cond.fieldLink RX7 240 "GelBook$Lamp" "phase" "I"]
def wsL_pass_r4 : List Cond := [Cond.fieldLink RX7 243 "GelBook$Lamp" "watts" "I", Cond.methodLink RX7 252 Lib.Math.max.name, Cond.static Lib.Math.max.name, Cond.initialized "java/lang/Math", Cond.code Lib.Math.max.name Lib.Math.max.code 2 (some .int), Cond.methodLink RX7 95 yX5_lampAt, Cond.instanceMethod yX5_lampAt, Cond.selects RX5 yX5_lampAt yX5_lampAt, Cond.initialized RX5, Cond.code yX5_lampAt cX5_lampAt 2 (some (.object "GelBook$Lamp")), Cond.fieldLink RX5 11 "GelBook$Rig" "lamps" "[LGelBook$Lamp;", Cond.methodLink RX7 246 yX0_levelFor, Cond.instanceMethod yX0_levelFor, Cond.selects RX0 yX0_levelFor yX0_levelFor, Cond.initialized RX0, Cond.code yX0_levelFor cX0_levelFor 2 (some .int), Cond.fieldLink RX0 31 "GelBook$Cue" "levels" "[I", Cond.methodLink RX7 249 yX2_greatestUnreleased, Cond.instanceMethod yX2_greatestUnreleased, Cond.selects RX2 yX2_greatestUnreleased yX2_greatestUnreleased, Cond.code yX2_greatestUnreleased cX2_greatestUnreleased 5 (some .int), Cond.methodLink RX2 61 Lib.Math.max.name, Cond.methodLink RX2 53 yX1_isReleased, Cond.methodLink RX2 57 yX1_levelFor]
def wsL_pass_r5 : List Cond := [Cond.instanceMethod yX1_levelFor, Cond.selects RX1 yX1_levelFor yX1_levelFor, Cond.code yX1_levelFor cX1_levelFor 2 (some .int), Cond.methodLink RX1 34 yX0_levelFor, Cond.methodLink RX7 168 yX7_begin, Cond.instanceMethod yX7_begin, Cond.selects RX7 yX7_begin yX7_begin, Cond.code yX7_begin cX7_begin 2 none, Cond.fieldLink RX7 52 "GelBook" "history" "LGelBook$History;", Cond.fieldLink RX7 159 "GelBook$Cue" "number" "I", Cond.fieldLink RX7 152 "GelBook$Cue" "follower" "LGelBook$Cue;", Cond.fieldLink RX7 156 "GelBook$Cue" "delay" "I", Cond.methodLink RX7 257 yX2_begin, Cond.instanceMethod yX2_begin, Cond.selects RX2 yX2_begin yX2_begin, Cond.code yX2_begin cX2_begin 5 none, Cond.methodLink RX2 30 yX2_placeOf, Cond.instanceMethod yX2_placeOf, Cond.selects RX2 yX2_placeOf yX2_placeOf, Cond.code yX2_placeOf cX2_placeOf 4 (some .int), Cond.fieldLink RX2 26 "GelBook$Going" "cue" "LGelBook$Cue;", Cond.methodLink RX2 38 yX1_begin, Cond.instanceMethod yX1_begin, Cond.selects RX1 yX1_begin yX1_begin]
def wsL_pass_r6 : List Cond := [Cond.code yX1_begin cX1_begin 3 none, Cond.fieldLink RX1 19 "GelBook$Going" "went" "I", Cond.methodLink RX7 260 yX3_writeGoing, Cond.instanceMethod yX3_writeGoing, Cond.selects RX3 yX3_writeGoing yX3_writeGoing, Cond.initialized RX3, Cond.code yX3_writeGoing cX3_writeGoing 4 none, Cond.methodLink RX3 15 yX3_entryFor, Cond.static yX3_entryFor, Cond.code yX3_entryFor cX3_entryFor 3 (some .int), Cond.methodLink RX3 19 yX3_strike, Cond.instanceMethod yX3_strike, Cond.selects RX3 yX3_strike yX3_strike, Cond.code yX3_strike cX3_strike 3 none, Cond.fieldLink RX3 26 "GelBook$History" "count" "I", Cond.methodLink RX3 30 yX3_entryAt, Cond.instanceMethod yX3_entryAt, Cond.selects RX3 yX3_entryAt yX3_entryAt, Cond.code yX3_entryAt cX3_entryAt 2 (some .int), Cond.fieldLink RX3 9 "GelBook$History" "entries" "[I", Cond.methodLink RX3 34 yX3_tickOf, Cond.static yX3_tickOf, Cond.code yX3_tickOf cX3_tickOf 1 (some .int), Cond.methodLink RX3 37 yX3_removeAt]
def wsL_pass_r7 : List Cond := [Cond.instanceMethod yX3_removeAt, Cond.selects RX3 yX3_removeAt yX3_removeAt, Cond.code yX3_removeAt cX3_removeAt 3 none, Cond.methodLink RX3 23 yX3_append, Cond.instanceMethod yX3_append, Cond.selects RX3 yX3_append yX3_append, Cond.code yX3_append cX3_append 2 none, Cond.constant RX3 40 (122880), Cond.methodLink RX3 41 Lib.Math.min.name, Cond.static Lib.Math.min.name, Cond.code Lib.Math.min.name Lib.Math.min.code 2 (some .int), Cond.methodLink RX3 47 yJ7_copyOf_59c91, Cond.static yJ7_copyOf_59c91, Cond.initialized RJ7, Cond.code yJ7_copyOf_59c91 cJ7_copyOf_59c91 3 (some (.array .int)), Cond.methodLink RJ7 316 ⟨"[I", "clone", "()Ljava/lang/Object;"⟩, Cond.sameMethod "[I" "java/lang/Object" "clone" "()Ljava/lang/Object;", Cond.native ⟨"java/lang/Object", "clone", "()Ljava/lang/Object;"⟩, Cond.instanceMethod ⟨"java/lang/Object", "clone", "()Ljava/lang/Object;"⟩, Cond.selects "[I" ⟨"[I", "clone", "()Ljava/lang/Object;"⟩ ⟨"java/lang/Object", "clone", "()Ljava/lang/Object;"⟩, Cond.classLink RJ7 317 "[I", Cond.arrayClass .int, Cond.methodLink RJ7 304 Lib.Math.min.name, Cond.methodLink RJ7 150 arraycopyName]
def wsL_pass_r8 : List Cond := [Cond.native arraycopyName, Cond.static arraycopyName, Cond.initialized "java/lang/System", Cond.methodLink RX7 263 yX6_note, Cond.instanceMethod yX6_note, Cond.selects RX6 yX6_note yX6_note, Cond.code yX6_note cX6_note 3 none]
def wsL_pass : List Cond := .codeWith yL_pass cL_pass 4 (some .int) [(0, 9, 12, 13)] :: ((wsL_pass_r1 ++ (wsL_pass_r2 ++ (wsL_pass_r3 ++ (wsL_pass_r4 ++ (wsL_pass_r5 ++ (wsL_pass_r6 ++ (wsL_pass_r7 ++ wsL_pass_r8))))))) ++ wsX70 ++ wsX60 ++ wsX20 ++ wsX10 ++ wsX00 ++ wsX40 ++ wsX50 ++ wsX30 ++ (vx_atS RX7 71 "java/lang/IllegalArgumentException" ["java/lang/RuntimeException", "java/lang/Exception"]).filter goodWord)
def wsL_levelOf_r1 : List Cond := [Cond.classLink RL 21 "java/lang/IndexOutOfBoundsException", Cond.methodLink RL 50 yX7_levelOf, Cond.instanceMethod yX7_levelOf, Cond.selects RX7 yX7_levelOf yX7_levelOf, Cond.initialized RX7, Cond.code yX7_levelOf cX7_levelOf 2 (some .int), Cond.classLink RX7 99 "java/lang/IndexOutOfBoundsException", Cond.initialized "java/lang/IndexOutOfBoundsException", Cond.fieldLink RX7 10 "GelBook" "rig" "LGelBook$Rig;", Cond.fieldLink RX7 35 "GelBook" "live" "LGelBook$Goings;", Cond.fieldLink RX7 186 "GelBook" "tick" "I", Cond.methodLink RX7 95 yX5_lampAt, Cond.instanceMethod yX5_lampAt, Cond.selects RX5 yX5_lampAt yX5_lampAt, Cond.initialized RX5, Cond.code yX5_lampAt cX5_lampAt 2 (some (.object "GelBook$Lamp")), Cond.fieldLink RX5 11 "GelBook$Rig" "lamps" "[LGelBook$Lamp;", Cond.methodLink RX7 203 yX2_mix, Cond.instanceMethod yX2_mix, Cond.selects RX2 yX2_mix yX2_mix, Cond.initialized RX2, Cond.code yX2_mix cX2_mix 7 (some .float), Cond.fieldLink RX2 18 "GelBook$Goings" "count" "I", Cond.methodLink RX2 22 yX2_at]
def wsL_levelOf_r2 : List Cond := [Cond.instanceMethod yX2_at, Cond.selects RX2 yX2_at yX2_at, Cond.code yX2_at cX2_at 2 (some (.object "GelBook$Going")), Cond.fieldLink RX2 11 "GelBook$Goings" "row" "[LGelBook$Going;", Cond.methodLink RX2 67 yX1_isOf, Cond.instanceMethod yX1_isOf, Cond.selects RX1 yX1_isOf yX1_isOf, Cond.initialized RX1, Cond.code yX1_isOf cX1_isOf 2 (some .boolean), Cond.fieldLink RX1 15 "GelBook$Going" "cue" "LGelBook$Cue;", Cond.fieldLink RX1 31 "GelBook$Cue" "sort" "I", Cond.methodLink RX2 57 yX1_levelFor, Cond.instanceMethod yX1_levelFor, Cond.selects RX1 yX1_levelFor yX1_levelFor, Cond.code yX1_levelFor cX1_levelFor 2 (some .int), Cond.methodLink RX1 34 yX0_levelFor, Cond.instanceMethod yX0_levelFor, Cond.selects RX0 yX0_levelFor yX0_levelFor, Cond.initialized RX0, Cond.code yX0_levelFor cX0_levelFor 2 (some .int), Cond.fieldLink RX0 31 "GelBook$Cue" "levels" "[I", Cond.methodLink RX2 70 yX1_master, Cond.instanceMethod yX1_master, Cond.selects RX1 yX1_master yX1_master]
def wsL_levelOf_r3 : List Cond := [Cond.code yX1_master cX1_master 2 (some .float), Cond.fieldLink RX1 19 "GelBook$Going" "went" "I", Cond.fieldLink RX1 26 "GelBook$Cue" "down" "I", Cond.fieldLink RX1 9 "GelBook$Going" "releasedAt" "I", Cond.methodLink RX1 22 yX1_isReleased, Cond.instanceMethod yX1_isReleased, Cond.selects RX1 yX1_isReleased yX1_isReleased, Cond.code yX1_isReleased cX1_isReleased 1 (some .boolean), Cond.methodLink RX1 38 yX0_masterRisen, Cond.instanceMethod yX0_masterRisen, Cond.selects RX0 yX0_masterRisen yX0_masterRisen, Cond.code yX0_masterRisen cX0_masterRisen 3 (some .float), Cond.fieldLink RX0 18 "GelBook$Cue" "up" "I", Cond.methodLink RX7 207 yX7_bitsOf, Cond.static yX7_bitsOf, Cond.code yX7_bitsOf cX7_bitsOf 3 (some .int), Cond.constantFloat RX7 239 (1258291200)]
def wsL_levelOf : List Cond := .codeWith yL_levelOf cL_levelOf 4 (some .int) [(0, 9, 12, 21)] :: ((wsL_levelOf_r1 ++ (wsL_levelOf_r2 ++ wsL_levelOf_r3)) ++ wsX70 ++ wsX50 ++ wsX20 ++ wsX10 ++ wsX00 ++ (vx_atS RX7 103 "java/lang/IndexOutOfBoundsException" ["java/lang/RuntimeException", "java/lang/Exception"]).filter goodWord)
def wsL_levelAnew_r1 : List Cond := [Cond.classLink RL 21 "java/lang/IndexOutOfBoundsException", Cond.methodLink RL 53 yX7_levelAnew, Cond.instanceMethod yX7_levelAnew, Cond.selects RX7 yX7_levelAnew yX7_levelAnew, Cond.initialized RX7, Cond.code yX7_levelAnew cX7_levelAnew 2 (some .int), Cond.classLink RX7 99 "java/lang/IndexOutOfBoundsException", Cond.initialized "java/lang/IndexOutOfBoundsException", Cond.fieldLink RX7 10 "GelBook" "rig" "LGelBook$Rig;", Cond.fieldLink RX7 39 "GelBook" "retold" "LGelBook$Goings;", Cond.fieldLink RX7 186 "GelBook" "tick" "I", Cond.methodLink RX7 95 yX5_lampAt, Cond.instanceMethod yX5_lampAt, Cond.selects RX5 yX5_lampAt yX5_lampAt, Cond.initialized RX5, Cond.code yX5_lampAt cX5_lampAt 2 (some (.object "GelBook$Lamp")), Cond.fieldLink RX5 11 "GelBook$Rig" "lamps" "[LGelBook$Lamp;", Cond.methodLink RX7 211 yX7_retell, Cond.instanceMethod yX7_retell, Cond.selects RX7 yX7_retell yX7_retell, Cond.code yX7_retell cX7_retell 4 none, Cond.fieldLink RX7 52 "GelBook" "history" "LGelBook$History;", Cond.fieldLink RX7 279 "GelBook$History" "count" "I", Cond.methodLink RX7 276 yX2_clear]
def wsL_levelAnew_r2 : List Cond := [Cond.instanceMethod yX2_clear, Cond.selects RX2 yX2_clear yX2_clear, Cond.initialized RX2, Cond.code yX2_clear cX2_clear 1 none, Cond.fieldLink RX2 18 "GelBook$Goings" "count" "I", Cond.methodLink RX7 280 yX3_entryAt, Cond.instanceMethod yX3_entryAt, Cond.selects RX3 yX3_entryAt yX3_entryAt, Cond.initialized RX3, Cond.code yX3_entryAt cX3_entryAt 2 (some .int), Cond.fieldLink RX3 9 "GelBook$History" "entries" "[I", Cond.methodLink RX7 283 yX3_cueOf, Cond.static yX3_cueOf, Cond.code yX3_cueOf cX3_cueOf 1 (some .int), Cond.methodLink RX7 132 yX7_cueAt, Cond.instanceMethod yX7_cueAt, Cond.selects RX7 yX7_cueAt yX7_cueAt, Cond.code yX7_cueAt cX7_cueAt 2 (some (.object "GelBook$Cue")), Cond.fieldLink RX7 18 "GelBook" "cues" "[LGelBook$Cue;", Cond.methodLink RX7 286 yX3_isRelease, Cond.static yX3_isRelease, Cond.code yX3_isRelease cX3_isRelease 1 (some .boolean), Cond.methodLink RX7 289 yX3_tickOf, Cond.static yX3_tickOf]
def wsL_levelAnew_r3 : List Cond := [Cond.code yX3_tickOf cX3_tickOf 1 (some .int), Cond.methodLink RX7 292 yX2_fall, Cond.instanceMethod yX2_fall, Cond.selects RX2 yX2_fall yX2_fall, Cond.code yX2_fall cX2_fall 4 none, Cond.methodLink RX2 42 yX2_goingOf, Cond.instanceMethod yX2_goingOf, Cond.selects RX2 yX2_goingOf yX2_goingOf, Cond.code yX2_goingOf cX2_goingOf 2 (some (.object "GelBook$Going")), Cond.methodLink RX2 30 yX2_placeOf, Cond.instanceMethod yX2_placeOf, Cond.selects RX2 yX2_placeOf yX2_placeOf, Cond.code yX2_placeOf cX2_placeOf 4 (some .int), Cond.fieldLink RX2 26 "GelBook$Going" "cue" "LGelBook$Cue;", Cond.methodLink RX2 22 yX2_at, Cond.instanceMethod yX2_at, Cond.selects RX2 yX2_at yX2_at, Cond.code yX2_at cX2_at 2 (some (.object "GelBook$Going")), Cond.fieldLink RX2 11 "GelBook$Goings" "row" "[LGelBook$Going;", Cond.methodLink RX2 46 yX1_fall, Cond.instanceMethod yX1_fall, Cond.selects RX1 yX1_fall yX1_fall, Cond.initialized RX1, Cond.code yX1_fall cX1_fall 2 none]
def wsL_levelAnew_r4 : List Cond := [Cond.fieldLink RX1 9 "GelBook$Going" "releasedAt" "I", Cond.methodLink RX7 257 yX2_begin, Cond.instanceMethod yX2_begin, Cond.selects RX2 yX2_begin yX2_begin, Cond.code yX2_begin cX2_begin 5 none, Cond.methodLink RX2 34 yX2_moveLast, Cond.instanceMethod yX2_moveLast, Cond.selects RX2 yX2_moveLast yX2_moveLast, Cond.code yX2_moveLast cX2_moveLast 4 none, Cond.methodLink RX2 38 yX1_begin, Cond.instanceMethod yX1_begin, Cond.selects RX1 yX1_begin yX1_begin, Cond.code yX1_begin cX1_begin 3 none, Cond.fieldLink RX1 15 "GelBook$Going" "cue" "LGelBook$Cue;", Cond.fieldLink RX1 19 "GelBook$Going" "went" "I", Cond.methodLink RX7 197 yX2_dropOver, Cond.instanceMethod yX2_dropOver, Cond.selects RX2 yX2_dropOver yX2_dropOver, Cond.code yX2_dropOver cX2_dropOver 4 none, Cond.methodLink RX2 49 yX1_isOver, Cond.instanceMethod yX1_isOver, Cond.selects RX1 yX1_isOver yX1_isOver, Cond.code yX1_isOver cX1_isOver 2 (some .boolean), Cond.fieldLink RX1 26 "GelBook$Cue" "down" "I"]
def wsL_levelAnew_r5 : List Cond := [Cond.methodLink RX1 22 yX1_isReleased, Cond.instanceMethod yX1_isReleased, Cond.selects RX1 yX1_isReleased yX1_isReleased, Cond.code yX1_isReleased cX1_isReleased 1 (some .boolean), Cond.methodLink RX7 203 yX2_mix, Cond.instanceMethod yX2_mix, Cond.selects RX2 yX2_mix yX2_mix, Cond.code yX2_mix cX2_mix 7 (some .float), Cond.methodLink RX2 67 yX1_isOf, Cond.instanceMethod yX1_isOf, Cond.selects RX1 yX1_isOf yX1_isOf, Cond.code yX1_isOf cX1_isOf 2 (some .boolean), Cond.fieldLink RX1 31 "GelBook$Cue" "sort" "I", Cond.methodLink RX2 57 yX1_levelFor, Cond.instanceMethod yX1_levelFor, Cond.selects RX1 yX1_levelFor yX1_levelFor, Cond.code yX1_levelFor cX1_levelFor 2 (some .int), Cond.methodLink RX1 34 yX0_levelFor, Cond.instanceMethod yX0_levelFor, Cond.selects RX0 yX0_levelFor yX0_levelFor, Cond.initialized RX0, Cond.code yX0_levelFor cX0_levelFor 2 (some .int), Cond.fieldLink RX0 31 "GelBook$Cue" "levels" "[I", Cond.methodLink RX2 70 yX1_master]
def wsL_levelAnew_r6 : List Cond := [Cond.instanceMethod yX1_master, Cond.selects RX1 yX1_master yX1_master, Cond.code yX1_master cX1_master 2 (some .float), Cond.methodLink RX1 38 yX0_masterRisen, Cond.instanceMethod yX0_masterRisen, Cond.selects RX0 yX0_masterRisen yX0_masterRisen, Cond.code yX0_masterRisen cX0_masterRisen 3 (some .float), Cond.fieldLink RX0 18 "GelBook$Cue" "up" "I", Cond.methodLink RX7 207 yX7_bitsOf, Cond.static yX7_bitsOf, Cond.code yX7_bitsOf cX7_bitsOf 3 (some .int), Cond.constantFloat RX7 239 (1258291200)]
def wsL_levelAnew : List Cond := .codeWith yL_levelAnew cL_levelAnew 4 (some .int) [(0, 9, 12, 21)] :: ((wsL_levelAnew_r1 ++ (wsL_levelAnew_r2 ++ (wsL_levelAnew_r3 ++ (wsL_levelAnew_r4 ++ (wsL_levelAnew_r5 ++ wsL_levelAnew_r6))))) ++ wsX70 ++ wsX50 ++ wsX30 ++ wsX20 ++ wsX10 ++ wsX00 ++ (vx_atS RX7 103 "java/lang/IndexOutOfBoundsException" ["java/lang/RuntimeException", "java/lang/Exception"]).filter goodWord)
def wsL_loadOf_r1 : List Cond := [Cond.classLink RL 21 "java/lang/IndexOutOfBoundsException", Cond.methodLink RL 56 yX7_loadOf, Cond.instanceMethod yX7_loadOf, Cond.selects RX7 yX7_loadOf yX7_loadOf, Cond.initialized RX7, Cond.code yX7_loadOf cX7_loadOf 2 (some .int), Cond.classLink RX7 99 "java/lang/IndexOutOfBoundsException", Cond.initialized "java/lang/IndexOutOfBoundsException", Cond.methodLink RX7 64 yX7_isPhase, Cond.static yX7_isPhase, Cond.code yX7_isPhase cX7_isPhase 1 (some .boolean), Cond.methodLink RX7 56 yX7_isWithin, Cond.static yX7_isWithin, Cond.code yX7_isWithin cX7_isWithin 3 (some .boolean), Cond.methodLink RX7 214 yX7_loadNow, Cond.instanceMethod yX7_loadNow, Cond.selects RX7 yX7_loadNow yX7_loadNow, Cond.code yX7_loadNow cX7_loadNow 5 (some .float), Cond.fieldLink RX7 10 "GelBook" "rig" "LGelBook$Rig;", Cond.fieldLink RX7 240 "GelBook$Lamp" "phase" "I", Cond.fieldLink RX7 243 "GelBook$Lamp" "watts" "I", Cond.fieldLink RX7 35 "GelBook" "live" "LGelBook$Goings;", Cond.fieldLink RX7 186 "GelBook" "tick" "I", Cond.constantFloat RX7 275 (1120403456)]
def wsL_loadOf_r2 : List Cond := [Cond.methodLink RX7 95 yX5_lampAt, Cond.instanceMethod yX5_lampAt, Cond.selects RX5 yX5_lampAt yX5_lampAt, Cond.initialized RX5, Cond.code yX5_lampAt cX5_lampAt 2 (some (.object "GelBook$Lamp")), Cond.fieldLink RX5 11 "GelBook$Rig" "lamps" "[LGelBook$Lamp;", Cond.methodLink RX7 203 yX2_mix, Cond.instanceMethod yX2_mix, Cond.selects RX2 yX2_mix yX2_mix, Cond.initialized RX2, Cond.code yX2_mix cX2_mix 7 (some .float), Cond.fieldLink RX2 18 "GelBook$Goings" "count" "I", Cond.methodLink RX2 22 yX2_at, Cond.instanceMethod yX2_at, Cond.selects RX2 yX2_at yX2_at, Cond.code yX2_at cX2_at 2 (some (.object "GelBook$Going")), Cond.fieldLink RX2 11 "GelBook$Goings" "row" "[LGelBook$Going;", Cond.methodLink RX2 67 yX1_isOf, Cond.instanceMethod yX1_isOf, Cond.selects RX1 yX1_isOf yX1_isOf, Cond.initialized RX1, Cond.code yX1_isOf cX1_isOf 2 (some .boolean), Cond.fieldLink RX1 15 "GelBook$Going" "cue" "LGelBook$Cue;", Cond.fieldLink RX1 31 "GelBook$Cue" "sort" "I"]
def wsL_loadOf_r3 : List Cond := [Cond.methodLink RX2 57 yX1_levelFor, Cond.instanceMethod yX1_levelFor, Cond.selects RX1 yX1_levelFor yX1_levelFor, Cond.code yX1_levelFor cX1_levelFor 2 (some .int), Cond.methodLink RX1 34 yX0_levelFor, Cond.instanceMethod yX0_levelFor, Cond.selects RX0 yX0_levelFor yX0_levelFor, Cond.initialized RX0, Cond.code yX0_levelFor cX0_levelFor 2 (some .int), Cond.fieldLink RX0 31 "GelBook$Cue" "levels" "[I", Cond.methodLink RX2 70 yX1_master, Cond.instanceMethod yX1_master, Cond.selects RX1 yX1_master yX1_master, Cond.code yX1_master cX1_master 2 (some .float), Cond.fieldLink RX1 19 "GelBook$Going" "went" "I", Cond.fieldLink RX1 26 "GelBook$Cue" "down" "I", Cond.fieldLink RX1 9 "GelBook$Going" "releasedAt" "I", Cond.methodLink RX1 22 yX1_isReleased, Cond.instanceMethod yX1_isReleased, Cond.selects RX1 yX1_isReleased yX1_isReleased, Cond.code yX1_isReleased cX1_isReleased 1 (some .boolean), Cond.methodLink RX1 38 yX0_masterRisen, Cond.instanceMethod yX0_masterRisen, Cond.selects RX0 yX0_masterRisen yX0_masterRisen]
def wsL_loadOf_r4 : List Cond := [Cond.code yX0_masterRisen cX0_masterRisen 3 (some .float), Cond.fieldLink RX0 18 "GelBook$Cue" "up" "I", Cond.methodLink RX7 207 yX7_bitsOf, Cond.static yX7_bitsOf, Cond.code yX7_bitsOf cX7_bitsOf 3 (some .int), Cond.constantFloat RX7 239 (1258291200)]
def wsL_loadOf : List Cond := .codeWith yL_loadOf cL_loadOf 4 (some .int) [(0, 9, 12, 21)] :: ((wsL_loadOf_r1 ++ (wsL_loadOf_r2 ++ (wsL_loadOf_r3 ++ wsL_loadOf_r4))) ++ wsX70 ++ wsX40 ++ wsX50 ++ wsX20 ++ wsX10 ++ wsX00 ++ (vx_atS RX7 103 "java/lang/IndexOutOfBoundsException" ["java/lang/RuntimeException", "java/lang/Exception"]).filter goodWord)
def wsL_watts_r1 : List Cond := [Cond.classLink RL 21 "java/lang/IndexOutOfBoundsException", Cond.methodLink RL 59 yX7_watts, Cond.instanceMethod yX7_watts, Cond.selects RX7 yX7_watts yX7_watts, Cond.initialized RX7, Cond.code yX7_watts cX7_watts 2 (some .int), Cond.classLink RX7 99 "java/lang/IndexOutOfBoundsException", Cond.initialized "java/lang/IndexOutOfBoundsException", Cond.methodLink RX7 64 yX7_isPhase, Cond.static yX7_isPhase, Cond.code yX7_isPhase cX7_isPhase 1 (some .boolean), Cond.methodLink RX7 56 yX7_isWithin, Cond.static yX7_isWithin, Cond.code yX7_isWithin cX7_isWithin 3 (some .boolean), Cond.methodLink RX7 214 yX7_loadNow, Cond.instanceMethod yX7_loadNow, Cond.selects RX7 yX7_loadNow yX7_loadNow, Cond.code yX7_loadNow cX7_loadNow 5 (some .float), Cond.fieldLink RX7 10 "GelBook" "rig" "LGelBook$Rig;", Cond.fieldLink RX7 240 "GelBook$Lamp" "phase" "I", Cond.fieldLink RX7 243 "GelBook$Lamp" "watts" "I", Cond.fieldLink RX7 35 "GelBook" "live" "LGelBook$Goings;", Cond.fieldLink RX7 186 "GelBook" "tick" "I", Cond.constantFloat RX7 275 (1120403456)]
def wsL_watts_r2 : List Cond := [Cond.methodLink RX7 95 yX5_lampAt, Cond.instanceMethod yX5_lampAt, Cond.selects RX5 yX5_lampAt yX5_lampAt, Cond.initialized RX5, Cond.code yX5_lampAt cX5_lampAt 2 (some (.object "GelBook$Lamp")), Cond.fieldLink RX5 11 "GelBook$Rig" "lamps" "[LGelBook$Lamp;", Cond.methodLink RX7 203 yX2_mix, Cond.instanceMethod yX2_mix, Cond.selects RX2 yX2_mix yX2_mix, Cond.initialized RX2, Cond.code yX2_mix cX2_mix 7 (some .float), Cond.fieldLink RX2 18 "GelBook$Goings" "count" "I", Cond.methodLink RX2 22 yX2_at, Cond.instanceMethod yX2_at, Cond.selects RX2 yX2_at yX2_at, Cond.code yX2_at cX2_at 2 (some (.object "GelBook$Going")), Cond.fieldLink RX2 11 "GelBook$Goings" "row" "[LGelBook$Going;", Cond.methodLink RX2 67 yX1_isOf, Cond.instanceMethod yX1_isOf, Cond.selects RX1 yX1_isOf yX1_isOf, Cond.initialized RX1, Cond.code yX1_isOf cX1_isOf 2 (some .boolean), Cond.fieldLink RX1 15 "GelBook$Going" "cue" "LGelBook$Cue;", Cond.fieldLink RX1 31 "GelBook$Cue" "sort" "I"]
def wsL_watts_r3 : List Cond := [Cond.methodLink RX2 57 yX1_levelFor, Cond.instanceMethod yX1_levelFor, Cond.selects RX1 yX1_levelFor yX1_levelFor, Cond.code yX1_levelFor cX1_levelFor 2 (some .int), Cond.methodLink RX1 34 yX0_levelFor, Cond.instanceMethod yX0_levelFor, Cond.selects RX0 yX0_levelFor yX0_levelFor, Cond.initialized RX0, Cond.code yX0_levelFor cX0_levelFor 2 (some .int), Cond.fieldLink RX0 31 "GelBook$Cue" "levels" "[I", Cond.methodLink RX2 70 yX1_master, Cond.instanceMethod yX1_master, Cond.selects RX1 yX1_master yX1_master, Cond.code yX1_master cX1_master 2 (some .float), Cond.fieldLink RX1 19 "GelBook$Going" "went" "I", Cond.fieldLink RX1 26 "GelBook$Cue" "down" "I", Cond.fieldLink RX1 9 "GelBook$Going" "releasedAt" "I", Cond.methodLink RX1 22 yX1_isReleased, Cond.instanceMethod yX1_isReleased, Cond.selects RX1 yX1_isReleased yX1_isReleased, Cond.code yX1_isReleased cX1_isReleased 1 (some .boolean), Cond.methodLink RX1 38 yX0_masterRisen, Cond.instanceMethod yX0_masterRisen, Cond.selects RX0 yX0_masterRisen yX0_masterRisen]
def wsL_watts_r4 : List Cond := [Cond.code yX0_masterRisen cX0_masterRisen 3 (some .float), Cond.fieldLink RX0 18 "GelBook$Cue" "up" "I"]
def wsL_watts : List Cond := .codeWith yL_watts cL_watts 4 (some .int) [(0, 9, 12, 21)] :: ((wsL_watts_r1 ++ (wsL_watts_r2 ++ (wsL_watts_r3 ++ wsL_watts_r4))) ++ wsX70 ++ wsX40 ++ wsX50 ++ wsX20 ++ wsX10 ++ wsX00 ++ (vx_atS RX7 103 "java/lang/IndexOutOfBoundsException" ["java/lang/RuntimeException", "java/lang/Exception"]).filter goodWord)
def wsL_asks_r1 : List Cond := [Cond.classLink RL 21 "java/lang/IndexOutOfBoundsException", Cond.methodLink RL 62 yX7_asks, Cond.instanceMethod yX7_asks, Cond.selects RX7 yX7_asks yX7_asks, Cond.initialized RX7, Cond.code yX7_asks cX7_asks 4 (some .int), Cond.classLink RX7 99 "java/lang/IndexOutOfBoundsException", Cond.initialized "java/lang/IndexOutOfBoundsException", Cond.methodLink RX7 132 yX7_cueAt, Cond.instanceMethod yX7_cueAt, Cond.selects RX7 yX7_cueAt yX7_cueAt, Cond.code yX7_cueAt cX7_cueAt 2 (some (.object "GelBook$Cue")), Cond.fieldLink RX7 18 "GelBook" "cues" "[LGelBook$Cue;", Cond.methodLink RX7 64 yX7_isPhase, Cond.static yX7_isPhase, Cond.code yX7_isPhase cX7_isPhase 1 (some .boolean), Cond.methodLink RX7 56 yX7_isWithin, Cond.static yX7_isWithin, Cond.code yX7_isWithin cX7_isWithin 3 (some .boolean), Cond.methodLink RX7 220 yX7_wattsAsked, Cond.instanceMethod yX7_wattsAsked, Cond.selects RX7 yX7_wattsAsked yX7_wattsAsked, Cond.code yX7_wattsAsked cX7_wattsAsked 6 (some .int), Cond.fieldLink RX7 10 "GelBook" "rig" "LGelBook$Rig;"]
def wsL_asks_r2 : List Cond := [Cond.fieldLink RX7 240 "GelBook$Lamp" "phase" "I", Cond.fieldLink RX7 243 "GelBook$Lamp" "watts" "I", Cond.fieldLink RX7 35 "GelBook" "live" "LGelBook$Goings;", Cond.methodLink RX7 252 Lib.Math.max.name, Cond.static Lib.Math.max.name, Cond.initialized "java/lang/Math", Cond.code Lib.Math.max.name Lib.Math.max.code 2 (some .int), Cond.methodLink RX7 95 yX5_lampAt, Cond.instanceMethod yX5_lampAt, Cond.selects RX5 yX5_lampAt yX5_lampAt, Cond.initialized RX5, Cond.code yX5_lampAt cX5_lampAt 2 (some (.object "GelBook$Lamp")), Cond.fieldLink RX5 11 "GelBook$Rig" "lamps" "[LGelBook$Lamp;", Cond.methodLink RX7 246 yX0_levelFor, Cond.instanceMethod yX0_levelFor, Cond.selects RX0 yX0_levelFor yX0_levelFor, Cond.initialized RX0, Cond.code yX0_levelFor cX0_levelFor 2 (some .int), Cond.fieldLink RX0 31 "GelBook$Cue" "levels" "[I", Cond.methodLink RX7 249 yX2_greatestUnreleased, Cond.instanceMethod yX2_greatestUnreleased, Cond.selects RX2 yX2_greatestUnreleased yX2_greatestUnreleased, Cond.initialized RX2, Cond.code yX2_greatestUnreleased cX2_greatestUnreleased 5 (some .int)]
def wsL_asks_r3 : List Cond := [Cond.fieldLink RX2 18 "GelBook$Goings" "count" "I", Cond.methodLink RX2 61 Lib.Math.max.name, Cond.methodLink RX2 22 yX2_at, Cond.instanceMethod yX2_at, Cond.selects RX2 yX2_at yX2_at, Cond.code yX2_at cX2_at 2 (some (.object "GelBook$Going")), Cond.fieldLink RX2 11 "GelBook$Goings" "row" "[LGelBook$Going;", Cond.methodLink RX2 53 yX1_isReleased, Cond.instanceMethod yX1_isReleased, Cond.selects RX1 yX1_isReleased yX1_isReleased, Cond.initialized RX1, Cond.code yX1_isReleased cX1_isReleased 1 (some .boolean), Cond.fieldLink RX1 9 "GelBook$Going" "releasedAt" "I", Cond.methodLink RX2 57 yX1_levelFor, Cond.instanceMethod yX1_levelFor, Cond.selects RX1 yX1_levelFor yX1_levelFor, Cond.code yX1_levelFor cX1_levelFor 2 (some .int), Cond.fieldLink RX1 15 "GelBook$Going" "cue" "LGelBook$Cue;", Cond.methodLink RX1 34 yX0_levelFor]
def wsL_asks : List Cond := .codeWith yL_asks cL_asks 5 (some .int) [(0, 10, 13, 21)] :: ((wsL_asks_r1 ++ (wsL_asks_r2 ++ wsL_asks_r3)) ++ wsX70 ++ wsX40 ++ wsX50 ++ wsX00 ++ wsX20 ++ wsX10 ++ (vx_atS RX7 103 "java/lang/IndexOutOfBoundsException" ["java/lang/RuntimeException", "java/lang/Exception"]).filter goodWord)
def wsL_shines_r1 : List Cond := [Cond.classLink RL 21 "java/lang/IndexOutOfBoundsException", Cond.methodLink RL 65 yX7_shines, Cond.instanceMethod yX7_shines, Cond.selects RX7 yX7_shines yX7_shines, Cond.initialized RX7, Cond.code yX7_shines cX7_shines 4 (some .int), Cond.classLink RX7 99 "java/lang/IndexOutOfBoundsException", Cond.initialized "java/lang/IndexOutOfBoundsException", Cond.fieldLink RX7 10 "GelBook" "rig" "LGelBook$Rig;", Cond.methodLink RX7 132 yX7_cueAt, Cond.instanceMethod yX7_cueAt, Cond.selects RX7 yX7_cueAt yX7_cueAt, Cond.code yX7_cueAt cX7_cueAt 2 (some (.object "GelBook$Cue")), Cond.fieldLink RX7 18 "GelBook" "cues" "[LGelBook$Cue;", Cond.methodLink RX7 95 yX5_lampAt, Cond.instanceMethod yX5_lampAt, Cond.selects RX5 yX5_lampAt yX5_lampAt, Cond.initialized RX5, Cond.code yX5_lampAt cX5_lampAt 2 (some (.object "GelBook$Lamp")), Cond.fieldLink RX5 11 "GelBook$Rig" "lamps" "[LGelBook$Lamp;", Cond.methodLink RX7 224 yX0_shinerFor, Cond.instanceMethod yX0_shinerFor, Cond.selects RX0 yX0_shinerFor yX0_shinerFor, Cond.initialized RX0]
def wsL_shines_r2 : List Cond := [Cond.code yX0_shinerFor cX0_shinerFor 2 (some .int), Cond.fieldLink RX0 28 "GelBook$Cue" "shiners" "[I"]
def wsL_shines : List Cond := .codeWith yL_shines cL_shines 5 (some .int) [(0, 10, 13, 21)] :: ((wsL_shines_r1 ++ wsL_shines_r2) ++ wsX70 ++ wsX50 ++ wsX00 ++ (vx_atS RX7 103 "java/lang/IndexOutOfBoundsException" ["java/lang/RuntimeException", "java/lang/Exception"]).filter goodWord)
def wsL_playing_r1 : List Cond := [Cond.classLink RL 21 "java/lang/IndexOutOfBoundsException", Cond.classLink RL 13 "java/lang/IllegalArgumentException", Cond.methodLink RL 68 yX7_playing, Cond.instanceMethod yX7_playing, Cond.selects RX7 yX7_playing yX7_playing, Cond.initialized RX7, Cond.code yX7_playing cX7_playing 5 (some .int), Cond.classLink RX7 99 "java/lang/IndexOutOfBoundsException", Cond.initialized "java/lang/IndexOutOfBoundsException", Cond.classLink RX7 67 "java/lang/IllegalArgumentException", Cond.initialized "java/lang/IllegalArgumentException", Cond.fieldLink RX7 35 "GelBook" "live" "LGelBook$Goings;", Cond.fieldLink RX7 230 "GelBook$Going" "went" "I", Cond.fieldLink RX7 186 "GelBook" "tick" "I", Cond.methodLink RX7 132 yX7_cueAt, Cond.instanceMethod yX7_cueAt, Cond.selects RX7 yX7_cueAt yX7_cueAt, Cond.code yX7_cueAt cX7_cueAt 2 (some (.object "GelBook$Cue")), Cond.fieldLink RX7 18 "GelBook" "cues" "[LGelBook$Cue;", Cond.methodLink RX7 56 yX7_isWithin, Cond.static yX7_isWithin, Cond.code yX7_isWithin cX7_isWithin 3 (some .boolean), Cond.methodLink RX7 175 yX2_goingOf, Cond.instanceMethod yX2_goingOf]
def wsL_playing_r2 : List Cond := [Cond.selects RX2 yX2_goingOf yX2_goingOf, Cond.initialized RX2, Cond.code yX2_goingOf cX2_goingOf 2 (some (.object "GelBook$Going")), Cond.methodLink RX2 30 yX2_placeOf, Cond.instanceMethod yX2_placeOf, Cond.selects RX2 yX2_placeOf yX2_placeOf, Cond.code yX2_placeOf cX2_placeOf 4 (some .int), Cond.fieldLink RX2 18 "GelBook$Goings" "count" "I", Cond.fieldLink RX2 26 "GelBook$Going" "cue" "LGelBook$Cue;", Cond.methodLink RX2 22 yX2_at, Cond.instanceMethod yX2_at, Cond.selects RX2 yX2_at yX2_at, Cond.code yX2_at cX2_at 2 (some (.object "GelBook$Going")), Cond.fieldLink RX2 11 "GelBook$Goings" "row" "[LGelBook$Going;", Cond.methodLink RX7 179 yX1_isReleased, Cond.instanceMethod yX1_isReleased, Cond.selects RX1 yX1_isReleased yX1_isReleased, Cond.initialized RX1, Cond.code yX1_isReleased cX1_isReleased 1 (some .boolean), Cond.fieldLink RX1 9 "GelBook$Going" "releasedAt" "I", Cond.methodLink RX7 233 yX1_master, Cond.instanceMethod yX1_master, Cond.selects RX1 yX1_master yX1_master, Cond.code yX1_master cX1_master 2 (some .float)]
def wsL_playing_r3 : List Cond := [Cond.fieldLink RX1 15 "GelBook$Going" "cue" "LGelBook$Cue;", Cond.fieldLink RX1 19 "GelBook$Going" "went" "I", Cond.fieldLink RX1 26 "GelBook$Cue" "down" "I", Cond.methodLink RX1 22 yX1_isReleased, Cond.methodLink RX1 38 yX0_masterRisen, Cond.instanceMethod yX0_masterRisen, Cond.selects RX0 yX0_masterRisen yX0_masterRisen, Cond.initialized RX0, Cond.code yX0_masterRisen cX0_masterRisen 3 (some .float), Cond.fieldLink RX0 18 "GelBook$Cue" "up" "I", Cond.methodLink RX7 207 yX7_bitsOf, Cond.static yX7_bitsOf, Cond.code yX7_bitsOf cX7_bitsOf 3 (some .int), Cond.constantFloat RX7 239 (1258291200)]
def wsL_playing : List Cond := .codeWith yL_playing cL_playing 5 (some .int) [(0, 10, 13, 21), (0, 10, 17, 13)] :: ((wsL_playing_r1 ++ (wsL_playing_r2 ++ wsL_playing_r3)) ++ wsX70 ++ wsX10 ++ wsX20 ++ wsX00 ++ (vx_atS RX7 103 "java/lang/IndexOutOfBoundsException" ["java/lang/RuntimeException", "java/lang/Exception"]).filter goodWord ++ (vx_atS RX7 71 "java/lang/IllegalArgumentException" ["java/lang/RuntimeException", "java/lang/Exception"]).filter goodWord)
def wsL_law0_r1 : List Cond := [Cond.classLink RL 8 RX7, Cond.instantiable RX7 10, Cond.initialized RX7, Cond.classLink RL 72 RX8, Cond.instantiable RX8 30, Cond.initialized RX8, Cond.arrayClass .long, Cond.methodLink RL 71 yX7_init, Cond.instanceMethod yX7_init, Cond.code yX7_init cX7_init 1 none, Cond.methodLink RX7 1 objectInit, Cond.instanceMethod objectInit, Cond.code objectInit ⟨#[0xb1]⟩ 1 none, Cond.classLink RX7 7 RX5, Cond.instantiable RX5 3, Cond.initialized RX5, Cond.fieldLink RX7 10 "GelBook" "rig" "LGelBook$Rig;", Cond.classLink RX7 16 RX0, Cond.fieldLink RX7 18 "GelBook" "cues" "[LGelBook$Cue;", Cond.arrayClass .int, Cond.fieldLink RX7 22 "GelBook" "powers" "[I", Cond.classLink RX7 32 RX2, Cond.instantiable RX2 2, Cond.initialized RX2]
def wsL_law0_r2 : List Cond := [Cond.fieldLink RX7 35 "GelBook" "live" "LGelBook$Goings;", Cond.fieldLink RX7 39 "GelBook" "retold" "LGelBook$Goings;", Cond.classLink RX7 42 RX6, Cond.instantiable RX6 5, Cond.initialized RX6, Cond.fieldLink RX7 45 "GelBook" "waiting" "LGelBook$Waiting;", Cond.classLink RX7 49 RX3, Cond.instantiable RX3 2, Cond.initialized RX3, Cond.fieldLink RX7 52 "GelBook" "history" "LGelBook$History;", Cond.methodLink RX7 9 yX5_init, Cond.instanceMethod yX5_init, Cond.code yX5_init cX5_init 1 none, Cond.methodLink RX5 3 objectInit, Cond.classLink RX5 9 RX4, Cond.fieldLink RX5 11 "GelBook$Rig" "lamps" "[LGelBook$Lamp;", Cond.fieldLink RX5 17 "GelBook$Rig" "bars" "I", Cond.methodLink RX7 26 yJ7_fill_53178, Cond.static yJ7_fill_53178, Cond.initialized RJ7, Cond.code yJ7_fill_53178 cJ7_fill_53178 4 none, Cond.methodLink RX7 34 yX2_init, Cond.instanceMethod yX2_init, Cond.code yX2_init cX2_init 2 none]
def wsL_law0_r3 : List Cond := [Cond.methodLink RX2 3 objectInit, Cond.classLink RX2 9 RX1, Cond.fieldLink RX2 11 "GelBook$Goings" "row" "[LGelBook$Going;", Cond.instantiable RX1 3, Cond.initialized RX1, Cond.methodLink RX2 17 yX1_init, Cond.instanceMethod yX1_init, Cond.code yX1_init cX1_init 1 none, Cond.methodLink RX1 3 objectInit, Cond.fieldLink RX1 9 "GelBook$Going" "releasedAt" "I", Cond.methodLink RX7 44 yX6_init, Cond.instanceMethod yX6_init, Cond.code yX6_init cX6_init 1 none, Cond.methodLink RX6 3 objectInit, Cond.classLink RX6 9 RX0, Cond.fieldLink RX6 11 "GelBook$Waiting" "noted" "[LGelBook$Cue;", Cond.fieldLink RX6 17 "GelBook$Waiting" "dueAt" "[I", Cond.fieldLink RX6 21 "GelBook$Waiting" "ready" "[LGelBook$Cue;", Cond.methodLink RX7 51 yX3_init, Cond.instanceMethod yX3_init, Cond.code yX3_init cX3_init 1 none, Cond.methodLink RX3 3 objectInit, Cond.fieldLink RX3 9 "GelBook$History" "entries" "[I", Cond.methodLink RL 74 yX8_init]
def wsL_law0_r4 : List Cond := [Cond.instanceMethod yX8_init, Cond.code yX8_init cX8_init 2 none, Cond.methodLink RX8 1 objectInit, Cond.fieldLink RX8 7 "GelBookModel" "bar" "[I", Cond.fieldLink RX8 13 "GelBookModel" "position" "[I", Cond.fieldLink RX8 16 "GelBookModel" "gel" "[I", Cond.fieldLink RX8 19 "GelBookModel" "watts" "[I", Cond.fieldLink RX8 22 "GelBookModel" "phase" "[I", Cond.arrayClass .boolean, Cond.fieldLink RX8 25 "GelBookModel" "isDead" "[Z", Cond.fieldLink RX8 29 "GelBookModel" "bars" "I", Cond.fieldLink RX8 33 "GelBookModel" "power" "[I", Cond.fieldLink RX8 36 "GelBookModel" "sort" "[I", Cond.fieldLink RX8 39 "GelBookModel" "up" "[I", Cond.fieldLink RX8 42 "GelBookModel" "down" "[I", Cond.fieldLink RX8 45 "GelBookModel" "level" "[I", Cond.fieldLink RX8 48 "GelBookModel" "other" "[I", Cond.fieldLink RX8 51 "GelBookModel" "behind" "[I", Cond.fieldLink RX8 54 "GelBookModel" "isActive" "[Z", Cond.fieldLink RX8 57 "GelBookModel" "went" "[I", Cond.fieldLink RX8 60 "GelBookModel" "order" "[I", Cond.fieldLink RX8 63 "GelBookModel" "released" "[I", Cond.fieldLink RX8 66 "GelBookModel" "notedCue" "[I", Cond.fieldLink RX8 69 "GelBookModel" "notedTick" "[I"]
def wsL_law0_r5 : List Cond := [Cond.fieldLink RX8 72 "GelBookModel" "its" "[I", Cond.fieldLink RX8 75 "GelBookModel" "shining" "[I", Cond.fieldLink RX8 78 "GelBookModel" "greatest" "[I", Cond.methodLink RL 75 yL_lamp, Cond.static yL_lamp, Cond.initialized RL, Cond.codeWith yL_lamp cL_lamp 8 (some .int) [(0, 16, 19, 13), (0, 16, 23, 15)], Cond.classLink RL 13 "java/lang/IllegalArgumentException", Cond.classLink RL 15 "java/lang/IllegalStateException", Cond.methodLink RL 7 yX7_lamp, Cond.instanceMethod yX7_lamp, Cond.selects RX7 yX7_lamp yX7_lamp, Cond.code yX7_lamp cX7_lamp 7 (some .int), Cond.classLink RX7 67 "java/lang/IllegalArgumentException", Cond.initialized "java/lang/IllegalArgumentException", Cond.classLink RX7 78 "java/lang/IllegalStateException", Cond.initialized "java/lang/IllegalStateException", Cond.classLink RX7 83 RX4, Cond.instantiable RX4 6, Cond.initialized RX4, Cond.methodLink RX7 56 yX7_isWithin, Cond.static yX7_isWithin, Cond.code yX7_isWithin cX7_isWithin 3 (some .boolean), Cond.methodLink RX7 60 yX7_isGel]
def wsL_law0_r6 : List Cond := [Cond.static yX7_isGel, Cond.code yX7_isGel cX7_isGel 1 (some .boolean), Cond.methodLink RX7 64 yX7_isPhase, Cond.static yX7_isPhase, Cond.code yX7_isPhase cX7_isPhase 1 (some .boolean), Cond.methodLink RX7 74 yX5_isFull, Cond.instanceMethod yX5_isFull, Cond.selects RX5 yX5_isFull yX5_isFull, Cond.code yX5_isFull cX5_isFull 1 (some .boolean), Cond.fieldLink RX5 21 "GelBook$Rig" "count" "I", Cond.methodLink RX7 85 yX4_init, Cond.instanceMethod yX4_init, Cond.code yX4_init cX4_init 6 none, Cond.methodLink RX4 1 objectInit, Cond.fieldLink RX4 7 "GelBook$Lamp" "bar" "I", Cond.fieldLink RX4 13 "GelBook$Lamp" "position" "I", Cond.fieldLink RX4 16 "GelBook$Lamp" "gel" "I", Cond.fieldLink RX4 19 "GelBook$Lamp" "watts" "I", Cond.fieldLink RX4 22 "GelBook$Lamp" "phase" "I", Cond.methodLink RX7 88 yX5_hang, Cond.instanceMethod yX5_hang, Cond.selects RX5 yX5_hang yX5_hang, Cond.code yX5_hang cX5_hang 2 (some .int), Cond.methodLink RX7 92 yX7_arrangeCues]
def wsL_law0_r7 : List Cond := [Cond.instanceMethod yX7_arrangeCues, Cond.selects RX7 yX7_arrangeCues yX7_arrangeCues, Cond.code yX7_arrangeCues cX7_arrangeCues 3 none, Cond.methodLink RX7 144 yX0_arrange, Cond.instanceMethod yX0_arrange, Cond.selects RX0 yX0_arrange yX0_arrange, Cond.initialized RX0, Cond.code yX0_arrange cX0_arrange 5 none, Cond.fieldLink RX0 28 "GelBook$Cue" "shiners" "[I", Cond.fieldLink RX0 31 "GelBook$Cue" "levels" "[I", Cond.fieldLink RX0 24 "GelBook$Cue" "told" "[I", Cond.methodLink RX0 34 yJ7_fill_53178, Cond.methodLink RX0 40 yX5_lampAt, Cond.instanceMethod yX5_lampAt, Cond.selects RX5 yX5_lampAt yX5_lampAt, Cond.code yX5_lampAt cX5_lampAt 2 (some (.object "GelBook$Lamp")), Cond.methodLink RX0 46 yX5_isUsable, Cond.instanceMethod yX5_isUsable, Cond.selects RX5 yX5_isUsable yX5_isUsable, Cond.code yX5_isUsable cX5_isUsable 2 (some .boolean), Cond.fieldLink RX5 24 "GelBook$Lamp" "dead" "Z", Cond.fieldLink RX5 28 "GelBook$Lamp" "bar" "I", Cond.methodLink RX0 50 yX5_nearestSpare, Cond.instanceMethod yX5_nearestSpare]
def wsL_law0_r8 : List Cond := [Cond.selects RX5 yX5_nearestSpare yX5_nearestSpare, Cond.code yX5_nearestSpare cX5_nearestSpare 8 (some .int), Cond.fieldLink RX5 35 "GelBook$Lamp" "gel" "I", Cond.methodLink RX5 31 yX5_isUsable, Cond.methodLink RX5 38 yX0_canSpare, Cond.instanceMethod yX0_canSpare, Cond.selects RX0 yX0_canSpare yX0_canSpare, Cond.code yX0_canSpare cX0_canSpare 2 (some .boolean), Cond.methodLink RX5 44 yX4_distanceTo, Cond.instanceMethod yX4_distanceTo, Cond.selects RX4 yX4_distanceTo yX4_distanceTo, Cond.code yX4_distanceTo cX4_distanceTo 2 (some .int), Cond.methodLink RX4 25 Lib.Math.abs.name, Cond.static Lib.Math.abs.name, Cond.initialized "java/lang/Math", Cond.code Lib.Math.abs.name Lib.Math.abs.code 1 (some .int), Cond.methodLink RL 80 yX8_lamp, Cond.instanceMethod yX8_lamp, Cond.selects RX8 yX8_lamp yX8_lamp, Cond.code yX8_lamp cX8_lamp 7 (some .int), Cond.fieldLink RX8 84 "GelBookModel" "lamps" "I", Cond.methodLink RX8 87 yX8_isIn, Cond.static yX8_isIn, Cond.code yX8_isIn cX8_isIn 3 (some .boolean)]
def wsL_law0_r9 : List Cond := [Cond.methodLink RX8 94 yX8_isPhase, Cond.static yX8_isPhase, Cond.code yX8_isPhase cX8_isPhase 1 (some .boolean), Cond.methodLink RX8 98 yX8_can, Cond.instanceMethod yX8_can, Cond.selects RX8 yX8_can yX8_can, Cond.code yX8_can cX8_can 2 (some .boolean), Cond.fieldLink RX8 81 "GelBookModel" "thrown" "I", Cond.methodLink RL 81 yX8_thrown, Cond.instanceMethod yX8_thrown, Cond.selects RX8 yX8_thrown yX8_thrown, Cond.code yX8_thrown cX8_thrown 1 (some .int), Cond.methodLink RL 85 yL_die, Cond.static yL_die, Cond.codeWith yL_die cL_die 4 (some .int) [(0, 16, 19, 21)], Cond.classLink RL 21 "java/lang/IndexOutOfBoundsException", Cond.methodLink RL 17 yX7_die, Cond.instanceMethod yX7_die, Cond.selects RX7 yX7_die yX7_die, Cond.code yX7_die cX7_die 3 (some .boolean), Cond.classLink RX7 99 "java/lang/IndexOutOfBoundsException", Cond.initialized "java/lang/IndexOutOfBoundsException", Cond.fieldLink RX7 104 "GelBook$Lamp" "dead" "Z", Cond.methodLink RX7 95 yX5_lampAt]
def wsL_law0_r10 : List Cond := [Cond.methodLink RL 88 yX8_die, Cond.instanceMethod yX8_die, Cond.selects RX8 yX8_die yX8_die, Cond.code yX8_die cX8_die 2 (some .boolean), Cond.methodLink RX8 101 yX8_isLamp, Cond.instanceMethod yX8_isLamp, Cond.selects RX8 yX8_isLamp yX8_isLamp, Cond.code yX8_isLamp cX8_isLamp 2 (some .boolean), Cond.methodLink RL 89 yL_house, Cond.static yL_house, Cond.codeWith yL_house cL_house 4 (some .int) [(0, 9, 12, 13)], Cond.methodLink RL 23 yX7_house, Cond.instanceMethod yX7_house, Cond.selects RX7 yX7_house yX7_house, Cond.code yX7_house cX7_house 2 (some .int), Cond.fieldLink RX7 110 "GelBook$Rig" "bars" "I", Cond.methodLink RX7 114 yX5_countUsable, Cond.instanceMethod yX5_countUsable, Cond.selects RX5 yX5_countUsable yX5_countUsable, Cond.code yX5_countUsable cX5_countUsable 3 (some .int), Cond.methodLink RL 91 yX8_house, Cond.instanceMethod yX8_house, Cond.selects RX8 yX8_house yX8_house, Cond.code yX8_house cX8_house 4 (some .int)]
def wsL_law0_r11 : List Cond := [Cond.methodLink RX8 104 yX8_isUsable, Cond.instanceMethod yX8_isUsable, Cond.selects RX8 yX8_isUsable yX8_isUsable, Cond.code yX8_isUsable cX8_isUsable 2 (some .boolean), Cond.methodLink RL 92 yL_power, Cond.static yL_power, Cond.codeWith yL_power cL_power 5 (some .int) [(0, 10, 13, 21), (0, 10, 17, 13)], Cond.methodLink RL 27 yX7_power, Cond.instanceMethod yX7_power, Cond.selects RX7 yX7_power yX7_power, Cond.code yX7_power cX7_power 4 (some .int), Cond.methodLink RL 95 yX8_power, Cond.instanceMethod yX8_power, Cond.selects RX8 yX8_power yX8_power, Cond.code yX8_power cX8_power 4 (some .int), Cond.methodLink RL 96 yL_cue, Cond.static yL_cue, Cond.codeWith yL_cue cL_cue 6 (some .int) [(0, 12, 15, 13), (0, 12, 19, 15)], Cond.methodLink RL 31 yX7_cue, Cond.instanceMethod yX7_cue, Cond.selects RX7 yX7_cue yX7_cue, Cond.code yX7_cue cX7_cue 5 (some .int), Cond.fieldLink RX7 124 "GelBook" "cueCount" "I", Cond.instantiable RX0 9]
def wsL_law0_r12 : List Cond := [Cond.methodLink RX7 129 yX0_init, Cond.instanceMethod yX0_init, Cond.code yX0_init cX0_init 5 none, Cond.methodLink RX0 3 objectInit, Cond.fieldLink RX0 9 "GelBook$Cue" "number" "I", Cond.fieldLink RX0 15 "GelBook$Cue" "sort" "I", Cond.fieldLink RX0 18 "GelBook$Cue" "up" "I", Cond.fieldLink RX0 21 "GelBook$Cue" "down" "I", Cond.methodLink RL 99 yX8_cue, Cond.instanceMethod yX8_cue, Cond.selects RX8 yX8_cue yX8_cue, Cond.code yX8_cue cX8_cue 5 (some .int), Cond.fieldLink RX8 91 "GelBookModel" "cues" "I", Cond.methodLink RL 100 yL_level, Cond.static yL_level, Cond.codeWith yL_level cL_level 6 (some .int) [(0, 12, 15, 21), (0, 12, 19, 13)], Cond.methodLink RL 35 yX7_level, Cond.instanceMethod yX7_level, Cond.selects RX7 yX7_level yX7_level, Cond.code yX7_level cX7_level 6 (some .int), Cond.methodLink RX7 132 yX7_cueAt, Cond.instanceMethod yX7_cueAt, Cond.selects RX7 yX7_cueAt yX7_cueAt, Cond.code yX7_cueAt cX7_cueAt 2 (some (.object "GelBook$Cue"))]
def wsL_law0_r13 : List Cond := [Cond.methodLink RX7 140 yX0_tell, Cond.instanceMethod yX0_tell, Cond.selects RX0 yX0_tell yX0_tell, Cond.code yX0_tell cX0_tell 4 (some .int), Cond.methodLink RL 102 yX8_level, Cond.instanceMethod yX8_level, Cond.selects RX8 yX8_level yX8_level, Cond.code yX8_level cX8_level 6 (some .int), Cond.methodLink RX8 107 yX8_isCue, Cond.instanceMethod yX8_isCue, Cond.selects RX8 yX8_isCue yX8_isCue, Cond.code yX8_isCue cX8_isCue 2 (some .boolean), Cond.methodLink RL 103 yL_follow, Cond.static yL_follow, Cond.codeWith yL_follow cL_follow 6 (some .int) [(0, 12, 15, 21), (0, 12, 19, 13)], Cond.methodLink RL 38 yX7_follow, Cond.instanceMethod yX7_follow, Cond.selects RX7 yX7_follow yX7_follow, Cond.code yX7_follow cX7_follow 7 (some .int), Cond.fieldLink RX7 152 "GelBook$Cue" "follower" "LGelBook$Cue;", Cond.fieldLink RX7 156 "GelBook$Cue" "delay" "I", Cond.fieldLink RX7 159 "GelBook$Cue" "number" "I", Cond.methodLink RL 105 yX8_follow, Cond.instanceMethod yX8_follow]
def wsL_law0_r14 : List Cond := [Cond.selects RX8 yX8_follow yX8_follow, Cond.code yX8_follow cX8_follow 6 (some .int), Cond.methodLink RL 106 yL_go, Cond.static yL_go, Cond.codeWith yL_go cL_go 4 (some .int) [(0, 9, 12, 21), (0, 9, 15, 15)], Cond.methodLink RL 41 yX7_go, Cond.instanceMethod yX7_go, Cond.selects RX7 yX7_go yX7_go, Cond.code yX7_go cX7_go 3 (some .int), Cond.fieldLink RX7 172 "GelBook$Goings" "count" "I", Cond.methodLink RX7 162 yX7_canGo, Cond.instanceMethod yX7_canGo, Cond.selects RX7 yX7_canGo yX7_canGo, Cond.code yX7_canGo cX7_canGo 3 (some .boolean), Cond.methodLink RX7 220 yX7_wattsAsked, Cond.instanceMethod yX7_wattsAsked, Cond.selects RX7 yX7_wattsAsked yX7_wattsAsked, Cond.code yX7_wattsAsked cX7_wattsAsked 6 (some .int), Cond.fieldLink RX7 240 "GelBook$Lamp" "phase" "I", Cond.fieldLink RX7 243 "GelBook$Lamp" "watts" "I", Cond.methodLink RX7 252 Lib.Math.max.name, Cond.static Lib.Math.max.name, Cond.code Lib.Math.max.name Lib.Math.max.code 2 (some .int), Cond.methodLink RX7 246 yX0_levelFor]
def wsL_law0_r15 : List Cond := [Cond.instanceMethod yX0_levelFor, Cond.selects RX0 yX0_levelFor yX0_levelFor, Cond.code yX0_levelFor cX0_levelFor 2 (some .int), Cond.methodLink RX7 249 yX2_greatestUnreleased, Cond.instanceMethod yX2_greatestUnreleased, Cond.selects RX2 yX2_greatestUnreleased yX2_greatestUnreleased, Cond.code yX2_greatestUnreleased cX2_greatestUnreleased 5 (some .int), Cond.fieldLink RX2 18 "GelBook$Goings" "count" "I", Cond.methodLink RX2 61 Lib.Math.max.name, Cond.methodLink RX2 22 yX2_at, Cond.instanceMethod yX2_at, Cond.selects RX2 yX2_at yX2_at, Cond.code yX2_at cX2_at 2 (some (.object "GelBook$Going")), Cond.methodLink RX2 53 yX1_isReleased, Cond.instanceMethod yX1_isReleased, Cond.selects RX1 yX1_isReleased yX1_isReleased, Cond.code yX1_isReleased cX1_isReleased 1 (some .boolean), Cond.methodLink RX2 57 yX1_levelFor, Cond.instanceMethod yX1_levelFor, Cond.selects RX1 yX1_levelFor yX1_levelFor, Cond.code yX1_levelFor cX1_levelFor 2 (some .int), Cond.fieldLink RX1 15 "GelBook$Going" "cue" "LGelBook$Cue;", Cond.methodLink RX1 34 yX0_levelFor, Cond.methodLink RX7 168 yX7_begin]
def wsL_law0_r16 : List Cond := [Cond.instanceMethod yX7_begin, Cond.selects RX7 yX7_begin yX7_begin, Cond.code yX7_begin cX7_begin 2 none, Cond.fieldLink RX7 186 "GelBook" "tick" "I", Cond.methodLink RX7 257 yX2_begin, Cond.instanceMethod yX2_begin, Cond.selects RX2 yX2_begin yX2_begin, Cond.code yX2_begin cX2_begin 5 none, Cond.methodLink RX2 30 yX2_placeOf, Cond.instanceMethod yX2_placeOf, Cond.selects RX2 yX2_placeOf yX2_placeOf, Cond.code yX2_placeOf cX2_placeOf 4 (some .int), Cond.fieldLink RX2 26 "GelBook$Going" "cue" "LGelBook$Cue;", Cond.methodLink RX2 34 yX2_moveLast, Cond.instanceMethod yX2_moveLast, Cond.selects RX2 yX2_moveLast yX2_moveLast, Cond.code yX2_moveLast cX2_moveLast 4 none, Cond.methodLink RX2 38 yX1_begin, Cond.instanceMethod yX1_begin, Cond.selects RX1 yX1_begin yX1_begin, Cond.code yX1_begin cX1_begin 3 none, Cond.fieldLink RX1 19 "GelBook$Going" "went" "I", Cond.methodLink RX7 260 yX3_writeGoing, Cond.instanceMethod yX3_writeGoing]
def wsL_law0_r17 : List Cond := [Cond.selects RX3 yX3_writeGoing yX3_writeGoing, Cond.code yX3_writeGoing cX3_writeGoing 4 none, Cond.methodLink RX3 15 yX3_entryFor, Cond.static yX3_entryFor, Cond.code yX3_entryFor cX3_entryFor 3 (some .int), Cond.methodLink RX3 19 yX3_strike, Cond.instanceMethod yX3_strike, Cond.selects RX3 yX3_strike yX3_strike, Cond.code yX3_strike cX3_strike 3 none, Cond.fieldLink RX3 26 "GelBook$History" "count" "I", Cond.methodLink RX3 30 yX3_entryAt, Cond.instanceMethod yX3_entryAt, Cond.selects RX3 yX3_entryAt yX3_entryAt, Cond.code yX3_entryAt cX3_entryAt 2 (some .int), Cond.methodLink RX3 34 yX3_tickOf, Cond.static yX3_tickOf, Cond.code yX3_tickOf cX3_tickOf 1 (some .int), Cond.methodLink RX3 37 yX3_removeAt, Cond.instanceMethod yX3_removeAt, Cond.selects RX3 yX3_removeAt yX3_removeAt, Cond.code yX3_removeAt cX3_removeAt 3 none, Cond.methodLink RX3 23 yX3_append, Cond.instanceMethod yX3_append, Cond.selects RX3 yX3_append yX3_append]
def wsL_law0_r18 : List Cond := [Cond.code yX3_append cX3_append 2 none, Cond.constant RX3 40 (122880), Cond.methodLink RX3 41 Lib.Math.min.name, Cond.static Lib.Math.min.name, Cond.code Lib.Math.min.name Lib.Math.min.code 2 (some .int), Cond.methodLink RX3 47 yJ7_copyOf_59c91, Cond.static yJ7_copyOf_59c91, Cond.code yJ7_copyOf_59c91 cJ7_copyOf_59c91 3 (some (.array .int)), Cond.methodLink RJ7 316 ⟨"[I", "clone", "()Ljava/lang/Object;"⟩, Cond.sameMethod "[I" "java/lang/Object" "clone" "()Ljava/lang/Object;", Cond.native ⟨"java/lang/Object", "clone", "()Ljava/lang/Object;"⟩, Cond.instanceMethod ⟨"java/lang/Object", "clone", "()Ljava/lang/Object;"⟩, Cond.selects "[I" ⟨"[I", "clone", "()Ljava/lang/Object;"⟩ ⟨"java/lang/Object", "clone", "()Ljava/lang/Object;"⟩, Cond.classLink RJ7 317 "[I", Cond.methodLink RJ7 304 Lib.Math.min.name, Cond.methodLink RJ7 150 arraycopyName, Cond.native arraycopyName, Cond.static arraycopyName, Cond.initialized "java/lang/System", Cond.methodLink RX7 263 yX6_note, Cond.instanceMethod yX6_note, Cond.selects RX6 yX6_note yX6_note, Cond.code yX6_note cX6_note 3 none, Cond.fieldLink RX6 24 "GelBook$Waiting" "count" "I"]
def wsL_law0_r19 : List Cond := [Cond.methodLink RL 108 yX8_go, Cond.instanceMethod yX8_go, Cond.selects RX8 yX8_go yX8_go, Cond.code yX8_go cX8_go 3 (some .int), Cond.methodLink RX8 140 yX8_mayGo, Cond.instanceMethod yX8_mayGo, Cond.selects RX8 yX8_mayGo yX8_mayGo, Cond.code yX8_mayGo cX8_mayGo 4 (some .boolean), Cond.methodLink RX8 128 yX8_asked, Cond.instanceMethod yX8_asked, Cond.selects RX8 yX8_asked yX8_asked, Cond.code yX8_asked cX8_asked 5 (some .int), Cond.methodLink RX8 125 yX8_raises, Cond.instanceMethod yX8_raises, Cond.selects RX8 yX8_raises yX8_raises, Cond.code yX8_raises cX8_raises 3 none, Cond.methodLink RX8 121 yX8_finds, Cond.instanceMethod yX8_finds, Cond.selects RX8 yX8_finds yX8_finds, Cond.code yX8_finds cX8_finds 4 none, Cond.methodLink RX8 118 yX8_nearest, Cond.instanceMethod yX8_nearest, Cond.selects RX8 yX8_nearest yX8_nearest, Cond.code yX8_nearest cX8_nearest 6 (some .int)]
def wsL_law0_r20 : List Cond := [Cond.methodLink RX8 114 yX8_distance, Cond.instanceMethod yX8_distance, Cond.selects RX8 yX8_distance yX8_distance, Cond.code yX8_distance cX8_distance 3 (some .int), Cond.methodLink RX8 110 yX8_size, Cond.static yX8_size, Cond.code yX8_size cX8_size 1 (some .int), Cond.methodLink RX8 143 yX8_goes, Cond.instanceMethod yX8_goes, Cond.selects RX8 yX8_goes yX8_goes, Cond.code yX8_goes cX8_goes 2 none, Cond.fieldLink RX8 131 "GelBookModel" "tick" "I", Cond.fieldLink RX8 134 "GelBookModel" "goings" "I", Cond.fieldLink RX8 137 "GelBookModel" "noted" "I", Cond.methodLink RX8 146 yX8_active, Cond.instanceMethod yX8_active, Cond.selects RX8 yX8_active yX8_active, Cond.code yX8_active cX8_active 3 (some .int), Cond.methodLink RL 109 yL_release, Cond.static yL_release, Cond.codeWith yL_release cL_release 4 (some .int) [(0, 16, 19, 21), (0, 16, 22, 15)], Cond.methodLink RL 44 yX7_release, Cond.instanceMethod yX7_release, Cond.selects RX7 yX7_release yX7_release]
def wsL_law0_r21 : List Cond := [Cond.code yX7_release cX7_release 4 (some .boolean), Cond.methodLink RX7 175 yX2_goingOf, Cond.instanceMethod yX2_goingOf, Cond.selects RX2 yX2_goingOf yX2_goingOf, Cond.code yX2_goingOf cX2_goingOf 2 (some (.object "GelBook$Going")), Cond.methodLink RX7 179 yX1_isReleased, Cond.methodLink RX7 189 yX1_fall, Cond.instanceMethod yX1_fall, Cond.selects RX1 yX1_fall yX1_fall, Cond.code yX1_fall cX1_fall 2 none, Cond.methodLink RX7 193 yX3_writeRelease, Cond.instanceMethod yX3_writeRelease, Cond.selects RX3 yX3_writeRelease yX3_writeRelease, Cond.code yX3_writeRelease cX3_writeRelease 3 none, Cond.methodLink RX7 197 yX2_dropOver, Cond.instanceMethod yX2_dropOver, Cond.selects RX2 yX2_dropOver yX2_dropOver, Cond.code yX2_dropOver cX2_dropOver 4 none, Cond.methodLink RX2 49 yX1_isOver, Cond.instanceMethod yX1_isOver, Cond.selects RX1 yX1_isOver yX1_isOver, Cond.code yX1_isOver cX1_isOver 2 (some .boolean), Cond.fieldLink RX1 26 "GelBook$Cue" "down" "I", Cond.methodLink RX1 22 yX1_isReleased]
def wsL_law0_r22 : List Cond := [Cond.methodLink RL 111 yX8_release, Cond.instanceMethod yX8_release, Cond.selects RX8 yX8_release yX8_release, Cond.code yX8_release cX8_release 3 (some .boolean), Cond.methodLink RX8 150 yX8_ends, Cond.instanceMethod yX8_ends, Cond.selects RX8 yX8_ends yX8_ends, Cond.code yX8_ends cX8_ends 2 none, Cond.methodLink RL 112 yL_pass, Cond.static yL_pass, Cond.codeWith yL_pass cL_pass 4 (some .int) [(0, 9, 12, 13)], Cond.methodLink RL 47 yX7_pass, Cond.instanceMethod yX7_pass, Cond.selects RX7 yX7_pass yX7_pass, Cond.code yX7_pass cX7_pass 3 (some .int), Cond.methodLink RX7 200 yX7_passOne, Cond.instanceMethod yX7_passOne, Cond.selects RX7 yX7_passOne yX7_passOne, Cond.code yX7_passOne cX7_passOne 3 none, Cond.fieldLink RX7 269 "GelBook$Waiting" "readyCount" "I", Cond.fieldLink RX7 236 "GelBook" "barredCount" "I", Cond.methodLink RX7 266 yX6_takeDue, Cond.instanceMethod yX6_takeDue, Cond.selects RX6 yX6_takeDue yX6_takeDue]
def wsL_law0_r23 : List Cond := [Cond.code yX6_takeDue cX6_takeDue 4 none, Cond.fieldLink RX6 28 "GelBook$Waiting" "readyCount" "I", Cond.methodLink RX7 272 yX6_readyAt, Cond.instanceMethod yX6_readyAt, Cond.selects RX6 yX6_readyAt yX6_readyAt, Cond.code yX6_readyAt cX6_readyAt 2 (some (.object "GelBook$Cue")), Cond.methodLink RL 114 yX8_pass, Cond.instanceMethod yX8_pass, Cond.selects RX8 yX8_pass yX8_pass, Cond.code yX8_pass cX8_pass 4 (some .int), Cond.methodLink RX8 156 yX8_follows, Cond.instanceMethod yX8_follows, Cond.selects RX8 yX8_follows yX8_follows, Cond.code yX8_follows cX8_follows 5 none, Cond.fieldLink RX8 153 "GelBookModel" "barred" "I", Cond.methodLink RL 115 yL_levelOf, Cond.static yL_levelOf, Cond.codeWith yL_levelOf cL_levelOf 4 (some .int) [(0, 9, 12, 21)], Cond.methodLink RL 50 yX7_levelOf, Cond.instanceMethod yX7_levelOf, Cond.selects RX7 yX7_levelOf yX7_levelOf, Cond.code yX7_levelOf cX7_levelOf 2 (some .int), Cond.methodLink RX7 203 yX2_mix, Cond.instanceMethod yX2_mix]
def wsL_law0_r24 : List Cond := [Cond.selects RX2 yX2_mix yX2_mix, Cond.code yX2_mix cX2_mix 7 (some .float), Cond.methodLink RX2 67 yX1_isOf, Cond.instanceMethod yX1_isOf, Cond.selects RX1 yX1_isOf yX1_isOf, Cond.code yX1_isOf cX1_isOf 2 (some .boolean), Cond.fieldLink RX1 31 "GelBook$Cue" "sort" "I", Cond.methodLink RX2 70 yX1_master, Cond.instanceMethod yX1_master, Cond.selects RX1 yX1_master yX1_master, Cond.code yX1_master cX1_master 2 (some .float), Cond.methodLink RX1 38 yX0_masterRisen, Cond.instanceMethod yX0_masterRisen, Cond.selects RX0 yX0_masterRisen yX0_masterRisen, Cond.code yX0_masterRisen cX0_masterRisen 3 (some .float), Cond.methodLink RX7 207 yX7_bitsOf, Cond.static yX7_bitsOf, Cond.code yX7_bitsOf cX7_bitsOf 3 (some .int), Cond.constantFloat RX7 239 (1258291200), Cond.methodLink RL 117 yX8_levelOf, Cond.instanceMethod yX8_levelOf, Cond.selects RX8 yX8_levelOf yX8_levelOf, Cond.code yX8_levelOf cX8_levelOf 2 (some .int), Cond.methodLink RX8 170 yX8_levelNow]
def wsL_law0_r25 : List Cond := [Cond.instanceMethod yX8_levelNow, Cond.selects RX8 yX8_levelNow yX8_levelNow, Cond.code yX8_levelNow cX8_levelNow 7 (some .float), Cond.methodLink RX8 163 yX8_after, Cond.instanceMethod yX8_after, Cond.selects RX8 yX8_after yX8_after, Cond.code yX8_after cX8_after 4 (some .int), Cond.methodLink RX8 166 yX8_master, Cond.instanceMethod yX8_master, Cond.selects RX8 yX8_master yX8_master, Cond.code yX8_master cX8_master 2 (some .float), Cond.methodLink RX8 159 yX8_rising, Cond.instanceMethod yX8_rising, Cond.selects RX8 yX8_rising yX8_rising, Cond.code yX8_rising cX8_rising 4 (some .float), Cond.methodLink RX8 176 yX8_bitsOf, Cond.static yX8_bitsOf, Cond.code yX8_bitsOf cX8_bitsOf 3 (some .int), Cond.constant RX8 174 (8388608), Cond.constantFloat RX8 175 (1258291200), Cond.methodLink RL 118 yL_levelAnew, Cond.static yL_levelAnew, Cond.codeWith yL_levelAnew cL_levelAnew 4 (some .int) [(0, 9, 12, 21)], Cond.methodLink RL 53 yX7_levelAnew]
def wsL_law0_r26 : List Cond := [Cond.instanceMethod yX7_levelAnew, Cond.selects RX7 yX7_levelAnew yX7_levelAnew, Cond.code yX7_levelAnew cX7_levelAnew 2 (some .int), Cond.methodLink RX7 211 yX7_retell, Cond.instanceMethod yX7_retell, Cond.selects RX7 yX7_retell yX7_retell, Cond.code yX7_retell cX7_retell 4 none, Cond.fieldLink RX7 279 "GelBook$History" "count" "I", Cond.methodLink RX7 276 yX2_clear, Cond.instanceMethod yX2_clear, Cond.selects RX2 yX2_clear yX2_clear, Cond.code yX2_clear cX2_clear 1 none, Cond.methodLink RX7 280 yX3_entryAt, Cond.methodLink RX7 283 yX3_cueOf, Cond.static yX3_cueOf, Cond.code yX3_cueOf cX3_cueOf 1 (some .int), Cond.methodLink RX7 286 yX3_isRelease, Cond.static yX3_isRelease, Cond.code yX3_isRelease cX3_isRelease 1 (some .boolean), Cond.methodLink RX7 289 yX3_tickOf, Cond.methodLink RX7 292 yX2_fall, Cond.instanceMethod yX2_fall, Cond.selects RX2 yX2_fall yX2_fall, Cond.code yX2_fall cX2_fall 4 none]
def wsL_law0_r27 : List Cond := [Cond.methodLink RX2 42 yX2_goingOf, Cond.methodLink RX2 46 yX1_fall, Cond.methodLink RL 120 yX8_levelAnew, Cond.instanceMethod yX8_levelAnew, Cond.selects RX8 yX8_levelAnew yX8_levelAnew, Cond.code yX8_levelAnew cX8_levelAnew 2 (some .int), Cond.methodLink RL 121 yL_loadOf, Cond.static yL_loadOf, Cond.codeWith yL_loadOf cL_loadOf 4 (some .int) [(0, 9, 12, 21)], Cond.methodLink RL 56 yX7_loadOf, Cond.instanceMethod yX7_loadOf, Cond.selects RX7 yX7_loadOf yX7_loadOf, Cond.code yX7_loadOf cX7_loadOf 2 (some .int), Cond.methodLink RX7 214 yX7_loadNow, Cond.instanceMethod yX7_loadNow, Cond.selects RX7 yX7_loadNow yX7_loadNow, Cond.code yX7_loadNow cX7_loadNow 5 (some .float), Cond.constantFloat RX7 275 (1120403456), Cond.methodLink RL 123 yX8_loadOf, Cond.instanceMethod yX8_loadOf, Cond.selects RX8 yX8_loadOf yX8_loadOf, Cond.code yX8_loadOf cX8_loadOf 2 (some .int), Cond.methodLink RX8 180 yX8_load, Cond.instanceMethod yX8_load]
def wsL_law0_r28 : List Cond := [Cond.selects RX8 yX8_load yX8_load, Cond.code yX8_load cX8_load 4 (some .float), Cond.constantFloat RX8 173 (1120403456), Cond.methodLink RL 124 yL_watts, Cond.static yL_watts, Cond.codeWith yL_watts cL_watts 4 (some .int) [(0, 9, 12, 21)], Cond.methodLink RL 59 yX7_watts, Cond.instanceMethod yX7_watts, Cond.selects RX7 yX7_watts yX7_watts, Cond.code yX7_watts cX7_watts 2 (some .int), Cond.methodLink RL 126 yX8_watts, Cond.instanceMethod yX8_watts, Cond.selects RX8 yX8_watts yX8_watts, Cond.code yX8_watts cX8_watts 2 (some .int), Cond.methodLink RL 127 yL_asks, Cond.static yL_asks, Cond.codeWith yL_asks cL_asks 5 (some .int) [(0, 10, 13, 21)], Cond.methodLink RL 62 yX7_asks, Cond.instanceMethod yX7_asks, Cond.selects RX7 yX7_asks yX7_asks, Cond.code yX7_asks cX7_asks 4 (some .int), Cond.methodLink RL 129 yX8_asks, Cond.instanceMethod yX8_asks, Cond.selects RX8 yX8_asks yX8_asks]
def wsL_law0_r29 : List Cond := [Cond.code yX8_asks cX8_asks 3 (some .int), Cond.methodLink RL 130 yL_shines, Cond.static yL_shines, Cond.codeWith yL_shines cL_shines 5 (some .int) [(0, 10, 13, 21)], Cond.methodLink RL 65 yX7_shines, Cond.instanceMethod yX7_shines, Cond.selects RX7 yX7_shines yX7_shines, Cond.code yX7_shines cX7_shines 4 (some .int), Cond.methodLink RX7 224 yX0_shinerFor, Cond.instanceMethod yX0_shinerFor, Cond.selects RX0 yX0_shinerFor yX0_shinerFor, Cond.code yX0_shinerFor cX0_shinerFor 2 (some .int), Cond.methodLink RL 132 yX8_shines, Cond.instanceMethod yX8_shines, Cond.selects RX8 yX8_shines yX8_shines, Cond.code yX8_shines cX8_shines 3 (some .int), Cond.methodLink RL 133 yL_playing, Cond.static yL_playing, Cond.codeWith yL_playing cL_playing 5 (some .int) [(0, 10, 13, 21), (0, 10, 17, 13)], Cond.methodLink RL 68 yX7_playing, Cond.instanceMethod yX7_playing, Cond.selects RX7 yX7_playing yX7_playing, Cond.code yX7_playing cX7_playing 5 (some .int), Cond.fieldLink RX7 230 "GelBook$Going" "went" "I"]
def wsL_law0_r30 : List Cond := [Cond.methodLink RX7 233 yX1_master, Cond.methodLink RL 135 yX8_playing, Cond.instanceMethod yX8_playing, Cond.selects RX8 yX8_playing yX8_playing, Cond.code yX8_playing cX8_playing 3 (some .int), Cond.methodLink RL 136 yX7_barred, Cond.instanceMethod yX7_barred, Cond.selects RX7 yX7_barred yX7_barred, Cond.code yX7_barred cX7_barred 1 (some .int), Cond.methodLink RL 139 yX8_barred, Cond.instanceMethod yX8_barred, Cond.selects RX8 yX8_barred yX8_barred, Cond.code yX8_barred cX8_barred 1 (some .int)]
def wsL_law0 : List Cond := (wsL_law0_r1 ++ (wsL_law0_r2 ++ (wsL_law0_r3 ++ (wsL_law0_r4 ++ (wsL_law0_r5 ++ (wsL_law0_r6 ++ (wsL_law0_r7 ++ (wsL_law0_r8 ++ (wsL_law0_r9 ++ (wsL_law0_r10 ++ (wsL_law0_r11 ++ (wsL_law0_r12 ++ (wsL_law0_r13 ++ (wsL_law0_r14 ++ (wsL_law0_r15 ++ (wsL_law0_r16 ++ (wsL_law0_r17 ++ (wsL_law0_r18 ++ (wsL_law0_r19 ++ (wsL_law0_r20 ++ (wsL_law0_r21 ++ (wsL_law0_r22 ++ (wsL_law0_r23 ++ (wsL_law0_r24 ++ (wsL_law0_r25 ++ (wsL_law0_r26 ++ (wsL_law0_r27 ++ (wsL_law0_r28 ++ (wsL_law0_r29 ++ wsL_law0_r30))))))))))))))))))))))))))))) ++ wsX70 ++ wsX80 ++ wsX50 ++ wsX20 ++ wsX60 ++ wsX30 ++ wsX10 ++ wsX40 ++ wsX00 ++ ([] : List Cond)
def wsL_law : List Cond := wsL_law0 ++ (vx_atS RX7 71 "java/lang/IllegalArgumentException" ["java/lang/RuntimeException", "java/lang/Exception"]).filter goodWord ++ (vx_atS RX7 82 "java/lang/IllegalStateException" ["java/lang/RuntimeException", "java/lang/Exception"]).filter goodWord ++ (vx_atS RX7 103 "java/lang/IndexOutOfBoundsException" ["java/lang/RuntimeException", "java/lang/Exception"]).filter goodWord
abbrev vwCl : List vw_C := [(RX0, TX0, 9), (RX1, TX1, 3), (RX2, TX2, 2), (RX3, TX3, 2), (RX4, TX4, 6), (RX5, TX5, 3), (RX6, TX6, 5), (RX7, TX7, 10), (RX8, TX8, 30)]
end
section
theorem dX0_init_0 : decode cX0_init 0 = .ok (.aload_n 0, 1) := by decide +kernel
theorem dX0_init_1 : decode cX0_init 1 = .ok (.invokespecial 3, 3) := by decide +kernel
theorem dX0_init_4 : decode cX0_init 4 = .ok (.aload_n 0, 1) := by decide +kernel
theorem dX0_init_5 : decode cX0_init 5 = .ok (.iload_n 1, 1) := by decide +kernel
theorem dX0_init_6 : decode cX0_init 6 = .ok (.putfield 9, 3) := by decide +kernel
theorem dX0_init_9 : decode cX0_init 9 = .ok (.aload_n 0, 1) := by decide +kernel
theorem dX0_init_10 : decode cX0_init 10 = .ok (.iload_n 2, 1) := by decide +kernel
theorem dX0_init_11 : decode cX0_init 11 = .ok (.putfield 15, 3) := by decide +kernel
theorem dX0_init_14 : decode cX0_init 14 = .ok (.aload_n 0, 1) := by decide +kernel
theorem dX0_init_15 : decode cX0_init 15 = .ok (.iload_n 3, 1) := by decide +kernel
theorem dX0_init_16 : decode cX0_init 16 = .ok (.putfield 18, 3) := by decide +kernel
theorem dX0_init_19 : decode cX0_init 19 = .ok (.aload_n 0, 1) := by decide +kernel
theorem dX0_init_20 : decode cX0_init 20 = .ok (.iload 4, 2) := by decide +kernel
theorem dX0_init_22 : decode cX0_init 22 = .ok (.putfield 21, 3) := by decide +kernel
theorem dX0_init_25 : decode cX0_init 25 = .ok (.aload_n 0, 1) := by decide +kernel
theorem dX0_init_26 : decode cX0_init 26 = .ok (.bipush 16, 2) := by decide +kernel
theorem dX0_init_28 : decode cX0_init 28 = .ok (.newarray .int, 2) := by decide +kernel
theorem dX0_init_30 : decode cX0_init 30 = .ok (.putfield 24, 3) := by decide +kernel
theorem dX0_init_33 : decode cX0_init 33 = .ok (.aload_n 0, 1) := by decide +kernel
theorem dX0_init_34 : decode cX0_init 34 = .ok (.bipush 16, 2) := by decide +kernel
theorem dX0_init_36 : decode cX0_init 36 = .ok (.newarray .int, 2) := by decide +kernel
theorem dX0_init_38 : decode cX0_init 38 = .ok (.putfield 28, 3) := by decide +kernel
theorem dX0_init_41 : decode cX0_init 41 = .ok (.aload_n 0, 1) := by decide +kernel
theorem dX0_init_42 : decode cX0_init 42 = .ok (.bipush 16, 2) := by decide +kernel
theorem dX0_init_44 : decode cX0_init 44 = .ok (.newarray .int, 2) := by decide +kernel
theorem dX0_init_46 : decode cX0_init 46 = .ok (.putfield 31, 3) := by decide +kernel
theorem dX0_init_49 : decode cX0_init 49 = .ok (.aload_n 0, 1) := by decide +kernel
theorem dX0_init_50 : decode cX0_init 50 = .ok (.getfield 28, 3) := by decide +kernel
theorem dX0_init_53 : decode cX0_init 53 = .ok (.iconst (-1), 1) := by decide +kernel
theorem dX0_init_54 : decode cX0_init 54 = .ok (.invokestatic 34, 3) := by decide +kernel
theorem dX0_init_57 : decode cX0_init 57 = .ok (.return_, 1) := by decide +kernel
theorem dX0_tell_0 : decode cX0_tell 0 = .ok (.iload_n 1, 1) := by decide +kernel
theorem dX0_tell_1 : decode cX0_tell 1 = .ok (.ifCond .lt 12, 3) := by decide +kernel
theorem dX0_tell_4 : decode cX0_tell 4 = .ok (.iload_n 1, 1) := by decide +kernel
theorem dX0_tell_5 : decode cX0_tell 5 = .ok (.aload_n 0, 1) := by decide +kernel
theorem dX0_tell_6 : decode cX0_tell 6 = .ok (.getfield 24, 3) := by decide +kernel
theorem dX0_tell_9 : decode cX0_tell 9 = .ok (.arraylength, 1) := by decide +kernel
theorem dX0_tell_10 : decode cX0_tell 10 = .ok (.if_icmp .lt 5, 3) := by decide +kernel
theorem dX0_tell_13 : decode cX0_tell 13 = .ok (.iconst 0, 1) := by decide +kernel
theorem dX0_tell_14 : decode cX0_tell 14 = .ok (.ireturn, 1) := by decide +kernel
theorem dX0_tell_15 : decode cX0_tell 15 = .ok (.aload_n 0, 1) := by decide +kernel
theorem dX0_tell_16 : decode cX0_tell 16 = .ok (.getfield 24, 3) := by decide +kernel
theorem dX0_tell_19 : decode cX0_tell 19 = .ok (.iload_n 1, 1) := by decide +kernel
theorem dX0_tell_20 : decode cX0_tell 20 = .ok (.iaload, 1) := by decide +kernel
theorem dX0_tell_21 : decode cX0_tell 21 = .ok (.istore_n 3, 1) := by decide +kernel
theorem dX0_tell_22 : decode cX0_tell 22 = .ok (.aload_n 0, 1) := by decide +kernel
theorem dX0_tell_23 : decode cX0_tell 23 = .ok (.getfield 24, 3) := by decide +kernel
theorem dX0_tell_26 : decode cX0_tell 26 = .ok (.iload_n 1, 1) := by decide +kernel
theorem dX0_tell_27 : decode cX0_tell 27 = .ok (.iload_n 2, 1) := by decide +kernel
theorem dX0_tell_28 : decode cX0_tell 28 = .ok (.iastore, 1) := by decide +kernel
theorem dX0_tell_29 : decode cX0_tell 29 = .ok (.iload_n 3, 1) := by decide +kernel
theorem dX0_tell_30 : decode cX0_tell 30 = .ok (.ireturn, 1) := by decide +kernel
theorem dX0_shinerFor_0 : decode cX0_shinerFor 0 = .ok (.iload_n 1, 1) := by decide +kernel
theorem dX0_shinerFor_1 : decode cX0_shinerFor 1 = .ok (.ifCond .lt 21, 3) := by decide +kernel
theorem dX0_shinerFor_4 : decode cX0_shinerFor 4 = .ok (.iload_n 1, 1) := by decide +kernel
theorem dX0_shinerFor_5 : decode cX0_shinerFor 5 = .ok (.aload_n 0, 1) := by decide +kernel
theorem dX0_shinerFor_6 : decode cX0_shinerFor 6 = .ok (.getfield 28, 3) := by decide +kernel
theorem dX0_shinerFor_9 : decode cX0_shinerFor 9 = .ok (.arraylength, 1) := by decide +kernel
theorem dX0_shinerFor_10 : decode cX0_shinerFor 10 = .ok (.if_icmp .ge 12, 3) := by decide +kernel
theorem dX0_shinerFor_13 : decode cX0_shinerFor 13 = .ok (.aload_n 0, 1) := by decide +kernel
theorem dX0_shinerFor_14 : decode cX0_shinerFor 14 = .ok (.getfield 28, 3) := by decide +kernel
theorem dX0_shinerFor_17 : decode cX0_shinerFor 17 = .ok (.iload_n 1, 1) := by decide +kernel
theorem dX0_shinerFor_18 : decode cX0_shinerFor 18 = .ok (.iaload, 1) := by decide +kernel
theorem dX0_shinerFor_19 : decode cX0_shinerFor 19 = .ok (.goto 4, 3) := by decide +kernel
theorem dX0_shinerFor_22 : decode cX0_shinerFor 22 = .ok (.iconst (-1), 1) := by decide +kernel
theorem dX0_shinerFor_23 : decode cX0_shinerFor 23 = .ok (.ireturn, 1) := by decide +kernel
theorem dX0_levelFor_0 : decode cX0_levelFor 0 = .ok (.iload_n 1, 1) := by decide +kernel
theorem dX0_levelFor_1 : decode cX0_levelFor 1 = .ok (.ifCond .lt 21, 3) := by decide +kernel
theorem dX0_levelFor_4 : decode cX0_levelFor 4 = .ok (.iload_n 1, 1) := by decide +kernel
theorem dX0_levelFor_5 : decode cX0_levelFor 5 = .ok (.aload_n 0, 1) := by decide +kernel
theorem dX0_levelFor_6 : decode cX0_levelFor 6 = .ok (.getfield 31, 3) := by decide +kernel
theorem dX0_levelFor_9 : decode cX0_levelFor 9 = .ok (.arraylength, 1) := by decide +kernel
theorem dX0_levelFor_10 : decode cX0_levelFor 10 = .ok (.if_icmp .ge 12, 3) := by decide +kernel
theorem dX0_levelFor_13 : decode cX0_levelFor 13 = .ok (.aload_n 0, 1) := by decide +kernel
theorem dX0_levelFor_14 : decode cX0_levelFor 14 = .ok (.getfield 31, 3) := by decide +kernel
theorem dX0_levelFor_17 : decode cX0_levelFor 17 = .ok (.iload_n 1, 1) := by decide +kernel
theorem dX0_levelFor_18 : decode cX0_levelFor 18 = .ok (.iaload, 1) := by decide +kernel
theorem dX0_levelFor_19 : decode cX0_levelFor 19 = .ok (.goto 4, 3) := by decide +kernel
theorem dX0_levelFor_22 : decode cX0_levelFor 22 = .ok (.iconst 0, 1) := by decide +kernel
theorem dX0_levelFor_23 : decode cX0_levelFor 23 = .ok (.ireturn, 1) := by decide +kernel
theorem dX0_canSpare_0 : decode cX0_canSpare 0 = .ok (.iload_n 1, 1) := by decide +kernel
theorem dX0_canSpare_1 : decode cX0_canSpare 1 = .ok (.ifCond .lt 31, 3) := by decide +kernel
theorem dX0_canSpare_4 : decode cX0_canSpare 4 = .ok (.iload_n 1, 1) := by decide +kernel
theorem dX0_canSpare_5 : decode cX0_canSpare 5 = .ok (.bipush 16, 2) := by decide +kernel
theorem dX0_canSpare_7 : decode cX0_canSpare 7 = .ok (.if_icmp .ge 25, 3) := by decide +kernel
theorem dX0_canSpare_10 : decode cX0_canSpare 10 = .ok (.aload_n 0, 1) := by decide +kernel
theorem dX0_canSpare_11 : decode cX0_canSpare 11 = .ok (.getfield 24, 3) := by decide +kernel
theorem dX0_canSpare_14 : decode cX0_canSpare 14 = .ok (.iload_n 1, 1) := by decide +kernel
theorem dX0_canSpare_15 : decode cX0_canSpare 15 = .ok (.iaload, 1) := by decide +kernel
theorem dX0_canSpare_16 : decode cX0_canSpare 16 = .ok (.ifCond .ne 16, 3) := by decide +kernel
theorem dX0_canSpare_19 : decode cX0_canSpare 19 = .ok (.aload_n 0, 1) := by decide +kernel
theorem dX0_canSpare_20 : decode cX0_canSpare 20 = .ok (.getfield 31, 3) := by decide +kernel
theorem dX0_canSpare_23 : decode cX0_canSpare 23 = .ok (.iload_n 1, 1) := by decide +kernel
theorem dX0_canSpare_24 : decode cX0_canSpare 24 = .ok (.iaload, 1) := by decide +kernel
theorem dX0_canSpare_25 : decode cX0_canSpare 25 = .ok (.ifCond .ne 7, 3) := by decide +kernel
theorem dX0_canSpare_28 : decode cX0_canSpare 28 = .ok (.iconst 1, 1) := by decide +kernel
theorem dX0_canSpare_29 : decode cX0_canSpare 29 = .ok (.goto 4, 3) := by decide +kernel
theorem dX0_canSpare_32 : decode cX0_canSpare 32 = .ok (.iconst 0, 1) := by decide +kernel
theorem dX0_canSpare_33 : decode cX0_canSpare 33 = .ok (.ireturn, 1) := by decide +kernel
theorem dX0_arrange_0 : decode cX0_arrange 0 = .ok (.aload_n 0, 1) := by decide +kernel
theorem dX0_arrange_1 : decode cX0_arrange 1 = .ok (.getfield 28, 3) := by decide +kernel
theorem dX0_arrange_4 : decode cX0_arrange 4 = .ok (.iconst (-1), 1) := by decide +kernel
theorem dX0_arrange_5 : decode cX0_arrange 5 = .ok (.invokestatic 34, 3) := by decide +kernel
theorem dX0_arrange_8 : decode cX0_arrange 8 = .ok (.aload_n 0, 1) := by decide +kernel
theorem dX0_arrange_9 : decode cX0_arrange 9 = .ok (.getfield 31, 3) := by decide +kernel
theorem dX0_arrange_12 : decode cX0_arrange 12 = .ok (.iconst 0, 1) := by decide +kernel
theorem dX0_arrange_13 : decode cX0_arrange 13 = .ok (.invokestatic 34, 3) := by decide +kernel
theorem dX0_arrange_16 : decode cX0_arrange 16 = .ok (.iconst 0, 1) := by decide +kernel
theorem dX0_arrange_17 : decode cX0_arrange 17 = .ok (.istore_n 2, 1) := by decide +kernel
theorem dX0_arrange_18 : decode cX0_arrange 18 = .ok (.iload_n 2, 1) := by decide +kernel
theorem dX0_arrange_19 : decode cX0_arrange 19 = .ok (.bipush 16, 2) := by decide +kernel
theorem dX0_arrange_21 : decode cX0_arrange 21 = .ok (.if_icmp .ge 84, 3) := by decide +kernel
theorem dX0_arrange_24 : decode cX0_arrange 24 = .ok (.aload_n 1, 1) := by decide +kernel
theorem dX0_arrange_25 : decode cX0_arrange 25 = .ok (.iload_n 2, 1) := by decide +kernel
theorem dX0_arrange_26 : decode cX0_arrange 26 = .ok (.invokevirtual 40, 3) := by decide +kernel
theorem dX0_arrange_29 : decode cX0_arrange 29 = .ok (.astore_n 3, 1) := by decide +kernel
theorem dX0_arrange_30 : decode cX0_arrange 30 = .ok (.aload_n 3, 1) := by decide +kernel
theorem dX0_arrange_31 : decode cX0_arrange 31 = .ok (.ifnull 68, 3) := by decide +kernel
theorem dX0_arrange_34 : decode cX0_arrange 34 = .ok (.aload_n 0, 1) := by decide +kernel
theorem dX0_arrange_35 : decode cX0_arrange 35 = .ok (.getfield 24, 3) := by decide +kernel
theorem dX0_arrange_38 : decode cX0_arrange 38 = .ok (.iload_n 2, 1) := by decide +kernel
theorem dX0_arrange_39 : decode cX0_arrange 39 = .ok (.iaload, 1) := by decide +kernel
theorem dX0_arrange_40 : decode cX0_arrange 40 = .ok (.ifCond .ne 6, 3) := by decide +kernel
theorem dX0_arrange_43 : decode cX0_arrange 43 = .ok (.goto 56, 3) := by decide +kernel
theorem dX0_arrange_46 : decode cX0_arrange 46 = .ok (.aload_n 1, 1) := by decide +kernel
theorem dX0_arrange_47 : decode cX0_arrange 47 = .ok (.aload_n 3, 1) := by decide +kernel
theorem dX0_arrange_48 : decode cX0_arrange 48 = .ok (.invokevirtual 46, 3) := by decide +kernel
theorem dX0_arrange_51 : decode cX0_arrange 51 = .ok (.ifCond .eq 7, 3) := by decide +kernel
theorem dX0_arrange_54 : decode cX0_arrange 54 = .ok (.iload_n 2, 1) := by decide +kernel
theorem dX0_arrange_55 : decode cX0_arrange 55 = .ok (.goto 9, 3) := by decide +kernel
theorem dX0_arrange_58 : decode cX0_arrange 58 = .ok (.aload_n 1, 1) := by decide +kernel
theorem dX0_arrange_59 : decode cX0_arrange 59 = .ok (.aload_n 3, 1) := by decide +kernel
theorem dX0_arrange_60 : decode cX0_arrange 60 = .ok (.aload_n 0, 1) := by decide +kernel
theorem dX0_arrange_61 : decode cX0_arrange 61 = .ok (.invokevirtual 50, 3) := by decide +kernel
theorem dX0_arrange_64 : decode cX0_arrange 64 = .ok (.istore 4, 2) := by decide +kernel
theorem dX0_arrange_66 : decode cX0_arrange 66 = .ok (.iload 4, 2) := by decide +kernel
theorem dX0_arrange_68 : decode cX0_arrange 68 = .ok (.ifCond .lt 31, 3) := by decide +kernel
theorem dX0_arrange_71 : decode cX0_arrange 71 = .ok (.iload 4, 2) := by decide +kernel
theorem dX0_arrange_73 : decode cX0_arrange 73 = .ok (.bipush 16, 2) := by decide +kernel
theorem dX0_arrange_75 : decode cX0_arrange 75 = .ok (.if_icmp .ge 24, 3) := by decide +kernel
theorem dX0_arrange_78 : decode cX0_arrange 78 = .ok (.aload_n 0, 1) := by decide +kernel
theorem dX0_arrange_79 : decode cX0_arrange 79 = .ok (.getfield 28, 3) := by decide +kernel
theorem dX0_arrange_82 : decode cX0_arrange 82 = .ok (.iload_n 2, 1) := by decide +kernel
theorem dX0_arrange_83 : decode cX0_arrange 83 = .ok (.iload 4, 2) := by decide +kernel
theorem dX0_arrange_85 : decode cX0_arrange 85 = .ok (.iastore, 1) := by decide +kernel
theorem dX0_arrange_86 : decode cX0_arrange 86 = .ok (.aload_n 0, 1) := by decide +kernel
theorem dX0_arrange_87 : decode cX0_arrange 87 = .ok (.getfield 31, 3) := by decide +kernel
theorem dX0_arrange_90 : decode cX0_arrange 90 = .ok (.iload 4, 2) := by decide +kernel
theorem dX0_arrange_92 : decode cX0_arrange 92 = .ok (.aload_n 0, 1) := by decide +kernel
theorem dX0_arrange_93 : decode cX0_arrange 93 = .ok (.getfield 24, 3) := by decide +kernel
theorem dX0_arrange_96 : decode cX0_arrange 96 = .ok (.iload_n 2, 1) := by decide +kernel
theorem dX0_arrange_97 : decode cX0_arrange 97 = .ok (.iaload, 1) := by decide +kernel
theorem dX0_arrange_98 : decode cX0_arrange 98 = .ok (.iastore, 1) := by decide +kernel
theorem dX0_arrange_99 : decode cX0_arrange 99 = .ok (.iinc 2 1, 3) := by decide +kernel
theorem dX0_arrange_102 : decode cX0_arrange 102 = .ok (.goto (-84), 3) := by decide +kernel
theorem dX0_arrange_105 : decode cX0_arrange 105 = .ok (.return_, 1) := by decide +kernel
theorem dX0_masterRisen_0 : decode cX0_masterRisen 0 = .ok (.aload_n 0, 1) := by decide +kernel
theorem dX0_masterRisen_1 : decode cX0_masterRisen 1 = .ok (.getfield 18, 3) := by decide +kernel
theorem dX0_masterRisen_4 : decode cX0_masterRisen 4 = .ok (.ifCond .ne 5, 3) := by decide +kernel
theorem dX0_masterRisen_7 : decode cX0_masterRisen 7 = .ok (.fconst 1, 1) := by decide +kernel
theorem dX0_masterRisen_8 : decode cX0_masterRisen 8 = .ok (.freturn, 1) := by decide +kernel
theorem dX0_masterRisen_9 : decode cX0_masterRisen 9 = .ok (.iload_n 1, 1) := by decide +kernel
theorem dX0_masterRisen_10 : decode cX0_masterRisen 10 = .ok (.i2f, 1) := by decide +kernel
theorem dX0_masterRisen_11 : decode cX0_masterRisen 11 = .ok (.aload_n 0, 1) := by decide +kernel
theorem dX0_masterRisen_12 : decode cX0_masterRisen 12 = .ok (.getfield 18, 3) := by decide +kernel
theorem dX0_masterRisen_15 : decode cX0_masterRisen 15 = .ok (.i2f, 1) := by decide +kernel
theorem dX0_masterRisen_16 : decode cX0_masterRisen 16 = .ok (.fdiv, 1) := by decide +kernel
theorem dX0_masterRisen_17 : decode cX0_masterRisen 17 = .ok (.fstore_n 2, 1) := by decide +kernel
theorem dX0_masterRisen_18 : decode cX0_masterRisen 18 = .ok (.fload_n 2, 1) := by decide +kernel
theorem dX0_masterRisen_19 : decode cX0_masterRisen 19 = .ok (.fconst 1, 1) := by decide +kernel
theorem dX0_masterRisen_20 : decode cX0_masterRisen 20 = .ok (.fcmp .g, 1) := by decide +kernel
theorem dX0_masterRisen_21 : decode cX0_masterRisen 21 = .ok (.ifCond .ge 7, 3) := by decide +kernel
theorem dX0_masterRisen_24 : decode cX0_masterRisen 24 = .ok (.fload_n 2, 1) := by decide +kernel
theorem dX0_masterRisen_25 : decode cX0_masterRisen 25 = .ok (.goto 4, 3) := by decide +kernel
theorem dX0_masterRisen_28 : decode cX0_masterRisen 28 = .ok (.fconst 1, 1) := by decide +kernel
theorem dX0_masterRisen_29 : decode cX0_masterRisen 29 = .ok (.freturn, 1) := by decide +kernel
theorem dX1_init_0 : decode cX1_init 0 = .ok (.aload_n 0, 1) := by decide +kernel
theorem dX1_init_1 : decode cX1_init 1 = .ok (.invokespecial 3, 3) := by decide +kernel
theorem dX1_init_4 : decode cX1_init 4 = .ok (.aload_n 0, 1) := by decide +kernel
theorem dX1_init_5 : decode cX1_init 5 = .ok (.iconst (-1), 1) := by decide +kernel
theorem dX1_init_6 : decode cX1_init 6 = .ok (.putfield 9, 3) := by decide +kernel
theorem dX1_init_9 : decode cX1_init 9 = .ok (.return_, 1) := by decide +kernel
theorem dX1_begin_0 : decode cX1_begin 0 = .ok (.aload_n 0, 1) := by decide +kernel
theorem dX1_begin_1 : decode cX1_begin 1 = .ok (.aload_n 1, 1) := by decide +kernel
theorem dX1_begin_2 : decode cX1_begin 2 = .ok (.putfield 15, 3) := by decide +kernel
theorem dX1_begin_5 : decode cX1_begin 5 = .ok (.aload_n 0, 1) := by decide +kernel
theorem dX1_begin_6 : decode cX1_begin 6 = .ok (.iload_n 2, 1) := by decide +kernel
theorem dX1_begin_7 : decode cX1_begin 7 = .ok (.putfield 19, 3) := by decide +kernel
theorem dX1_begin_10 : decode cX1_begin 10 = .ok (.aload_n 0, 1) := by decide +kernel
theorem dX1_begin_11 : decode cX1_begin 11 = .ok (.iconst (-1), 1) := by decide +kernel
theorem dX1_begin_12 : decode cX1_begin 12 = .ok (.putfield 9, 3) := by decide +kernel
theorem dX1_begin_15 : decode cX1_begin 15 = .ok (.return_, 1) := by decide +kernel
theorem dX1_fall_0 : decode cX1_fall 0 = .ok (.aload_n 0, 1) := by decide +kernel
theorem dX1_fall_1 : decode cX1_fall 1 = .ok (.iload_n 1, 1) := by decide +kernel
theorem dX1_fall_2 : decode cX1_fall 2 = .ok (.putfield 9, 3) := by decide +kernel
theorem dX1_fall_5 : decode cX1_fall 5 = .ok (.return_, 1) := by decide +kernel
theorem dX1_isReleased_0 : decode cX1_isReleased 0 = .ok (.aload_n 0, 1) := by decide +kernel
theorem dX1_isReleased_1 : decode cX1_isReleased 1 = .ok (.getfield 9, 3) := by decide +kernel
theorem dX1_isReleased_4 : decode cX1_isReleased 4 = .ok (.iconst (-1), 1) := by decide +kernel
theorem dX1_isReleased_5 : decode cX1_isReleased 5 = .ok (.if_icmp .eq 7, 3) := by decide +kernel
theorem dX1_isReleased_8 : decode cX1_isReleased 8 = .ok (.iconst 1, 1) := by decide +kernel
theorem dX1_isReleased_9 : decode cX1_isReleased 9 = .ok (.goto 4, 3) := by decide +kernel
theorem dX1_isReleased_12 : decode cX1_isReleased 12 = .ok (.iconst 0, 1) := by decide +kernel
theorem dX1_isReleased_13 : decode cX1_isReleased 13 = .ok (.ireturn, 1) := by decide +kernel
theorem dX1_isOver_0 : decode cX1_isOver 0 = .ok (.aload_n 0, 1) := by decide +kernel
theorem dX1_isOver_1 : decode cX1_isOver 1 = .ok (.getfield 15, 3) := by decide +kernel
theorem dX1_isOver_4 : decode cX1_isOver 4 = .ok (.ifnull 26, 3) := by decide +kernel
theorem dX1_isOver_7 : decode cX1_isOver 7 = .ok (.aload_n 0, 1) := by decide +kernel
theorem dX1_isOver_8 : decode cX1_isOver 8 = .ok (.invokevirtual 22, 3) := by decide +kernel
theorem dX1_isOver_11 : decode cX1_isOver 11 = .ok (.ifCond .eq 23, 3) := by decide +kernel
theorem dX1_isOver_14 : decode cX1_isOver 14 = .ok (.iload_n 1, 1) := by decide +kernel
theorem dX1_isOver_15 : decode cX1_isOver 15 = .ok (.aload_n 0, 1) := by decide +kernel
theorem dX1_isOver_16 : decode cX1_isOver 16 = .ok (.getfield 9, 3) := by decide +kernel
theorem dX1_isOver_19 : decode cX1_isOver 19 = .ok (.isub, 1) := by decide +kernel
theorem dX1_isOver_20 : decode cX1_isOver 20 = .ok (.aload_n 0, 1) := by decide +kernel
theorem dX1_isOver_21 : decode cX1_isOver 21 = .ok (.getfield 15, 3) := by decide +kernel
theorem dX1_isOver_24 : decode cX1_isOver 24 = .ok (.getfield 26, 3) := by decide +kernel
theorem dX1_isOver_27 : decode cX1_isOver 27 = .ok (.if_icmp .lt 7, 3) := by decide +kernel
theorem dX1_isOver_30 : decode cX1_isOver 30 = .ok (.iconst 1, 1) := by decide +kernel
theorem dX1_isOver_31 : decode cX1_isOver 31 = .ok (.goto 4, 3) := by decide +kernel
theorem dX1_isOver_34 : decode cX1_isOver 34 = .ok (.iconst 0, 1) := by decide +kernel
theorem dX1_isOver_35 : decode cX1_isOver 35 = .ok (.ireturn, 1) := by decide +kernel
theorem dX1_isOf_0 : decode cX1_isOf 0 = .ok (.aload_n 0, 1) := by decide +kernel
theorem dX1_isOf_1 : decode cX1_isOf 1 = .ok (.getfield 15, 3) := by decide +kernel
theorem dX1_isOf_4 : decode cX1_isOf 4 = .ok (.ifnull 18, 3) := by decide +kernel
theorem dX1_isOf_7 : decode cX1_isOf 7 = .ok (.aload_n 0, 1) := by decide +kernel
theorem dX1_isOf_8 : decode cX1_isOf 8 = .ok (.getfield 15, 3) := by decide +kernel
theorem dX1_isOf_11 : decode cX1_isOf 11 = .ok (.getfield 31, 3) := by decide +kernel
theorem dX1_isOf_14 : decode cX1_isOf 14 = .ok (.iload_n 1, 1) := by decide +kernel
theorem dX1_isOf_15 : decode cX1_isOf 15 = .ok (.if_icmp .ne 7, 3) := by decide +kernel
theorem dX1_isOf_18 : decode cX1_isOf 18 = .ok (.iconst 1, 1) := by decide +kernel
theorem dX1_isOf_19 : decode cX1_isOf 19 = .ok (.goto 4, 3) := by decide +kernel
theorem dX1_isOf_22 : decode cX1_isOf 22 = .ok (.iconst 0, 1) := by decide +kernel
theorem dX1_isOf_23 : decode cX1_isOf 23 = .ok (.ireturn, 1) := by decide +kernel
theorem dX1_levelFor_0 : decode cX1_levelFor 0 = .ok (.aload_n 0, 1) := by decide +kernel
theorem dX1_levelFor_1 : decode cX1_levelFor 1 = .ok (.getfield 15, 3) := by decide +kernel
theorem dX1_levelFor_4 : decode cX1_levelFor 4 = .ok (.ifnonnull 7, 3) := by decide +kernel
theorem dX1_levelFor_7 : decode cX1_levelFor 7 = .ok (.iconst 0, 1) := by decide +kernel
theorem dX1_levelFor_8 : decode cX1_levelFor 8 = .ok (.goto 11, 3) := by decide +kernel
theorem dX1_levelFor_11 : decode cX1_levelFor 11 = .ok (.aload_n 0, 1) := by decide +kernel
theorem dX1_levelFor_12 : decode cX1_levelFor 12 = .ok (.getfield 15, 3) := by decide +kernel
theorem dX1_levelFor_15 : decode cX1_levelFor 15 = .ok (.iload_n 1, 1) := by decide +kernel
theorem dX1_levelFor_16 : decode cX1_levelFor 16 = .ok (.invokevirtual 34, 3) := by decide +kernel
theorem dX1_levelFor_19 : decode cX1_levelFor 19 = .ok (.ireturn, 1) := by decide +kernel
theorem dX1_master_0 : decode cX1_master 0 = .ok (.aload_n 0, 1) := by decide +kernel
theorem dX1_master_1 : decode cX1_master 1 = .ok (.getfield 15, 3) := by decide +kernel
theorem dX1_master_4 : decode cX1_master 4 = .ok (.ifnonnull 5, 3) := by decide +kernel
theorem dX1_master_7 : decode cX1_master 7 = .ok (.fconst 0, 1) := by decide +kernel
theorem dX1_master_8 : decode cX1_master 8 = .ok (.freturn, 1) := by decide +kernel
theorem dX1_master_9 : decode cX1_master 9 = .ok (.aload_n 0, 1) := by decide +kernel
theorem dX1_master_10 : decode cX1_master 10 = .ok (.invokevirtual 22, 3) := by decide +kernel
theorem dX1_master_13 : decode cX1_master 13 = .ok (.ifCond .ne 17, 3) := by decide +kernel
theorem dX1_master_16 : decode cX1_master 16 = .ok (.aload_n 0, 1) := by decide +kernel
theorem dX1_master_17 : decode cX1_master 17 = .ok (.getfield 15, 3) := by decide +kernel
theorem dX1_master_20 : decode cX1_master 20 = .ok (.iload_n 1, 1) := by decide +kernel
theorem dX1_master_21 : decode cX1_master 21 = .ok (.aload_n 0, 1) := by decide +kernel
theorem dX1_master_22 : decode cX1_master 22 = .ok (.getfield 19, 3) := by decide +kernel
theorem dX1_master_25 : decode cX1_master 25 = .ok (.isub, 1) := by decide +kernel
theorem dX1_master_26 : decode cX1_master 26 = .ok (.invokevirtual 38, 3) := by decide +kernel
theorem dX1_master_29 : decode cX1_master 29 = .ok (.freturn, 1) := by decide +kernel
theorem dX1_master_30 : decode cX1_master 30 = .ok (.aload_n 0, 1) := by decide +kernel
theorem dX1_master_31 : decode cX1_master 31 = .ok (.getfield 15, 3) := by decide +kernel
theorem dX1_master_34 : decode cX1_master 34 = .ok (.getfield 26, 3) := by decide +kernel
theorem dX1_master_37 : decode cX1_master 37 = .ok (.ifCond .ne 5, 3) := by decide +kernel
theorem dX1_master_40 : decode cX1_master 40 = .ok (.fconst 0, 1) := by decide +kernel
theorem dX1_master_41 : decode cX1_master 41 = .ok (.freturn, 1) := by decide +kernel
theorem dX1_master_42 : decode cX1_master 42 = .ok (.aload_n 0, 1) := by decide +kernel
theorem dX1_master_43 : decode cX1_master 43 = .ok (.getfield 15, 3) := by decide +kernel
theorem dX1_master_46 : decode cX1_master 46 = .ok (.aload_n 0, 1) := by decide +kernel
theorem dX1_master_47 : decode cX1_master 47 = .ok (.getfield 9, 3) := by decide +kernel
theorem dX1_master_50 : decode cX1_master 50 = .ok (.aload_n 0, 1) := by decide +kernel
theorem dX1_master_51 : decode cX1_master 51 = .ok (.getfield 19, 3) := by decide +kernel
theorem dX1_master_54 : decode cX1_master 54 = .ok (.isub, 1) := by decide +kernel
theorem dX1_master_55 : decode cX1_master 55 = .ok (.invokevirtual 38, 3) := by decide +kernel
theorem dX1_master_58 : decode cX1_master 58 = .ok (.fconst 1, 1) := by decide +kernel
theorem dX1_master_59 : decode cX1_master 59 = .ok (.iload_n 1, 1) := by decide +kernel
theorem dX1_master_60 : decode cX1_master 60 = .ok (.aload_n 0, 1) := by decide +kernel
theorem dX1_master_61 : decode cX1_master 61 = .ok (.getfield 9, 3) := by decide +kernel
theorem dX1_master_64 : decode cX1_master 64 = .ok (.isub, 1) := by decide +kernel
theorem dX1_master_65 : decode cX1_master 65 = .ok (.i2f, 1) := by decide +kernel
theorem dX1_master_66 : decode cX1_master 66 = .ok (.aload_n 0, 1) := by decide +kernel
theorem dX1_master_67 : decode cX1_master 67 = .ok (.getfield 15, 3) := by decide +kernel
theorem dX1_master_70 : decode cX1_master 70 = .ok (.getfield 26, 3) := by decide +kernel
theorem dX1_master_73 : decode cX1_master 73 = .ok (.i2f, 1) := by decide +kernel
theorem dX1_master_74 : decode cX1_master 74 = .ok (.fdiv, 1) := by decide +kernel
theorem dX1_master_75 : decode cX1_master 75 = .ok (.fsub, 1) := by decide +kernel
theorem dX1_master_76 : decode cX1_master 76 = .ok (.fmul, 1) := by decide +kernel
theorem dX1_master_77 : decode cX1_master 77 = .ok (.freturn, 1) := by decide +kernel
theorem dX2_init_0 : decode cX2_init 0 = .ok (.aload_n 0, 1) := by decide +kernel
theorem dX2_init_1 : decode cX2_init 1 = .ok (.invokespecial 3, 3) := by decide +kernel
theorem dX2_init_4 : decode cX2_init 4 = .ok (.aload_n 0, 1) := by decide +kernel
theorem dX2_init_5 : decode cX2_init 5 = .ok (.bipush 12, 2) := by decide +kernel
theorem dX2_init_7 : decode cX2_init 7 = .ok (.anewarray 9, 3) := by decide +kernel
theorem dX2_init_10 : decode cX2_init 10 = .ok (.putfield 11, 3) := by decide +kernel
theorem dX2_init_13 : decode cX2_init 13 = .ok (.iconst 0, 1) := by decide +kernel
theorem dX2_init_14 : decode cX2_init 14 = .ok (.istore_n 1, 1) := by decide +kernel
theorem dX2_init_15 : decode cX2_init 15 = .ok (.iload_n 1, 1) := by decide +kernel
theorem dX2_init_16 : decode cX2_init 16 = .ok (.aload_n 0, 1) := by decide +kernel
theorem dX2_init_17 : decode cX2_init 17 = .ok (.getfield 11, 3) := by decide +kernel
theorem dX2_init_20 : decode cX2_init 20 = .ok (.arraylength, 1) := by decide +kernel
theorem dX2_init_21 : decode cX2_init 21 = .ok (.if_icmp .ge 22, 3) := by decide +kernel
theorem dX2_init_24 : decode cX2_init 24 = .ok (.aload_n 0, 1) := by decide +kernel
theorem dX2_init_25 : decode cX2_init 25 = .ok (.getfield 11, 3) := by decide +kernel
theorem dX2_init_28 : decode cX2_init 28 = .ok (.iload_n 1, 1) := by decide +kernel
theorem dX2_init_29 : decode cX2_init 29 = .ok (.new 9, 3) := by decide +kernel
theorem dX2_init_32 : decode cX2_init 32 = .ok (.dup, 1) := by decide +kernel
theorem dX2_init_33 : decode cX2_init 33 = .ok (.invokespecial 17, 3) := by decide +kernel
theorem dX2_init_36 : decode cX2_init 36 = .ok (.aastore, 1) := by decide +kernel
theorem dX2_init_37 : decode cX2_init 37 = .ok (.iinc 1 1, 3) := by decide +kernel
theorem dX2_init_40 : decode cX2_init 40 = .ok (.goto (-25), 3) := by decide +kernel
theorem dX2_init_43 : decode cX2_init 43 = .ok (.return_, 1) := by decide +kernel
theorem dX2_clear_0 : decode cX2_clear 0 = .ok (.aload_n 0, 1) := by decide +kernel
theorem dX2_clear_1 : decode cX2_clear 1 = .ok (.iconst 0, 1) := by decide +kernel
theorem dX2_clear_2 : decode cX2_clear 2 = .ok (.putfield 18, 3) := by decide +kernel
theorem dX2_clear_5 : decode cX2_clear 5 = .ok (.return_, 1) := by decide +kernel
theorem dX2_at_0 : decode cX2_at 0 = .ok (.iload_n 1, 1) := by decide +kernel
theorem dX2_at_1 : decode cX2_at 1 = .ok (.ifCond .lt 29, 3) := by decide +kernel
theorem dX2_at_4 : decode cX2_at 4 = .ok (.iload_n 1, 1) := by decide +kernel
theorem dX2_at_5 : decode cX2_at 5 = .ok (.aload_n 0, 1) := by decide +kernel
theorem dX2_at_6 : decode cX2_at 6 = .ok (.getfield 18, 3) := by decide +kernel
theorem dX2_at_9 : decode cX2_at 9 = .ok (.if_icmp .ge 21, 3) := by decide +kernel
theorem dX2_at_12 : decode cX2_at 12 = .ok (.iload_n 1, 1) := by decide +kernel
theorem dX2_at_13 : decode cX2_at 13 = .ok (.aload_n 0, 1) := by decide +kernel
theorem dX2_at_14 : decode cX2_at 14 = .ok (.getfield 11, 3) := by decide +kernel
theorem dX2_at_17 : decode cX2_at 17 = .ok (.arraylength, 1) := by decide +kernel
theorem dX2_at_18 : decode cX2_at 18 = .ok (.if_icmp .ge 12, 3) := by decide +kernel
theorem dX2_at_21 : decode cX2_at 21 = .ok (.aload_n 0, 1) := by decide +kernel
theorem dX2_at_22 : decode cX2_at 22 = .ok (.getfield 11, 3) := by decide +kernel
theorem dX2_at_25 : decode cX2_at 25 = .ok (.iload_n 1, 1) := by decide +kernel
theorem dX2_at_26 : decode cX2_at 26 = .ok (.aaload, 1) := by decide +kernel
theorem dX2_at_27 : decode cX2_at 27 = .ok (.goto 4, 3) := by decide +kernel
theorem dX2_at_30 : decode cX2_at 30 = .ok (.aconst_null, 1) := by decide +kernel
theorem dX2_at_31 : decode cX2_at 31 = .ok (.areturn, 1) := by decide +kernel
theorem dX2_placeOf_0 : decode cX2_placeOf 0 = .ok (.iconst 0, 1) := by decide +kernel
theorem dX2_placeOf_1 : decode cX2_placeOf 1 = .ok (.istore_n 2, 1) := by decide +kernel
theorem dX2_placeOf_2 : decode cX2_placeOf 2 = .ok (.iload_n 2, 1) := by decide +kernel
theorem dX2_placeOf_3 : decode cX2_placeOf 3 = .ok (.aload_n 0, 1) := by decide +kernel
theorem dX2_placeOf_4 : decode cX2_placeOf 4 = .ok (.getfield 18, 3) := by decide +kernel
theorem dX2_placeOf_7 : decode cX2_placeOf 7 = .ok (.if_icmp .ge 29, 3) := by decide +kernel
theorem dX2_placeOf_10 : decode cX2_placeOf 10 = .ok (.aload_n 0, 1) := by decide +kernel
theorem dX2_placeOf_11 : decode cX2_placeOf 11 = .ok (.iload_n 2, 1) := by decide +kernel
theorem dX2_placeOf_12 : decode cX2_placeOf 12 = .ok (.invokevirtual 22, 3) := by decide +kernel
theorem dX2_placeOf_15 : decode cX2_placeOf 15 = .ok (.astore_n 3, 1) := by decide +kernel
theorem dX2_placeOf_16 : decode cX2_placeOf 16 = .ok (.aload_n 3, 1) := by decide +kernel
theorem dX2_placeOf_17 : decode cX2_placeOf 17 = .ok (.ifnull 13, 3) := by decide +kernel
theorem dX2_placeOf_20 : decode cX2_placeOf 20 = .ok (.aload_n 3, 1) := by decide +kernel
theorem dX2_placeOf_21 : decode cX2_placeOf 21 = .ok (.getfield 26, 3) := by decide +kernel
theorem dX2_placeOf_24 : decode cX2_placeOf 24 = .ok (.aload_n 1, 1) := by decide +kernel
theorem dX2_placeOf_25 : decode cX2_placeOf 25 = .ok (.if_acmp .ne 5, 3) := by decide +kernel
theorem dX2_placeOf_28 : decode cX2_placeOf 28 = .ok (.iload_n 2, 1) := by decide +kernel
theorem dX2_placeOf_29 : decode cX2_placeOf 29 = .ok (.ireturn, 1) := by decide +kernel
theorem dX2_placeOf_30 : decode cX2_placeOf 30 = .ok (.iinc 2 1, 3) := by decide +kernel
theorem dX2_placeOf_33 : decode cX2_placeOf 33 = .ok (.goto (-31), 3) := by decide +kernel
theorem dX2_placeOf_36 : decode cX2_placeOf 36 = .ok (.iconst (-1), 1) := by decide +kernel
theorem dX2_placeOf_37 : decode cX2_placeOf 37 = .ok (.ireturn, 1) := by decide +kernel
theorem dX2_goingOf_0 : decode cX2_goingOf 0 = .ok (.aload_n 0, 1) := by decide +kernel
theorem dX2_goingOf_1 : decode cX2_goingOf 1 = .ok (.aload_n 0, 1) := by decide +kernel
theorem dX2_goingOf_2 : decode cX2_goingOf 2 = .ok (.aload_n 1, 1) := by decide +kernel
theorem dX2_goingOf_3 : decode cX2_goingOf 3 = .ok (.invokevirtual 30, 3) := by decide +kernel
theorem dX2_goingOf_6 : decode cX2_goingOf 6 = .ok (.invokevirtual 22, 3) := by decide +kernel
theorem dX2_goingOf_9 : decode cX2_goingOf 9 = .ok (.areturn, 1) := by decide +kernel
theorem dX2_begin_0 : decode cX2_begin 0 = .ok (.aload_n 0, 1) := by decide +kernel
theorem dX2_begin_1 : decode cX2_begin 1 = .ok (.aload_n 1, 1) := by decide +kernel
theorem dX2_begin_2 : decode cX2_begin 2 = .ok (.invokevirtual 30, 3) := by decide +kernel
theorem dX2_begin_5 : decode cX2_begin 5 = .ok (.istore_n 3, 1) := by decide +kernel
theorem dX2_begin_6 : decode cX2_begin 6 = .ok (.iload_n 3, 1) := by decide +kernel
theorem dX2_begin_7 : decode cX2_begin 7 = .ok (.iconst (-1), 1) := by decide +kernel
theorem dX2_begin_8 : decode cX2_begin 8 = .ok (.if_icmp .ne 30, 3) := by decide +kernel
theorem dX2_begin_11 : decode cX2_begin 11 = .ok (.aload_n 0, 1) := by decide +kernel
theorem dX2_begin_12 : decode cX2_begin 12 = .ok (.getfield 18, 3) := by decide +kernel
theorem dX2_begin_15 : decode cX2_begin 15 = .ok (.aload_n 0, 1) := by decide +kernel
theorem dX2_begin_16 : decode cX2_begin 16 = .ok (.getfield 11, 3) := by decide +kernel
theorem dX2_begin_19 : decode cX2_begin 19 = .ok (.arraylength, 1) := by decide +kernel
theorem dX2_begin_20 : decode cX2_begin 20 = .ok (.if_icmp .ge 18, 3) := by decide +kernel
theorem dX2_begin_23 : decode cX2_begin 23 = .ok (.aload_n 0, 1) := by decide +kernel
theorem dX2_begin_24 : decode cX2_begin 24 = .ok (.getfield 18, 3) := by decide +kernel
theorem dX2_begin_27 : decode cX2_begin 27 = .ok (.istore_n 3, 1) := by decide +kernel
theorem dX2_begin_28 : decode cX2_begin 28 = .ok (.aload_n 0, 1) := by decide +kernel
theorem dX2_begin_29 : decode cX2_begin 29 = .ok (.dup, 1) := by decide +kernel
theorem dX2_begin_30 : decode cX2_begin 30 = .ok (.getfield 18, 3) := by decide +kernel
theorem dX2_begin_33 : decode cX2_begin 33 = .ok (.iconst 1, 1) := by decide +kernel
theorem dX2_begin_34 : decode cX2_begin 34 = .ok (.iadd, 1) := by decide +kernel
theorem dX2_begin_35 : decode cX2_begin 35 = .ok (.putfield 18, 3) := by decide +kernel
theorem dX2_begin_38 : decode cX2_begin 38 = .ok (.aload_n 0, 1) := by decide +kernel
theorem dX2_begin_39 : decode cX2_begin 39 = .ok (.iload_n 3, 1) := by decide +kernel
theorem dX2_begin_40 : decode cX2_begin 40 = .ok (.invokevirtual 34, 3) := by decide +kernel
theorem dX2_begin_43 : decode cX2_begin 43 = .ok (.aload_n 0, 1) := by decide +kernel
theorem dX2_begin_44 : decode cX2_begin 44 = .ok (.aload_n 0, 1) := by decide +kernel
theorem dX2_begin_45 : decode cX2_begin 45 = .ok (.getfield 18, 3) := by decide +kernel
theorem dX2_begin_48 : decode cX2_begin 48 = .ok (.iconst 1, 1) := by decide +kernel
theorem dX2_begin_49 : decode cX2_begin 49 = .ok (.isub, 1) := by decide +kernel
theorem dX2_begin_50 : decode cX2_begin 50 = .ok (.invokevirtual 22, 3) := by decide +kernel
theorem dX2_begin_53 : decode cX2_begin 53 = .ok (.astore 4, 2) := by decide +kernel
theorem dX2_begin_55 : decode cX2_begin 55 = .ok (.aload 4, 2) := by decide +kernel
theorem dX2_begin_57 : decode cX2_begin 57 = .ok (.ifnull 10, 3) := by decide +kernel
theorem dX2_begin_60 : decode cX2_begin 60 = .ok (.aload 4, 2) := by decide +kernel
theorem dX2_begin_62 : decode cX2_begin 62 = .ok (.aload_n 1, 1) := by decide +kernel
theorem dX2_begin_63 : decode cX2_begin 63 = .ok (.iload_n 2, 1) := by decide +kernel
theorem dX2_begin_64 : decode cX2_begin 64 = .ok (.invokevirtual 38, 3) := by decide +kernel
theorem dX2_begin_67 : decode cX2_begin 67 = .ok (.return_, 1) := by decide +kernel
theorem dX2_fall_0 : decode cX2_fall 0 = .ok (.aload_n 0, 1) := by decide +kernel
theorem dX2_fall_1 : decode cX2_fall 1 = .ok (.aload_n 1, 1) := by decide +kernel
theorem dX2_fall_2 : decode cX2_fall 2 = .ok (.invokevirtual 42, 3) := by decide +kernel
theorem dX2_fall_5 : decode cX2_fall 5 = .ok (.astore_n 3, 1) := by decide +kernel
theorem dX2_fall_6 : decode cX2_fall 6 = .ok (.aload_n 3, 1) := by decide +kernel
theorem dX2_fall_7 : decode cX2_fall 7 = .ok (.ifnull 8, 3) := by decide +kernel
theorem dX2_fall_10 : decode cX2_fall 10 = .ok (.aload_n 3, 1) := by decide +kernel
theorem dX2_fall_11 : decode cX2_fall 11 = .ok (.iload_n 2, 1) := by decide +kernel
theorem dX2_fall_12 : decode cX2_fall 12 = .ok (.invokevirtual 46, 3) := by decide +kernel
theorem dX2_fall_15 : decode cX2_fall 15 = .ok (.return_, 1) := by decide +kernel
theorem dX2_dropOver_0 : decode cX2_dropOver 0 = .ok (.aload_n 0, 1) := by decide +kernel
theorem dX2_dropOver_1 : decode cX2_dropOver 1 = .ok (.getfield 18, 3) := by decide +kernel
theorem dX2_dropOver_4 : decode cX2_dropOver 4 = .ok (.iconst 1, 1) := by decide +kernel
theorem dX2_dropOver_5 : decode cX2_dropOver 5 = .ok (.isub, 1) := by decide +kernel
theorem dX2_dropOver_6 : decode cX2_dropOver 6 = .ok (.istore_n 2, 1) := by decide +kernel
theorem dX2_dropOver_7 : decode cX2_dropOver 7 = .ok (.iload_n 2, 1) := by decide +kernel
theorem dX2_dropOver_8 : decode cX2_dropOver 8 = .ok (.ifCond .lt 42, 3) := by decide +kernel
theorem dX2_dropOver_11 : decode cX2_dropOver 11 = .ok (.aload_n 0, 1) := by decide +kernel
theorem dX2_dropOver_12 : decode cX2_dropOver 12 = .ok (.iload_n 2, 1) := by decide +kernel
theorem dX2_dropOver_13 : decode cX2_dropOver 13 = .ok (.invokevirtual 22, 3) := by decide +kernel
theorem dX2_dropOver_16 : decode cX2_dropOver 16 = .ok (.astore_n 3, 1) := by decide +kernel
theorem dX2_dropOver_17 : decode cX2_dropOver 17 = .ok (.aload_n 3, 1) := by decide +kernel
theorem dX2_dropOver_18 : decode cX2_dropOver 18 = .ok (.ifnull 26, 3) := by decide +kernel
theorem dX2_dropOver_21 : decode cX2_dropOver 21 = .ok (.aload_n 3, 1) := by decide +kernel
theorem dX2_dropOver_22 : decode cX2_dropOver 22 = .ok (.iload_n 1, 1) := by decide +kernel
theorem dX2_dropOver_23 : decode cX2_dropOver 23 = .ok (.invokevirtual 49, 3) := by decide +kernel
theorem dX2_dropOver_26 : decode cX2_dropOver 26 = .ok (.ifCond .eq 18, 3) := by decide +kernel
theorem dX2_dropOver_29 : decode cX2_dropOver 29 = .ok (.aload_n 0, 1) := by decide +kernel
theorem dX2_dropOver_30 : decode cX2_dropOver 30 = .ok (.iload_n 2, 1) := by decide +kernel
theorem dX2_dropOver_31 : decode cX2_dropOver 31 = .ok (.invokevirtual 34, 3) := by decide +kernel
theorem dX2_dropOver_34 : decode cX2_dropOver 34 = .ok (.aload_n 0, 1) := by decide +kernel
theorem dX2_dropOver_35 : decode cX2_dropOver 35 = .ok (.dup, 1) := by decide +kernel
theorem dX2_dropOver_36 : decode cX2_dropOver 36 = .ok (.getfield 18, 3) := by decide +kernel
theorem dX2_dropOver_39 : decode cX2_dropOver 39 = .ok (.iconst 1, 1) := by decide +kernel
theorem dX2_dropOver_40 : decode cX2_dropOver 40 = .ok (.isub, 1) := by decide +kernel
theorem dX2_dropOver_41 : decode cX2_dropOver 41 = .ok (.putfield 18, 3) := by decide +kernel
theorem dX2_dropOver_44 : decode cX2_dropOver 44 = .ok (.iinc 2 (-1), 3) := by decide +kernel
theorem dX2_dropOver_47 : decode cX2_dropOver 47 = .ok (.goto (-40), 3) := by decide +kernel
theorem dX2_dropOver_50 : decode cX2_dropOver 50 = .ok (.return_, 1) := by decide +kernel
theorem dX2_moveLast_0 : decode cX2_moveLast 0 = .ok (.aload_n 0, 1) := by decide +kernel
theorem dX2_moveLast_1 : decode cX2_moveLast 1 = .ok (.iload_n 1, 1) := by decide +kernel
theorem dX2_moveLast_2 : decode cX2_moveLast 2 = .ok (.invokevirtual 22, 3) := by decide +kernel
theorem dX2_moveLast_5 : decode cX2_moveLast 5 = .ok (.astore_n 2, 1) := by decide +kernel
theorem dX2_moveLast_6 : decode cX2_moveLast 6 = .ok (.aload_n 2, 1) := by decide +kernel
theorem dX2_moveLast_7 : decode cX2_moveLast 7 = .ok (.ifnonnull 4, 3) := by decide +kernel
theorem dX2_moveLast_10 : decode cX2_moveLast 10 = .ok (.return_, 1) := by decide +kernel
theorem dX2_moveLast_11 : decode cX2_moveLast 11 = .ok (.iload_n 1, 1) := by decide +kernel
theorem dX2_moveLast_12 : decode cX2_moveLast 12 = .ok (.istore_n 3, 1) := by decide +kernel
theorem dX2_moveLast_13 : decode cX2_moveLast 13 = .ok (.iload_n 3, 1) := by decide +kernel
theorem dX2_moveLast_14 : decode cX2_moveLast 14 = .ok (.iconst 1, 1) := by decide +kernel
theorem dX2_moveLast_15 : decode cX2_moveLast 15 = .ok (.iadd, 1) := by decide +kernel
theorem dX2_moveLast_16 : decode cX2_moveLast 16 = .ok (.aload_n 0, 1) := by decide +kernel
theorem dX2_moveLast_17 : decode cX2_moveLast 17 = .ok (.getfield 18, 3) := by decide +kernel
theorem dX2_moveLast_20 : decode cX2_moveLast 20 = .ok (.if_icmp .ge 34, 3) := by decide +kernel
theorem dX2_moveLast_23 : decode cX2_moveLast 23 = .ok (.iload_n 3, 1) := by decide +kernel
theorem dX2_moveLast_24 : decode cX2_moveLast 24 = .ok (.iconst 1, 1) := by decide +kernel
theorem dX2_moveLast_25 : decode cX2_moveLast 25 = .ok (.iadd, 1) := by decide +kernel
theorem dX2_moveLast_26 : decode cX2_moveLast 26 = .ok (.aload_n 0, 1) := by decide +kernel
theorem dX2_moveLast_27 : decode cX2_moveLast 27 = .ok (.getfield 11, 3) := by decide +kernel
theorem dX2_moveLast_30 : decode cX2_moveLast 30 = .ok (.arraylength, 1) := by decide +kernel
theorem dX2_moveLast_31 : decode cX2_moveLast 31 = .ok (.if_icmp .ge 23, 3) := by decide +kernel
theorem dX2_moveLast_34 : decode cX2_moveLast 34 = .ok (.aload_n 0, 1) := by decide +kernel
theorem dX2_moveLast_35 : decode cX2_moveLast 35 = .ok (.getfield 11, 3) := by decide +kernel
theorem dX2_moveLast_38 : decode cX2_moveLast 38 = .ok (.iload_n 3, 1) := by decide +kernel
theorem dX2_moveLast_39 : decode cX2_moveLast 39 = .ok (.aload_n 0, 1) := by decide +kernel
theorem dX2_moveLast_40 : decode cX2_moveLast 40 = .ok (.getfield 11, 3) := by decide +kernel
theorem dX2_moveLast_43 : decode cX2_moveLast 43 = .ok (.iload_n 3, 1) := by decide +kernel
theorem dX2_moveLast_44 : decode cX2_moveLast 44 = .ok (.iconst 1, 1) := by decide +kernel
theorem dX2_moveLast_45 : decode cX2_moveLast 45 = .ok (.iadd, 1) := by decide +kernel
theorem dX2_moveLast_46 : decode cX2_moveLast 46 = .ok (.aaload, 1) := by decide +kernel
theorem dX2_moveLast_47 : decode cX2_moveLast 47 = .ok (.aastore, 1) := by decide +kernel
theorem dX2_moveLast_48 : decode cX2_moveLast 48 = .ok (.iinc 3 1, 3) := by decide +kernel
theorem dX2_moveLast_51 : decode cX2_moveLast 51 = .ok (.goto (-38), 3) := by decide +kernel
theorem dX2_moveLast_54 : decode cX2_moveLast 54 = .ok (.aload_n 0, 1) := by decide +kernel
theorem dX2_moveLast_55 : decode cX2_moveLast 55 = .ok (.getfield 11, 3) := by decide +kernel
theorem dX2_moveLast_58 : decode cX2_moveLast 58 = .ok (.iload_n 3, 1) := by decide +kernel
theorem dX2_moveLast_59 : decode cX2_moveLast 59 = .ok (.aload_n 2, 1) := by decide +kernel
theorem dX2_moveLast_60 : decode cX2_moveLast 60 = .ok (.aastore, 1) := by decide +kernel
theorem dX2_moveLast_61 : decode cX2_moveLast 61 = .ok (.return_, 1) := by decide +kernel
theorem dX2_greatestUnreleased_0 : decode cX2_greatestUnreleased 0 = .ok (.iconst 0, 1) := by decide +kernel
theorem dX2_greatestUnreleased_1 : decode cX2_greatestUnreleased 1 = .ok (.istore_n 2, 1) := by decide +kernel
theorem dX2_greatestUnreleased_2 : decode cX2_greatestUnreleased 2 = .ok (.iconst 0, 1) := by decide +kernel
theorem dX2_greatestUnreleased_3 : decode cX2_greatestUnreleased 3 = .ok (.istore_n 3, 1) := by decide +kernel
theorem dX2_greatestUnreleased_4 : decode cX2_greatestUnreleased 4 = .ok (.iload_n 3, 1) := by decide +kernel
theorem dX2_greatestUnreleased_5 : decode cX2_greatestUnreleased 5 = .ok (.aload_n 0, 1) := by decide +kernel
theorem dX2_greatestUnreleased_6 : decode cX2_greatestUnreleased 6 = .ok (.getfield 18, 3) := by decide +kernel
theorem dX2_greatestUnreleased_9 : decode cX2_greatestUnreleased 9 = .ok (.if_icmp .ge 40, 3) := by decide +kernel
theorem dX2_greatestUnreleased_12 : decode cX2_greatestUnreleased 12 = .ok (.aload_n 0, 1) := by decide +kernel
theorem dX2_greatestUnreleased_13 : decode cX2_greatestUnreleased 13 = .ok (.iload_n 3, 1) := by decide +kernel
theorem dX2_greatestUnreleased_14 : decode cX2_greatestUnreleased 14 = .ok (.invokevirtual 22, 3) := by decide +kernel
theorem dX2_greatestUnreleased_17 : decode cX2_greatestUnreleased 17 = .ok (.astore 4, 2) := by decide +kernel
theorem dX2_greatestUnreleased_19 : decode cX2_greatestUnreleased 19 = .ok (.aload 4, 2) := by decide +kernel
theorem dX2_greatestUnreleased_21 : decode cX2_greatestUnreleased 21 = .ok (.ifnull 22, 3) := by decide +kernel
theorem dX2_greatestUnreleased_24 : decode cX2_greatestUnreleased 24 = .ok (.aload 4, 2) := by decide +kernel
theorem dX2_greatestUnreleased_26 : decode cX2_greatestUnreleased 26 = .ok (.invokevirtual 53, 3) := by decide +kernel
theorem dX2_greatestUnreleased_29 : decode cX2_greatestUnreleased 29 = .ok (.ifCond .ne 14, 3) := by decide +kernel
theorem dX2_greatestUnreleased_32 : decode cX2_greatestUnreleased 32 = .ok (.iload_n 2, 1) := by decide +kernel
theorem dX2_greatestUnreleased_33 : decode cX2_greatestUnreleased 33 = .ok (.aload 4, 2) := by decide +kernel
theorem dX2_greatestUnreleased_35 : decode cX2_greatestUnreleased 35 = .ok (.iload_n 1, 1) := by decide +kernel
theorem dX2_greatestUnreleased_36 : decode cX2_greatestUnreleased 36 = .ok (.invokevirtual 57, 3) := by decide +kernel
theorem dX2_greatestUnreleased_39 : decode cX2_greatestUnreleased 39 = .ok (.invokestatic 61, 3) := by decide +kernel
theorem dX2_greatestUnreleased_42 : decode cX2_greatestUnreleased 42 = .ok (.istore_n 2, 1) := by decide +kernel
theorem dX2_greatestUnreleased_43 : decode cX2_greatestUnreleased 43 = .ok (.iinc 3 1, 3) := by decide +kernel
theorem dX2_greatestUnreleased_46 : decode cX2_greatestUnreleased 46 = .ok (.goto (-42), 3) := by decide +kernel
theorem dX2_greatestUnreleased_49 : decode cX2_greatestUnreleased 49 = .ok (.iload_n 2, 1) := by decide +kernel
theorem dX2_greatestUnreleased_50 : decode cX2_greatestUnreleased 50 = .ok (.ireturn, 1) := by decide +kernel
theorem dX2_mix_0 : decode cX2_mix 0 = .ok (.fconst 0, 1) := by decide +kernel
theorem dX2_mix_1 : decode cX2_mix 1 = .ok (.fstore_n 3, 1) := by decide +kernel
theorem dX2_mix_2 : decode cX2_mix 2 = .ok (.iconst 0, 1) := by decide +kernel
theorem dX2_mix_3 : decode cX2_mix 3 = .ok (.istore 4, 2) := by decide +kernel
theorem dX2_mix_5 : decode cX2_mix 5 = .ok (.iload 4, 2) := by decide +kernel
theorem dX2_mix_7 : decode cX2_mix 7 = .ok (.aload_n 0, 1) := by decide +kernel
theorem dX2_mix_8 : decode cX2_mix 8 = .ok (.getfield 18, 3) := by decide +kernel
theorem dX2_mix_11 : decode cX2_mix 11 = .ok (.if_icmp .ge 70, 3) := by decide +kernel
theorem dX2_mix_14 : decode cX2_mix 14 = .ok (.aload_n 0, 1) := by decide +kernel
theorem dX2_mix_15 : decode cX2_mix 15 = .ok (.iload 4, 2) := by decide +kernel
theorem dX2_mix_17 : decode cX2_mix 17 = .ok (.invokevirtual 22, 3) := by decide +kernel
theorem dX2_mix_20 : decode cX2_mix 20 = .ok (.astore 5, 2) := by decide +kernel
theorem dX2_mix_22 : decode cX2_mix 22 = .ok (.aload 5, 2) := by decide +kernel
theorem dX2_mix_24 : decode cX2_mix 24 = .ok (.ifnull 51, 3) := by decide +kernel
theorem dX2_mix_27 : decode cX2_mix 27 = .ok (.aload 5, 2) := by decide +kernel
theorem dX2_mix_29 : decode cX2_mix 29 = .ok (.iconst 0, 1) := by decide +kernel
theorem dX2_mix_30 : decode cX2_mix 30 = .ok (.invokevirtual 67, 3) := by decide +kernel
theorem dX2_mix_33 : decode cX2_mix 33 = .ok (.ifCond .eq 42, 3) := by decide +kernel
theorem dX2_mix_36 : decode cX2_mix 36 = .ok (.aload 5, 2) := by decide +kernel
theorem dX2_mix_38 : decode cX2_mix 38 = .ok (.iload_n 1, 1) := by decide +kernel
theorem dX2_mix_39 : decode cX2_mix 39 = .ok (.invokevirtual 57, 3) := by decide +kernel
theorem dX2_mix_42 : decode cX2_mix 42 = .ok (.ifCond .le 33, 3) := by decide +kernel
theorem dX2_mix_45 : decode cX2_mix 45 = .ok (.aload 5, 2) := by decide +kernel
theorem dX2_mix_47 : decode cX2_mix 47 = .ok (.iload_n 2, 1) := by decide +kernel
theorem dX2_mix_48 : decode cX2_mix 48 = .ok (.invokevirtual 70, 3) := by decide +kernel
theorem dX2_mix_51 : decode cX2_mix 51 = .ok (.aload 5, 2) := by decide +kernel
theorem dX2_mix_53 : decode cX2_mix 53 = .ok (.iload_n 1, 1) := by decide +kernel
theorem dX2_mix_54 : decode cX2_mix 54 = .ok (.invokevirtual 57, 3) := by decide +kernel
theorem dX2_mix_57 : decode cX2_mix 57 = .ok (.i2f, 1) := by decide +kernel
theorem dX2_mix_58 : decode cX2_mix 58 = .ok (.fmul, 1) := by decide +kernel
theorem dX2_mix_59 : decode cX2_mix 59 = .ok (.fstore 6, 2) := by decide +kernel
theorem dX2_mix_61 : decode cX2_mix 61 = .ok (.fload 6, 2) := by decide +kernel
theorem dX2_mix_63 : decode cX2_mix 63 = .ok (.fload_n 3, 1) := by decide +kernel
theorem dX2_mix_64 : decode cX2_mix 64 = .ok (.fcmp .l, 1) := by decide +kernel
theorem dX2_mix_65 : decode cX2_mix 65 = .ok (.ifCond .le 8, 3) := by decide +kernel
theorem dX2_mix_68 : decode cX2_mix 68 = .ok (.fload 6, 2) := by decide +kernel
theorem dX2_mix_70 : decode cX2_mix 70 = .ok (.goto 4, 3) := by decide +kernel
theorem dX2_mix_73 : decode cX2_mix 73 = .ok (.fload_n 3, 1) := by decide +kernel
theorem dX2_mix_74 : decode cX2_mix 74 = .ok (.fstore_n 3, 1) := by decide +kernel
theorem dX2_mix_75 : decode cX2_mix 75 = .ok (.iinc 4 1, 3) := by decide +kernel
theorem dX2_mix_78 : decode cX2_mix 78 = .ok (.goto (-73), 3) := by decide +kernel
theorem dX2_mix_81 : decode cX2_mix 81 = .ok (.iconst 0, 1) := by decide +kernel
theorem dX2_mix_82 : decode cX2_mix 82 = .ok (.istore 4, 2) := by decide +kernel
theorem dX2_mix_84 : decode cX2_mix 84 = .ok (.iload 4, 2) := by decide +kernel
theorem dX2_mix_86 : decode cX2_mix 86 = .ok (.aload_n 0, 1) := by decide +kernel
theorem dX2_mix_87 : decode cX2_mix 87 = .ok (.getfield 18, 3) := by decide +kernel
theorem dX2_mix_90 : decode cX2_mix 90 = .ok (.if_icmp .ge 59, 3) := by decide +kernel
theorem dX2_mix_93 : decode cX2_mix 93 = .ok (.aload_n 0, 1) := by decide +kernel
theorem dX2_mix_94 : decode cX2_mix 94 = .ok (.iload 4, 2) := by decide +kernel
theorem dX2_mix_96 : decode cX2_mix 96 = .ok (.invokevirtual 22, 3) := by decide +kernel
theorem dX2_mix_99 : decode cX2_mix 99 = .ok (.astore 5, 2) := by decide +kernel
theorem dX2_mix_101 : decode cX2_mix 101 = .ok (.aload 5, 2) := by decide +kernel
theorem dX2_mix_103 : decode cX2_mix 103 = .ok (.ifnull 40, 3) := by decide +kernel
theorem dX2_mix_106 : decode cX2_mix 106 = .ok (.aload 5, 2) := by decide +kernel
theorem dX2_mix_108 : decode cX2_mix 108 = .ok (.iconst 1, 1) := by decide +kernel
theorem dX2_mix_109 : decode cX2_mix 109 = .ok (.invokevirtual 67, 3) := by decide +kernel
theorem dX2_mix_112 : decode cX2_mix 112 = .ok (.ifCond .eq 31, 3) := by decide +kernel
theorem dX2_mix_115 : decode cX2_mix 115 = .ok (.aload 5, 2) := by decide +kernel
theorem dX2_mix_117 : decode cX2_mix 117 = .ok (.iload_n 1, 1) := by decide +kernel
theorem dX2_mix_118 : decode cX2_mix 118 = .ok (.invokevirtual 57, 3) := by decide +kernel
theorem dX2_mix_121 : decode cX2_mix 121 = .ok (.ifCond .le 22, 3) := by decide +kernel
theorem dX2_mix_124 : decode cX2_mix 124 = .ok (.fload_n 3, 1) := by decide +kernel
theorem dX2_mix_125 : decode cX2_mix 125 = .ok (.aload 5, 2) := by decide +kernel
theorem dX2_mix_127 : decode cX2_mix 127 = .ok (.iload_n 2, 1) := by decide +kernel
theorem dX2_mix_128 : decode cX2_mix 128 = .ok (.invokevirtual 70, 3) := by decide +kernel
theorem dX2_mix_131 : decode cX2_mix 131 = .ok (.aload 5, 2) := by decide +kernel
theorem dX2_mix_133 : decode cX2_mix 133 = .ok (.iload_n 1, 1) := by decide +kernel
theorem dX2_mix_134 : decode cX2_mix 134 = .ok (.invokevirtual 57, 3) := by decide +kernel
theorem dX2_mix_137 : decode cX2_mix 137 = .ok (.i2f, 1) := by decide +kernel
theorem dX2_mix_138 : decode cX2_mix 138 = .ok (.fload_n 3, 1) := by decide +kernel
theorem dX2_mix_139 : decode cX2_mix 139 = .ok (.fsub, 1) := by decide +kernel
theorem dX2_mix_140 : decode cX2_mix 140 = .ok (.fmul, 1) := by decide +kernel
theorem dX2_mix_141 : decode cX2_mix 141 = .ok (.fadd, 1) := by decide +kernel
theorem dX2_mix_142 : decode cX2_mix 142 = .ok (.fstore_n 3, 1) := by decide +kernel
theorem dX2_mix_143 : decode cX2_mix 143 = .ok (.iinc 4 1, 3) := by decide +kernel
theorem dX2_mix_146 : decode cX2_mix 146 = .ok (.goto (-62), 3) := by decide +kernel
theorem dX2_mix_149 : decode cX2_mix 149 = .ok (.fload_n 3, 1) := by decide +kernel
theorem dX2_mix_150 : decode cX2_mix 150 = .ok (.freturn, 1) := by decide +kernel
theorem dX3_init_0 : decode cX3_init 0 = .ok (.aload_n 0, 1) := by decide +kernel
theorem dX3_init_1 : decode cX3_init 1 = .ok (.invokespecial 3, 3) := by decide +kernel
theorem dX3_init_4 : decode cX3_init 4 = .ok (.aload_n 0, 1) := by decide +kernel
theorem dX3_init_5 : decode cX3_init 5 = .ok (.bipush 64, 2) := by decide +kernel
theorem dX3_init_7 : decode cX3_init 7 = .ok (.newarray .int, 2) := by decide +kernel
theorem dX3_init_9 : decode cX3_init 9 = .ok (.putfield 9, 3) := by decide +kernel
theorem dX3_init_12 : decode cX3_init 12 = .ok (.return_, 1) := by decide +kernel
theorem dX3_entryFor_0 : decode cX3_entryFor 0 = .ok (.iload_n 0, 1) := by decide +kernel
theorem dX3_entryFor_1 : decode cX3_entryFor 1 = .ok (.iconst 5, 1) := by decide +kernel
theorem dX3_entryFor_2 : decode cX3_entryFor 2 = .ok (.ishl, 1) := by decide +kernel
theorem dX3_entryFor_3 : decode cX3_entryFor 3 = .ok (.iload_n 1, 1) := by decide +kernel
theorem dX3_entryFor_4 : decode cX3_entryFor 4 = .ok (.iconst 1, 1) := by decide +kernel
theorem dX3_entryFor_5 : decode cX3_entryFor 5 = .ok (.ishl, 1) := by decide +kernel
theorem dX3_entryFor_6 : decode cX3_entryFor 6 = .ok (.ior, 1) := by decide +kernel
theorem dX3_entryFor_7 : decode cX3_entryFor 7 = .ok (.iload_n 2, 1) := by decide +kernel
theorem dX3_entryFor_8 : decode cX3_entryFor 8 = .ok (.ior, 1) := by decide +kernel
theorem dX3_entryFor_9 : decode cX3_entryFor 9 = .ok (.ireturn, 1) := by decide +kernel
theorem dX3_tickOf_0 : decode cX3_tickOf 0 = .ok (.iload_n 0, 1) := by decide +kernel
theorem dX3_tickOf_1 : decode cX3_tickOf 1 = .ok (.iconst 5, 1) := by decide +kernel
theorem dX3_tickOf_2 : decode cX3_tickOf 2 = .ok (.ishr, 1) := by decide +kernel
theorem dX3_tickOf_3 : decode cX3_tickOf 3 = .ok (.ireturn, 1) := by decide +kernel
theorem dX3_cueOf_0 : decode cX3_cueOf 0 = .ok (.iload_n 0, 1) := by decide +kernel
theorem dX3_cueOf_1 : decode cX3_cueOf 1 = .ok (.iconst 1, 1) := by decide +kernel
theorem dX3_cueOf_2 : decode cX3_cueOf 2 = .ok (.ishr, 1) := by decide +kernel
theorem dX3_cueOf_3 : decode cX3_cueOf 3 = .ok (.bipush 15, 2) := by decide +kernel
theorem dX3_cueOf_5 : decode cX3_cueOf 5 = .ok (.iand, 1) := by decide +kernel
theorem dX3_cueOf_6 : decode cX3_cueOf 6 = .ok (.ireturn, 1) := by decide +kernel
theorem dX3_isRelease_0 : decode cX3_isRelease 0 = .ok (.iload_n 0, 1) := by decide +kernel
theorem dX3_isRelease_1 : decode cX3_isRelease 1 = .ok (.iconst 1, 1) := by decide +kernel
theorem dX3_isRelease_2 : decode cX3_isRelease 2 = .ok (.iand, 1) := by decide +kernel
theorem dX3_isRelease_3 : decode cX3_isRelease 3 = .ok (.ifCond .eq 7, 3) := by decide +kernel
theorem dX3_isRelease_6 : decode cX3_isRelease 6 = .ok (.iconst 1, 1) := by decide +kernel
theorem dX3_isRelease_7 : decode cX3_isRelease 7 = .ok (.goto 4, 3) := by decide +kernel
theorem dX3_isRelease_10 : decode cX3_isRelease 10 = .ok (.iconst 0, 1) := by decide +kernel
theorem dX3_isRelease_11 : decode cX3_isRelease 11 = .ok (.ireturn, 1) := by decide +kernel
theorem dX3_entryAt_0 : decode cX3_entryAt 0 = .ok (.iload_n 1, 1) := by decide +kernel
theorem dX3_entryAt_1 : decode cX3_entryAt 1 = .ok (.ifCond .lt 21, 3) := by decide +kernel
theorem dX3_entryAt_4 : decode cX3_entryAt 4 = .ok (.iload_n 1, 1) := by decide +kernel
theorem dX3_entryAt_5 : decode cX3_entryAt 5 = .ok (.aload_n 0, 1) := by decide +kernel
theorem dX3_entryAt_6 : decode cX3_entryAt 6 = .ok (.getfield 9, 3) := by decide +kernel
theorem dX3_entryAt_9 : decode cX3_entryAt 9 = .ok (.arraylength, 1) := by decide +kernel
theorem dX3_entryAt_10 : decode cX3_entryAt 10 = .ok (.if_icmp .ge 12, 3) := by decide +kernel
theorem dX3_entryAt_13 : decode cX3_entryAt 13 = .ok (.aload_n 0, 1) := by decide +kernel
theorem dX3_entryAt_14 : decode cX3_entryAt 14 = .ok (.getfield 9, 3) := by decide +kernel
theorem dX3_entryAt_17 : decode cX3_entryAt 17 = .ok (.iload_n 1, 1) := by decide +kernel
theorem dX3_entryAt_18 : decode cX3_entryAt 18 = .ok (.iaload, 1) := by decide +kernel
theorem dX3_entryAt_19 : decode cX3_entryAt 19 = .ok (.goto 4, 3) := by decide +kernel
theorem dX3_entryAt_22 : decode cX3_entryAt 22 = .ok (.iconst 0, 1) := by decide +kernel
theorem dX3_entryAt_23 : decode cX3_entryAt 23 = .ok (.ireturn, 1) := by decide +kernel
theorem dX3_writeGoing_0 : decode cX3_writeGoing 0 = .ok (.iload_n 1, 1) := by decide +kernel
theorem dX3_writeGoing_1 : decode cX3_writeGoing 1 = .ok (.iload_n 2, 1) := by decide +kernel
theorem dX3_writeGoing_2 : decode cX3_writeGoing 2 = .ok (.iconst 0, 1) := by decide +kernel
theorem dX3_writeGoing_3 : decode cX3_writeGoing 3 = .ok (.invokestatic 15, 3) := by decide +kernel
theorem dX3_writeGoing_6 : decode cX3_writeGoing 6 = .ok (.istore_n 3, 1) := by decide +kernel
theorem dX3_writeGoing_7 : decode cX3_writeGoing 7 = .ok (.aload_n 0, 1) := by decide +kernel
theorem dX3_writeGoing_8 : decode cX3_writeGoing 8 = .ok (.iload_n 3, 1) := by decide +kernel
theorem dX3_writeGoing_9 : decode cX3_writeGoing 9 = .ok (.invokevirtual 19, 3) := by decide +kernel
theorem dX3_writeGoing_12 : decode cX3_writeGoing 12 = .ok (.aload_n 0, 1) := by decide +kernel
theorem dX3_writeGoing_13 : decode cX3_writeGoing 13 = .ok (.iload_n 3, 1) := by decide +kernel
theorem dX3_writeGoing_14 : decode cX3_writeGoing 14 = .ok (.invokevirtual 23, 3) := by decide +kernel
theorem dX3_writeGoing_17 : decode cX3_writeGoing 17 = .ok (.return_, 1) := by decide +kernel
theorem dX3_writeRelease_0 : decode cX3_writeRelease 0 = .ok (.aload_n 0, 1) := by decide +kernel
theorem dX3_writeRelease_1 : decode cX3_writeRelease 1 = .ok (.iload_n 1, 1) := by decide +kernel
theorem dX3_writeRelease_2 : decode cX3_writeRelease 2 = .ok (.iload_n 2, 1) := by decide +kernel
theorem dX3_writeRelease_3 : decode cX3_writeRelease 3 = .ok (.iconst 1, 1) := by decide +kernel
theorem dX3_writeRelease_4 : decode cX3_writeRelease 4 = .ok (.invokestatic 15, 3) := by decide +kernel
theorem dX3_writeRelease_7 : decode cX3_writeRelease 7 = .ok (.invokevirtual 23, 3) := by decide +kernel
theorem dX3_writeRelease_10 : decode cX3_writeRelease 10 = .ok (.return_, 1) := by decide +kernel
theorem dX3_strike_0 : decode cX3_strike 0 = .ok (.aload_n 0, 1) := by decide +kernel
theorem dX3_strike_1 : decode cX3_strike 1 = .ok (.getfield 26, 3) := by decide +kernel
theorem dX3_strike_4 : decode cX3_strike 4 = .ok (.iconst 1, 1) := by decide +kernel
theorem dX3_strike_5 : decode cX3_strike 5 = .ok (.isub, 1) := by decide +kernel
theorem dX3_strike_6 : decode cX3_strike 6 = .ok (.istore_n 2, 1) := by decide +kernel
theorem dX3_strike_7 : decode cX3_strike 7 = .ok (.iload_n 2, 1) := by decide +kernel
theorem dX3_strike_8 : decode cX3_strike 8 = .ok (.ifCond .lt 39, 3) := by decide +kernel
theorem dX3_strike_11 : decode cX3_strike 11 = .ok (.aload_n 0, 1) := by decide +kernel
theorem dX3_strike_12 : decode cX3_strike 12 = .ok (.iload_n 2, 1) := by decide +kernel
theorem dX3_strike_13 : decode cX3_strike 13 = .ok (.invokevirtual 30, 3) := by decide +kernel
theorem dX3_strike_16 : decode cX3_strike 16 = .ok (.invokestatic 34, 3) := by decide +kernel
theorem dX3_strike_19 : decode cX3_strike 19 = .ok (.iload_n 1, 1) := by decide +kernel
theorem dX3_strike_20 : decode cX3_strike 20 = .ok (.invokestatic 34, 3) := by decide +kernel
theorem dX3_strike_23 : decode cX3_strike 23 = .ok (.if_icmp .ne 24, 3) := by decide +kernel
theorem dX3_strike_26 : decode cX3_strike 26 = .ok (.aload_n 0, 1) := by decide +kernel
theorem dX3_strike_27 : decode cX3_strike 27 = .ok (.iload_n 2, 1) := by decide +kernel
theorem dX3_strike_28 : decode cX3_strike 28 = .ok (.invokevirtual 30, 3) := by decide +kernel
theorem dX3_strike_31 : decode cX3_strike 31 = .ok (.iload_n 1, 1) := by decide +kernel
theorem dX3_strike_32 : decode cX3_strike 32 = .ok (.if_icmp .ne 9, 3) := by decide +kernel
theorem dX3_strike_35 : decode cX3_strike 35 = .ok (.aload_n 0, 1) := by decide +kernel
theorem dX3_strike_36 : decode cX3_strike 36 = .ok (.iload_n 2, 1) := by decide +kernel
theorem dX3_strike_37 : decode cX3_strike 37 = .ok (.invokevirtual 37, 3) := by decide +kernel
theorem dX3_strike_40 : decode cX3_strike 40 = .ok (.return_, 1) := by decide +kernel
theorem dX3_strike_41 : decode cX3_strike 41 = .ok (.iinc 2 (-1), 3) := by decide +kernel
theorem dX3_strike_44 : decode cX3_strike 44 = .ok (.goto (-37), 3) := by decide +kernel
theorem dX3_strike_47 : decode cX3_strike 47 = .ok (.return_, 1) := by decide +kernel
theorem dX3_removeAt_0 : decode cX3_removeAt 0 = .ok (.iload_n 1, 1) := by decide +kernel
theorem dX3_removeAt_1 : decode cX3_removeAt 1 = .ok (.ifCond .lt 11, 3) := by decide +kernel
theorem dX3_removeAt_4 : decode cX3_removeAt 4 = .ok (.iload_n 1, 1) := by decide +kernel
theorem dX3_removeAt_5 : decode cX3_removeAt 5 = .ok (.aload_n 0, 1) := by decide +kernel
theorem dX3_removeAt_6 : decode cX3_removeAt 6 = .ok (.getfield 26, 3) := by decide +kernel
theorem dX3_removeAt_9 : decode cX3_removeAt 9 = .ok (.if_icmp .lt 4, 3) := by decide +kernel
theorem dX3_removeAt_12 : decode cX3_removeAt 12 = .ok (.return_, 1) := by decide +kernel
theorem dX3_removeAt_13 : decode cX3_removeAt 13 = .ok (.iload_n 1, 1) := by decide +kernel
theorem dX3_removeAt_14 : decode cX3_removeAt 14 = .ok (.istore_n 2, 1) := by decide +kernel
theorem dX3_removeAt_15 : decode cX3_removeAt 15 = .ok (.iload_n 2, 1) := by decide +kernel
theorem dX3_removeAt_16 : decode cX3_removeAt 16 = .ok (.iconst 1, 1) := by decide +kernel
theorem dX3_removeAt_17 : decode cX3_removeAt 17 = .ok (.iadd, 1) := by decide +kernel
theorem dX3_removeAt_18 : decode cX3_removeAt 18 = .ok (.aload_n 0, 1) := by decide +kernel
theorem dX3_removeAt_19 : decode cX3_removeAt 19 = .ok (.getfield 26, 3) := by decide +kernel
theorem dX3_removeAt_22 : decode cX3_removeAt 22 = .ok (.if_icmp .ge 34, 3) := by decide +kernel
theorem dX3_removeAt_25 : decode cX3_removeAt 25 = .ok (.iload_n 2, 1) := by decide +kernel
theorem dX3_removeAt_26 : decode cX3_removeAt 26 = .ok (.iconst 1, 1) := by decide +kernel
theorem dX3_removeAt_27 : decode cX3_removeAt 27 = .ok (.iadd, 1) := by decide +kernel
theorem dX3_removeAt_28 : decode cX3_removeAt 28 = .ok (.aload_n 0, 1) := by decide +kernel
theorem dX3_removeAt_29 : decode cX3_removeAt 29 = .ok (.getfield 9, 3) := by decide +kernel
theorem dX3_removeAt_32 : decode cX3_removeAt 32 = .ok (.arraylength, 1) := by decide +kernel
theorem dX3_removeAt_33 : decode cX3_removeAt 33 = .ok (.if_icmp .ge 23, 3) := by decide +kernel
theorem dX3_removeAt_36 : decode cX3_removeAt 36 = .ok (.aload_n 0, 1) := by decide +kernel
theorem dX3_removeAt_37 : decode cX3_removeAt 37 = .ok (.getfield 9, 3) := by decide +kernel
theorem dX3_removeAt_40 : decode cX3_removeAt 40 = .ok (.iload_n 2, 1) := by decide +kernel
theorem dX3_removeAt_41 : decode cX3_removeAt 41 = .ok (.aload_n 0, 1) := by decide +kernel
theorem dX3_removeAt_42 : decode cX3_removeAt 42 = .ok (.getfield 9, 3) := by decide +kernel
theorem dX3_removeAt_45 : decode cX3_removeAt 45 = .ok (.iload_n 2, 1) := by decide +kernel
theorem dX3_removeAt_46 : decode cX3_removeAt 46 = .ok (.iconst 1, 1) := by decide +kernel
theorem dX3_removeAt_47 : decode cX3_removeAt 47 = .ok (.iadd, 1) := by decide +kernel
theorem dX3_removeAt_48 : decode cX3_removeAt 48 = .ok (.iaload, 1) := by decide +kernel
theorem dX3_removeAt_49 : decode cX3_removeAt 49 = .ok (.iastore, 1) := by decide +kernel
theorem dX3_removeAt_50 : decode cX3_removeAt 50 = .ok (.iinc 2 1, 3) := by decide +kernel
theorem dX3_removeAt_53 : decode cX3_removeAt 53 = .ok (.goto (-38), 3) := by decide +kernel
theorem dX3_removeAt_56 : decode cX3_removeAt 56 = .ok (.aload_n 0, 1) := by decide +kernel
theorem dX3_removeAt_57 : decode cX3_removeAt 57 = .ok (.dup, 1) := by decide +kernel
theorem dX3_removeAt_58 : decode cX3_removeAt 58 = .ok (.getfield 26, 3) := by decide +kernel
theorem dX3_removeAt_61 : decode cX3_removeAt 61 = .ok (.iconst 1, 1) := by decide +kernel
theorem dX3_removeAt_62 : decode cX3_removeAt 62 = .ok (.isub, 1) := by decide +kernel
theorem dX3_removeAt_63 : decode cX3_removeAt 63 = .ok (.putfield 26, 3) := by decide +kernel
theorem dX3_removeAt_66 : decode cX3_removeAt 66 = .ok (.return_, 1) := by decide +kernel
theorem dX3_append_0 : decode cX3_append 0 = .ok (.aload_n 0, 1) := by decide +kernel
theorem dX3_append_1 : decode cX3_append 1 = .ok (.getfield 26, 3) := by decide +kernel
theorem dX3_append_4 : decode cX3_append 4 = .ok (.aload_n 0, 1) := by decide +kernel
theorem dX3_append_5 : decode cX3_append 5 = .ok (.getfield 9, 3) := by decide +kernel
theorem dX3_append_8 : decode cX3_append 8 = .ok (.arraylength, 1) := by decide +kernel
theorem dX3_append_9 : decode cX3_append 9 = .ok (.if_icmp .lt 36, 3) := by decide +kernel
theorem dX3_append_12 : decode cX3_append 12 = .ok (.aload_n 0, 1) := by decide +kernel
theorem dX3_append_13 : decode cX3_append 13 = .ok (.getfield 9, 3) := by decide +kernel
theorem dX3_append_16 : decode cX3_append 16 = .ok (.arraylength, 1) := by decide +kernel
theorem dX3_append_17 : decode cX3_append 17 = .ok (.ldc 40, 2) := by decide +kernel
theorem dX3_append_19 : decode cX3_append 19 = .ok (.if_icmp .ge 26, 3) := by decide +kernel
theorem dX3_append_22 : decode cX3_append 22 = .ok (.aload_n 0, 1) := by decide +kernel
theorem dX3_append_23 : decode cX3_append 23 = .ok (.aload_n 0, 1) := by decide +kernel
theorem dX3_append_24 : decode cX3_append 24 = .ok (.getfield 9, 3) := by decide +kernel
theorem dX3_append_27 : decode cX3_append 27 = .ok (.iconst 2, 1) := by decide +kernel
theorem dX3_append_28 : decode cX3_append 28 = .ok (.aload_n 0, 1) := by decide +kernel
theorem dX3_append_29 : decode cX3_append 29 = .ok (.getfield 9, 3) := by decide +kernel
theorem dX3_append_32 : decode cX3_append 32 = .ok (.arraylength, 1) := by decide +kernel
theorem dX3_append_33 : decode cX3_append 33 = .ok (.imul, 1) := by decide +kernel
theorem dX3_append_34 : decode cX3_append 34 = .ok (.ldc 40, 2) := by decide +kernel
theorem dX3_append_36 : decode cX3_append 36 = .ok (.invokestatic 41, 3) := by decide +kernel
theorem dX3_append_39 : decode cX3_append 39 = .ok (.invokestatic 47, 3) := by decide +kernel
theorem dX3_append_42 : decode cX3_append 42 = .ok (.putfield 9, 3) := by decide +kernel
theorem dX3_append_45 : decode cX3_append 45 = .ok (.aload_n 0, 1) := by decide +kernel
theorem dX3_append_46 : decode cX3_append 46 = .ok (.getfield 26, 3) := by decide +kernel
theorem dX3_append_49 : decode cX3_append 49 = .ok (.ifCond .lt 35, 3) := by decide +kernel
theorem dX3_append_52 : decode cX3_append 52 = .ok (.aload_n 0, 1) := by decide +kernel
theorem dX3_append_53 : decode cX3_append 53 = .ok (.getfield 26, 3) := by decide +kernel
theorem dX3_append_56 : decode cX3_append 56 = .ok (.aload_n 0, 1) := by decide +kernel
theorem dX3_append_57 : decode cX3_append 57 = .ok (.getfield 9, 3) := by decide +kernel
theorem dX3_append_60 : decode cX3_append 60 = .ok (.arraylength, 1) := by decide +kernel
theorem dX3_append_61 : decode cX3_append 61 = .ok (.if_icmp .ge 23, 3) := by decide +kernel
theorem dX3_append_64 : decode cX3_append 64 = .ok (.aload_n 0, 1) := by decide +kernel
theorem dX3_append_65 : decode cX3_append 65 = .ok (.getfield 9, 3) := by decide +kernel
theorem dX3_append_68 : decode cX3_append 68 = .ok (.aload_n 0, 1) := by decide +kernel
theorem dX3_append_69 : decode cX3_append 69 = .ok (.getfield 26, 3) := by decide +kernel
theorem dX3_append_72 : decode cX3_append 72 = .ok (.iload_n 1, 1) := by decide +kernel
theorem dX3_append_73 : decode cX3_append 73 = .ok (.iastore, 1) := by decide +kernel
theorem dX3_append_74 : decode cX3_append 74 = .ok (.aload_n 0, 1) := by decide +kernel
theorem dX3_append_75 : decode cX3_append 75 = .ok (.dup, 1) := by decide +kernel
theorem dX3_append_76 : decode cX3_append 76 = .ok (.getfield 26, 3) := by decide +kernel
theorem dX3_append_79 : decode cX3_append 79 = .ok (.iconst 1, 1) := by decide +kernel
theorem dX3_append_80 : decode cX3_append 80 = .ok (.iadd, 1) := by decide +kernel
theorem dX3_append_81 : decode cX3_append 81 = .ok (.putfield 26, 3) := by decide +kernel
theorem dX3_append_84 : decode cX3_append 84 = .ok (.return_, 1) := by decide +kernel
theorem dX4_init_0 : decode cX4_init 0 = .ok (.aload_n 0, 1) := by decide +kernel
theorem dX4_init_1 : decode cX4_init 1 = .ok (.invokespecial 1, 3) := by decide +kernel
theorem dX4_init_4 : decode cX4_init 4 = .ok (.aload_n 0, 1) := by decide +kernel
theorem dX4_init_5 : decode cX4_init 5 = .ok (.iload_n 1, 1) := by decide +kernel
theorem dX4_init_6 : decode cX4_init 6 = .ok (.putfield 7, 3) := by decide +kernel
theorem dX4_init_9 : decode cX4_init 9 = .ok (.aload_n 0, 1) := by decide +kernel
theorem dX4_init_10 : decode cX4_init 10 = .ok (.iload_n 2, 1) := by decide +kernel
theorem dX4_init_11 : decode cX4_init 11 = .ok (.putfield 13, 3) := by decide +kernel
theorem dX4_init_14 : decode cX4_init 14 = .ok (.aload_n 0, 1) := by decide +kernel
theorem dX4_init_15 : decode cX4_init 15 = .ok (.iload_n 3, 1) := by decide +kernel
theorem dX4_init_16 : decode cX4_init 16 = .ok (.putfield 16, 3) := by decide +kernel
theorem dX4_init_19 : decode cX4_init 19 = .ok (.aload_n 0, 1) := by decide +kernel
theorem dX4_init_20 : decode cX4_init 20 = .ok (.iload 4, 2) := by decide +kernel
theorem dX4_init_22 : decode cX4_init 22 = .ok (.putfield 19, 3) := by decide +kernel
theorem dX4_init_25 : decode cX4_init 25 = .ok (.aload_n 0, 1) := by decide +kernel
theorem dX4_init_26 : decode cX4_init 26 = .ok (.iload 5, 2) := by decide +kernel
theorem dX4_init_28 : decode cX4_init 28 = .ok (.putfield 22, 3) := by decide +kernel
theorem dX4_init_31 : decode cX4_init 31 = .ok (.return_, 1) := by decide +kernel
theorem dX4_distanceTo_0 : decode cX4_distanceTo 0 = .ok (.bipush 10, 2) := by decide +kernel
theorem dX4_distanceTo_2 : decode cX4_distanceTo 2 = .ok (.aload_n 0, 1) := by decide +kernel
theorem dX4_distanceTo_3 : decode cX4_distanceTo 3 = .ok (.getfield 7, 3) := by decide +kernel
theorem dX4_distanceTo_6 : decode cX4_distanceTo 6 = .ok (.aload_n 1, 1) := by decide +kernel
theorem dX4_distanceTo_7 : decode cX4_distanceTo 7 = .ok (.getfield 7, 3) := by decide +kernel
theorem dX4_distanceTo_10 : decode cX4_distanceTo 10 = .ok (.isub, 1) := by decide +kernel
theorem dX4_distanceTo_11 : decode cX4_distanceTo 11 = .ok (.invokestatic 25, 3) := by decide +kernel
theorem dX4_distanceTo_14 : decode cX4_distanceTo 14 = .ok (.imul, 1) := by decide +kernel
theorem dX4_distanceTo_15 : decode cX4_distanceTo 15 = .ok (.aload_n 0, 1) := by decide +kernel
theorem dX4_distanceTo_16 : decode cX4_distanceTo 16 = .ok (.getfield 13, 3) := by decide +kernel
theorem dX4_distanceTo_19 : decode cX4_distanceTo 19 = .ok (.aload_n 1, 1) := by decide +kernel
theorem dX4_distanceTo_20 : decode cX4_distanceTo 20 = .ok (.getfield 13, 3) := by decide +kernel
theorem dX4_distanceTo_23 : decode cX4_distanceTo 23 = .ok (.isub, 1) := by decide +kernel
theorem dX4_distanceTo_24 : decode cX4_distanceTo 24 = .ok (.invokestatic 25, 3) := by decide +kernel
theorem dX4_distanceTo_27 : decode cX4_distanceTo 27 = .ok (.iadd, 1) := by decide +kernel
theorem dX4_distanceTo_28 : decode cX4_distanceTo 28 = .ok (.ireturn, 1) := by decide +kernel
theorem dX5_init_0 : decode cX5_init 0 = .ok (.aload_n 0, 1) := by decide +kernel
theorem dX5_init_1 : decode cX5_init 1 = .ok (.invokespecial 3, 3) := by decide +kernel
theorem dX5_init_4 : decode cX5_init 4 = .ok (.aload_n 0, 1) := by decide +kernel
theorem dX5_init_5 : decode cX5_init 5 = .ok (.bipush 16, 2) := by decide +kernel
theorem dX5_init_7 : decode cX5_init 7 = .ok (.anewarray 9, 3) := by decide +kernel
theorem dX5_init_10 : decode cX5_init 10 = .ok (.putfield 11, 3) := by decide +kernel
theorem dX5_init_13 : decode cX5_init 13 = .ok (.aload_n 0, 1) := by decide +kernel
theorem dX5_init_14 : decode cX5_init 14 = .ok (.bipush 15, 2) := by decide +kernel
theorem dX5_init_16 : decode cX5_init 16 = .ok (.putfield 17, 3) := by decide +kernel
theorem dX5_init_19 : decode cX5_init 19 = .ok (.return_, 1) := by decide +kernel
theorem dX5_isFull_0 : decode cX5_isFull 0 = .ok (.aload_n 0, 1) := by decide +kernel
theorem dX5_isFull_1 : decode cX5_isFull 1 = .ok (.getfield 21, 3) := by decide +kernel
theorem dX5_isFull_4 : decode cX5_isFull 4 = .ok (.aload_n 0, 1) := by decide +kernel
theorem dX5_isFull_5 : decode cX5_isFull 5 = .ok (.getfield 11, 3) := by decide +kernel
theorem dX5_isFull_8 : decode cX5_isFull 8 = .ok (.arraylength, 1) := by decide +kernel
theorem dX5_isFull_9 : decode cX5_isFull 9 = .ok (.if_icmp .lt 7, 3) := by decide +kernel
theorem dX5_isFull_12 : decode cX5_isFull 12 = .ok (.iconst 1, 1) := by decide +kernel
theorem dX5_isFull_13 : decode cX5_isFull 13 = .ok (.goto 4, 3) := by decide +kernel
theorem dX5_isFull_16 : decode cX5_isFull 16 = .ok (.iconst 0, 1) := by decide +kernel
theorem dX5_isFull_17 : decode cX5_isFull 17 = .ok (.ireturn, 1) := by decide +kernel
theorem dX5_hang_0 : decode cX5_hang 0 = .ok (.aload_n 0, 1) := by decide +kernel
theorem dX5_hang_1 : decode cX5_hang 1 = .ok (.getfield 21, 3) := by decide +kernel
theorem dX5_hang_4 : decode cX5_hang 4 = .ok (.aload_n 0, 1) := by decide +kernel
theorem dX5_hang_5 : decode cX5_hang 5 = .ok (.getfield 11, 3) := by decide +kernel
theorem dX5_hang_8 : decode cX5_hang 8 = .ok (.arraylength, 1) := by decide +kernel
theorem dX5_hang_9 : decode cX5_hang 9 = .ok (.if_icmp .lt 5, 3) := by decide +kernel
theorem dX5_hang_12 : decode cX5_hang 12 = .ok (.iconst (-1), 1) := by decide +kernel
theorem dX5_hang_13 : decode cX5_hang 13 = .ok (.ireturn, 1) := by decide +kernel
theorem dX5_hang_14 : decode cX5_hang 14 = .ok (.aload_n 0, 1) := by decide +kernel
theorem dX5_hang_15 : decode cX5_hang 15 = .ok (.getfield 11, 3) := by decide +kernel
theorem dX5_hang_18 : decode cX5_hang 18 = .ok (.aload_n 0, 1) := by decide +kernel
theorem dX5_hang_19 : decode cX5_hang 19 = .ok (.getfield 21, 3) := by decide +kernel
theorem dX5_hang_22 : decode cX5_hang 22 = .ok (.aload_n 1, 1) := by decide +kernel
theorem dX5_hang_23 : decode cX5_hang 23 = .ok (.aastore, 1) := by decide +kernel
theorem dX5_hang_24 : decode cX5_hang 24 = .ok (.aload_n 0, 1) := by decide +kernel
theorem dX5_hang_25 : decode cX5_hang 25 = .ok (.dup, 1) := by decide +kernel
theorem dX5_hang_26 : decode cX5_hang 26 = .ok (.getfield 21, 3) := by decide +kernel
theorem dX5_hang_29 : decode cX5_hang 29 = .ok (.iconst 1, 1) := by decide +kernel
theorem dX5_hang_30 : decode cX5_hang 30 = .ok (.iadd, 1) := by decide +kernel
theorem dX5_hang_31 : decode cX5_hang 31 = .ok (.putfield 21, 3) := by decide +kernel
theorem dX5_hang_34 : decode cX5_hang 34 = .ok (.aload_n 0, 1) := by decide +kernel
theorem dX5_hang_35 : decode cX5_hang 35 = .ok (.getfield 21, 3) := by decide +kernel
theorem dX5_hang_38 : decode cX5_hang 38 = .ok (.iconst 1, 1) := by decide +kernel
theorem dX5_hang_39 : decode cX5_hang 39 = .ok (.isub, 1) := by decide +kernel
theorem dX5_hang_40 : decode cX5_hang 40 = .ok (.ireturn, 1) := by decide +kernel
theorem dX5_lampAt_0 : decode cX5_lampAt 0 = .ok (.iload_n 1, 1) := by decide +kernel
theorem dX5_lampAt_1 : decode cX5_lampAt 1 = .ok (.ifCond .lt 21, 3) := by decide +kernel
theorem dX5_lampAt_4 : decode cX5_lampAt 4 = .ok (.iload_n 1, 1) := by decide +kernel
theorem dX5_lampAt_5 : decode cX5_lampAt 5 = .ok (.aload_n 0, 1) := by decide +kernel
theorem dX5_lampAt_6 : decode cX5_lampAt 6 = .ok (.getfield 11, 3) := by decide +kernel
theorem dX5_lampAt_9 : decode cX5_lampAt 9 = .ok (.arraylength, 1) := by decide +kernel
theorem dX5_lampAt_10 : decode cX5_lampAt 10 = .ok (.if_icmp .ge 12, 3) := by decide +kernel
theorem dX5_lampAt_13 : decode cX5_lampAt 13 = .ok (.aload_n 0, 1) := by decide +kernel
theorem dX5_lampAt_14 : decode cX5_lampAt 14 = .ok (.getfield 11, 3) := by decide +kernel
theorem dX5_lampAt_17 : decode cX5_lampAt 17 = .ok (.iload_n 1, 1) := by decide +kernel
theorem dX5_lampAt_18 : decode cX5_lampAt 18 = .ok (.aaload, 1) := by decide +kernel
theorem dX5_lampAt_19 : decode cX5_lampAt 19 = .ok (.goto 4, 3) := by decide +kernel
theorem dX5_lampAt_22 : decode cX5_lampAt 22 = .ok (.aconst_null, 1) := by decide +kernel
theorem dX5_lampAt_23 : decode cX5_lampAt 23 = .ok (.areturn, 1) := by decide +kernel
theorem dX5_isUsable_0 : decode cX5_isUsable 0 = .ok (.aload_n 1, 1) := by decide +kernel
theorem dX5_isUsable_1 : decode cX5_isUsable 1 = .ok (.ifnull 29, 3) := by decide +kernel
theorem dX5_isUsable_4 : decode cX5_isUsable 4 = .ok (.aload_n 1, 1) := by decide +kernel
theorem dX5_isUsable_5 : decode cX5_isUsable 5 = .ok (.getfield 24, 3) := by decide +kernel
theorem dX5_isUsable_8 : decode cX5_isUsable 8 = .ok (.ifCond .ne 22, 3) := by decide +kernel
theorem dX5_isUsable_11 : decode cX5_isUsable 11 = .ok (.aload_n 0, 1) := by decide +kernel
theorem dX5_isUsable_12 : decode cX5_isUsable 12 = .ok (.getfield 17, 3) := by decide +kernel
theorem dX5_isUsable_15 : decode cX5_isUsable 15 = .ok (.aload_n 1, 1) := by decide +kernel
theorem dX5_isUsable_16 : decode cX5_isUsable 16 = .ok (.getfield 28, 3) := by decide +kernel
theorem dX5_isUsable_19 : decode cX5_isUsable 19 = .ok (.ishr, 1) := by decide +kernel
theorem dX5_isUsable_20 : decode cX5_isUsable 20 = .ok (.iconst 1, 1) := by decide +kernel
theorem dX5_isUsable_21 : decode cX5_isUsable 21 = .ok (.iand, 1) := by decide +kernel
theorem dX5_isUsable_22 : decode cX5_isUsable 22 = .ok (.iconst 1, 1) := by decide +kernel
theorem dX5_isUsable_23 : decode cX5_isUsable 23 = .ok (.if_icmp .ne 7, 3) := by decide +kernel
theorem dX5_isUsable_26 : decode cX5_isUsable 26 = .ok (.iconst 1, 1) := by decide +kernel
theorem dX5_isUsable_27 : decode cX5_isUsable 27 = .ok (.goto 4, 3) := by decide +kernel
theorem dX5_isUsable_30 : decode cX5_isUsable 30 = .ok (.iconst 0, 1) := by decide +kernel
theorem dX5_isUsable_31 : decode cX5_isUsable 31 = .ok (.ireturn, 1) := by decide +kernel
theorem dX5_countUsable_0 : decode cX5_countUsable 0 = .ok (.iconst 0, 1) := by decide +kernel
theorem dX5_countUsable_1 : decode cX5_countUsable 1 = .ok (.istore_n 1, 1) := by decide +kernel
theorem dX5_countUsable_2 : decode cX5_countUsable 2 = .ok (.iconst 0, 1) := by decide +kernel
theorem dX5_countUsable_3 : decode cX5_countUsable 3 = .ok (.istore_n 2, 1) := by decide +kernel
theorem dX5_countUsable_4 : decode cX5_countUsable 4 = .ok (.iload_n 2, 1) := by decide +kernel
theorem dX5_countUsable_5 : decode cX5_countUsable 5 = .ok (.aload_n 0, 1) := by decide +kernel
theorem dX5_countUsable_6 : decode cX5_countUsable 6 = .ok (.getfield 11, 3) := by decide +kernel
theorem dX5_countUsable_9 : decode cX5_countUsable 9 = .ok (.arraylength, 1) := by decide +kernel
theorem dX5_countUsable_10 : decode cX5_countUsable 10 = .ok (.if_icmp .ge 25, 3) := by decide +kernel
theorem dX5_countUsable_13 : decode cX5_countUsable 13 = .ok (.aload_n 0, 1) := by decide +kernel
theorem dX5_countUsable_14 : decode cX5_countUsable 14 = .ok (.aload_n 0, 1) := by decide +kernel
theorem dX5_countUsable_15 : decode cX5_countUsable 15 = .ok (.getfield 11, 3) := by decide +kernel
theorem dX5_countUsable_18 : decode cX5_countUsable 18 = .ok (.iload_n 2, 1) := by decide +kernel
theorem dX5_countUsable_19 : decode cX5_countUsable 19 = .ok (.aaload, 1) := by decide +kernel
theorem dX5_countUsable_20 : decode cX5_countUsable 20 = .ok (.invokevirtual 31, 3) := by decide +kernel
theorem dX5_countUsable_23 : decode cX5_countUsable 23 = .ok (.ifCond .eq 6, 3) := by decide +kernel
theorem dX5_countUsable_26 : decode cX5_countUsable 26 = .ok (.iinc 1 1, 3) := by decide +kernel
theorem dX5_countUsable_29 : decode cX5_countUsable 29 = .ok (.iinc 2 1, 3) := by decide +kernel
theorem dX5_countUsable_32 : decode cX5_countUsable 32 = .ok (.goto (-28), 3) := by decide +kernel
theorem dX5_countUsable_35 : decode cX5_countUsable 35 = .ok (.iload_n 1, 1) := by decide +kernel
theorem dX5_countUsable_36 : decode cX5_countUsable 36 = .ok (.ireturn, 1) := by decide +kernel
theorem dX5_nearestSpare_0 : decode cX5_nearestSpare 0 = .ok (.iconst (-1), 1) := by decide +kernel
theorem dX5_nearestSpare_1 : decode cX5_nearestSpare 1 = .ok (.istore_n 3, 1) := by decide +kernel
theorem dX5_nearestSpare_2 : decode cX5_nearestSpare 2 = .ok (.iconst 0, 1) := by decide +kernel
theorem dX5_nearestSpare_3 : decode cX5_nearestSpare 3 = .ok (.istore 4, 2) := by decide +kernel
theorem dX5_nearestSpare_5 : decode cX5_nearestSpare 5 = .ok (.iconst 0, 1) := by decide +kernel
theorem dX5_nearestSpare_6 : decode cX5_nearestSpare 6 = .ok (.istore 5, 2) := by decide +kernel
theorem dX5_nearestSpare_8 : decode cX5_nearestSpare 8 = .ok (.iload 5, 2) := by decide +kernel
theorem dX5_nearestSpare_10 : decode cX5_nearestSpare 10 = .ok (.aload_n 0, 1) := by decide +kernel
theorem dX5_nearestSpare_11 : decode cX5_nearestSpare 11 = .ok (.getfield 11, 3) := by decide +kernel
theorem dX5_nearestSpare_14 : decode cX5_nearestSpare 14 = .ok (.arraylength, 1) := by decide +kernel
theorem dX5_nearestSpare_15 : decode cX5_nearestSpare 15 = .ok (.if_icmp .ge 83, 3) := by decide +kernel
theorem dX5_nearestSpare_18 : decode cX5_nearestSpare 18 = .ok (.aload_n 0, 1) := by decide +kernel
theorem dX5_nearestSpare_19 : decode cX5_nearestSpare 19 = .ok (.getfield 11, 3) := by decide +kernel
theorem dX5_nearestSpare_22 : decode cX5_nearestSpare 22 = .ok (.iload 5, 2) := by decide +kernel
theorem dX5_nearestSpare_24 : decode cX5_nearestSpare 24 = .ok (.aaload, 1) := by decide +kernel
theorem dX5_nearestSpare_25 : decode cX5_nearestSpare 25 = .ok (.astore 6, 2) := by decide +kernel
theorem dX5_nearestSpare_27 : decode cX5_nearestSpare 27 = .ok (.aload 6, 2) := by decide +kernel
theorem dX5_nearestSpare_29 : decode cX5_nearestSpare 29 = .ok (.ifnull 63, 3) := by decide +kernel
theorem dX5_nearestSpare_32 : decode cX5_nearestSpare 32 = .ok (.aload_n 0, 1) := by decide +kernel
theorem dX5_nearestSpare_33 : decode cX5_nearestSpare 33 = .ok (.aload 6, 2) := by decide +kernel
theorem dX5_nearestSpare_35 : decode cX5_nearestSpare 35 = .ok (.invokevirtual 31, 3) := by decide +kernel
theorem dX5_nearestSpare_38 : decode cX5_nearestSpare 38 = .ok (.ifCond .eq 54, 3) := by decide +kernel
theorem dX5_nearestSpare_41 : decode cX5_nearestSpare 41 = .ok (.aload 6, 2) := by decide +kernel
theorem dX5_nearestSpare_43 : decode cX5_nearestSpare 43 = .ok (.getfield 35, 3) := by decide +kernel
theorem dX5_nearestSpare_46 : decode cX5_nearestSpare 46 = .ok (.aload_n 1, 1) := by decide +kernel
theorem dX5_nearestSpare_47 : decode cX5_nearestSpare 47 = .ok (.getfield 35, 3) := by decide +kernel
theorem dX5_nearestSpare_50 : decode cX5_nearestSpare 50 = .ok (.if_icmp .ne 42, 3) := by decide +kernel
theorem dX5_nearestSpare_53 : decode cX5_nearestSpare 53 = .ok (.aload_n 2, 1) := by decide +kernel
theorem dX5_nearestSpare_54 : decode cX5_nearestSpare 54 = .ok (.iload 5, 2) := by decide +kernel
theorem dX5_nearestSpare_56 : decode cX5_nearestSpare 56 = .ok (.invokevirtual 38, 3) := by decide +kernel
theorem dX5_nearestSpare_59 : decode cX5_nearestSpare 59 = .ok (.ifCond .ne 6, 3) := by decide +kernel
theorem dX5_nearestSpare_62 : decode cX5_nearestSpare 62 = .ok (.goto 30, 3) := by decide +kernel
theorem dX5_nearestSpare_65 : decode cX5_nearestSpare 65 = .ok (.aload_n 1, 1) := by decide +kernel
theorem dX5_nearestSpare_66 : decode cX5_nearestSpare 66 = .ok (.aload 6, 2) := by decide +kernel
theorem dX5_nearestSpare_68 : decode cX5_nearestSpare 68 = .ok (.invokevirtual 44, 3) := by decide +kernel
theorem dX5_nearestSpare_71 : decode cX5_nearestSpare 71 = .ok (.istore 7, 2) := by decide +kernel
theorem dX5_nearestSpare_73 : decode cX5_nearestSpare 73 = .ok (.iload_n 3, 1) := by decide +kernel
theorem dX5_nearestSpare_74 : decode cX5_nearestSpare 74 = .ok (.iconst (-1), 1) := by decide +kernel
theorem dX5_nearestSpare_75 : decode cX5_nearestSpare 75 = .ok (.if_icmp .eq 10, 3) := by decide +kernel
theorem dX5_nearestSpare_78 : decode cX5_nearestSpare 78 = .ok (.iload 7, 2) := by decide +kernel
theorem dX5_nearestSpare_80 : decode cX5_nearestSpare 80 = .ok (.iload 4, 2) := by decide +kernel
theorem dX5_nearestSpare_82 : decode cX5_nearestSpare 82 = .ok (.if_icmp .ge 10, 3) := by decide +kernel
theorem dX5_nearestSpare_85 : decode cX5_nearestSpare 85 = .ok (.iload 7, 2) := by decide +kernel
theorem dX5_nearestSpare_87 : decode cX5_nearestSpare 87 = .ok (.istore 4, 2) := by decide +kernel
theorem dX5_nearestSpare_89 : decode cX5_nearestSpare 89 = .ok (.iload 5, 2) := by decide +kernel
theorem dX5_nearestSpare_91 : decode cX5_nearestSpare 91 = .ok (.istore_n 3, 1) := by decide +kernel
theorem dX5_nearestSpare_92 : decode cX5_nearestSpare 92 = .ok (.iinc 5 1, 3) := by decide +kernel
theorem dX5_nearestSpare_95 : decode cX5_nearestSpare 95 = .ok (.goto (-87), 3) := by decide +kernel
theorem dX5_nearestSpare_98 : decode cX5_nearestSpare 98 = .ok (.iload_n 3, 1) := by decide +kernel
theorem dX5_nearestSpare_99 : decode cX5_nearestSpare 99 = .ok (.ireturn, 1) := by decide +kernel
theorem dX6_init_0 : decode cX6_init 0 = .ok (.aload_n 0, 1) := by decide +kernel
theorem dX6_init_1 : decode cX6_init 1 = .ok (.invokespecial 3, 3) := by decide +kernel
theorem dX6_init_4 : decode cX6_init 4 = .ok (.aload_n 0, 1) := by decide +kernel
theorem dX6_init_5 : decode cX6_init 5 = .ok (.sipush 512, 3) := by decide +kernel
theorem dX6_init_8 : decode cX6_init 8 = .ok (.anewarray 9, 3) := by decide +kernel
theorem dX6_init_11 : decode cX6_init 11 = .ok (.putfield 11, 3) := by decide +kernel
theorem dX6_init_14 : decode cX6_init 14 = .ok (.aload_n 0, 1) := by decide +kernel
theorem dX6_init_15 : decode cX6_init 15 = .ok (.sipush 512, 3) := by decide +kernel
theorem dX6_init_18 : decode cX6_init 18 = .ok (.newarray .int, 2) := by decide +kernel
theorem dX6_init_20 : decode cX6_init 20 = .ok (.putfield 17, 3) := by decide +kernel
theorem dX6_init_23 : decode cX6_init 23 = .ok (.aload_n 0, 1) := by decide +kernel
theorem dX6_init_24 : decode cX6_init 24 = .ok (.sipush 512, 3) := by decide +kernel
theorem dX6_init_27 : decode cX6_init 27 = .ok (.anewarray 9, 3) := by decide +kernel
theorem dX6_init_30 : decode cX6_init 30 = .ok (.putfield 21, 3) := by decide +kernel
theorem dX6_init_33 : decode cX6_init 33 = .ok (.return_, 1) := by decide +kernel
theorem dX6_note_0 : decode cX6_note 0 = .ok (.aload_n 0, 1) := by decide +kernel
theorem dX6_note_1 : decode cX6_note 1 = .ok (.getfield 24, 3) := by decide +kernel
theorem dX6_note_4 : decode cX6_note 4 = .ok (.aload_n 0, 1) := by decide +kernel
theorem dX6_note_5 : decode cX6_note 5 = .ok (.getfield 11, 3) := by decide +kernel
theorem dX6_note_8 : decode cX6_note 8 = .ok (.arraylength, 1) := by decide +kernel
theorem dX6_note_9 : decode cX6_note 9 = .ok (.if_icmp .ge 45, 3) := by decide +kernel
theorem dX6_note_12 : decode cX6_note 12 = .ok (.aload_n 0, 1) := by decide +kernel
theorem dX6_note_13 : decode cX6_note 13 = .ok (.getfield 24, 3) := by decide +kernel
theorem dX6_note_16 : decode cX6_note 16 = .ok (.aload_n 0, 1) := by decide +kernel
theorem dX6_note_17 : decode cX6_note 17 = .ok (.getfield 17, 3) := by decide +kernel
theorem dX6_note_20 : decode cX6_note 20 = .ok (.arraylength, 1) := by decide +kernel
theorem dX6_note_21 : decode cX6_note 21 = .ok (.if_icmp .ge 33, 3) := by decide +kernel
theorem dX6_note_24 : decode cX6_note 24 = .ok (.aload_n 0, 1) := by decide +kernel
theorem dX6_note_25 : decode cX6_note 25 = .ok (.getfield 11, 3) := by decide +kernel
theorem dX6_note_28 : decode cX6_note 28 = .ok (.aload_n 0, 1) := by decide +kernel
theorem dX6_note_29 : decode cX6_note 29 = .ok (.getfield 24, 3) := by decide +kernel
theorem dX6_note_32 : decode cX6_note 32 = .ok (.aload_n 1, 1) := by decide +kernel
theorem dX6_note_33 : decode cX6_note 33 = .ok (.aastore, 1) := by decide +kernel
theorem dX6_note_34 : decode cX6_note 34 = .ok (.aload_n 0, 1) := by decide +kernel
theorem dX6_note_35 : decode cX6_note 35 = .ok (.getfield 17, 3) := by decide +kernel
theorem dX6_note_38 : decode cX6_note 38 = .ok (.aload_n 0, 1) := by decide +kernel
theorem dX6_note_39 : decode cX6_note 39 = .ok (.getfield 24, 3) := by decide +kernel
theorem dX6_note_42 : decode cX6_note 42 = .ok (.iload_n 2, 1) := by decide +kernel
theorem dX6_note_43 : decode cX6_note 43 = .ok (.iastore, 1) := by decide +kernel
theorem dX6_note_44 : decode cX6_note 44 = .ok (.aload_n 0, 1) := by decide +kernel
theorem dX6_note_45 : decode cX6_note 45 = .ok (.dup, 1) := by decide +kernel
theorem dX6_note_46 : decode cX6_note 46 = .ok (.getfield 24, 3) := by decide +kernel
theorem dX6_note_49 : decode cX6_note 49 = .ok (.iconst 1, 1) := by decide +kernel
theorem dX6_note_50 : decode cX6_note 50 = .ok (.iadd, 1) := by decide +kernel
theorem dX6_note_51 : decode cX6_note 51 = .ok (.putfield 24, 3) := by decide +kernel
theorem dX6_note_54 : decode cX6_note 54 = .ok (.return_, 1) := by decide +kernel
theorem dX6_takeDue_0 : decode cX6_takeDue 0 = .ok (.iconst 0, 1) := by decide +kernel
theorem dX6_takeDue_1 : decode cX6_takeDue 1 = .ok (.istore_n 2, 1) := by decide +kernel
theorem dX6_takeDue_2 : decode cX6_takeDue 2 = .ok (.aload_n 0, 1) := by decide +kernel
theorem dX6_takeDue_3 : decode cX6_takeDue 3 = .ok (.iconst 0, 1) := by decide +kernel
theorem dX6_takeDue_4 : decode cX6_takeDue 4 = .ok (.putfield 28, 3) := by decide +kernel
theorem dX6_takeDue_7 : decode cX6_takeDue 7 = .ok (.iconst 0, 1) := by decide +kernel
theorem dX6_takeDue_8 : decode cX6_takeDue 8 = .ok (.istore_n 3, 1) := by decide +kernel
theorem dX6_takeDue_9 : decode cX6_takeDue 9 = .ok (.iload_n 3, 1) := by decide +kernel
theorem dX6_takeDue_10 : decode cX6_takeDue 10 = .ok (.aload_n 0, 1) := by decide +kernel
theorem dX6_takeDue_11 : decode cX6_takeDue 11 = .ok (.getfield 24, 3) := by decide +kernel
theorem dX6_takeDue_14 : decode cX6_takeDue 14 = .ok (.if_icmp .ge 104, 3) := by decide +kernel
theorem dX6_takeDue_17 : decode cX6_takeDue 17 = .ok (.iload_n 3, 1) := by decide +kernel
theorem dX6_takeDue_18 : decode cX6_takeDue 18 = .ok (.aload_n 0, 1) := by decide +kernel
theorem dX6_takeDue_19 : decode cX6_takeDue 19 = .ok (.getfield 11, 3) := by decide +kernel
theorem dX6_takeDue_22 : decode cX6_takeDue 22 = .ok (.arraylength, 1) := by decide +kernel
theorem dX6_takeDue_23 : decode cX6_takeDue 23 = .ok (.if_icmp .ge 95, 3) := by decide +kernel
theorem dX6_takeDue_26 : decode cX6_takeDue 26 = .ok (.iload_n 3, 1) := by decide +kernel
theorem dX6_takeDue_27 : decode cX6_takeDue 27 = .ok (.aload_n 0, 1) := by decide +kernel
theorem dX6_takeDue_28 : decode cX6_takeDue 28 = .ok (.getfield 17, 3) := by decide +kernel
theorem dX6_takeDue_31 : decode cX6_takeDue 31 = .ok (.arraylength, 1) := by decide +kernel
theorem dX6_takeDue_32 : decode cX6_takeDue 32 = .ok (.if_icmp .ge 86, 3) := by decide +kernel
theorem dX6_takeDue_35 : decode cX6_takeDue 35 = .ok (.aload_n 0, 1) := by decide +kernel
theorem dX6_takeDue_36 : decode cX6_takeDue 36 = .ok (.getfield 17, 3) := by decide +kernel
theorem dX6_takeDue_39 : decode cX6_takeDue 39 = .ok (.iload_n 3, 1) := by decide +kernel
theorem dX6_takeDue_40 : decode cX6_takeDue 40 = .ok (.iaload, 1) := by decide +kernel
theorem dX6_takeDue_41 : decode cX6_takeDue 41 = .ok (.iload_n 1, 1) := by decide +kernel
theorem dX6_takeDue_42 : decode cX6_takeDue 42 = .ok (.if_icmp .eq 33, 3) := by decide +kernel
theorem dX6_takeDue_45 : decode cX6_takeDue 45 = .ok (.aload_n 0, 1) := by decide +kernel
theorem dX6_takeDue_46 : decode cX6_takeDue 46 = .ok (.getfield 11, 3) := by decide +kernel
theorem dX6_takeDue_49 : decode cX6_takeDue 49 = .ok (.iload_n 2, 1) := by decide +kernel
theorem dX6_takeDue_50 : decode cX6_takeDue 50 = .ok (.aload_n 0, 1) := by decide +kernel
theorem dX6_takeDue_51 : decode cX6_takeDue 51 = .ok (.getfield 11, 3) := by decide +kernel
theorem dX6_takeDue_54 : decode cX6_takeDue 54 = .ok (.iload_n 3, 1) := by decide +kernel
theorem dX6_takeDue_55 : decode cX6_takeDue 55 = .ok (.aaload, 1) := by decide +kernel
theorem dX6_takeDue_56 : decode cX6_takeDue 56 = .ok (.aastore, 1) := by decide +kernel
theorem dX6_takeDue_57 : decode cX6_takeDue 57 = .ok (.aload_n 0, 1) := by decide +kernel
theorem dX6_takeDue_58 : decode cX6_takeDue 58 = .ok (.getfield 17, 3) := by decide +kernel
theorem dX6_takeDue_61 : decode cX6_takeDue 61 = .ok (.iload_n 2, 1) := by decide +kernel
theorem dX6_takeDue_62 : decode cX6_takeDue 62 = .ok (.aload_n 0, 1) := by decide +kernel
theorem dX6_takeDue_63 : decode cX6_takeDue 63 = .ok (.getfield 17, 3) := by decide +kernel
theorem dX6_takeDue_66 : decode cX6_takeDue 66 = .ok (.iload_n 3, 1) := by decide +kernel
theorem dX6_takeDue_67 : decode cX6_takeDue 67 = .ok (.iaload, 1) := by decide +kernel
theorem dX6_takeDue_68 : decode cX6_takeDue 68 = .ok (.iastore, 1) := by decide +kernel
theorem dX6_takeDue_69 : decode cX6_takeDue 69 = .ok (.iinc 2 1, 3) := by decide +kernel
theorem dX6_takeDue_72 : decode cX6_takeDue 72 = .ok (.goto 40, 3) := by decide +kernel
theorem dX6_takeDue_75 : decode cX6_takeDue 75 = .ok (.aload_n 0, 1) := by decide +kernel
theorem dX6_takeDue_76 : decode cX6_takeDue 76 = .ok (.getfield 28, 3) := by decide +kernel
theorem dX6_takeDue_79 : decode cX6_takeDue 79 = .ok (.aload_n 0, 1) := by decide +kernel
theorem dX6_takeDue_80 : decode cX6_takeDue 80 = .ok (.getfield 21, 3) := by decide +kernel
theorem dX6_takeDue_83 : decode cX6_takeDue 83 = .ok (.arraylength, 1) := by decide +kernel
theorem dX6_takeDue_84 : decode cX6_takeDue 84 = .ok (.if_icmp .ge 28, 3) := by decide +kernel
theorem dX6_takeDue_87 : decode cX6_takeDue 87 = .ok (.aload_n 0, 1) := by decide +kernel
theorem dX6_takeDue_88 : decode cX6_takeDue 88 = .ok (.getfield 21, 3) := by decide +kernel
theorem dX6_takeDue_91 : decode cX6_takeDue 91 = .ok (.aload_n 0, 1) := by decide +kernel
theorem dX6_takeDue_92 : decode cX6_takeDue 92 = .ok (.getfield 28, 3) := by decide +kernel
theorem dX6_takeDue_95 : decode cX6_takeDue 95 = .ok (.aload_n 0, 1) := by decide +kernel
theorem dX6_takeDue_96 : decode cX6_takeDue 96 = .ok (.getfield 11, 3) := by decide +kernel
theorem dX6_takeDue_99 : decode cX6_takeDue 99 = .ok (.iload_n 3, 1) := by decide +kernel
theorem dX6_takeDue_100 : decode cX6_takeDue 100 = .ok (.aaload, 1) := by decide +kernel
theorem dX6_takeDue_101 : decode cX6_takeDue 101 = .ok (.aastore, 1) := by decide +kernel
theorem dX6_takeDue_102 : decode cX6_takeDue 102 = .ok (.aload_n 0, 1) := by decide +kernel
theorem dX6_takeDue_103 : decode cX6_takeDue 103 = .ok (.dup, 1) := by decide +kernel
theorem dX6_takeDue_104 : decode cX6_takeDue 104 = .ok (.getfield 28, 3) := by decide +kernel
theorem dX6_takeDue_107 : decode cX6_takeDue 107 = .ok (.iconst 1, 1) := by decide +kernel
theorem dX6_takeDue_108 : decode cX6_takeDue 108 = .ok (.iadd, 1) := by decide +kernel
theorem dX6_takeDue_109 : decode cX6_takeDue 109 = .ok (.putfield 28, 3) := by decide +kernel
theorem dX6_takeDue_112 : decode cX6_takeDue 112 = .ok (.iinc 3 1, 3) := by decide +kernel
theorem dX6_takeDue_115 : decode cX6_takeDue 115 = .ok (.goto (-106), 3) := by decide +kernel
theorem dX6_takeDue_118 : decode cX6_takeDue 118 = .ok (.aload_n 0, 1) := by decide +kernel
theorem dX6_takeDue_119 : decode cX6_takeDue 119 = .ok (.iload_n 2, 1) := by decide +kernel
theorem dX6_takeDue_120 : decode cX6_takeDue 120 = .ok (.putfield 24, 3) := by decide +kernel
theorem dX6_takeDue_123 : decode cX6_takeDue 123 = .ok (.return_, 1) := by decide +kernel
theorem dX6_readyAt_0 : decode cX6_readyAt 0 = .ok (.iload_n 1, 1) := by decide +kernel
theorem dX6_readyAt_1 : decode cX6_readyAt 1 = .ok (.ifCond .lt 29, 3) := by decide +kernel
theorem dX6_readyAt_4 : decode cX6_readyAt 4 = .ok (.iload_n 1, 1) := by decide +kernel
theorem dX6_readyAt_5 : decode cX6_readyAt 5 = .ok (.aload_n 0, 1) := by decide +kernel
theorem dX6_readyAt_6 : decode cX6_readyAt 6 = .ok (.getfield 28, 3) := by decide +kernel
theorem dX6_readyAt_9 : decode cX6_readyAt 9 = .ok (.if_icmp .ge 21, 3) := by decide +kernel
theorem dX6_readyAt_12 : decode cX6_readyAt 12 = .ok (.iload_n 1, 1) := by decide +kernel
theorem dX6_readyAt_13 : decode cX6_readyAt 13 = .ok (.aload_n 0, 1) := by decide +kernel
theorem dX6_readyAt_14 : decode cX6_readyAt 14 = .ok (.getfield 21, 3) := by decide +kernel
theorem dX6_readyAt_17 : decode cX6_readyAt 17 = .ok (.arraylength, 1) := by decide +kernel
theorem dX6_readyAt_18 : decode cX6_readyAt 18 = .ok (.if_icmp .ge 12, 3) := by decide +kernel
theorem dX6_readyAt_21 : decode cX6_readyAt 21 = .ok (.aload_n 0, 1) := by decide +kernel
theorem dX6_readyAt_22 : decode cX6_readyAt 22 = .ok (.getfield 21, 3) := by decide +kernel
theorem dX6_readyAt_25 : decode cX6_readyAt 25 = .ok (.iload_n 1, 1) := by decide +kernel
theorem dX6_readyAt_26 : decode cX6_readyAt 26 = .ok (.aaload, 1) := by decide +kernel
theorem dX6_readyAt_27 : decode cX6_readyAt 27 = .ok (.goto 4, 3) := by decide +kernel
theorem dX6_readyAt_30 : decode cX6_readyAt 30 = .ok (.aconst_null, 1) := by decide +kernel
theorem dX6_readyAt_31 : decode cX6_readyAt 31 = .ok (.areturn, 1) := by decide +kernel
theorem dX7_init_0 : decode cX7_init 0 = .ok (.aload_n 0, 1) := by decide +kernel
theorem dX7_init_1 : decode cX7_init 1 = .ok (.invokespecial 1, 3) := by decide +kernel
theorem dX7_init_4 : decode cX7_init 4 = .ok (.aload_n 0, 1) := by decide +kernel
theorem dX7_init_5 : decode cX7_init 5 = .ok (.new 7, 3) := by decide +kernel
theorem dX7_init_8 : decode cX7_init 8 = .ok (.dup, 1) := by decide +kernel
theorem dX7_init_9 : decode cX7_init 9 = .ok (.invokespecial 9, 3) := by decide +kernel
theorem dX7_init_12 : decode cX7_init 12 = .ok (.putfield 10, 3) := by decide +kernel
theorem dX7_init_15 : decode cX7_init 15 = .ok (.aload_n 0, 1) := by decide +kernel
theorem dX7_init_16 : decode cX7_init 16 = .ok (.bipush 12, 2) := by decide +kernel
theorem dX7_init_18 : decode cX7_init 18 = .ok (.anewarray 16, 3) := by decide +kernel
theorem dX7_init_21 : decode cX7_init 21 = .ok (.putfield 18, 3) := by decide +kernel
theorem dX7_init_24 : decode cX7_init 24 = .ok (.aload_n 0, 1) := by decide +kernel
theorem dX7_init_25 : decode cX7_init 25 = .ok (.iconst 3, 1) := by decide +kernel
theorem dX7_init_26 : decode cX7_init 26 = .ok (.newarray .int, 2) := by decide +kernel
theorem dX7_init_28 : decode cX7_init 28 = .ok (.putfield 22, 3) := by decide +kernel
theorem dX7_init_31 : decode cX7_init 31 = .ok (.aload_n 0, 1) := by decide +kernel
theorem dX7_init_32 : decode cX7_init 32 = .ok (.getfield 22, 3) := by decide +kernel
theorem dX7_init_35 : decode cX7_init 35 = .ok (.sipush 5000, 3) := by decide +kernel
theorem dX7_init_38 : decode cX7_init 38 = .ok (.invokestatic 26, 3) := by decide +kernel
theorem dX7_init_41 : decode cX7_init 41 = .ok (.aload_n 0, 1) := by decide +kernel
theorem dX7_init_42 : decode cX7_init 42 = .ok (.new 32, 3) := by decide +kernel
theorem dX7_init_45 : decode cX7_init 45 = .ok (.dup, 1) := by decide +kernel
theorem dX7_init_46 : decode cX7_init 46 = .ok (.invokespecial 34, 3) := by decide +kernel
theorem dX7_init_49 : decode cX7_init 49 = .ok (.putfield 35, 3) := by decide +kernel
theorem dX7_init_52 : decode cX7_init 52 = .ok (.aload_n 0, 1) := by decide +kernel
theorem dX7_init_53 : decode cX7_init 53 = .ok (.new 32, 3) := by decide +kernel
theorem dX7_init_56 : decode cX7_init 56 = .ok (.dup, 1) := by decide +kernel
theorem dX7_init_57 : decode cX7_init 57 = .ok (.invokespecial 34, 3) := by decide +kernel
theorem dX7_init_60 : decode cX7_init 60 = .ok (.putfield 39, 3) := by decide +kernel
theorem dX7_init_63 : decode cX7_init 63 = .ok (.aload_n 0, 1) := by decide +kernel
theorem dX7_init_64 : decode cX7_init 64 = .ok (.new 42, 3) := by decide +kernel
theorem dX7_init_67 : decode cX7_init 67 = .ok (.dup, 1) := by decide +kernel
theorem dX7_init_68 : decode cX7_init 68 = .ok (.invokespecial 44, 3) := by decide +kernel
theorem dX7_init_71 : decode cX7_init 71 = .ok (.putfield 45, 3) := by decide +kernel
theorem dX7_init_74 : decode cX7_init 74 = .ok (.aload_n 0, 1) := by decide +kernel
theorem dX7_init_75 : decode cX7_init 75 = .ok (.new 49, 3) := by decide +kernel
theorem dX7_init_78 : decode cX7_init 78 = .ok (.dup, 1) := by decide +kernel
theorem dX7_init_79 : decode cX7_init 79 = .ok (.invokespecial 51, 3) := by decide +kernel
theorem dX7_init_82 : decode cX7_init 82 = .ok (.putfield 52, 3) := by decide +kernel
theorem dX7_init_85 : decode cX7_init 85 = .ok (.return_, 1) := by decide +kernel
theorem dX7_lamp_0 : decode cX7_lamp 0 = .ok (.iload_n 1, 1) := by decide +kernel
theorem dX7_lamp_1 : decode cX7_lamp 1 = .ok (.iconst 0, 1) := by decide +kernel
theorem dX7_lamp_2 : decode cX7_lamp 2 = .ok (.iconst 3, 1) := by decide +kernel
theorem dX7_lamp_3 : decode cX7_lamp 3 = .ok (.invokestatic 56, 3) := by decide +kernel
theorem dX7_lamp_6 : decode cX7_lamp 6 = .ok (.ifCond .eq 41, 3) := by decide +kernel
theorem dX7_lamp_9 : decode cX7_lamp 9 = .ok (.iload_n 2, 1) := by decide +kernel
theorem dX7_lamp_10 : decode cX7_lamp 10 = .ok (.iconst 0, 1) := by decide +kernel
theorem dX7_lamp_11 : decode cX7_lamp 11 = .ok (.bipush 9, 2) := by decide +kernel
theorem dX7_lamp_13 : decode cX7_lamp 13 = .ok (.invokestatic 56, 3) := by decide +kernel
theorem dX7_lamp_16 : decode cX7_lamp 16 = .ok (.ifCond .eq 31, 3) := by decide +kernel
theorem dX7_lamp_19 : decode cX7_lamp 19 = .ok (.iload_n 3, 1) := by decide +kernel
theorem dX7_lamp_20 : decode cX7_lamp 20 = .ok (.invokestatic 60, 3) := by decide +kernel
theorem dX7_lamp_23 : decode cX7_lamp 23 = .ok (.ifCond .eq 24, 3) := by decide +kernel
theorem dX7_lamp_26 : decode cX7_lamp 26 = .ok (.iload 4, 2) := by decide +kernel
theorem dX7_lamp_28 : decode cX7_lamp 28 = .ok (.bipush 100, 2) := by decide +kernel
theorem dX7_lamp_30 : decode cX7_lamp 30 = .ok (.sipush 2000, 3) := by decide +kernel
theorem dX7_lamp_33 : decode cX7_lamp 33 = .ok (.invokestatic 56, 3) := by decide +kernel
theorem dX7_lamp_36 : decode cX7_lamp 36 = .ok (.ifCond .eq 11, 3) := by decide +kernel
theorem dX7_lamp_39 : decode cX7_lamp 39 = .ok (.iload 5, 2) := by decide +kernel
theorem dX7_lamp_41 : decode cX7_lamp 41 = .ok (.invokestatic 64, 3) := by decide +kernel
theorem dX7_lamp_44 : decode cX7_lamp 44 = .ok (.ifCond .ne 13, 3) := by decide +kernel
theorem dX7_lamp_47 : decode cX7_lamp 47 = .ok (.new 67, 3) := by decide +kernel
theorem dX7_lamp_50 : decode cX7_lamp 50 = .ok (.dup, 1) := by decide +kernel
theorem dX7_lamp_51 : decode cX7_lamp 51 = .ok (.ldc 69, 2) := by decide +kernel
theorem dX7_lamp_53 : decode cX7_lamp 53 = .ok (.invokespecial 71, 3) := by decide +kernel
theorem dX7_lamp_56 : decode cX7_lamp 56 = .ok (.athrow, 1) := by decide +kernel
theorem dX7_lamp_57 : decode cX7_lamp 57 = .ok (.aload_n 0, 1) := by decide +kernel
theorem dX7_lamp_58 : decode cX7_lamp 58 = .ok (.getfield 10, 3) := by decide +kernel
theorem dX7_lamp_61 : decode cX7_lamp 61 = .ok (.invokevirtual 74, 3) := by decide +kernel
theorem dX7_lamp_64 : decode cX7_lamp 64 = .ok (.ifCond .eq 13, 3) := by decide +kernel
theorem dX7_lamp_67 : decode cX7_lamp 67 = .ok (.new 78, 3) := by decide +kernel
theorem dX7_lamp_70 : decode cX7_lamp 70 = .ok (.dup, 1) := by decide +kernel
theorem dX7_lamp_71 : decode cX7_lamp 71 = .ok (.ldc 80, 2) := by decide +kernel
theorem dX7_lamp_73 : decode cX7_lamp 73 = .ok (.invokespecial 82, 3) := by decide +kernel
theorem dX7_lamp_76 : decode cX7_lamp 76 = .ok (.athrow, 1) := by decide +kernel
theorem dX7_lamp_77 : decode cX7_lamp 77 = .ok (.aload_n 0, 1) := by decide +kernel
theorem dX7_lamp_78 : decode cX7_lamp 78 = .ok (.getfield 10, 3) := by decide +kernel
theorem dX7_lamp_81 : decode cX7_lamp 81 = .ok (.new 83, 3) := by decide +kernel
theorem dX7_lamp_84 : decode cX7_lamp 84 = .ok (.dup, 1) := by decide +kernel
theorem dX7_lamp_85 : decode cX7_lamp 85 = .ok (.iload_n 1, 1) := by decide +kernel
theorem dX7_lamp_86 : decode cX7_lamp 86 = .ok (.iload_n 2, 1) := by decide +kernel
theorem dX7_lamp_87 : decode cX7_lamp 87 = .ok (.iload_n 3, 1) := by decide +kernel
theorem dX7_lamp_88 : decode cX7_lamp 88 = .ok (.iload 4, 2) := by decide +kernel
theorem dX7_lamp_90 : decode cX7_lamp 90 = .ok (.iload 5, 2) := by decide +kernel
theorem dX7_lamp_92 : decode cX7_lamp 92 = .ok (.invokespecial 85, 3) := by decide +kernel
theorem dX7_lamp_95 : decode cX7_lamp 95 = .ok (.invokevirtual 88, 3) := by decide +kernel
theorem dX7_lamp_98 : decode cX7_lamp 98 = .ok (.istore 6, 2) := by decide +kernel
theorem dX7_lamp_100 : decode cX7_lamp 100 = .ok (.aload_n 0, 1) := by decide +kernel
theorem dX7_lamp_101 : decode cX7_lamp 101 = .ok (.invokevirtual 92, 3) := by decide +kernel
theorem dX7_lamp_104 : decode cX7_lamp 104 = .ok (.iload 6, 2) := by decide +kernel
theorem dX7_lamp_106 : decode cX7_lamp 106 = .ok (.ireturn, 1) := by decide +kernel
theorem dX7_die_0 : decode cX7_die 0 = .ok (.aload_n 0, 1) := by decide +kernel
theorem dX7_die_1 : decode cX7_die 1 = .ok (.getfield 10, 3) := by decide +kernel
theorem dX7_die_4 : decode cX7_die 4 = .ok (.iload_n 1, 1) := by decide +kernel
theorem dX7_die_5 : decode cX7_die 5 = .ok (.invokevirtual 95, 3) := by decide +kernel
theorem dX7_die_8 : decode cX7_die 8 = .ok (.astore_n 2, 1) := by decide +kernel
theorem dX7_die_9 : decode cX7_die 9 = .ok (.aload_n 2, 1) := by decide +kernel
theorem dX7_die_10 : decode cX7_die 10 = .ok (.ifnonnull 13, 3) := by decide +kernel
theorem dX7_die_13 : decode cX7_die 13 = .ok (.new 99, 3) := by decide +kernel
theorem dX7_die_16 : decode cX7_die 16 = .ok (.dup, 1) := by decide +kernel
theorem dX7_die_17 : decode cX7_die 17 = .ok (.ldc 101, 2) := by decide +kernel
theorem dX7_die_19 : decode cX7_die 19 = .ok (.invokespecial 103, 3) := by decide +kernel
theorem dX7_die_22 : decode cX7_die 22 = .ok (.athrow, 1) := by decide +kernel
theorem dX7_die_23 : decode cX7_die 23 = .ok (.aload_n 2, 1) := by decide +kernel
theorem dX7_die_24 : decode cX7_die 24 = .ok (.aload_n 2, 1) := by decide +kernel
theorem dX7_die_25 : decode cX7_die 25 = .ok (.getfield 104, 3) := by decide +kernel
theorem dX7_die_28 : decode cX7_die 28 = .ok (.ifCond .ne 7, 3) := by decide +kernel
theorem dX7_die_31 : decode cX7_die 31 = .ok (.iconst 1, 1) := by decide +kernel
theorem dX7_die_32 : decode cX7_die 32 = .ok (.goto 4, 3) := by decide +kernel
theorem dX7_die_35 : decode cX7_die 35 = .ok (.iconst 0, 1) := by decide +kernel
theorem dX7_die_36 : decode cX7_die 36 = .ok (.putfield 104, 3) := by decide +kernel
theorem dX7_die_39 : decode cX7_die 39 = .ok (.aload_n 0, 1) := by decide +kernel
theorem dX7_die_40 : decode cX7_die 40 = .ok (.invokevirtual 92, 3) := by decide +kernel
theorem dX7_die_43 : decode cX7_die 43 = .ok (.aload_n 2, 1) := by decide +kernel
theorem dX7_die_44 : decode cX7_die 44 = .ok (.getfield 104, 3) := by decide +kernel
theorem dX7_die_47 : decode cX7_die 47 = .ok (.ireturn, 1) := by decide +kernel
theorem dX7_house_0 : decode cX7_house 0 = .ok (.iload_n 1, 1) := by decide +kernel
theorem dX7_house_1 : decode cX7_house 1 = .ok (.iconst 0, 1) := by decide +kernel
theorem dX7_house_2 : decode cX7_house 2 = .ok (.bipush 15, 2) := by decide +kernel
theorem dX7_house_4 : decode cX7_house 4 = .ok (.invokestatic 56, 3) := by decide +kernel
theorem dX7_house_7 : decode cX7_house 7 = .ok (.ifCond .ne 13, 3) := by decide +kernel
theorem dX7_house_10 : decode cX7_house 10 = .ok (.new 67, 3) := by decide +kernel
theorem dX7_house_13 : decode cX7_house 13 = .ok (.dup, 1) := by decide +kernel
theorem dX7_house_14 : decode cX7_house 14 = .ok (.ldc 108, 2) := by decide +kernel
theorem dX7_house_16 : decode cX7_house 16 = .ok (.invokespecial 71, 3) := by decide +kernel
theorem dX7_house_19 : decode cX7_house 19 = .ok (.athrow, 1) := by decide +kernel
theorem dX7_house_20 : decode cX7_house 20 = .ok (.aload_n 0, 1) := by decide +kernel
theorem dX7_house_21 : decode cX7_house 21 = .ok (.getfield 10, 3) := by decide +kernel
theorem dX7_house_24 : decode cX7_house 24 = .ok (.iload_n 1, 1) := by decide +kernel
theorem dX7_house_25 : decode cX7_house 25 = .ok (.putfield 110, 3) := by decide +kernel
theorem dX7_house_28 : decode cX7_house 28 = .ok (.aload_n 0, 1) := by decide +kernel
theorem dX7_house_29 : decode cX7_house 29 = .ok (.invokevirtual 92, 3) := by decide +kernel
theorem dX7_house_32 : decode cX7_house 32 = .ok (.aload_n 0, 1) := by decide +kernel
theorem dX7_house_33 : decode cX7_house 33 = .ok (.getfield 10, 3) := by decide +kernel
theorem dX7_house_36 : decode cX7_house 36 = .ok (.invokevirtual 114, 3) := by decide +kernel
theorem dX7_house_39 : decode cX7_house 39 = .ok (.ireturn, 1) := by decide +kernel
theorem dX7_power_0 : decode cX7_power 0 = .ok (.iload_n 1, 1) := by decide +kernel
theorem dX7_power_1 : decode cX7_power 1 = .ok (.invokestatic 64, 3) := by decide +kernel
theorem dX7_power_4 : decode cX7_power 4 = .ok (.ifCond .ne 13, 3) := by decide +kernel
theorem dX7_power_7 : decode cX7_power 7 = .ok (.new 99, 3) := by decide +kernel
theorem dX7_power_10 : decode cX7_power 10 = .ok (.dup, 1) := by decide +kernel
theorem dX7_power_11 : decode cX7_power 11 = .ok (.ldc 118, 2) := by decide +kernel
theorem dX7_power_13 : decode cX7_power 13 = .ok (.invokespecial 103, 3) := by decide +kernel
theorem dX7_power_16 : decode cX7_power 16 = .ok (.athrow, 1) := by decide +kernel
theorem dX7_power_17 : decode cX7_power 17 = .ok (.iload_n 2, 1) := by decide +kernel
theorem dX7_power_18 : decode cX7_power 18 = .ok (.iconst 0, 1) := by decide +kernel
theorem dX7_power_19 : decode cX7_power 19 = .ok (.sipush 20000, 3) := by decide +kernel
theorem dX7_power_22 : decode cX7_power 22 = .ok (.invokestatic 56, 3) := by decide +kernel
theorem dX7_power_25 : decode cX7_power 25 = .ok (.ifCond .ne 13, 3) := by decide +kernel
theorem dX7_power_28 : decode cX7_power 28 = .ok (.new 67, 3) := by decide +kernel
theorem dX7_power_31 : decode cX7_power 31 = .ok (.dup, 1) := by decide +kernel
theorem dX7_power_32 : decode cX7_power 32 = .ok (.ldc 120, 2) := by decide +kernel
theorem dX7_power_34 : decode cX7_power 34 = .ok (.invokespecial 71, 3) := by decide +kernel
theorem dX7_power_37 : decode cX7_power 37 = .ok (.athrow, 1) := by decide +kernel
theorem dX7_power_38 : decode cX7_power 38 = .ok (.aload_n 0, 1) := by decide +kernel
theorem dX7_power_39 : decode cX7_power 39 = .ok (.getfield 22, 3) := by decide +kernel
theorem dX7_power_42 : decode cX7_power 42 = .ok (.iload_n 1, 1) := by decide +kernel
theorem dX7_power_43 : decode cX7_power 43 = .ok (.iaload, 1) := by decide +kernel
theorem dX7_power_44 : decode cX7_power 44 = .ok (.istore_n 3, 1) := by decide +kernel
theorem dX7_power_45 : decode cX7_power 45 = .ok (.aload_n 0, 1) := by decide +kernel
theorem dX7_power_46 : decode cX7_power 46 = .ok (.getfield 22, 3) := by decide +kernel
theorem dX7_power_49 : decode cX7_power 49 = .ok (.iload_n 1, 1) := by decide +kernel
theorem dX7_power_50 : decode cX7_power 50 = .ok (.iload_n 2, 1) := by decide +kernel
theorem dX7_power_51 : decode cX7_power 51 = .ok (.iastore, 1) := by decide +kernel
theorem dX7_power_52 : decode cX7_power 52 = .ok (.iload_n 3, 1) := by decide +kernel
theorem dX7_power_53 : decode cX7_power 53 = .ok (.ireturn, 1) := by decide +kernel
theorem dX7_cue_0 : decode cX7_cue 0 = .ok (.iload_n 1, 1) := by decide +kernel
theorem dX7_cue_1 : decode cX7_cue 1 = .ok (.iconst 0, 1) := by decide +kernel
theorem dX7_cue_2 : decode cX7_cue 2 = .ok (.iconst 1, 1) := by decide +kernel
theorem dX7_cue_3 : decode cX7_cue 3 = .ok (.invokestatic 56, 3) := by decide +kernel
theorem dX7_cue_6 : decode cX7_cue 6 = .ok (.ifCond .eq 23, 3) := by decide +kernel
theorem dX7_cue_9 : decode cX7_cue 9 = .ok (.iload_n 2, 1) := by decide +kernel
theorem dX7_cue_10 : decode cX7_cue 10 = .ok (.iconst 0, 1) := by decide +kernel
theorem dX7_cue_11 : decode cX7_cue 11 = .ok (.bipush 60, 2) := by decide +kernel
theorem dX7_cue_13 : decode cX7_cue 13 = .ok (.invokestatic 56, 3) := by decide +kernel
theorem dX7_cue_16 : decode cX7_cue 16 = .ok (.ifCond .eq 13, 3) := by decide +kernel
theorem dX7_cue_19 : decode cX7_cue 19 = .ok (.iload_n 3, 1) := by decide +kernel
theorem dX7_cue_20 : decode cX7_cue 20 = .ok (.iconst 0, 1) := by decide +kernel
theorem dX7_cue_21 : decode cX7_cue 21 = .ok (.bipush 60, 2) := by decide +kernel
theorem dX7_cue_23 : decode cX7_cue 23 = .ok (.invokestatic 56, 3) := by decide +kernel
theorem dX7_cue_26 : decode cX7_cue 26 = .ok (.ifCond .ne 13, 3) := by decide +kernel
theorem dX7_cue_29 : decode cX7_cue 29 = .ok (.new 67, 3) := by decide +kernel
theorem dX7_cue_32 : decode cX7_cue 32 = .ok (.dup, 1) := by decide +kernel
theorem dX7_cue_33 : decode cX7_cue 33 = .ok (.ldc 122, 2) := by decide +kernel
theorem dX7_cue_35 : decode cX7_cue 35 = .ok (.invokespecial 71, 3) := by decide +kernel
theorem dX7_cue_38 : decode cX7_cue 38 = .ok (.athrow, 1) := by decide +kernel
theorem dX7_cue_39 : decode cX7_cue 39 = .ok (.aload_n 0, 1) := by decide +kernel
theorem dX7_cue_40 : decode cX7_cue 40 = .ok (.getfield 124, 3) := by decide +kernel
theorem dX7_cue_43 : decode cX7_cue 43 = .ok (.aload_n 0, 1) := by decide +kernel
theorem dX7_cue_44 : decode cX7_cue 44 = .ok (.getfield 18, 3) := by decide +kernel
theorem dX7_cue_47 : decode cX7_cue 47 = .ok (.arraylength, 1) := by decide +kernel
theorem dX7_cue_48 : decode cX7_cue 48 = .ok (.if_icmp .lt 13, 3) := by decide +kernel
theorem dX7_cue_51 : decode cX7_cue 51 = .ok (.new 78, 3) := by decide +kernel
theorem dX7_cue_54 : decode cX7_cue 54 = .ok (.dup, 1) := by decide +kernel
theorem dX7_cue_55 : decode cX7_cue 55 = .ok (.ldc 127, 2) := by decide +kernel
theorem dX7_cue_57 : decode cX7_cue 57 = .ok (.invokespecial 82, 3) := by decide +kernel
theorem dX7_cue_60 : decode cX7_cue 60 = .ok (.athrow, 1) := by decide +kernel
theorem dX7_cue_61 : decode cX7_cue 61 = .ok (.aload_n 0, 1) := by decide +kernel
theorem dX7_cue_62 : decode cX7_cue 62 = .ok (.getfield 124, 3) := by decide +kernel
theorem dX7_cue_65 : decode cX7_cue 65 = .ok (.istore 4, 2) := by decide +kernel
theorem dX7_cue_67 : decode cX7_cue 67 = .ok (.aload_n 0, 1) := by decide +kernel
theorem dX7_cue_68 : decode cX7_cue 68 = .ok (.getfield 18, 3) := by decide +kernel
theorem dX7_cue_71 : decode cX7_cue 71 = .ok (.iload 4, 2) := by decide +kernel
theorem dX7_cue_73 : decode cX7_cue 73 = .ok (.new 16, 3) := by decide +kernel
theorem dX7_cue_76 : decode cX7_cue 76 = .ok (.dup, 1) := by decide +kernel
theorem dX7_cue_77 : decode cX7_cue 77 = .ok (.iload 4, 2) := by decide +kernel
theorem dX7_cue_79 : decode cX7_cue 79 = .ok (.iload_n 1, 1) := by decide +kernel
theorem dX7_cue_80 : decode cX7_cue 80 = .ok (.iload_n 2, 1) := by decide +kernel
theorem dX7_cue_81 : decode cX7_cue 81 = .ok (.iload_n 3, 1) := by decide +kernel
theorem dX7_cue_82 : decode cX7_cue 82 = .ok (.invokespecial 129, 3) := by decide +kernel
theorem dX7_cue_85 : decode cX7_cue 85 = .ok (.aastore, 1) := by decide +kernel
theorem dX7_cue_86 : decode cX7_cue 86 = .ok (.aload_n 0, 1) := by decide +kernel
theorem dX7_cue_87 : decode cX7_cue 87 = .ok (.dup, 1) := by decide +kernel
theorem dX7_cue_88 : decode cX7_cue 88 = .ok (.getfield 124, 3) := by decide +kernel
theorem dX7_cue_91 : decode cX7_cue 91 = .ok (.iconst 1, 1) := by decide +kernel
theorem dX7_cue_92 : decode cX7_cue 92 = .ok (.iadd, 1) := by decide +kernel
theorem dX7_cue_93 : decode cX7_cue 93 = .ok (.putfield 124, 3) := by decide +kernel
theorem dX7_cue_96 : decode cX7_cue 96 = .ok (.iload 4, 2) := by decide +kernel
theorem dX7_cue_98 : decode cX7_cue 98 = .ok (.ireturn, 1) := by decide +kernel
theorem dX7_level_0 : decode cX7_level 0 = .ok (.aload_n 0, 1) := by decide +kernel
theorem dX7_level_1 : decode cX7_level 1 = .ok (.iload_n 1, 1) := by decide +kernel
theorem dX7_level_2 : decode cX7_level 2 = .ok (.invokevirtual 132, 3) := by decide +kernel
theorem dX7_level_5 : decode cX7_level 5 = .ok (.astore 4, 2) := by decide +kernel
theorem dX7_level_7 : decode cX7_level 7 = .ok (.aload 4, 2) := by decide +kernel
theorem dX7_level_9 : decode cX7_level 9 = .ok (.ifnull 14, 3) := by decide +kernel
theorem dX7_level_12 : decode cX7_level 12 = .ok (.aload_n 0, 1) := by decide +kernel
theorem dX7_level_13 : decode cX7_level 13 = .ok (.getfield 10, 3) := by decide +kernel
theorem dX7_level_16 : decode cX7_level 16 = .ok (.iload_n 2, 1) := by decide +kernel
theorem dX7_level_17 : decode cX7_level 17 = .ok (.invokevirtual 95, 3) := by decide +kernel
theorem dX7_level_20 : decode cX7_level 20 = .ok (.ifnonnull 13, 3) := by decide +kernel
theorem dX7_level_23 : decode cX7_level 23 = .ok (.new 99, 3) := by decide +kernel
theorem dX7_level_26 : decode cX7_level 26 = .ok (.dup, 1) := by decide +kernel
theorem dX7_level_27 : decode cX7_level 27 = .ok (.ldc 136, 2) := by decide +kernel
theorem dX7_level_29 : decode cX7_level 29 = .ok (.invokespecial 103, 3) := by decide +kernel
theorem dX7_level_32 : decode cX7_level 32 = .ok (.athrow, 1) := by decide +kernel
theorem dX7_level_33 : decode cX7_level 33 = .ok (.iload_n 3, 1) := by decide +kernel
theorem dX7_level_34 : decode cX7_level 34 = .ok (.iconst 0, 1) := by decide +kernel
theorem dX7_level_35 : decode cX7_level 35 = .ok (.bipush 100, 2) := by decide +kernel
theorem dX7_level_37 : decode cX7_level 37 = .ok (.invokestatic 56, 3) := by decide +kernel
theorem dX7_level_40 : decode cX7_level 40 = .ok (.ifCond .ne 13, 3) := by decide +kernel
theorem dX7_level_43 : decode cX7_level 43 = .ok (.new 67, 3) := by decide +kernel
theorem dX7_level_46 : decode cX7_level 46 = .ok (.dup, 1) := by decide +kernel
theorem dX7_level_47 : decode cX7_level 47 = .ok (.ldc 138, 2) := by decide +kernel
theorem dX7_level_49 : decode cX7_level 49 = .ok (.invokespecial 71, 3) := by decide +kernel
theorem dX7_level_52 : decode cX7_level 52 = .ok (.athrow, 1) := by decide +kernel
theorem dX7_level_53 : decode cX7_level 53 = .ok (.aload 4, 2) := by decide +kernel
theorem dX7_level_55 : decode cX7_level 55 = .ok (.iload_n 2, 1) := by decide +kernel
theorem dX7_level_56 : decode cX7_level 56 = .ok (.iload_n 3, 1) := by decide +kernel
theorem dX7_level_57 : decode cX7_level 57 = .ok (.invokevirtual 140, 3) := by decide +kernel
theorem dX7_level_60 : decode cX7_level 60 = .ok (.istore 5, 2) := by decide +kernel
theorem dX7_level_62 : decode cX7_level 62 = .ok (.aload 4, 2) := by decide +kernel
theorem dX7_level_64 : decode cX7_level 64 = .ok (.aload_n 0, 1) := by decide +kernel
theorem dX7_level_65 : decode cX7_level 65 = .ok (.getfield 10, 3) := by decide +kernel
theorem dX7_level_68 : decode cX7_level 68 = .ok (.invokevirtual 144, 3) := by decide +kernel
theorem dX7_level_71 : decode cX7_level 71 = .ok (.iload 5, 2) := by decide +kernel
theorem dX7_level_73 : decode cX7_level 73 = .ok (.ireturn, 1) := by decide +kernel
theorem dX7_follow_0 : decode cX7_follow 0 = .ok (.aload_n 0, 1) := by decide +kernel
theorem dX7_follow_1 : decode cX7_follow 1 = .ok (.iload_n 1, 1) := by decide +kernel
theorem dX7_follow_2 : decode cX7_follow 2 = .ok (.invokevirtual 132, 3) := by decide +kernel
theorem dX7_follow_5 : decode cX7_follow 5 = .ok (.astore 4, 2) := by decide +kernel
theorem dX7_follow_7 : decode cX7_follow 7 = .ok (.aload_n 0, 1) := by decide +kernel
theorem dX7_follow_8 : decode cX7_follow 8 = .ok (.iload_n 2, 1) := by decide +kernel
theorem dX7_follow_9 : decode cX7_follow 9 = .ok (.invokevirtual 132, 3) := by decide +kernel
theorem dX7_follow_12 : decode cX7_follow 12 = .ok (.astore 5, 2) := by decide +kernel
theorem dX7_follow_14 : decode cX7_follow 14 = .ok (.aload 4, 2) := by decide +kernel
theorem dX7_follow_16 : decode cX7_follow 16 = .ok (.ifnull 13, 3) := by decide +kernel
theorem dX7_follow_19 : decode cX7_follow 19 = .ok (.aload 5, 2) := by decide +kernel
theorem dX7_follow_21 : decode cX7_follow 21 = .ok (.ifnonnull 18, 3) := by decide +kernel
theorem dX7_follow_24 : decode cX7_follow 24 = .ok (.iload_n 2, 1) := by decide +kernel
theorem dX7_follow_25 : decode cX7_follow 25 = .ok (.iconst (-1), 1) := by decide +kernel
theorem dX7_follow_26 : decode cX7_follow 26 = .ok (.if_icmp .eq 13, 3) := by decide +kernel
theorem dX7_follow_29 : decode cX7_follow 29 = .ok (.new 99, 3) := by decide +kernel
theorem dX7_follow_32 : decode cX7_follow 32 = .ok (.dup, 1) := by decide +kernel
theorem dX7_follow_33 : decode cX7_follow 33 = .ok (.ldc 148, 2) := by decide +kernel
theorem dX7_follow_35 : decode cX7_follow 35 = .ok (.invokespecial 103, 3) := by decide +kernel
theorem dX7_follow_38 : decode cX7_follow 38 = .ok (.athrow, 1) := by decide +kernel
theorem dX7_follow_39 : decode cX7_follow 39 = .ok (.iload_n 3, 1) := by decide +kernel
theorem dX7_follow_40 : decode cX7_follow 40 = .ok (.iconst 1, 1) := by decide +kernel
theorem dX7_follow_41 : decode cX7_follow 41 = .ok (.bipush 60, 2) := by decide +kernel
theorem dX7_follow_43 : decode cX7_follow 43 = .ok (.invokestatic 56, 3) := by decide +kernel
theorem dX7_follow_46 : decode cX7_follow 46 = .ok (.ifCond .ne 13, 3) := by decide +kernel
theorem dX7_follow_49 : decode cX7_follow 49 = .ok (.new 67, 3) := by decide +kernel
theorem dX7_follow_52 : decode cX7_follow 52 = .ok (.dup, 1) := by decide +kernel
theorem dX7_follow_53 : decode cX7_follow 53 = .ok (.ldc 150, 2) := by decide +kernel
theorem dX7_follow_55 : decode cX7_follow 55 = .ok (.invokespecial 71, 3) := by decide +kernel
theorem dX7_follow_58 : decode cX7_follow 58 = .ok (.athrow, 1) := by decide +kernel
theorem dX7_follow_59 : decode cX7_follow 59 = .ok (.aload 4, 2) := by decide +kernel
theorem dX7_follow_61 : decode cX7_follow 61 = .ok (.getfield 152, 3) := by decide +kernel
theorem dX7_follow_64 : decode cX7_follow 64 = .ok (.astore 6, 2) := by decide +kernel
theorem dX7_follow_66 : decode cX7_follow 66 = .ok (.aload 4, 2) := by decide +kernel
theorem dX7_follow_68 : decode cX7_follow 68 = .ok (.aload 5, 2) := by decide +kernel
theorem dX7_follow_70 : decode cX7_follow 70 = .ok (.putfield 152, 3) := by decide +kernel
theorem dX7_follow_73 : decode cX7_follow 73 = .ok (.aload 4, 2) := by decide +kernel
theorem dX7_follow_75 : decode cX7_follow 75 = .ok (.iload_n 3, 1) := by decide +kernel
theorem dX7_follow_76 : decode cX7_follow 76 = .ok (.putfield 156, 3) := by decide +kernel
theorem dX7_follow_79 : decode cX7_follow 79 = .ok (.aload 6, 2) := by decide +kernel
theorem dX7_follow_81 : decode cX7_follow 81 = .ok (.ifnonnull 7, 3) := by decide +kernel
theorem dX7_follow_84 : decode cX7_follow 84 = .ok (.iconst (-1), 1) := by decide +kernel
theorem dX7_follow_85 : decode cX7_follow 85 = .ok (.goto 8, 3) := by decide +kernel
theorem dX7_follow_88 : decode cX7_follow 88 = .ok (.aload 6, 2) := by decide +kernel
theorem dX7_follow_90 : decode cX7_follow 90 = .ok (.getfield 159, 3) := by decide +kernel
theorem dX7_follow_93 : decode cX7_follow 93 = .ok (.ireturn, 1) := by decide +kernel
theorem dX7_go_0 : decode cX7_go 0 = .ok (.aload_n 0, 1) := by decide +kernel
theorem dX7_go_1 : decode cX7_go 1 = .ok (.iload_n 1, 1) := by decide +kernel
theorem dX7_go_2 : decode cX7_go 2 = .ok (.invokevirtual 132, 3) := by decide +kernel
theorem dX7_go_5 : decode cX7_go 5 = .ok (.astore_n 2, 1) := by decide +kernel
theorem dX7_go_6 : decode cX7_go 6 = .ok (.aload_n 2, 1) := by decide +kernel
theorem dX7_go_7 : decode cX7_go 7 = .ok (.ifnonnull 13, 3) := by decide +kernel
theorem dX7_go_10 : decode cX7_go 10 = .ok (.new 99, 3) := by decide +kernel
theorem dX7_go_13 : decode cX7_go 13 = .ok (.dup, 1) := by decide +kernel
theorem dX7_go_14 : decode cX7_go 14 = .ok (.ldc 148, 2) := by decide +kernel
theorem dX7_go_16 : decode cX7_go 16 = .ok (.invokespecial 103, 3) := by decide +kernel
theorem dX7_go_19 : decode cX7_go 19 = .ok (.athrow, 1) := by decide +kernel
theorem dX7_go_20 : decode cX7_go 20 = .ok (.aload_n 0, 1) := by decide +kernel
theorem dX7_go_21 : decode cX7_go 21 = .ok (.aload_n 2, 1) := by decide +kernel
theorem dX7_go_22 : decode cX7_go 22 = .ok (.invokevirtual 162, 3) := by decide +kernel
theorem dX7_go_25 : decode cX7_go 25 = .ok (.ifCond .ne 13, 3) := by decide +kernel
theorem dX7_go_28 : decode cX7_go 28 = .ok (.new 78, 3) := by decide +kernel
theorem dX7_go_31 : decode cX7_go 31 = .ok (.dup, 1) := by decide +kernel
theorem dX7_go_32 : decode cX7_go 32 = .ok (.ldc 166, 2) := by decide +kernel
theorem dX7_go_34 : decode cX7_go 34 = .ok (.invokespecial 82, 3) := by decide +kernel
theorem dX7_go_37 : decode cX7_go 37 = .ok (.athrow, 1) := by decide +kernel
theorem dX7_go_38 : decode cX7_go 38 = .ok (.aload_n 0, 1) := by decide +kernel
theorem dX7_go_39 : decode cX7_go 39 = .ok (.aload_n 2, 1) := by decide +kernel
theorem dX7_go_40 : decode cX7_go 40 = .ok (.invokevirtual 168, 3) := by decide +kernel
theorem dX7_go_43 : decode cX7_go 43 = .ok (.aload_n 0, 1) := by decide +kernel
theorem dX7_go_44 : decode cX7_go 44 = .ok (.getfield 35, 3) := by decide +kernel
theorem dX7_go_47 : decode cX7_go 47 = .ok (.getfield 172, 3) := by decide +kernel
theorem dX7_go_50 : decode cX7_go 50 = .ok (.ireturn, 1) := by decide +kernel
theorem dX7_release_0 : decode cX7_release 0 = .ok (.aload_n 0, 1) := by decide +kernel
theorem dX7_release_1 : decode cX7_release 1 = .ok (.iload_n 1, 1) := by decide +kernel
theorem dX7_release_2 : decode cX7_release 2 = .ok (.invokevirtual 132, 3) := by decide +kernel
theorem dX7_release_5 : decode cX7_release 5 = .ok (.astore_n 2, 1) := by decide +kernel
theorem dX7_release_6 : decode cX7_release 6 = .ok (.aload_n 2, 1) := by decide +kernel
theorem dX7_release_7 : decode cX7_release 7 = .ok (.ifnonnull 13, 3) := by decide +kernel
theorem dX7_release_10 : decode cX7_release 10 = .ok (.new 99, 3) := by decide +kernel
theorem dX7_release_13 : decode cX7_release 13 = .ok (.dup, 1) := by decide +kernel
theorem dX7_release_14 : decode cX7_release 14 = .ok (.ldc 148, 2) := by decide +kernel
theorem dX7_release_16 : decode cX7_release 16 = .ok (.invokespecial 103, 3) := by decide +kernel
theorem dX7_release_19 : decode cX7_release 19 = .ok (.athrow, 1) := by decide +kernel
theorem dX7_release_20 : decode cX7_release 20 = .ok (.aload_n 0, 1) := by decide +kernel
theorem dX7_release_21 : decode cX7_release 21 = .ok (.getfield 35, 3) := by decide +kernel
theorem dX7_release_24 : decode cX7_release 24 = .ok (.aload_n 2, 1) := by decide +kernel
theorem dX7_release_25 : decode cX7_release 25 = .ok (.invokevirtual 175, 3) := by decide +kernel
theorem dX7_release_28 : decode cX7_release 28 = .ok (.astore_n 3, 1) := by decide +kernel
theorem dX7_release_29 : decode cX7_release 29 = .ok (.aload_n 3, 1) := by decide +kernel
theorem dX7_release_30 : decode cX7_release 30 = .ok (.ifnull 10, 3) := by decide +kernel
theorem dX7_release_33 : decode cX7_release 33 = .ok (.aload_n 3, 1) := by decide +kernel
theorem dX7_release_34 : decode cX7_release 34 = .ok (.invokevirtual 179, 3) := by decide +kernel
theorem dX7_release_37 : decode cX7_release 37 = .ok (.ifCond .eq 13, 3) := by decide +kernel
theorem dX7_release_40 : decode cX7_release 40 = .ok (.new 78, 3) := by decide +kernel
theorem dX7_release_43 : decode cX7_release 43 = .ok (.dup, 1) := by decide +kernel
theorem dX7_release_44 : decode cX7_release 44 = .ok (.ldc 184, 2) := by decide +kernel
theorem dX7_release_46 : decode cX7_release 46 = .ok (.invokespecial 82, 3) := by decide +kernel
theorem dX7_release_49 : decode cX7_release 49 = .ok (.athrow, 1) := by decide +kernel
theorem dX7_release_50 : decode cX7_release 50 = .ok (.aload_n 3, 1) := by decide +kernel
theorem dX7_release_51 : decode cX7_release 51 = .ok (.aload_n 0, 1) := by decide +kernel
theorem dX7_release_52 : decode cX7_release 52 = .ok (.getfield 186, 3) := by decide +kernel
theorem dX7_release_55 : decode cX7_release 55 = .ok (.invokevirtual 189, 3) := by decide +kernel
theorem dX7_release_58 : decode cX7_release 58 = .ok (.aload_n 0, 1) := by decide +kernel
theorem dX7_release_59 : decode cX7_release 59 = .ok (.getfield 52, 3) := by decide +kernel
theorem dX7_release_62 : decode cX7_release 62 = .ok (.aload_n 0, 1) := by decide +kernel
theorem dX7_release_63 : decode cX7_release 63 = .ok (.getfield 186, 3) := by decide +kernel
theorem dX7_release_66 : decode cX7_release 66 = .ok (.aload_n 2, 1) := by decide +kernel
theorem dX7_release_67 : decode cX7_release 67 = .ok (.getfield 159, 3) := by decide +kernel
theorem dX7_release_70 : decode cX7_release 70 = .ok (.invokevirtual 193, 3) := by decide +kernel
theorem dX7_release_73 : decode cX7_release 73 = .ok (.aload_n 0, 1) := by decide +kernel
theorem dX7_release_74 : decode cX7_release 74 = .ok (.getfield 35, 3) := by decide +kernel
theorem dX7_release_77 : decode cX7_release 77 = .ok (.aload_n 0, 1) := by decide +kernel
theorem dX7_release_78 : decode cX7_release 78 = .ok (.getfield 186, 3) := by decide +kernel
theorem dX7_release_81 : decode cX7_release 81 = .ok (.invokevirtual 197, 3) := by decide +kernel
theorem dX7_release_84 : decode cX7_release 84 = .ok (.aload_n 0, 1) := by decide +kernel
theorem dX7_release_85 : decode cX7_release 85 = .ok (.getfield 35, 3) := by decide +kernel
theorem dX7_release_88 : decode cX7_release 88 = .ok (.aload_n 2, 1) := by decide +kernel
theorem dX7_release_89 : decode cX7_release 89 = .ok (.invokevirtual 175, 3) := by decide +kernel
theorem dX7_release_92 : decode cX7_release 92 = .ok (.ifnull 7, 3) := by decide +kernel
theorem dX7_release_95 : decode cX7_release 95 = .ok (.iconst 1, 1) := by decide +kernel
theorem dX7_release_96 : decode cX7_release 96 = .ok (.goto 4, 3) := by decide +kernel
theorem dX7_release_99 : decode cX7_release 99 = .ok (.iconst 0, 1) := by decide +kernel
theorem dX7_release_100 : decode cX7_release 100 = .ok (.ireturn, 1) := by decide +kernel
theorem dX7_pass_0 : decode cX7_pass 0 = .ok (.iload_n 1, 1) := by decide +kernel
theorem dX7_pass_1 : decode cX7_pass 1 = .ok (.iconst 1, 1) := by decide +kernel
theorem dX7_pass_2 : decode cX7_pass 2 = .ok (.bipush 20, 2) := by decide +kernel
theorem dX7_pass_4 : decode cX7_pass 4 = .ok (.invokestatic 56, 3) := by decide +kernel
theorem dX7_pass_7 : decode cX7_pass 7 = .ok (.ifCond .ne 13, 3) := by decide +kernel
theorem dX7_pass_10 : decode cX7_pass 10 = .ok (.new 67, 3) := by decide +kernel
theorem dX7_pass_13 : decode cX7_pass 13 = .ok (.dup, 1) := by decide +kernel
theorem dX7_pass_14 : decode cX7_pass 14 = .ok (.ldc 150, 2) := by decide +kernel
theorem dX7_pass_16 : decode cX7_pass 16 = .ok (.invokespecial 71, 3) := by decide +kernel
theorem dX7_pass_19 : decode cX7_pass 19 = .ok (.athrow, 1) := by decide +kernel
theorem dX7_pass_20 : decode cX7_pass 20 = .ok (.iconst 0, 1) := by decide +kernel
theorem dX7_pass_21 : decode cX7_pass 21 = .ok (.istore_n 2, 1) := by decide +kernel
theorem dX7_pass_22 : decode cX7_pass 22 = .ok (.iload_n 2, 1) := by decide +kernel
theorem dX7_pass_23 : decode cX7_pass 23 = .ok (.iload_n 1, 1) := by decide +kernel
theorem dX7_pass_24 : decode cX7_pass 24 = .ok (.if_icmp .ge 13, 3) := by decide +kernel
theorem dX7_pass_27 : decode cX7_pass 27 = .ok (.aload_n 0, 1) := by decide +kernel
theorem dX7_pass_28 : decode cX7_pass 28 = .ok (.invokevirtual 200, 3) := by decide +kernel
theorem dX7_pass_31 : decode cX7_pass 31 = .ok (.iinc 2 1, 3) := by decide +kernel
theorem dX7_pass_34 : decode cX7_pass 34 = .ok (.goto (-12), 3) := by decide +kernel
theorem dX7_pass_37 : decode cX7_pass 37 = .ok (.aload_n 0, 1) := by decide +kernel
theorem dX7_pass_38 : decode cX7_pass 38 = .ok (.getfield 186, 3) := by decide +kernel
theorem dX7_pass_41 : decode cX7_pass 41 = .ok (.ireturn, 1) := by decide +kernel
theorem dX7_levelOf_0 : decode cX7_levelOf 0 = .ok (.aload_n 0, 1) := by decide +kernel
theorem dX7_levelOf_1 : decode cX7_levelOf 1 = .ok (.getfield 10, 3) := by decide +kernel
theorem dX7_levelOf_4 : decode cX7_levelOf 4 = .ok (.iload_n 1, 1) := by decide +kernel
theorem dX7_levelOf_5 : decode cX7_levelOf 5 = .ok (.invokevirtual 95, 3) := by decide +kernel
theorem dX7_levelOf_8 : decode cX7_levelOf 8 = .ok (.ifnonnull 13, 3) := by decide +kernel
theorem dX7_levelOf_11 : decode cX7_levelOf 11 = .ok (.new 99, 3) := by decide +kernel
theorem dX7_levelOf_14 : decode cX7_levelOf 14 = .ok (.dup, 1) := by decide +kernel
theorem dX7_levelOf_15 : decode cX7_levelOf 15 = .ok (.ldc 101, 2) := by decide +kernel
theorem dX7_levelOf_17 : decode cX7_levelOf 17 = .ok (.invokespecial 103, 3) := by decide +kernel
theorem dX7_levelOf_20 : decode cX7_levelOf 20 = .ok (.athrow, 1) := by decide +kernel
theorem dX7_levelOf_21 : decode cX7_levelOf 21 = .ok (.aload_n 0, 1) := by decide +kernel
theorem dX7_levelOf_22 : decode cX7_levelOf 22 = .ok (.getfield 35, 3) := by decide +kernel
theorem dX7_levelOf_25 : decode cX7_levelOf 25 = .ok (.iload_n 1, 1) := by decide +kernel
theorem dX7_levelOf_26 : decode cX7_levelOf 26 = .ok (.aload_n 0, 1) := by decide +kernel
theorem dX7_levelOf_27 : decode cX7_levelOf 27 = .ok (.getfield 186, 3) := by decide +kernel
theorem dX7_levelOf_30 : decode cX7_levelOf 30 = .ok (.invokevirtual 203, 3) := by decide +kernel
theorem dX7_levelOf_33 : decode cX7_levelOf 33 = .ok (.invokestatic 207, 3) := by decide +kernel
theorem dX7_levelOf_36 : decode cX7_levelOf 36 = .ok (.ireturn, 1) := by decide +kernel
theorem dX7_levelAnew_0 : decode cX7_levelAnew 0 = .ok (.aload_n 0, 1) := by decide +kernel
theorem dX7_levelAnew_1 : decode cX7_levelAnew 1 = .ok (.getfield 10, 3) := by decide +kernel
theorem dX7_levelAnew_4 : decode cX7_levelAnew 4 = .ok (.iload_n 1, 1) := by decide +kernel
theorem dX7_levelAnew_5 : decode cX7_levelAnew 5 = .ok (.invokevirtual 95, 3) := by decide +kernel
theorem dX7_levelAnew_8 : decode cX7_levelAnew 8 = .ok (.ifnonnull 13, 3) := by decide +kernel
theorem dX7_levelAnew_11 : decode cX7_levelAnew 11 = .ok (.new 99, 3) := by decide +kernel
theorem dX7_levelAnew_14 : decode cX7_levelAnew 14 = .ok (.dup, 1) := by decide +kernel
theorem dX7_levelAnew_15 : decode cX7_levelAnew 15 = .ok (.ldc 101, 2) := by decide +kernel
theorem dX7_levelAnew_17 : decode cX7_levelAnew 17 = .ok (.invokespecial 103, 3) := by decide +kernel
theorem dX7_levelAnew_20 : decode cX7_levelAnew 20 = .ok (.athrow, 1) := by decide +kernel
theorem dX7_levelAnew_21 : decode cX7_levelAnew 21 = .ok (.aload_n 0, 1) := by decide +kernel
theorem dX7_levelAnew_22 : decode cX7_levelAnew 22 = .ok (.invokevirtual 211, 3) := by decide +kernel
theorem dX7_levelAnew_25 : decode cX7_levelAnew 25 = .ok (.aload_n 0, 1) := by decide +kernel
theorem dX7_levelAnew_26 : decode cX7_levelAnew 26 = .ok (.getfield 39, 3) := by decide +kernel
theorem dX7_levelAnew_29 : decode cX7_levelAnew 29 = .ok (.iload_n 1, 1) := by decide +kernel
theorem dX7_levelAnew_30 : decode cX7_levelAnew 30 = .ok (.aload_n 0, 1) := by decide +kernel
theorem dX7_levelAnew_31 : decode cX7_levelAnew 31 = .ok (.getfield 186, 3) := by decide +kernel
theorem dX7_levelAnew_34 : decode cX7_levelAnew 34 = .ok (.invokevirtual 203, 3) := by decide +kernel
theorem dX7_levelAnew_37 : decode cX7_levelAnew 37 = .ok (.invokestatic 207, 3) := by decide +kernel
theorem dX7_levelAnew_40 : decode cX7_levelAnew 40 = .ok (.ireturn, 1) := by decide +kernel
theorem dX7_loadOf_0 : decode cX7_loadOf 0 = .ok (.iload_n 1, 1) := by decide +kernel
theorem dX7_loadOf_1 : decode cX7_loadOf 1 = .ok (.invokestatic 64, 3) := by decide +kernel
theorem dX7_loadOf_4 : decode cX7_loadOf 4 = .ok (.ifCond .ne 13, 3) := by decide +kernel
theorem dX7_loadOf_7 : decode cX7_loadOf 7 = .ok (.new 99, 3) := by decide +kernel
theorem dX7_loadOf_10 : decode cX7_loadOf 10 = .ok (.dup, 1) := by decide +kernel
theorem dX7_loadOf_11 : decode cX7_loadOf 11 = .ok (.ldc 118, 2) := by decide +kernel
theorem dX7_loadOf_13 : decode cX7_loadOf 13 = .ok (.invokespecial 103, 3) := by decide +kernel
theorem dX7_loadOf_16 : decode cX7_loadOf 16 = .ok (.athrow, 1) := by decide +kernel
theorem dX7_loadOf_17 : decode cX7_loadOf 17 = .ok (.aload_n 0, 1) := by decide +kernel
theorem dX7_loadOf_18 : decode cX7_loadOf 18 = .ok (.iload_n 1, 1) := by decide +kernel
theorem dX7_loadOf_19 : decode cX7_loadOf 19 = .ok (.invokevirtual 214, 3) := by decide +kernel
theorem dX7_loadOf_22 : decode cX7_loadOf 22 = .ok (.invokestatic 207, 3) := by decide +kernel
theorem dX7_loadOf_25 : decode cX7_loadOf 25 = .ok (.ireturn, 1) := by decide +kernel
theorem dX7_watts_0 : decode cX7_watts 0 = .ok (.iload_n 1, 1) := by decide +kernel
theorem dX7_watts_1 : decode cX7_watts 1 = .ok (.invokestatic 64, 3) := by decide +kernel
theorem dX7_watts_4 : decode cX7_watts 4 = .ok (.ifCond .ne 13, 3) := by decide +kernel
theorem dX7_watts_7 : decode cX7_watts 7 = .ok (.new 99, 3) := by decide +kernel
theorem dX7_watts_10 : decode cX7_watts 10 = .ok (.dup, 1) := by decide +kernel
theorem dX7_watts_11 : decode cX7_watts 11 = .ok (.ldc 118, 2) := by decide +kernel
theorem dX7_watts_13 : decode cX7_watts 13 = .ok (.invokespecial 103, 3) := by decide +kernel
theorem dX7_watts_16 : decode cX7_watts 16 = .ok (.athrow, 1) := by decide +kernel
theorem dX7_watts_17 : decode cX7_watts 17 = .ok (.aload_n 0, 1) := by decide +kernel
theorem dX7_watts_18 : decode cX7_watts 18 = .ok (.iload_n 1, 1) := by decide +kernel
theorem dX7_watts_19 : decode cX7_watts 19 = .ok (.invokevirtual 214, 3) := by decide +kernel
theorem dX7_watts_22 : decode cX7_watts 22 = .ok (.f2i, 1) := by decide +kernel
theorem dX7_watts_23 : decode cX7_watts 23 = .ok (.ireturn, 1) := by decide +kernel
theorem dX7_asks_0 : decode cX7_asks 0 = .ok (.aload_n 0, 1) := by decide +kernel
theorem dX7_asks_1 : decode cX7_asks 1 = .ok (.iload_n 1, 1) := by decide +kernel
theorem dX7_asks_2 : decode cX7_asks 2 = .ok (.invokevirtual 132, 3) := by decide +kernel
theorem dX7_asks_5 : decode cX7_asks 5 = .ok (.astore_n 3, 1) := by decide +kernel
theorem dX7_asks_6 : decode cX7_asks 6 = .ok (.aload_n 3, 1) := by decide +kernel
theorem dX7_asks_7 : decode cX7_asks 7 = .ok (.ifnull 10, 3) := by decide +kernel
theorem dX7_asks_10 : decode cX7_asks 10 = .ok (.iload_n 2, 1) := by decide +kernel
theorem dX7_asks_11 : decode cX7_asks 11 = .ok (.invokestatic 64, 3) := by decide +kernel
theorem dX7_asks_14 : decode cX7_asks 14 = .ok (.ifCond .ne 13, 3) := by decide +kernel
theorem dX7_asks_17 : decode cX7_asks 17 = .ok (.new 99, 3) := by decide +kernel
theorem dX7_asks_20 : decode cX7_asks 20 = .ok (.dup, 1) := by decide +kernel
theorem dX7_asks_21 : decode cX7_asks 21 = .ok (.ldc 218, 2) := by decide +kernel
theorem dX7_asks_23 : decode cX7_asks 23 = .ok (.invokespecial 103, 3) := by decide +kernel
theorem dX7_asks_26 : decode cX7_asks 26 = .ok (.athrow, 1) := by decide +kernel
theorem dX7_asks_27 : decode cX7_asks 27 = .ok (.aload_n 0, 1) := by decide +kernel
theorem dX7_asks_28 : decode cX7_asks 28 = .ok (.aload_n 3, 1) := by decide +kernel
theorem dX7_asks_29 : decode cX7_asks 29 = .ok (.iload_n 2, 1) := by decide +kernel
theorem dX7_asks_30 : decode cX7_asks 30 = .ok (.invokevirtual 220, 3) := by decide +kernel
theorem dX7_asks_33 : decode cX7_asks 33 = .ok (.ireturn, 1) := by decide +kernel
theorem dX7_shines_0 : decode cX7_shines 0 = .ok (.aload_n 0, 1) := by decide +kernel
theorem dX7_shines_1 : decode cX7_shines 1 = .ok (.iload_n 1, 1) := by decide +kernel
theorem dX7_shines_2 : decode cX7_shines 2 = .ok (.invokevirtual 132, 3) := by decide +kernel
theorem dX7_shines_5 : decode cX7_shines 5 = .ok (.astore_n 3, 1) := by decide +kernel
theorem dX7_shines_6 : decode cX7_shines 6 = .ok (.aload_n 3, 1) := by decide +kernel
theorem dX7_shines_7 : decode cX7_shines 7 = .ok (.ifnull 14, 3) := by decide +kernel
theorem dX7_shines_10 : decode cX7_shines 10 = .ok (.aload_n 0, 1) := by decide +kernel
theorem dX7_shines_11 : decode cX7_shines 11 = .ok (.getfield 10, 3) := by decide +kernel
theorem dX7_shines_14 : decode cX7_shines 14 = .ok (.iload_n 2, 1) := by decide +kernel
theorem dX7_shines_15 : decode cX7_shines 15 = .ok (.invokevirtual 95, 3) := by decide +kernel
theorem dX7_shines_18 : decode cX7_shines 18 = .ok (.ifnonnull 13, 3) := by decide +kernel
theorem dX7_shines_21 : decode cX7_shines 21 = .ok (.new 99, 3) := by decide +kernel
theorem dX7_shines_24 : decode cX7_shines 24 = .ok (.dup, 1) := by decide +kernel
theorem dX7_shines_25 : decode cX7_shines 25 = .ok (.ldc 136, 2) := by decide +kernel
theorem dX7_shines_27 : decode cX7_shines 27 = .ok (.invokespecial 103, 3) := by decide +kernel
theorem dX7_shines_30 : decode cX7_shines 30 = .ok (.athrow, 1) := by decide +kernel
theorem dX7_shines_31 : decode cX7_shines 31 = .ok (.aload_n 3, 1) := by decide +kernel
theorem dX7_shines_32 : decode cX7_shines 32 = .ok (.iload_n 2, 1) := by decide +kernel
theorem dX7_shines_33 : decode cX7_shines 33 = .ok (.invokevirtual 224, 3) := by decide +kernel
theorem dX7_shines_36 : decode cX7_shines 36 = .ok (.ireturn, 1) := by decide +kernel
theorem dX7_playing_0 : decode cX7_playing 0 = .ok (.aload_n 0, 1) := by decide +kernel
theorem dX7_playing_1 : decode cX7_playing 1 = .ok (.iload_n 1, 1) := by decide +kernel
theorem dX7_playing_2 : decode cX7_playing 2 = .ok (.invokevirtual 132, 3) := by decide +kernel
theorem dX7_playing_5 : decode cX7_playing 5 = .ok (.astore_n 3, 1) := by decide +kernel
theorem dX7_playing_6 : decode cX7_playing 6 = .ok (.aload_n 3, 1) := by decide +kernel
theorem dX7_playing_7 : decode cX7_playing 7 = .ok (.ifnonnull 13, 3) := by decide +kernel
theorem dX7_playing_10 : decode cX7_playing 10 = .ok (.new 99, 3) := by decide +kernel
theorem dX7_playing_13 : decode cX7_playing 13 = .ok (.dup, 1) := by decide +kernel
theorem dX7_playing_14 : decode cX7_playing 14 = .ok (.ldc 148, 2) := by decide +kernel
theorem dX7_playing_16 : decode cX7_playing 16 = .ok (.invokespecial 103, 3) := by decide +kernel
theorem dX7_playing_19 : decode cX7_playing 19 = .ok (.athrow, 1) := by decide +kernel
theorem dX7_playing_20 : decode cX7_playing 20 = .ok (.iload_n 2, 1) := by decide +kernel
theorem dX7_playing_21 : decode cX7_playing 21 = .ok (.iconst 0, 1) := by decide +kernel
theorem dX7_playing_22 : decode cX7_playing 22 = .ok (.iconst 3, 1) := by decide +kernel
theorem dX7_playing_23 : decode cX7_playing 23 = .ok (.invokestatic 56, 3) := by decide +kernel
theorem dX7_playing_26 : decode cX7_playing 26 = .ok (.ifCond .ne 13, 3) := by decide +kernel
theorem dX7_playing_29 : decode cX7_playing 29 = .ok (.new 67, 3) := by decide +kernel
theorem dX7_playing_32 : decode cX7_playing 32 = .ok (.dup, 1) := by decide +kernel
theorem dX7_playing_33 : decode cX7_playing 33 = .ok (.ldc 228, 2) := by decide +kernel
theorem dX7_playing_35 : decode cX7_playing 35 = .ok (.invokespecial 71, 3) := by decide +kernel
theorem dX7_playing_38 : decode cX7_playing 38 = .ok (.athrow, 1) := by decide +kernel
theorem dX7_playing_39 : decode cX7_playing 39 = .ok (.aload_n 0, 1) := by decide +kernel
theorem dX7_playing_40 : decode cX7_playing 40 = .ok (.getfield 35, 3) := by decide +kernel
theorem dX7_playing_43 : decode cX7_playing 43 = .ok (.aload_n 3, 1) := by decide +kernel
theorem dX7_playing_44 : decode cX7_playing 44 = .ok (.invokevirtual 175, 3) := by decide +kernel
theorem dX7_playing_47 : decode cX7_playing 47 = .ok (.astore 4, 2) := by decide +kernel
theorem dX7_playing_49 : decode cX7_playing 49 = .ok (.aload 4, 2) := by decide +kernel
theorem dX7_playing_51 : decode cX7_playing 51 = .ok (.ifnonnull 18, 3) := by decide +kernel
theorem dX7_playing_54 : decode cX7_playing 54 = .ok (.iload_n 2, 1) := by decide +kernel
theorem dX7_playing_55 : decode cX7_playing 55 = .ok (.ifCond .eq 8, 3) := by decide +kernel
theorem dX7_playing_58 : decode cX7_playing 58 = .ok (.iload_n 2, 1) := by decide +kernel
theorem dX7_playing_59 : decode cX7_playing 59 = .ok (.iconst 1, 1) := by decide +kernel
theorem dX7_playing_60 : decode cX7_playing 60 = .ok (.if_icmp .ne 7, 3) := by decide +kernel
theorem dX7_playing_63 : decode cX7_playing 63 = .ok (.iconst 0, 1) := by decide +kernel
theorem dX7_playing_64 : decode cX7_playing 64 = .ok (.goto 4, 3) := by decide +kernel
theorem dX7_playing_67 : decode cX7_playing 67 = .ok (.iconst (-1), 1) := by decide +kernel
theorem dX7_playing_68 : decode cX7_playing 68 = .ok (.ireturn, 1) := by decide +kernel
theorem dX7_playing_69 : decode cX7_playing 69 = .ok (.iload_n 2, 1) := by decide +kernel
theorem dX7_playing_70 : decode cX7_playing 70 = .ok (.tableswitch 48 0 2 #[26, 28, 42], 26) := by decide +kernel
theorem dX7_playing_96 : decode cX7_playing 96 = .ok (.iconst 1, 1) := by decide +kernel
theorem dX7_playing_97 : decode cX7_playing 97 = .ok (.ireturn, 1) := by decide +kernel
theorem dX7_playing_98 : decode cX7_playing 98 = .ok (.aload 4, 2) := by decide +kernel
theorem dX7_playing_100 : decode cX7_playing 100 = .ok (.invokevirtual 179, 3) := by decide +kernel
theorem dX7_playing_103 : decode cX7_playing 103 = .ok (.ifCond .eq 7, 3) := by decide +kernel
theorem dX7_playing_106 : decode cX7_playing 106 = .ok (.iconst 1, 1) := by decide +kernel
theorem dX7_playing_107 : decode cX7_playing 107 = .ok (.goto 4, 3) := by decide +kernel
theorem dX7_playing_110 : decode cX7_playing 110 = .ok (.iconst 0, 1) := by decide +kernel
theorem dX7_playing_111 : decode cX7_playing 111 = .ok (.ireturn, 1) := by decide +kernel
theorem dX7_playing_112 : decode cX7_playing 112 = .ok (.aload 4, 2) := by decide +kernel
theorem dX7_playing_114 : decode cX7_playing 114 = .ok (.getfield 230, 3) := by decide +kernel
theorem dX7_playing_117 : decode cX7_playing 117 = .ok (.ireturn, 1) := by decide +kernel
theorem dX7_playing_118 : decode cX7_playing 118 = .ok (.aload 4, 2) := by decide +kernel
theorem dX7_playing_120 : decode cX7_playing 120 = .ok (.aload_n 0, 1) := by decide +kernel
theorem dX7_playing_121 : decode cX7_playing 121 = .ok (.getfield 186, 3) := by decide +kernel
theorem dX7_playing_124 : decode cX7_playing 124 = .ok (.invokevirtual 233, 3) := by decide +kernel
theorem dX7_playing_127 : decode cX7_playing 127 = .ok (.invokestatic 207, 3) := by decide +kernel
theorem dX7_playing_130 : decode cX7_playing 130 = .ok (.ireturn, 1) := by decide +kernel
theorem dX7_barred_0 : decode cX7_barred 0 = .ok (.aload_n 0, 1) := by decide +kernel
theorem dX7_barred_1 : decode cX7_barred 1 = .ok (.getfield 236, 3) := by decide +kernel
theorem dX7_barred_4 : decode cX7_barred 4 = .ok (.ireturn, 1) := by decide +kernel
theorem dX7_isWithin_0 : decode cX7_isWithin 0 = .ok (.iload_n 0, 1) := by decide +kernel
theorem dX7_isWithin_1 : decode cX7_isWithin 1 = .ok (.iload_n 1, 1) := by decide +kernel
theorem dX7_isWithin_2 : decode cX7_isWithin 2 = .ok (.if_icmp .lt 12, 3) := by decide +kernel
theorem dX7_isWithin_5 : decode cX7_isWithin 5 = .ok (.iload_n 0, 1) := by decide +kernel
theorem dX7_isWithin_6 : decode cX7_isWithin 6 = .ok (.iload_n 2, 1) := by decide +kernel
theorem dX7_isWithin_7 : decode cX7_isWithin 7 = .ok (.if_icmp .gt 7, 3) := by decide +kernel
theorem dX7_isWithin_10 : decode cX7_isWithin 10 = .ok (.iconst 1, 1) := by decide +kernel
theorem dX7_isWithin_11 : decode cX7_isWithin 11 = .ok (.goto 4, 3) := by decide +kernel
theorem dX7_isWithin_14 : decode cX7_isWithin 14 = .ok (.iconst 0, 1) := by decide +kernel
theorem dX7_isWithin_15 : decode cX7_isWithin 15 = .ok (.ireturn, 1) := by decide +kernel
theorem dX7_isPhase_0 : decode cX7_isPhase 0 = .ok (.iload_n 0, 1) := by decide +kernel
theorem dX7_isPhase_1 : decode cX7_isPhase 1 = .ok (.iconst 0, 1) := by decide +kernel
theorem dX7_isPhase_2 : decode cX7_isPhase 2 = .ok (.iconst 2, 1) := by decide +kernel
theorem dX7_isPhase_3 : decode cX7_isPhase 3 = .ok (.invokestatic 56, 3) := by decide +kernel
theorem dX7_isPhase_6 : decode cX7_isPhase 6 = .ok (.ireturn, 1) := by decide +kernel
theorem dX7_isGel_0 : decode cX7_isGel 0 = .ok (.iload_n 0, 1) := by decide +kernel
theorem dX7_isGel_1 : decode cX7_isGel 1 = .ok (.ifCond .lt 23, 3) := by decide +kernel
theorem dX7_isGel_4 : decode cX7_isGel 4 = .ok (.iload_n 0, 1) := by decide +kernel
theorem dX7_isGel_5 : decode cX7_isGel 5 = .ok (.bipush 10, 2) := by decide +kernel
theorem dX7_isGel_7 : decode cX7_isGel 7 = .ok (.idiv, 1) := by decide +kernel
theorem dX7_isGel_8 : decode cX7_isGel 8 = .ok (.iconst 5, 1) := by decide +kernel
theorem dX7_isGel_9 : decode cX7_isGel 9 = .ok (.if_icmp .gt 15, 3) := by decide +kernel
theorem dX7_isGel_12 : decode cX7_isGel 12 = .ok (.iload_n 0, 1) := by decide +kernel
theorem dX7_isGel_13 : decode cX7_isGel 13 = .ok (.bipush 10, 2) := by decide +kernel
theorem dX7_isGel_15 : decode cX7_isGel 15 = .ok (.irem, 1) := by decide +kernel
theorem dX7_isGel_16 : decode cX7_isGel 16 = .ok (.iconst 5, 1) := by decide +kernel
theorem dX7_isGel_17 : decode cX7_isGel 17 = .ok (.if_icmp .gt 7, 3) := by decide +kernel
theorem dX7_isGel_20 : decode cX7_isGel 20 = .ok (.iconst 1, 1) := by decide +kernel
theorem dX7_isGel_21 : decode cX7_isGel 21 = .ok (.goto 4, 3) := by decide +kernel
theorem dX7_isGel_24 : decode cX7_isGel 24 = .ok (.iconst 0, 1) := by decide +kernel
theorem dX7_isGel_25 : decode cX7_isGel 25 = .ok (.ireturn, 1) := by decide +kernel
theorem dX7_cueAt_0 : decode cX7_cueAt 0 = .ok (.iload_n 1, 1) := by decide +kernel
theorem dX7_cueAt_1 : decode cX7_cueAt 1 = .ok (.ifCond .lt 21, 3) := by decide +kernel
theorem dX7_cueAt_4 : decode cX7_cueAt 4 = .ok (.iload_n 1, 1) := by decide +kernel
theorem dX7_cueAt_5 : decode cX7_cueAt 5 = .ok (.aload_n 0, 1) := by decide +kernel
theorem dX7_cueAt_6 : decode cX7_cueAt 6 = .ok (.getfield 18, 3) := by decide +kernel
theorem dX7_cueAt_9 : decode cX7_cueAt 9 = .ok (.arraylength, 1) := by decide +kernel
theorem dX7_cueAt_10 : decode cX7_cueAt 10 = .ok (.if_icmp .ge 12, 3) := by decide +kernel
theorem dX7_cueAt_13 : decode cX7_cueAt 13 = .ok (.aload_n 0, 1) := by decide +kernel
theorem dX7_cueAt_14 : decode cX7_cueAt 14 = .ok (.getfield 18, 3) := by decide +kernel
theorem dX7_cueAt_17 : decode cX7_cueAt 17 = .ok (.iload_n 1, 1) := by decide +kernel
theorem dX7_cueAt_18 : decode cX7_cueAt 18 = .ok (.aaload, 1) := by decide +kernel
theorem dX7_cueAt_19 : decode cX7_cueAt 19 = .ok (.goto 4, 3) := by decide +kernel
theorem dX7_cueAt_22 : decode cX7_cueAt 22 = .ok (.aconst_null, 1) := by decide +kernel
theorem dX7_cueAt_23 : decode cX7_cueAt 23 = .ok (.areturn, 1) := by decide +kernel
theorem dX7_bitsOf_0 : decode cX7_bitsOf 0 = .ok (.fload_n 0, 1) := by decide +kernel
theorem dX7_bitsOf_1 : decode cX7_bitsOf 1 = .ok (.fconst 0, 1) := by decide +kernel
theorem dX7_bitsOf_2 : decode cX7_bitsOf 2 = .ok (.fcmp .g, 1) := by decide +kernel
theorem dX7_bitsOf_3 : decode cX7_bitsOf 3 = .ok (.ifCond .gt 5, 3) := by decide +kernel
theorem dX7_bitsOf_6 : decode cX7_bitsOf 6 = .ok (.iconst 0, 1) := by decide +kernel
theorem dX7_bitsOf_7 : decode cX7_bitsOf 7 = .ok (.ireturn, 1) := by decide +kernel
theorem dX7_bitsOf_8 : decode cX7_bitsOf 8 = .ok (.fload_n 0, 1) := by decide +kernel
theorem dX7_bitsOf_9 : decode cX7_bitsOf 9 = .ok (.fstore_n 1, 1) := by decide +kernel
theorem dX7_bitsOf_10 : decode cX7_bitsOf 10 = .ok (.bipush 127, 2) := by decide +kernel
theorem dX7_bitsOf_12 : decode cX7_bitsOf 12 = .ok (.istore_n 2, 1) := by decide +kernel
theorem dX7_bitsOf_13 : decode cX7_bitsOf 13 = .ok (.fload_n 1, 1) := by decide +kernel
theorem dX7_bitsOf_14 : decode cX7_bitsOf 14 = .ok (.fconst 2, 1) := by decide +kernel
theorem dX7_bitsOf_15 : decode cX7_bitsOf 15 = .ok (.fcmp .l, 1) := by decide +kernel
theorem dX7_bitsOf_16 : decode cX7_bitsOf 16 = .ok (.ifCond .lt 20, 3) := by decide +kernel
theorem dX7_bitsOf_19 : decode cX7_bitsOf 19 = .ok (.iload_n 2, 1) := by decide +kernel
theorem dX7_bitsOf_20 : decode cX7_bitsOf 20 = .ok (.sipush 254, 3) := by decide +kernel
theorem dX7_bitsOf_23 : decode cX7_bitsOf 23 = .ok (.if_icmp .ge 13, 3) := by decide +kernel
theorem dX7_bitsOf_26 : decode cX7_bitsOf 26 = .ok (.fload_n 1, 1) := by decide +kernel
theorem dX7_bitsOf_27 : decode cX7_bitsOf 27 = .ok (.fconst 2, 1) := by decide +kernel
theorem dX7_bitsOf_28 : decode cX7_bitsOf 28 = .ok (.fdiv, 1) := by decide +kernel
theorem dX7_bitsOf_29 : decode cX7_bitsOf 29 = .ok (.fstore_n 1, 1) := by decide +kernel
theorem dX7_bitsOf_30 : decode cX7_bitsOf 30 = .ok (.iinc 2 1, 3) := by decide +kernel
theorem dX7_bitsOf_33 : decode cX7_bitsOf 33 = .ok (.goto (-20), 3) := by decide +kernel
theorem dX7_bitsOf_36 : decode cX7_bitsOf 36 = .ok (.fload_n 1, 1) := by decide +kernel
theorem dX7_bitsOf_37 : decode cX7_bitsOf 37 = .ok (.fconst 1, 1) := by decide +kernel
theorem dX7_bitsOf_38 : decode cX7_bitsOf 38 = .ok (.fcmp .g, 1) := by decide +kernel
theorem dX7_bitsOf_39 : decode cX7_bitsOf 39 = .ok (.ifCond .ge 18, 3) := by decide +kernel
theorem dX7_bitsOf_42 : decode cX7_bitsOf 42 = .ok (.iload_n 2, 1) := by decide +kernel
theorem dX7_bitsOf_43 : decode cX7_bitsOf 43 = .ok (.iconst 1, 1) := by decide +kernel
theorem dX7_bitsOf_44 : decode cX7_bitsOf 44 = .ok (.if_icmp .le 13, 3) := by decide +kernel
theorem dX7_bitsOf_47 : decode cX7_bitsOf 47 = .ok (.fload_n 1, 1) := by decide +kernel
theorem dX7_bitsOf_48 : decode cX7_bitsOf 48 = .ok (.fconst 2, 1) := by decide +kernel
theorem dX7_bitsOf_49 : decode cX7_bitsOf 49 = .ok (.fmul, 1) := by decide +kernel
theorem dX7_bitsOf_50 : decode cX7_bitsOf 50 = .ok (.fstore_n 1, 1) := by decide +kernel
theorem dX7_bitsOf_51 : decode cX7_bitsOf 51 = .ok (.iinc 2 (-1), 3) := by decide +kernel
theorem dX7_bitsOf_54 : decode cX7_bitsOf 54 = .ok (.goto (-18), 3) := by decide +kernel
theorem dX7_bitsOf_57 : decode cX7_bitsOf 57 = .ok (.fload_n 1, 1) := by decide +kernel
theorem dX7_bitsOf_58 : decode cX7_bitsOf 58 = .ok (.fconst 1, 1) := by decide +kernel
theorem dX7_bitsOf_59 : decode cX7_bitsOf 59 = .ok (.fcmp .g, 1) := by decide +kernel
theorem dX7_bitsOf_60 : decode cX7_bitsOf 60 = .ok (.ifCond .ge 9, 3) := by decide +kernel
theorem dX7_bitsOf_63 : decode cX7_bitsOf 63 = .ok (.fload_n 1, 1) := by decide +kernel
theorem dX7_bitsOf_64 : decode cX7_bitsOf 64 = .ok (.ldc 239, 2) := by decide +kernel
theorem dX7_bitsOf_66 : decode cX7_bitsOf 66 = .ok (.fmul, 1) := by decide +kernel
theorem dX7_bitsOf_67 : decode cX7_bitsOf 67 = .ok (.f2i, 1) := by decide +kernel
theorem dX7_bitsOf_68 : decode cX7_bitsOf 68 = .ok (.ireturn, 1) := by decide +kernel
theorem dX7_bitsOf_69 : decode cX7_bitsOf 69 = .ok (.iload_n 2, 1) := by decide +kernel
theorem dX7_bitsOf_70 : decode cX7_bitsOf 70 = .ok (.bipush 23, 2) := by decide +kernel
theorem dX7_bitsOf_72 : decode cX7_bitsOf 72 = .ok (.ishl, 1) := by decide +kernel
theorem dX7_bitsOf_73 : decode cX7_bitsOf 73 = .ok (.fload_n 1, 1) := by decide +kernel
theorem dX7_bitsOf_74 : decode cX7_bitsOf 74 = .ok (.fconst 1, 1) := by decide +kernel
theorem dX7_bitsOf_75 : decode cX7_bitsOf 75 = .ok (.fsub, 1) := by decide +kernel
theorem dX7_bitsOf_76 : decode cX7_bitsOf 76 = .ok (.ldc 239, 2) := by decide +kernel
theorem dX7_bitsOf_78 : decode cX7_bitsOf 78 = .ok (.fmul, 1) := by decide +kernel
theorem dX7_bitsOf_79 : decode cX7_bitsOf 79 = .ok (.f2i, 1) := by decide +kernel
theorem dX7_bitsOf_80 : decode cX7_bitsOf 80 = .ok (.iadd, 1) := by decide +kernel
theorem dX7_bitsOf_81 : decode cX7_bitsOf 81 = .ok (.ireturn, 1) := by decide +kernel
theorem dX7_arrangeCues_0 : decode cX7_arrangeCues 0 = .ok (.iconst 0, 1) := by decide +kernel
theorem dX7_arrangeCues_1 : decode cX7_arrangeCues 1 = .ok (.istore_n 1, 1) := by decide +kernel
theorem dX7_arrangeCues_2 : decode cX7_arrangeCues 2 = .ok (.iload_n 1, 1) := by decide +kernel
theorem dX7_arrangeCues_3 : decode cX7_arrangeCues 3 = .ok (.aload_n 0, 1) := by decide +kernel
theorem dX7_arrangeCues_4 : decode cX7_arrangeCues 4 = .ok (.getfield 18, 3) := by decide +kernel
theorem dX7_arrangeCues_7 : decode cX7_arrangeCues 7 = .ok (.arraylength, 1) := by decide +kernel
theorem dX7_arrangeCues_8 : decode cX7_arrangeCues 8 = .ok (.if_icmp .ge 28, 3) := by decide +kernel
theorem dX7_arrangeCues_11 : decode cX7_arrangeCues 11 = .ok (.aload_n 0, 1) := by decide +kernel
theorem dX7_arrangeCues_12 : decode cX7_arrangeCues 12 = .ok (.getfield 18, 3) := by decide +kernel
theorem dX7_arrangeCues_15 : decode cX7_arrangeCues 15 = .ok (.iload_n 1, 1) := by decide +kernel
theorem dX7_arrangeCues_16 : decode cX7_arrangeCues 16 = .ok (.aaload, 1) := by decide +kernel
theorem dX7_arrangeCues_17 : decode cX7_arrangeCues 17 = .ok (.astore_n 2, 1) := by decide +kernel
theorem dX7_arrangeCues_18 : decode cX7_arrangeCues 18 = .ok (.aload_n 2, 1) := by decide +kernel
theorem dX7_arrangeCues_19 : decode cX7_arrangeCues 19 = .ok (.ifnull 11, 3) := by decide +kernel
theorem dX7_arrangeCues_22 : decode cX7_arrangeCues 22 = .ok (.aload_n 2, 1) := by decide +kernel
theorem dX7_arrangeCues_23 : decode cX7_arrangeCues 23 = .ok (.aload_n 0, 1) := by decide +kernel
theorem dX7_arrangeCues_24 : decode cX7_arrangeCues 24 = .ok (.getfield 10, 3) := by decide +kernel
theorem dX7_arrangeCues_27 : decode cX7_arrangeCues 27 = .ok (.invokevirtual 144, 3) := by decide +kernel
theorem dX7_arrangeCues_30 : decode cX7_arrangeCues 30 = .ok (.iinc 1 1, 3) := by decide +kernel
theorem dX7_arrangeCues_33 : decode cX7_arrangeCues 33 = .ok (.goto (-31), 3) := by decide +kernel
theorem dX7_arrangeCues_36 : decode cX7_arrangeCues 36 = .ok (.return_, 1) := by decide +kernel
theorem dX7_canGo_0 : decode cX7_canGo 0 = .ok (.iconst 0, 1) := by decide +kernel
theorem dX7_canGo_1 : decode cX7_canGo 1 = .ok (.istore_n 2, 1) := by decide +kernel
theorem dX7_canGo_2 : decode cX7_canGo 2 = .ok (.iload_n 2, 1) := by decide +kernel
theorem dX7_canGo_3 : decode cX7_canGo 3 = .ok (.aload_n 0, 1) := by decide +kernel
theorem dX7_canGo_4 : decode cX7_canGo 4 = .ok (.getfield 22, 3) := by decide +kernel
theorem dX7_canGo_7 : decode cX7_canGo 7 = .ok (.arraylength, 1) := by decide +kernel
theorem dX7_canGo_8 : decode cX7_canGo 8 = .ok (.if_icmp .ge 26, 3) := by decide +kernel
theorem dX7_canGo_11 : decode cX7_canGo 11 = .ok (.aload_n 0, 1) := by decide +kernel
theorem dX7_canGo_12 : decode cX7_canGo 12 = .ok (.aload_n 1, 1) := by decide +kernel
theorem dX7_canGo_13 : decode cX7_canGo 13 = .ok (.iload_n 2, 1) := by decide +kernel
theorem dX7_canGo_14 : decode cX7_canGo 14 = .ok (.invokevirtual 220, 3) := by decide +kernel
theorem dX7_canGo_17 : decode cX7_canGo 17 = .ok (.aload_n 0, 1) := by decide +kernel
theorem dX7_canGo_18 : decode cX7_canGo 18 = .ok (.getfield 22, 3) := by decide +kernel
theorem dX7_canGo_21 : decode cX7_canGo 21 = .ok (.iload_n 2, 1) := by decide +kernel
theorem dX7_canGo_22 : decode cX7_canGo 22 = .ok (.iaload, 1) := by decide +kernel
theorem dX7_canGo_23 : decode cX7_canGo 23 = .ok (.if_icmp .le 5, 3) := by decide +kernel
theorem dX7_canGo_26 : decode cX7_canGo 26 = .ok (.iconst 0, 1) := by decide +kernel
theorem dX7_canGo_27 : decode cX7_canGo 27 = .ok (.ireturn, 1) := by decide +kernel
theorem dX7_canGo_28 : decode cX7_canGo 28 = .ok (.iinc 2 1, 3) := by decide +kernel
theorem dX7_canGo_31 : decode cX7_canGo 31 = .ok (.goto (-29), 3) := by decide +kernel
theorem dX7_canGo_34 : decode cX7_canGo 34 = .ok (.iconst 1, 1) := by decide +kernel
theorem dX7_canGo_35 : decode cX7_canGo 35 = .ok (.ireturn, 1) := by decide +kernel
theorem dX7_wattsAsked_0 : decode cX7_wattsAsked 0 = .ok (.iconst 0, 1) := by decide +kernel
theorem dX7_wattsAsked_1 : decode cX7_wattsAsked 1 = .ok (.istore_n 3, 1) := by decide +kernel
theorem dX7_wattsAsked_2 : decode cX7_wattsAsked 2 = .ok (.iconst 0, 1) := by decide +kernel
theorem dX7_wattsAsked_3 : decode cX7_wattsAsked 3 = .ok (.istore 4, 2) := by decide +kernel
theorem dX7_wattsAsked_5 : decode cX7_wattsAsked 5 = .ok (.iload 4, 2) := by decide +kernel
theorem dX7_wattsAsked_7 : decode cX7_wattsAsked 7 = .ok (.bipush 16, 2) := by decide +kernel
theorem dX7_wattsAsked_9 : decode cX7_wattsAsked 9 = .ok (.if_icmp .ge 61, 3) := by decide +kernel
theorem dX7_wattsAsked_12 : decode cX7_wattsAsked 12 = .ok (.aload_n 0, 1) := by decide +kernel
theorem dX7_wattsAsked_13 : decode cX7_wattsAsked 13 = .ok (.getfield 10, 3) := by decide +kernel
theorem dX7_wattsAsked_16 : decode cX7_wattsAsked 16 = .ok (.iload 4, 2) := by decide +kernel
theorem dX7_wattsAsked_18 : decode cX7_wattsAsked 18 = .ok (.invokevirtual 95, 3) := by decide +kernel
theorem dX7_wattsAsked_21 : decode cX7_wattsAsked 21 = .ok (.astore 5, 2) := by decide +kernel
theorem dX7_wattsAsked_23 : decode cX7_wattsAsked 23 = .ok (.aload 5, 2) := by decide +kernel
theorem dX7_wattsAsked_25 : decode cX7_wattsAsked 25 = .ok (.ifnull 39, 3) := by decide +kernel
theorem dX7_wattsAsked_28 : decode cX7_wattsAsked 28 = .ok (.aload 5, 2) := by decide +kernel
theorem dX7_wattsAsked_30 : decode cX7_wattsAsked 30 = .ok (.getfield 240, 3) := by decide +kernel
theorem dX7_wattsAsked_33 : decode cX7_wattsAsked 33 = .ok (.iload_n 2, 1) := by decide +kernel
theorem dX7_wattsAsked_34 : decode cX7_wattsAsked 34 = .ok (.if_icmp .ne 30, 3) := by decide +kernel
theorem dX7_wattsAsked_37 : decode cX7_wattsAsked 37 = .ok (.iload_n 3, 1) := by decide +kernel
theorem dX7_wattsAsked_38 : decode cX7_wattsAsked 38 = .ok (.aload 5, 2) := by decide +kernel
theorem dX7_wattsAsked_40 : decode cX7_wattsAsked 40 = .ok (.getfield 243, 3) := by decide +kernel
theorem dX7_wattsAsked_43 : decode cX7_wattsAsked 43 = .ok (.aload_n 1, 1) := by decide +kernel
theorem dX7_wattsAsked_44 : decode cX7_wattsAsked 44 = .ok (.iload 4, 2) := by decide +kernel
theorem dX7_wattsAsked_46 : decode cX7_wattsAsked 46 = .ok (.invokevirtual 246, 3) := by decide +kernel
theorem dX7_wattsAsked_49 : decode cX7_wattsAsked 49 = .ok (.aload_n 0, 1) := by decide +kernel
theorem dX7_wattsAsked_50 : decode cX7_wattsAsked 50 = .ok (.getfield 35, 3) := by decide +kernel
theorem dX7_wattsAsked_53 : decode cX7_wattsAsked 53 = .ok (.iload 4, 2) := by decide +kernel
theorem dX7_wattsAsked_55 : decode cX7_wattsAsked 55 = .ok (.invokevirtual 249, 3) := by decide +kernel
theorem dX7_wattsAsked_58 : decode cX7_wattsAsked 58 = .ok (.invokestatic 252, 3) := by decide +kernel
theorem dX7_wattsAsked_61 : decode cX7_wattsAsked 61 = .ok (.imul, 1) := by decide +kernel
end
section
theorem dX7_wattsAsked_62 : decode cX7_wattsAsked 62 = .ok (.iadd, 1) := by decide +kernel
theorem dX7_wattsAsked_63 : decode cX7_wattsAsked 63 = .ok (.istore_n 3, 1) := by decide +kernel
theorem dX7_wattsAsked_64 : decode cX7_wattsAsked 64 = .ok (.iinc 4 1, 3) := by decide +kernel
theorem dX7_wattsAsked_67 : decode cX7_wattsAsked 67 = .ok (.goto (-62), 3) := by decide +kernel
theorem dX7_wattsAsked_70 : decode cX7_wattsAsked 70 = .ok (.iload_n 3, 1) := by decide +kernel
theorem dX7_wattsAsked_71 : decode cX7_wattsAsked 71 = .ok (.bipush 99, 2) := by decide +kernel
theorem dX7_wattsAsked_73 : decode cX7_wattsAsked 73 = .ok (.iadd, 1) := by decide +kernel
theorem dX7_wattsAsked_74 : decode cX7_wattsAsked 74 = .ok (.bipush 100, 2) := by decide +kernel
theorem dX7_wattsAsked_76 : decode cX7_wattsAsked 76 = .ok (.idiv, 1) := by decide +kernel
theorem dX7_wattsAsked_77 : decode cX7_wattsAsked 77 = .ok (.ireturn, 1) := by decide +kernel
theorem dX7_begin_0 : decode cX7_begin 0 = .ok (.aload_n 0, 1) := by decide +kernel
theorem dX7_begin_1 : decode cX7_begin 1 = .ok (.getfield 35, 3) := by decide +kernel
theorem dX7_begin_4 : decode cX7_begin 4 = .ok (.aload_n 1, 1) := by decide +kernel
theorem dX7_begin_5 : decode cX7_begin 5 = .ok (.aload_n 0, 1) := by decide +kernel
theorem dX7_begin_6 : decode cX7_begin 6 = .ok (.getfield 186, 3) := by decide +kernel
theorem dX7_begin_9 : decode cX7_begin 9 = .ok (.invokevirtual 257, 3) := by decide +kernel
theorem dX7_begin_12 : decode cX7_begin 12 = .ok (.aload_n 0, 1) := by decide +kernel
theorem dX7_begin_13 : decode cX7_begin 13 = .ok (.getfield 52, 3) := by decide +kernel
theorem dX7_begin_16 : decode cX7_begin 16 = .ok (.aload_n 0, 1) := by decide +kernel
theorem dX7_begin_17 : decode cX7_begin 17 = .ok (.getfield 186, 3) := by decide +kernel
theorem dX7_begin_20 : decode cX7_begin 20 = .ok (.aload_n 1, 1) := by decide +kernel
theorem dX7_begin_21 : decode cX7_begin 21 = .ok (.getfield 159, 3) := by decide +kernel
theorem dX7_begin_24 : decode cX7_begin 24 = .ok (.invokevirtual 260, 3) := by decide +kernel
theorem dX7_begin_27 : decode cX7_begin 27 = .ok (.aload_n 1, 1) := by decide +kernel
theorem dX7_begin_28 : decode cX7_begin 28 = .ok (.getfield 152, 3) := by decide +kernel
theorem dX7_begin_31 : decode cX7_begin 31 = .ok (.ifnull 23, 3) := by decide +kernel
theorem dX7_begin_34 : decode cX7_begin 34 = .ok (.aload_n 0, 1) := by decide +kernel
theorem dX7_begin_35 : decode cX7_begin 35 = .ok (.getfield 45, 3) := by decide +kernel
theorem dX7_begin_38 : decode cX7_begin 38 = .ok (.aload_n 1, 1) := by decide +kernel
theorem dX7_begin_39 : decode cX7_begin 39 = .ok (.getfield 152, 3) := by decide +kernel
theorem dX7_begin_42 : decode cX7_begin 42 = .ok (.aload_n 0, 1) := by decide +kernel
theorem dX7_begin_43 : decode cX7_begin 43 = .ok (.getfield 186, 3) := by decide +kernel
theorem dX7_begin_46 : decode cX7_begin 46 = .ok (.aload_n 1, 1) := by decide +kernel
theorem dX7_begin_47 : decode cX7_begin 47 = .ok (.getfield 156, 3) := by decide +kernel
theorem dX7_begin_50 : decode cX7_begin 50 = .ok (.iadd, 1) := by decide +kernel
theorem dX7_begin_51 : decode cX7_begin 51 = .ok (.invokevirtual 263, 3) := by decide +kernel
theorem dX7_begin_54 : decode cX7_begin 54 = .ok (.return_, 1) := by decide +kernel
theorem dX7_passOne_0 : decode cX7_passOne 0 = .ok (.aload_n 0, 1) := by decide +kernel
theorem dX7_passOne_1 : decode cX7_passOne 1 = .ok (.dup, 1) := by decide +kernel
theorem dX7_passOne_2 : decode cX7_passOne 2 = .ok (.getfield 186, 3) := by decide +kernel
theorem dX7_passOne_5 : decode cX7_passOne 5 = .ok (.iconst 1, 1) := by decide +kernel
theorem dX7_passOne_6 : decode cX7_passOne 6 = .ok (.iadd, 1) := by decide +kernel
theorem dX7_passOne_7 : decode cX7_passOne 7 = .ok (.putfield 186, 3) := by decide +kernel
theorem dX7_passOne_10 : decode cX7_passOne 10 = .ok (.aload_n 0, 1) := by decide +kernel
theorem dX7_passOne_11 : decode cX7_passOne 11 = .ok (.getfield 35, 3) := by decide +kernel
theorem dX7_passOne_14 : decode cX7_passOne 14 = .ok (.aload_n 0, 1) := by decide +kernel
theorem dX7_passOne_15 : decode cX7_passOne 15 = .ok (.getfield 186, 3) := by decide +kernel
theorem dX7_passOne_18 : decode cX7_passOne 18 = .ok (.invokevirtual 197, 3) := by decide +kernel
theorem dX7_passOne_21 : decode cX7_passOne 21 = .ok (.aload_n 0, 1) := by decide +kernel
theorem dX7_passOne_22 : decode cX7_passOne 22 = .ok (.getfield 45, 3) := by decide +kernel
theorem dX7_passOne_25 : decode cX7_passOne 25 = .ok (.aload_n 0, 1) := by decide +kernel
theorem dX7_passOne_26 : decode cX7_passOne 26 = .ok (.getfield 186, 3) := by decide +kernel
theorem dX7_passOne_29 : decode cX7_passOne 29 = .ok (.invokevirtual 266, 3) := by decide +kernel
theorem dX7_passOne_32 : decode cX7_passOne 32 = .ok (.iconst 0, 1) := by decide +kernel
theorem dX7_passOne_33 : decode cX7_passOne 33 = .ok (.istore_n 1, 1) := by decide +kernel
theorem dX7_passOne_34 : decode cX7_passOne 34 = .ok (.iload_n 1, 1) := by decide +kernel
theorem dX7_passOne_35 : decode cX7_passOne 35 = .ok (.aload_n 0, 1) := by decide +kernel
theorem dX7_passOne_36 : decode cX7_passOne 36 = .ok (.getfield 45, 3) := by decide +kernel
theorem dX7_passOne_39 : decode cX7_passOne 39 = .ok (.getfield 269, 3) := by decide +kernel
theorem dX7_passOne_42 : decode cX7_passOne 42 = .ok (.if_icmp .ge 51, 3) := by decide +kernel
theorem dX7_passOne_45 : decode cX7_passOne 45 = .ok (.aload_n 0, 1) := by decide +kernel
theorem dX7_passOne_46 : decode cX7_passOne 46 = .ok (.getfield 45, 3) := by decide +kernel
theorem dX7_passOne_49 : decode cX7_passOne 49 = .ok (.iload_n 1, 1) := by decide +kernel
theorem dX7_passOne_50 : decode cX7_passOne 50 = .ok (.invokevirtual 272, 3) := by decide +kernel
theorem dX7_passOne_53 : decode cX7_passOne 53 = .ok (.astore_n 2, 1) := by decide +kernel
theorem dX7_passOne_54 : decode cX7_passOne 54 = .ok (.aload_n 2, 1) := by decide +kernel
theorem dX7_passOne_55 : decode cX7_passOne 55 = .ok (.ifnonnull 6, 3) := by decide +kernel
theorem dX7_passOne_58 : decode cX7_passOne 58 = .ok (.goto 29, 3) := by decide +kernel
theorem dX7_passOne_61 : decode cX7_passOne 61 = .ok (.aload_n 0, 1) := by decide +kernel
theorem dX7_passOne_62 : decode cX7_passOne 62 = .ok (.aload_n 2, 1) := by decide +kernel
theorem dX7_passOne_63 : decode cX7_passOne 63 = .ok (.invokevirtual 162, 3) := by decide +kernel
theorem dX7_passOne_66 : decode cX7_passOne 66 = .ok (.ifCond .eq 11, 3) := by decide +kernel
theorem dX7_passOne_69 : decode cX7_passOne 69 = .ok (.aload_n 0, 1) := by decide +kernel
theorem dX7_passOne_70 : decode cX7_passOne 70 = .ok (.aload_n 2, 1) := by decide +kernel
theorem dX7_passOne_71 : decode cX7_passOne 71 = .ok (.invokevirtual 168, 3) := by decide +kernel
theorem dX7_passOne_74 : decode cX7_passOne 74 = .ok (.goto 13, 3) := by decide +kernel
theorem dX7_passOne_77 : decode cX7_passOne 77 = .ok (.aload_n 0, 1) := by decide +kernel
theorem dX7_passOne_78 : decode cX7_passOne 78 = .ok (.dup, 1) := by decide +kernel
theorem dX7_passOne_79 : decode cX7_passOne 79 = .ok (.getfield 236, 3) := by decide +kernel
theorem dX7_passOne_82 : decode cX7_passOne 82 = .ok (.iconst 1, 1) := by decide +kernel
theorem dX7_passOne_83 : decode cX7_passOne 83 = .ok (.iadd, 1) := by decide +kernel
theorem dX7_passOne_84 : decode cX7_passOne 84 = .ok (.putfield 236, 3) := by decide +kernel
theorem dX7_passOne_87 : decode cX7_passOne 87 = .ok (.iinc 1 1, 3) := by decide +kernel
theorem dX7_passOne_90 : decode cX7_passOne 90 = .ok (.goto (-56), 3) := by decide +kernel
theorem dX7_passOne_93 : decode cX7_passOne 93 = .ok (.return_, 1) := by decide +kernel
theorem dX7_loadNow_0 : decode cX7_loadNow 0 = .ok (.fconst 0, 1) := by decide +kernel
theorem dX7_loadNow_1 : decode cX7_loadNow 1 = .ok (.fstore_n 2, 1) := by decide +kernel
theorem dX7_loadNow_2 : decode cX7_loadNow 2 = .ok (.iconst 0, 1) := by decide +kernel
theorem dX7_loadNow_3 : decode cX7_loadNow 3 = .ok (.istore_n 3, 1) := by decide +kernel
theorem dX7_loadNow_4 : decode cX7_loadNow 4 = .ok (.iload_n 3, 1) := by decide +kernel
theorem dX7_loadNow_5 : decode cX7_loadNow 5 = .ok (.bipush 16, 2) := by decide +kernel
theorem dX7_loadNow_7 : decode cX7_loadNow 7 = .ok (.if_icmp .ge 59, 3) := by decide +kernel
theorem dX7_loadNow_10 : decode cX7_loadNow 10 = .ok (.aload_n 0, 1) := by decide +kernel
theorem dX7_loadNow_11 : decode cX7_loadNow 11 = .ok (.getfield 10, 3) := by decide +kernel
theorem dX7_loadNow_14 : decode cX7_loadNow 14 = .ok (.iload_n 3, 1) := by decide +kernel
theorem dX7_loadNow_15 : decode cX7_loadNow 15 = .ok (.invokevirtual 95, 3) := by decide +kernel
theorem dX7_loadNow_18 : decode cX7_loadNow 18 = .ok (.astore 4, 2) := by decide +kernel
theorem dX7_loadNow_20 : decode cX7_loadNow 20 = .ok (.aload 4, 2) := by decide +kernel
theorem dX7_loadNow_22 : decode cX7_loadNow 22 = .ok (.ifnull 38, 3) := by decide +kernel
theorem dX7_loadNow_25 : decode cX7_loadNow 25 = .ok (.aload 4, 2) := by decide +kernel
theorem dX7_loadNow_27 : decode cX7_loadNow 27 = .ok (.getfield 240, 3) := by decide +kernel
theorem dX7_loadNow_30 : decode cX7_loadNow 30 = .ok (.iload_n 1, 1) := by decide +kernel
theorem dX7_loadNow_31 : decode cX7_loadNow 31 = .ok (.if_icmp .ne 29, 3) := by decide +kernel
theorem dX7_loadNow_34 : decode cX7_loadNow 34 = .ok (.fload_n 2, 1) := by decide +kernel
theorem dX7_loadNow_35 : decode cX7_loadNow 35 = .ok (.aload 4, 2) := by decide +kernel
theorem dX7_loadNow_37 : decode cX7_loadNow 37 = .ok (.getfield 243, 3) := by decide +kernel
theorem dX7_loadNow_40 : decode cX7_loadNow 40 = .ok (.i2f, 1) := by decide +kernel
theorem dX7_loadNow_41 : decode cX7_loadNow 41 = .ok (.aload_n 0, 1) := by decide +kernel
theorem dX7_loadNow_42 : decode cX7_loadNow 42 = .ok (.getfield 35, 3) := by decide +kernel
theorem dX7_loadNow_45 : decode cX7_loadNow 45 = .ok (.iload_n 3, 1) := by decide +kernel
theorem dX7_loadNow_46 : decode cX7_loadNow 46 = .ok (.aload_n 0, 1) := by decide +kernel
theorem dX7_loadNow_47 : decode cX7_loadNow 47 = .ok (.getfield 186, 3) := by decide +kernel
theorem dX7_loadNow_50 : decode cX7_loadNow 50 = .ok (.invokevirtual 203, 3) := by decide +kernel
theorem dX7_loadNow_53 : decode cX7_loadNow 53 = .ok (.fmul, 1) := by decide +kernel
theorem dX7_loadNow_54 : decode cX7_loadNow 54 = .ok (.ldc_w 275, 3) := by decide +kernel
theorem dX7_loadNow_57 : decode cX7_loadNow 57 = .ok (.fdiv, 1) := by decide +kernel
theorem dX7_loadNow_58 : decode cX7_loadNow 58 = .ok (.fadd, 1) := by decide +kernel
theorem dX7_loadNow_59 : decode cX7_loadNow 59 = .ok (.fstore_n 2, 1) := by decide +kernel
theorem dX7_loadNow_60 : decode cX7_loadNow 60 = .ok (.iinc 3 1, 3) := by decide +kernel
theorem dX7_loadNow_63 : decode cX7_loadNow 63 = .ok (.goto (-59), 3) := by decide +kernel
theorem dX7_loadNow_66 : decode cX7_loadNow 66 = .ok (.fload_n 2, 1) := by decide +kernel
theorem dX7_loadNow_67 : decode cX7_loadNow 67 = .ok (.freturn, 1) := by decide +kernel
theorem dX7_retell_0 : decode cX7_retell 0 = .ok (.aload_n 0, 1) := by decide +kernel
theorem dX7_retell_1 : decode cX7_retell 1 = .ok (.getfield 39, 3) := by decide +kernel
theorem dX7_retell_4 : decode cX7_retell 4 = .ok (.invokevirtual 276, 3) := by decide +kernel
theorem dX7_retell_7 : decode cX7_retell 7 = .ok (.iconst 0, 1) := by decide +kernel
theorem dX7_retell_8 : decode cX7_retell 8 = .ok (.istore_n 1, 1) := by decide +kernel
theorem dX7_retell_9 : decode cX7_retell 9 = .ok (.iload_n 1, 1) := by decide +kernel
theorem dX7_retell_10 : decode cX7_retell 10 = .ok (.aload_n 0, 1) := by decide +kernel
theorem dX7_retell_11 : decode cX7_retell 11 = .ok (.getfield 52, 3) := by decide +kernel
theorem dX7_retell_14 : decode cX7_retell 14 = .ok (.getfield 279, 3) := by decide +kernel
theorem dX7_retell_17 : decode cX7_retell 17 = .ok (.if_icmp .ge 68, 3) := by decide +kernel
theorem dX7_retell_20 : decode cX7_retell 20 = .ok (.aload_n 0, 1) := by decide +kernel
theorem dX7_retell_21 : decode cX7_retell 21 = .ok (.getfield 52, 3) := by decide +kernel
theorem dX7_retell_24 : decode cX7_retell 24 = .ok (.iload_n 1, 1) := by decide +kernel
theorem dX7_retell_25 : decode cX7_retell 25 = .ok (.invokevirtual 280, 3) := by decide +kernel
theorem dX7_retell_28 : decode cX7_retell 28 = .ok (.istore_n 2, 1) := by decide +kernel
theorem dX7_retell_29 : decode cX7_retell 29 = .ok (.aload_n 0, 1) := by decide +kernel
theorem dX7_retell_30 : decode cX7_retell 30 = .ok (.iload_n 2, 1) := by decide +kernel
theorem dX7_retell_31 : decode cX7_retell 31 = .ok (.invokestatic 283, 3) := by decide +kernel
theorem dX7_retell_34 : decode cX7_retell 34 = .ok (.invokevirtual 132, 3) := by decide +kernel
theorem dX7_retell_37 : decode cX7_retell 37 = .ok (.astore_n 3, 1) := by decide +kernel
theorem dX7_retell_38 : decode cX7_retell 38 = .ok (.aload_n 3, 1) := by decide +kernel
theorem dX7_retell_39 : decode cX7_retell 39 = .ok (.ifnonnull 6, 3) := by decide +kernel
theorem dX7_retell_42 : decode cX7_retell 42 = .ok (.goto 37, 3) := by decide +kernel
theorem dX7_retell_45 : decode cX7_retell 45 = .ok (.iload_n 2, 1) := by decide +kernel
theorem dX7_retell_46 : decode cX7_retell 46 = .ok (.invokestatic 286, 3) := by decide +kernel
theorem dX7_retell_49 : decode cX7_retell 49 = .ok (.ifCond .eq 18, 3) := by decide +kernel
theorem dX7_retell_52 : decode cX7_retell 52 = .ok (.aload_n 0, 1) := by decide +kernel
theorem dX7_retell_53 : decode cX7_retell 53 = .ok (.getfield 39, 3) := by decide +kernel
theorem dX7_retell_56 : decode cX7_retell 56 = .ok (.aload_n 3, 1) := by decide +kernel
theorem dX7_retell_57 : decode cX7_retell 57 = .ok (.iload_n 2, 1) := by decide +kernel
theorem dX7_retell_58 : decode cX7_retell 58 = .ok (.invokestatic 289, 3) := by decide +kernel
theorem dX7_retell_61 : decode cX7_retell 61 = .ok (.invokevirtual 292, 3) := by decide +kernel
theorem dX7_retell_64 : decode cX7_retell 64 = .ok (.goto 15, 3) := by decide +kernel
theorem dX7_retell_67 : decode cX7_retell 67 = .ok (.aload_n 0, 1) := by decide +kernel
theorem dX7_retell_68 : decode cX7_retell 68 = .ok (.getfield 39, 3) := by decide +kernel
theorem dX7_retell_71 : decode cX7_retell 71 = .ok (.aload_n 3, 1) := by decide +kernel
theorem dX7_retell_72 : decode cX7_retell 72 = .ok (.iload_n 2, 1) := by decide +kernel
theorem dX7_retell_73 : decode cX7_retell 73 = .ok (.invokestatic 289, 3) := by decide +kernel
theorem dX7_retell_76 : decode cX7_retell 76 = .ok (.invokevirtual 257, 3) := by decide +kernel
theorem dX7_retell_79 : decode cX7_retell 79 = .ok (.iinc 1 1, 3) := by decide +kernel
theorem dX7_retell_82 : decode cX7_retell 82 = .ok (.goto (-73), 3) := by decide +kernel
theorem dX7_retell_85 : decode cX7_retell 85 = .ok (.aload_n 0, 1) := by decide +kernel
theorem dX7_retell_86 : decode cX7_retell 86 = .ok (.getfield 39, 3) := by decide +kernel
theorem dX7_retell_89 : decode cX7_retell 89 = .ok (.aload_n 0, 1) := by decide +kernel
theorem dX7_retell_90 : decode cX7_retell 90 = .ok (.getfield 186, 3) := by decide +kernel
theorem dX7_retell_93 : decode cX7_retell 93 = .ok (.invokevirtual 197, 3) := by decide +kernel
theorem dX7_retell_96 : decode cX7_retell 96 = .ok (.return_, 1) := by decide +kernel
theorem dX8_init_0 : decode cX8_init 0 = .ok (.aload_n 0, 1) := by decide +kernel
theorem dX8_init_1 : decode cX8_init 1 = .ok (.invokespecial 1, 3) := by decide +kernel
theorem dX8_init_4 : decode cX8_init 4 = .ok (.aload_n 0, 1) := by decide +kernel
theorem dX8_init_5 : decode cX8_init 5 = .ok (.bipush 16, 2) := by decide +kernel
theorem dX8_init_7 : decode cX8_init 7 = .ok (.newarray .int, 2) := by decide +kernel
theorem dX8_init_9 : decode cX8_init 9 = .ok (.putfield 7, 3) := by decide +kernel
theorem dX8_init_12 : decode cX8_init 12 = .ok (.aload_n 0, 1) := by decide +kernel
theorem dX8_init_13 : decode cX8_init 13 = .ok (.bipush 16, 2) := by decide +kernel
theorem dX8_init_15 : decode cX8_init 15 = .ok (.newarray .int, 2) := by decide +kernel
theorem dX8_init_17 : decode cX8_init 17 = .ok (.putfield 13, 3) := by decide +kernel
theorem dX8_init_20 : decode cX8_init 20 = .ok (.aload_n 0, 1) := by decide +kernel
theorem dX8_init_21 : decode cX8_init 21 = .ok (.bipush 16, 2) := by decide +kernel
theorem dX8_init_23 : decode cX8_init 23 = .ok (.newarray .int, 2) := by decide +kernel
theorem dX8_init_25 : decode cX8_init 25 = .ok (.putfield 16, 3) := by decide +kernel
theorem dX8_init_28 : decode cX8_init 28 = .ok (.aload_n 0, 1) := by decide +kernel
theorem dX8_init_29 : decode cX8_init 29 = .ok (.bipush 16, 2) := by decide +kernel
theorem dX8_init_31 : decode cX8_init 31 = .ok (.newarray .int, 2) := by decide +kernel
theorem dX8_init_33 : decode cX8_init 33 = .ok (.putfield 19, 3) := by decide +kernel
theorem dX8_init_36 : decode cX8_init 36 = .ok (.aload_n 0, 1) := by decide +kernel
theorem dX8_init_37 : decode cX8_init 37 = .ok (.bipush 16, 2) := by decide +kernel
theorem dX8_init_39 : decode cX8_init 39 = .ok (.newarray .int, 2) := by decide +kernel
theorem dX8_init_41 : decode cX8_init 41 = .ok (.putfield 22, 3) := by decide +kernel
theorem dX8_init_44 : decode cX8_init 44 = .ok (.aload_n 0, 1) := by decide +kernel
theorem dX8_init_45 : decode cX8_init 45 = .ok (.bipush 16, 2) := by decide +kernel
theorem dX8_init_47 : decode cX8_init 47 = .ok (.newarray .boolean, 2) := by decide +kernel
theorem dX8_init_49 : decode cX8_init 49 = .ok (.putfield 25, 3) := by decide +kernel
theorem dX8_init_52 : decode cX8_init 52 = .ok (.aload_n 0, 1) := by decide +kernel
theorem dX8_init_53 : decode cX8_init 53 = .ok (.bipush 15, 2) := by decide +kernel
theorem dX8_init_55 : decode cX8_init 55 = .ok (.putfield 29, 3) := by decide +kernel
theorem dX8_init_58 : decode cX8_init 58 = .ok (.aload_n 0, 1) := by decide +kernel
theorem dX8_init_59 : decode cX8_init 59 = .ok (.iconst 3, 1) := by decide +kernel
theorem dX8_init_60 : decode cX8_init 60 = .ok (.newarray .int, 2) := by decide +kernel
theorem dX8_init_62 : decode cX8_init 62 = .ok (.putfield 33, 3) := by decide +kernel
theorem dX8_init_65 : decode cX8_init 65 = .ok (.aload_n 0, 1) := by decide +kernel
theorem dX8_init_66 : decode cX8_init 66 = .ok (.bipush 12, 2) := by decide +kernel
theorem dX8_init_68 : decode cX8_init 68 = .ok (.newarray .int, 2) := by decide +kernel
theorem dX8_init_70 : decode cX8_init 70 = .ok (.putfield 36, 3) := by decide +kernel
theorem dX8_init_73 : decode cX8_init 73 = .ok (.aload_n 0, 1) := by decide +kernel
theorem dX8_init_74 : decode cX8_init 74 = .ok (.bipush 12, 2) := by decide +kernel
theorem dX8_init_76 : decode cX8_init 76 = .ok (.newarray .int, 2) := by decide +kernel
theorem dX8_init_78 : decode cX8_init 78 = .ok (.putfield 39, 3) := by decide +kernel
theorem dX8_init_81 : decode cX8_init 81 = .ok (.aload_n 0, 1) := by decide +kernel
theorem dX8_init_82 : decode cX8_init 82 = .ok (.bipush 12, 2) := by decide +kernel
theorem dX8_init_84 : decode cX8_init 84 = .ok (.newarray .int, 2) := by decide +kernel
theorem dX8_init_86 : decode cX8_init 86 = .ok (.putfield 42, 3) := by decide +kernel
theorem dX8_init_89 : decode cX8_init 89 = .ok (.aload_n 0, 1) := by decide +kernel
theorem dX8_init_90 : decode cX8_init 90 = .ok (.sipush 192, 3) := by decide +kernel
theorem dX8_init_93 : decode cX8_init 93 = .ok (.newarray .int, 2) := by decide +kernel
theorem dX8_init_95 : decode cX8_init 95 = .ok (.putfield 45, 3) := by decide +kernel
theorem dX8_init_98 : decode cX8_init 98 = .ok (.aload_n 0, 1) := by decide +kernel
theorem dX8_init_99 : decode cX8_init 99 = .ok (.bipush 12, 2) := by decide +kernel
theorem dX8_init_101 : decode cX8_init 101 = .ok (.newarray .int, 2) := by decide +kernel
theorem dX8_init_103 : decode cX8_init 103 = .ok (.putfield 48, 3) := by decide +kernel
theorem dX8_init_106 : decode cX8_init 106 = .ok (.aload_n 0, 1) := by decide +kernel
theorem dX8_init_107 : decode cX8_init 107 = .ok (.bipush 12, 2) := by decide +kernel
theorem dX8_init_109 : decode cX8_init 109 = .ok (.newarray .int, 2) := by decide +kernel
theorem dX8_init_111 : decode cX8_init 111 = .ok (.putfield 51, 3) := by decide +kernel
theorem dX8_init_114 : decode cX8_init 114 = .ok (.aload_n 0, 1) := by decide +kernel
theorem dX8_init_115 : decode cX8_init 115 = .ok (.bipush 12, 2) := by decide +kernel
theorem dX8_init_117 : decode cX8_init 117 = .ok (.newarray .boolean, 2) := by decide +kernel
theorem dX8_init_119 : decode cX8_init 119 = .ok (.putfield 54, 3) := by decide +kernel
theorem dX8_init_122 : decode cX8_init 122 = .ok (.aload_n 0, 1) := by decide +kernel
theorem dX8_init_123 : decode cX8_init 123 = .ok (.bipush 12, 2) := by decide +kernel
theorem dX8_init_125 : decode cX8_init 125 = .ok (.newarray .int, 2) := by decide +kernel
theorem dX8_init_127 : decode cX8_init 127 = .ok (.putfield 57, 3) := by decide +kernel
theorem dX8_init_130 : decode cX8_init 130 = .ok (.aload_n 0, 1) := by decide +kernel
theorem dX8_init_131 : decode cX8_init 131 = .ok (.bipush 12, 2) := by decide +kernel
theorem dX8_init_133 : decode cX8_init 133 = .ok (.newarray .int, 2) := by decide +kernel
theorem dX8_init_135 : decode cX8_init 135 = .ok (.putfield 60, 3) := by decide +kernel
theorem dX8_init_138 : decode cX8_init 138 = .ok (.aload_n 0, 1) := by decide +kernel
theorem dX8_init_139 : decode cX8_init 139 = .ok (.bipush 12, 2) := by decide +kernel
theorem dX8_init_141 : decode cX8_init 141 = .ok (.newarray .int, 2) := by decide +kernel
theorem dX8_init_143 : decode cX8_init 143 = .ok (.putfield 63, 3) := by decide +kernel
theorem dX8_init_146 : decode cX8_init 146 = .ok (.aload_n 0, 1) := by decide +kernel
theorem dX8_init_147 : decode cX8_init 147 = .ok (.sipush 1024, 3) := by decide +kernel
theorem dX8_init_150 : decode cX8_init 150 = .ok (.newarray .int, 2) := by decide +kernel
theorem dX8_init_152 : decode cX8_init 152 = .ok (.putfield 66, 3) := by decide +kernel
theorem dX8_init_155 : decode cX8_init 155 = .ok (.aload_n 0, 1) := by decide +kernel
theorem dX8_init_156 : decode cX8_init 156 = .ok (.sipush 1024, 3) := by decide +kernel
theorem dX8_init_159 : decode cX8_init 159 = .ok (.newarray .int, 2) := by decide +kernel
theorem dX8_init_161 : decode cX8_init 161 = .ok (.putfield 69, 3) := by decide +kernel
theorem dX8_init_164 : decode cX8_init 164 = .ok (.aload_n 0, 1) := by decide +kernel
theorem dX8_init_165 : decode cX8_init 165 = .ok (.bipush 16, 2) := by decide +kernel
theorem dX8_init_167 : decode cX8_init 167 = .ok (.newarray .int, 2) := by decide +kernel
theorem dX8_init_169 : decode cX8_init 169 = .ok (.putfield 72, 3) := by decide +kernel
theorem dX8_init_172 : decode cX8_init 172 = .ok (.aload_n 0, 1) := by decide +kernel
theorem dX8_init_173 : decode cX8_init 173 = .ok (.bipush 16, 2) := by decide +kernel
theorem dX8_init_175 : decode cX8_init 175 = .ok (.newarray .int, 2) := by decide +kernel
theorem dX8_init_177 : decode cX8_init 177 = .ok (.putfield 75, 3) := by decide +kernel
theorem dX8_init_180 : decode cX8_init 180 = .ok (.aload_n 0, 1) := by decide +kernel
theorem dX8_init_181 : decode cX8_init 181 = .ok (.bipush 16, 2) := by decide +kernel
theorem dX8_init_183 : decode cX8_init 183 = .ok (.newarray .int, 2) := by decide +kernel
theorem dX8_init_185 : decode cX8_init 185 = .ok (.putfield 78, 3) := by decide +kernel
theorem dX8_init_188 : decode cX8_init 188 = .ok (.iconst 0, 1) := by decide +kernel
theorem dX8_init_189 : decode cX8_init 189 = .ok (.istore_n 1, 1) := by decide +kernel
theorem dX8_init_190 : decode cX8_init 190 = .ok (.iload_n 1, 1) := by decide +kernel
theorem dX8_init_191 : decode cX8_init 191 = .ok (.iconst 3, 1) := by decide +kernel
theorem dX8_init_192 : decode cX8_init 192 = .ok (.if_icmp .ge 18, 3) := by decide +kernel
theorem dX8_init_195 : decode cX8_init 195 = .ok (.aload_n 0, 1) := by decide +kernel
theorem dX8_init_196 : decode cX8_init 196 = .ok (.getfield 33, 3) := by decide +kernel
theorem dX8_init_199 : decode cX8_init 199 = .ok (.iload_n 1, 1) := by decide +kernel
theorem dX8_init_200 : decode cX8_init 200 = .ok (.sipush 5000, 3) := by decide +kernel
theorem dX8_init_203 : decode cX8_init 203 = .ok (.iastore, 1) := by decide +kernel
theorem dX8_init_204 : decode cX8_init 204 = .ok (.iinc 1 1, 3) := by decide +kernel
theorem dX8_init_207 : decode cX8_init 207 = .ok (.goto (-17), 3) := by decide +kernel
theorem dX8_init_210 : decode cX8_init 210 = .ok (.return_, 1) := by decide +kernel
theorem dX8_thrown_0 : decode cX8_thrown 0 = .ok (.aload_n 0, 1) := by decide +kernel
theorem dX8_thrown_1 : decode cX8_thrown 1 = .ok (.getfield 81, 3) := by decide +kernel
theorem dX8_thrown_4 : decode cX8_thrown 4 = .ok (.ireturn, 1) := by decide +kernel
theorem dX8_can_0 : decode cX8_can 0 = .ok (.aload_n 0, 1) := by decide +kernel
theorem dX8_can_1 : decode cX8_can 1 = .ok (.iload_n 1, 1) := by decide +kernel
theorem dX8_can_2 : decode cX8_can 2 = .ok (.putfield 81, 3) := by decide +kernel
theorem dX8_can_5 : decode cX8_can 5 = .ok (.iload_n 1, 1) := by decide +kernel
theorem dX8_can_6 : decode cX8_can 6 = .ok (.ifCond .ne 7, 3) := by decide +kernel
theorem dX8_can_9 : decode cX8_can 9 = .ok (.iconst 1, 1) := by decide +kernel
theorem dX8_can_10 : decode cX8_can 10 = .ok (.goto 4, 3) := by decide +kernel
theorem dX8_can_13 : decode cX8_can 13 = .ok (.iconst 0, 1) := by decide +kernel
theorem dX8_can_14 : decode cX8_can 14 = .ok (.ireturn, 1) := by decide +kernel
theorem dX8_isIn_0 : decode cX8_isIn 0 = .ok (.iload_n 0, 1) := by decide +kernel
theorem dX8_isIn_1 : decode cX8_isIn 1 = .ok (.iload_n 1, 1) := by decide +kernel
theorem dX8_isIn_2 : decode cX8_isIn 2 = .ok (.if_icmp .lt 12, 3) := by decide +kernel
theorem dX8_isIn_5 : decode cX8_isIn 5 = .ok (.iload_n 0, 1) := by decide +kernel
theorem dX8_isIn_6 : decode cX8_isIn 6 = .ok (.iload_n 2, 1) := by decide +kernel
theorem dX8_isIn_7 : decode cX8_isIn 7 = .ok (.if_icmp .gt 7, 3) := by decide +kernel
theorem dX8_isIn_10 : decode cX8_isIn 10 = .ok (.iconst 1, 1) := by decide +kernel
theorem dX8_isIn_11 : decode cX8_isIn 11 = .ok (.goto 4, 3) := by decide +kernel
theorem dX8_isIn_14 : decode cX8_isIn 14 = .ok (.iconst 0, 1) := by decide +kernel
theorem dX8_isIn_15 : decode cX8_isIn 15 = .ok (.ireturn, 1) := by decide +kernel
theorem dX8_isLamp_0 : decode cX8_isLamp 0 = .ok (.iload_n 1, 1) := by decide +kernel
theorem dX8_isLamp_1 : decode cX8_isLamp 1 = .ok (.iconst 0, 1) := by decide +kernel
theorem dX8_isLamp_2 : decode cX8_isLamp 2 = .ok (.aload_n 0, 1) := by decide +kernel
theorem dX8_isLamp_3 : decode cX8_isLamp 3 = .ok (.getfield 84, 3) := by decide +kernel
theorem dX8_isLamp_6 : decode cX8_isLamp 6 = .ok (.iconst 1, 1) := by decide +kernel
theorem dX8_isLamp_7 : decode cX8_isLamp 7 = .ok (.isub, 1) := by decide +kernel
theorem dX8_isLamp_8 : decode cX8_isLamp 8 = .ok (.invokestatic 87, 3) := by decide +kernel
theorem dX8_isLamp_11 : decode cX8_isLamp 11 = .ok (.ireturn, 1) := by decide +kernel
theorem dX8_isCue_0 : decode cX8_isCue 0 = .ok (.iload_n 1, 1) := by decide +kernel
theorem dX8_isCue_1 : decode cX8_isCue 1 = .ok (.iconst 0, 1) := by decide +kernel
theorem dX8_isCue_2 : decode cX8_isCue 2 = .ok (.aload_n 0, 1) := by decide +kernel
theorem dX8_isCue_3 : decode cX8_isCue 3 = .ok (.getfield 91, 3) := by decide +kernel
theorem dX8_isCue_6 : decode cX8_isCue 6 = .ok (.iconst 1, 1) := by decide +kernel
theorem dX8_isCue_7 : decode cX8_isCue 7 = .ok (.isub, 1) := by decide +kernel
theorem dX8_isCue_8 : decode cX8_isCue 8 = .ok (.invokestatic 87, 3) := by decide +kernel
theorem dX8_isCue_11 : decode cX8_isCue 11 = .ok (.ireturn, 1) := by decide +kernel
theorem dX8_isPhase_0 : decode cX8_isPhase 0 = .ok (.iload_n 0, 1) := by decide +kernel
theorem dX8_isPhase_1 : decode cX8_isPhase 1 = .ok (.iconst 0, 1) := by decide +kernel
theorem dX8_isPhase_2 : decode cX8_isPhase 2 = .ok (.iconst 2, 1) := by decide +kernel
theorem dX8_isPhase_3 : decode cX8_isPhase 3 = .ok (.invokestatic 87, 3) := by decide +kernel
theorem dX8_isPhase_6 : decode cX8_isPhase 6 = .ok (.ireturn, 1) := by decide +kernel
theorem dX8_size_0 : decode cX8_size 0 = .ok (.iload_n 0, 1) := by decide +kernel
theorem dX8_size_1 : decode cX8_size 1 = .ok (.ifCond .ge 8, 3) := by decide +kernel
theorem dX8_size_4 : decode cX8_size 4 = .ok (.iload_n 0, 1) := by decide +kernel
theorem dX8_size_5 : decode cX8_size 5 = .ok (.ineg, 1) := by decide +kernel
theorem dX8_size_6 : decode cX8_size 6 = .ok (.goto 4, 3) := by decide +kernel
theorem dX8_size_9 : decode cX8_size 9 = .ok (.iload_n 0, 1) := by decide +kernel
theorem dX8_size_10 : decode cX8_size 10 = .ok (.ireturn, 1) := by decide +kernel
theorem dX8_lamp_0 : decode cX8_lamp 0 = .ok (.iload_n 1, 1) := by decide +kernel
theorem dX8_lamp_1 : decode cX8_lamp 1 = .ok (.iconst 0, 1) := by decide +kernel
theorem dX8_lamp_2 : decode cX8_lamp 2 = .ok (.iconst 3, 1) := by decide +kernel
theorem dX8_lamp_3 : decode cX8_lamp 3 = .ok (.invokestatic 87, 3) := by decide +kernel
theorem dX8_lamp_6 : decode cX8_lamp 6 = .ok (.ifCond .eq 57, 3) := by decide +kernel
theorem dX8_lamp_9 : decode cX8_lamp 9 = .ok (.iload_n 2, 1) := by decide +kernel
theorem dX8_lamp_10 : decode cX8_lamp 10 = .ok (.iconst 0, 1) := by decide +kernel
theorem dX8_lamp_11 : decode cX8_lamp 11 = .ok (.bipush 9, 2) := by decide +kernel
theorem dX8_lamp_13 : decode cX8_lamp 13 = .ok (.invokestatic 87, 3) := by decide +kernel
theorem dX8_lamp_16 : decode cX8_lamp 16 = .ok (.ifCond .eq 47, 3) := by decide +kernel
theorem dX8_lamp_19 : decode cX8_lamp 19 = .ok (.iload_n 3, 1) := by decide +kernel
theorem dX8_lamp_20 : decode cX8_lamp 20 = .ok (.iconst 0, 1) := by decide +kernel
theorem dX8_lamp_21 : decode cX8_lamp 21 = .ok (.bipush 55, 2) := by decide +kernel
theorem dX8_lamp_23 : decode cX8_lamp 23 = .ok (.invokestatic 87, 3) := by decide +kernel
theorem dX8_lamp_26 : decode cX8_lamp 26 = .ok (.ifCond .eq 37, 3) := by decide +kernel
theorem dX8_lamp_29 : decode cX8_lamp 29 = .ok (.iload_n 3, 1) := by decide +kernel
theorem dX8_lamp_30 : decode cX8_lamp 30 = .ok (.bipush 10, 2) := by decide +kernel
theorem dX8_lamp_32 : decode cX8_lamp 32 = .ok (.irem, 1) := by decide +kernel
theorem dX8_lamp_33 : decode cX8_lamp 33 = .ok (.bipush 6, 2) := by decide +kernel
theorem dX8_lamp_35 : decode cX8_lamp 35 = .ok (.if_icmp .ge 28, 3) := by decide +kernel
theorem dX8_lamp_38 : decode cX8_lamp 38 = .ok (.iload 4, 2) := by decide +kernel
theorem dX8_lamp_40 : decode cX8_lamp 40 = .ok (.bipush 100, 2) := by decide +kernel
theorem dX8_lamp_42 : decode cX8_lamp 42 = .ok (.sipush 2000, 3) := by decide +kernel
theorem dX8_lamp_45 : decode cX8_lamp 45 = .ok (.invokestatic 87, 3) := by decide +kernel
theorem dX8_lamp_48 : decode cX8_lamp 48 = .ok (.ifCond .eq 15, 3) := by decide +kernel
theorem dX8_lamp_51 : decode cX8_lamp 51 = .ok (.iload 5, 2) := by decide +kernel
theorem dX8_lamp_53 : decode cX8_lamp 53 = .ok (.invokestatic 94, 3) := by decide +kernel
theorem dX8_lamp_56 : decode cX8_lamp 56 = .ok (.ifCond .eq 7, 3) := by decide +kernel
theorem dX8_lamp_59 : decode cX8_lamp 59 = .ok (.iconst 1, 1) := by decide +kernel
theorem dX8_lamp_60 : decode cX8_lamp 60 = .ok (.goto 4, 3) := by decide +kernel
theorem dX8_lamp_63 : decode cX8_lamp 63 = .ok (.iconst 0, 1) := by decide +kernel
theorem dX8_lamp_64 : decode cX8_lamp 64 = .ok (.istore 6, 2) := by decide +kernel
theorem dX8_lamp_66 : decode cX8_lamp 66 = .ok (.aload_n 0, 1) := by decide +kernel
theorem dX8_lamp_67 : decode cX8_lamp 67 = .ok (.iload 6, 2) := by decide +kernel
theorem dX8_lamp_69 : decode cX8_lamp 69 = .ok (.ifCond .ne 7, 3) := by decide +kernel
theorem dX8_lamp_72 : decode cX8_lamp 72 = .ok (.iconst 1, 1) := by decide +kernel
theorem dX8_lamp_73 : decode cX8_lamp 73 = .ok (.goto 17, 3) := by decide +kernel
theorem dX8_lamp_76 : decode cX8_lamp 76 = .ok (.aload_n 0, 1) := by decide +kernel
theorem dX8_lamp_77 : decode cX8_lamp 77 = .ok (.getfield 84, 3) := by decide +kernel
theorem dX8_lamp_80 : decode cX8_lamp 80 = .ok (.bipush 16, 2) := by decide +kernel
theorem dX8_lamp_82 : decode cX8_lamp 82 = .ok (.if_icmp .ne 7, 3) := by decide +kernel
theorem dX8_lamp_85 : decode cX8_lamp 85 = .ok (.iconst 2, 1) := by decide +kernel
theorem dX8_lamp_86 : decode cX8_lamp 86 = .ok (.goto 4, 3) := by decide +kernel
theorem dX8_lamp_89 : decode cX8_lamp 89 = .ok (.iconst 0, 1) := by decide +kernel
theorem dX8_lamp_90 : decode cX8_lamp 90 = .ok (.invokevirtual 98, 3) := by decide +kernel
theorem dX8_lamp_93 : decode cX8_lamp 93 = .ok (.ifCond .ne 5, 3) := by decide +kernel
theorem dX8_lamp_96 : decode cX8_lamp 96 = .ok (.iconst 0, 1) := by decide +kernel
theorem dX8_lamp_97 : decode cX8_lamp 97 = .ok (.ireturn, 1) := by decide +kernel
theorem dX8_lamp_98 : decode cX8_lamp 98 = .ok (.aload_n 0, 1) := by decide +kernel
theorem dX8_lamp_99 : decode cX8_lamp 99 = .ok (.getfield 7, 3) := by decide +kernel
theorem dX8_lamp_102 : decode cX8_lamp 102 = .ok (.aload_n 0, 1) := by decide +kernel
theorem dX8_lamp_103 : decode cX8_lamp 103 = .ok (.getfield 84, 3) := by decide +kernel
theorem dX8_lamp_106 : decode cX8_lamp 106 = .ok (.iload_n 1, 1) := by decide +kernel
theorem dX8_lamp_107 : decode cX8_lamp 107 = .ok (.iastore, 1) := by decide +kernel
theorem dX8_lamp_108 : decode cX8_lamp 108 = .ok (.aload_n 0, 1) := by decide +kernel
theorem dX8_lamp_109 : decode cX8_lamp 109 = .ok (.getfield 13, 3) := by decide +kernel
theorem dX8_lamp_112 : decode cX8_lamp 112 = .ok (.aload_n 0, 1) := by decide +kernel
theorem dX8_lamp_113 : decode cX8_lamp 113 = .ok (.getfield 84, 3) := by decide +kernel
theorem dX8_lamp_116 : decode cX8_lamp 116 = .ok (.iload_n 2, 1) := by decide +kernel
theorem dX8_lamp_117 : decode cX8_lamp 117 = .ok (.iastore, 1) := by decide +kernel
theorem dX8_lamp_118 : decode cX8_lamp 118 = .ok (.aload_n 0, 1) := by decide +kernel
theorem dX8_lamp_119 : decode cX8_lamp 119 = .ok (.getfield 16, 3) := by decide +kernel
theorem dX8_lamp_122 : decode cX8_lamp 122 = .ok (.aload_n 0, 1) := by decide +kernel
theorem dX8_lamp_123 : decode cX8_lamp 123 = .ok (.getfield 84, 3) := by decide +kernel
theorem dX8_lamp_126 : decode cX8_lamp 126 = .ok (.iload_n 3, 1) := by decide +kernel
theorem dX8_lamp_127 : decode cX8_lamp 127 = .ok (.iastore, 1) := by decide +kernel
theorem dX8_lamp_128 : decode cX8_lamp 128 = .ok (.aload_n 0, 1) := by decide +kernel
theorem dX8_lamp_129 : decode cX8_lamp 129 = .ok (.getfield 19, 3) := by decide +kernel
theorem dX8_lamp_132 : decode cX8_lamp 132 = .ok (.aload_n 0, 1) := by decide +kernel
theorem dX8_lamp_133 : decode cX8_lamp 133 = .ok (.getfield 84, 3) := by decide +kernel
theorem dX8_lamp_136 : decode cX8_lamp 136 = .ok (.iload 4, 2) := by decide +kernel
theorem dX8_lamp_138 : decode cX8_lamp 138 = .ok (.iastore, 1) := by decide +kernel
theorem dX8_lamp_139 : decode cX8_lamp 139 = .ok (.aload_n 0, 1) := by decide +kernel
theorem dX8_lamp_140 : decode cX8_lamp 140 = .ok (.getfield 22, 3) := by decide +kernel
theorem dX8_lamp_143 : decode cX8_lamp 143 = .ok (.aload_n 0, 1) := by decide +kernel
theorem dX8_lamp_144 : decode cX8_lamp 144 = .ok (.getfield 84, 3) := by decide +kernel
theorem dX8_lamp_147 : decode cX8_lamp 147 = .ok (.iload 5, 2) := by decide +kernel
theorem dX8_lamp_149 : decode cX8_lamp 149 = .ok (.iastore, 1) := by decide +kernel
theorem dX8_lamp_150 : decode cX8_lamp 150 = .ok (.aload_n 0, 1) := by decide +kernel
theorem dX8_lamp_151 : decode cX8_lamp 151 = .ok (.dup, 1) := by decide +kernel
theorem dX8_lamp_152 : decode cX8_lamp 152 = .ok (.getfield 84, 3) := by decide +kernel
theorem dX8_lamp_155 : decode cX8_lamp 155 = .ok (.iconst 1, 1) := by decide +kernel
theorem dX8_lamp_156 : decode cX8_lamp 156 = .ok (.iadd, 1) := by decide +kernel
theorem dX8_lamp_157 : decode cX8_lamp 157 = .ok (.putfield 84, 3) := by decide +kernel
theorem dX8_lamp_160 : decode cX8_lamp 160 = .ok (.aload_n 0, 1) := by decide +kernel
theorem dX8_lamp_161 : decode cX8_lamp 161 = .ok (.getfield 84, 3) := by decide +kernel
theorem dX8_lamp_164 : decode cX8_lamp 164 = .ok (.iconst 1, 1) := by decide +kernel
theorem dX8_lamp_165 : decode cX8_lamp 165 = .ok (.isub, 1) := by decide +kernel
theorem dX8_lamp_166 : decode cX8_lamp 166 = .ok (.ireturn, 1) := by decide +kernel
theorem dX8_isUsable_0 : decode cX8_isUsable 0 = .ok (.aload_n 0, 1) := by decide +kernel
theorem dX8_isUsable_1 : decode cX8_isUsable 1 = .ok (.getfield 25, 3) := by decide +kernel
theorem dX8_isUsable_4 : decode cX8_isUsable 4 = .ok (.iload_n 1, 1) := by decide +kernel
theorem dX8_isUsable_5 : decode cX8_isUsable 5 = .ok (.baload, 1) := by decide +kernel
theorem dX8_isUsable_6 : decode cX8_isUsable 6 = .ok (.ifCond .ne 24, 3) := by decide +kernel
theorem dX8_isUsable_9 : decode cX8_isUsable 9 = .ok (.aload_n 0, 1) := by decide +kernel
theorem dX8_isUsable_10 : decode cX8_isUsable 10 = .ok (.getfield 29, 3) := by decide +kernel
theorem dX8_isUsable_13 : decode cX8_isUsable 13 = .ok (.aload_n 0, 1) := by decide +kernel
theorem dX8_isUsable_14 : decode cX8_isUsable 14 = .ok (.getfield 7, 3) := by decide +kernel
theorem dX8_isUsable_17 : decode cX8_isUsable 17 = .ok (.iload_n 1, 1) := by decide +kernel
theorem dX8_isUsable_18 : decode cX8_isUsable 18 = .ok (.iaload, 1) := by decide +kernel
theorem dX8_isUsable_19 : decode cX8_isUsable 19 = .ok (.ishr, 1) := by decide +kernel
theorem dX8_isUsable_20 : decode cX8_isUsable 20 = .ok (.iconst 1, 1) := by decide +kernel
theorem dX8_isUsable_21 : decode cX8_isUsable 21 = .ok (.iand, 1) := by decide +kernel
theorem dX8_isUsable_22 : decode cX8_isUsable 22 = .ok (.iconst 1, 1) := by decide +kernel
theorem dX8_isUsable_23 : decode cX8_isUsable 23 = .ok (.if_icmp .ne 7, 3) := by decide +kernel
theorem dX8_isUsable_26 : decode cX8_isUsable 26 = .ok (.iconst 1, 1) := by decide +kernel
theorem dX8_isUsable_27 : decode cX8_isUsable 27 = .ok (.goto 4, 3) := by decide +kernel
theorem dX8_isUsable_30 : decode cX8_isUsable 30 = .ok (.iconst 0, 1) := by decide +kernel
theorem dX8_isUsable_31 : decode cX8_isUsable 31 = .ok (.ireturn, 1) := by decide +kernel
theorem dX8_die_0 : decode cX8_die 0 = .ok (.aload_n 0, 1) := by decide +kernel
theorem dX8_die_1 : decode cX8_die 1 = .ok (.aload_n 0, 1) := by decide +kernel
theorem dX8_die_2 : decode cX8_die 2 = .ok (.iload_n 1, 1) := by decide +kernel
theorem dX8_die_3 : decode cX8_die 3 = .ok (.invokevirtual 101, 3) := by decide +kernel
theorem dX8_die_6 : decode cX8_die 6 = .ok (.ifCond .eq 7, 3) := by decide +kernel
theorem dX8_die_9 : decode cX8_die 9 = .ok (.iconst 0, 1) := by decide +kernel
theorem dX8_die_10 : decode cX8_die 10 = .ok (.goto 4, 3) := by decide +kernel
theorem dX8_die_13 : decode cX8_die 13 = .ok (.iconst 1, 1) := by decide +kernel
theorem dX8_die_14 : decode cX8_die 14 = .ok (.invokevirtual 98, 3) := by decide +kernel
theorem dX8_die_17 : decode cX8_die 17 = .ok (.ifCond .ne 5, 3) := by decide +kernel
theorem dX8_die_20 : decode cX8_die 20 = .ok (.iconst 0, 1) := by decide +kernel
theorem dX8_die_21 : decode cX8_die 21 = .ok (.ireturn, 1) := by decide +kernel
theorem dX8_die_22 : decode cX8_die 22 = .ok (.aload_n 0, 1) := by decide +kernel
theorem dX8_die_23 : decode cX8_die 23 = .ok (.getfield 25, 3) := by decide +kernel
theorem dX8_die_26 : decode cX8_die 26 = .ok (.iload_n 1, 1) := by decide +kernel
theorem dX8_die_27 : decode cX8_die 27 = .ok (.aload_n 0, 1) := by decide +kernel
theorem dX8_die_28 : decode cX8_die 28 = .ok (.getfield 25, 3) := by decide +kernel
theorem dX8_die_31 : decode cX8_die 31 = .ok (.iload_n 1, 1) := by decide +kernel
theorem dX8_die_32 : decode cX8_die 32 = .ok (.baload, 1) := by decide +kernel
theorem dX8_die_33 : decode cX8_die 33 = .ok (.ifCond .ne 7, 3) := by decide +kernel
theorem dX8_die_36 : decode cX8_die 36 = .ok (.iconst 1, 1) := by decide +kernel
theorem dX8_die_37 : decode cX8_die 37 = .ok (.goto 4, 3) := by decide +kernel
theorem dX8_die_40 : decode cX8_die 40 = .ok (.iconst 0, 1) := by decide +kernel
theorem dX8_die_41 : decode cX8_die 41 = .ok (.bastore, 1) := by decide +kernel
theorem dX8_die_42 : decode cX8_die 42 = .ok (.aload_n 0, 1) := by decide +kernel
theorem dX8_die_43 : decode cX8_die 43 = .ok (.getfield 25, 3) := by decide +kernel
theorem dX8_die_46 : decode cX8_die 46 = .ok (.iload_n 1, 1) := by decide +kernel
theorem dX8_die_47 : decode cX8_die 47 = .ok (.baload, 1) := by decide +kernel
theorem dX8_die_48 : decode cX8_die 48 = .ok (.ireturn, 1) := by decide +kernel
theorem dX8_house_0 : decode cX8_house 0 = .ok (.aload_n 0, 1) := by decide +kernel
theorem dX8_house_1 : decode cX8_house 1 = .ok (.iload_n 1, 1) := by decide +kernel
theorem dX8_house_2 : decode cX8_house 2 = .ok (.iconst 0, 1) := by decide +kernel
theorem dX8_house_3 : decode cX8_house 3 = .ok (.bipush 15, 2) := by decide +kernel
theorem dX8_house_5 : decode cX8_house 5 = .ok (.invokestatic 87, 3) := by decide +kernel
theorem dX8_house_8 : decode cX8_house 8 = .ok (.ifCond .eq 7, 3) := by decide +kernel
theorem dX8_house_11 : decode cX8_house 11 = .ok (.iconst 0, 1) := by decide +kernel
theorem dX8_house_12 : decode cX8_house 12 = .ok (.goto 4, 3) := by decide +kernel
theorem dX8_house_15 : decode cX8_house 15 = .ok (.iconst 1, 1) := by decide +kernel
theorem dX8_house_16 : decode cX8_house 16 = .ok (.invokevirtual 98, 3) := by decide +kernel
theorem dX8_house_19 : decode cX8_house 19 = .ok (.ifCond .ne 5, 3) := by decide +kernel
theorem dX8_house_22 : decode cX8_house 22 = .ok (.iconst 0, 1) := by decide +kernel
theorem dX8_house_23 : decode cX8_house 23 = .ok (.ireturn, 1) := by decide +kernel
theorem dX8_house_24 : decode cX8_house 24 = .ok (.aload_n 0, 1) := by decide +kernel
theorem dX8_house_25 : decode cX8_house 25 = .ok (.iload_n 1, 1) := by decide +kernel
theorem dX8_house_26 : decode cX8_house 26 = .ok (.putfield 29, 3) := by decide +kernel
theorem dX8_house_29 : decode cX8_house 29 = .ok (.iconst 0, 1) := by decide +kernel
theorem dX8_house_30 : decode cX8_house 30 = .ok (.istore_n 2, 1) := by decide +kernel
theorem dX8_house_31 : decode cX8_house 31 = .ok (.iconst 0, 1) := by decide +kernel
theorem dX8_house_32 : decode cX8_house 32 = .ok (.istore_n 3, 1) := by decide +kernel
theorem dX8_house_33 : decode cX8_house 33 = .ok (.iload_n 3, 1) := by decide +kernel
theorem dX8_house_34 : decode cX8_house 34 = .ok (.aload_n 0, 1) := by decide +kernel
theorem dX8_house_35 : decode cX8_house 35 = .ok (.getfield 84, 3) := by decide +kernel
theorem dX8_house_38 : decode cX8_house 38 = .ok (.if_icmp .ge 25, 3) := by decide +kernel
theorem dX8_house_41 : decode cX8_house 41 = .ok (.iload_n 2, 1) := by decide +kernel
theorem dX8_house_42 : decode cX8_house 42 = .ok (.aload_n 0, 1) := by decide +kernel
theorem dX8_house_43 : decode cX8_house 43 = .ok (.iload_n 3, 1) := by decide +kernel
theorem dX8_house_44 : decode cX8_house 44 = .ok (.invokevirtual 104, 3) := by decide +kernel
theorem dX8_house_47 : decode cX8_house 47 = .ok (.ifCond .eq 7, 3) := by decide +kernel
theorem dX8_house_50 : decode cX8_house 50 = .ok (.iconst 1, 1) := by decide +kernel
theorem dX8_house_51 : decode cX8_house 51 = .ok (.goto 4, 3) := by decide +kernel
theorem dX8_house_54 : decode cX8_house 54 = .ok (.iconst 0, 1) := by decide +kernel
theorem dX8_house_55 : decode cX8_house 55 = .ok (.iadd, 1) := by decide +kernel
theorem dX8_house_56 : decode cX8_house 56 = .ok (.istore_n 2, 1) := by decide +kernel
theorem dX8_house_57 : decode cX8_house 57 = .ok (.iinc 3 1, 3) := by decide +kernel
theorem dX8_house_60 : decode cX8_house 60 = .ok (.goto (-27), 3) := by decide +kernel
theorem dX8_house_63 : decode cX8_house 63 = .ok (.iload_n 2, 1) := by decide +kernel
theorem dX8_house_64 : decode cX8_house 64 = .ok (.ireturn, 1) := by decide +kernel
theorem dX8_power_0 : decode cX8_power 0 = .ok (.aload_n 0, 1) := by decide +kernel
theorem dX8_power_1 : decode cX8_power 1 = .ok (.iload_n 1, 1) := by decide +kernel
theorem dX8_power_2 : decode cX8_power 2 = .ok (.invokestatic 94, 3) := by decide +kernel
theorem dX8_power_5 : decode cX8_power 5 = .ok (.ifCond .ne 7, 3) := by decide +kernel
theorem dX8_power_8 : decode cX8_power 8 = .ok (.iconst 1, 1) := by decide +kernel
theorem dX8_power_9 : decode cX8_power 9 = .ok (.goto 19, 3) := by decide +kernel
theorem dX8_power_12 : decode cX8_power 12 = .ok (.iload_n 2, 1) := by decide +kernel
theorem dX8_power_13 : decode cX8_power 13 = .ok (.iconst 0, 1) := by decide +kernel
theorem dX8_power_14 : decode cX8_power 14 = .ok (.sipush 20000, 3) := by decide +kernel
theorem dX8_power_17 : decode cX8_power 17 = .ok (.invokestatic 87, 3) := by decide +kernel
theorem dX8_power_20 : decode cX8_power 20 = .ok (.ifCond .eq 7, 3) := by decide +kernel
theorem dX8_power_23 : decode cX8_power 23 = .ok (.iconst 0, 1) := by decide +kernel
theorem dX8_power_24 : decode cX8_power 24 = .ok (.goto 4, 3) := by decide +kernel
theorem dX8_power_27 : decode cX8_power 27 = .ok (.iconst 2, 1) := by decide +kernel
theorem dX8_power_28 : decode cX8_power 28 = .ok (.invokevirtual 98, 3) := by decide +kernel
theorem dX8_power_31 : decode cX8_power 31 = .ok (.ifCond .ne 5, 3) := by decide +kernel
theorem dX8_power_34 : decode cX8_power 34 = .ok (.iconst 0, 1) := by decide +kernel
theorem dX8_power_35 : decode cX8_power 35 = .ok (.ireturn, 1) := by decide +kernel
theorem dX8_power_36 : decode cX8_power 36 = .ok (.aload_n 0, 1) := by decide +kernel
theorem dX8_power_37 : decode cX8_power 37 = .ok (.getfield 33, 3) := by decide +kernel
theorem dX8_power_40 : decode cX8_power 40 = .ok (.iload_n 1, 1) := by decide +kernel
theorem dX8_power_41 : decode cX8_power 41 = .ok (.iaload, 1) := by decide +kernel
theorem dX8_power_42 : decode cX8_power 42 = .ok (.istore_n 3, 1) := by decide +kernel
theorem dX8_power_43 : decode cX8_power 43 = .ok (.aload_n 0, 1) := by decide +kernel
theorem dX8_power_44 : decode cX8_power 44 = .ok (.getfield 33, 3) := by decide +kernel
theorem dX8_power_47 : decode cX8_power 47 = .ok (.iload_n 1, 1) := by decide +kernel
theorem dX8_power_48 : decode cX8_power 48 = .ok (.iload_n 2, 1) := by decide +kernel
theorem dX8_power_49 : decode cX8_power 49 = .ok (.iastore, 1) := by decide +kernel
theorem dX8_power_50 : decode cX8_power 50 = .ok (.iload_n 3, 1) := by decide +kernel
theorem dX8_power_51 : decode cX8_power 51 = .ok (.ireturn, 1) := by decide +kernel
theorem dX8_cue_0 : decode cX8_cue 0 = .ok (.iload_n 1, 1) := by decide +kernel
theorem dX8_cue_1 : decode cX8_cue 1 = .ok (.iconst 0, 1) := by decide +kernel
theorem dX8_cue_2 : decode cX8_cue 2 = .ok (.iconst 1, 1) := by decide +kernel
theorem dX8_cue_3 : decode cX8_cue 3 = .ok (.invokestatic 87, 3) := by decide +kernel
theorem dX8_cue_6 : decode cX8_cue 6 = .ok (.ifCond .eq 27, 3) := by decide +kernel
theorem dX8_cue_9 : decode cX8_cue 9 = .ok (.iload_n 2, 1) := by decide +kernel
theorem dX8_cue_10 : decode cX8_cue 10 = .ok (.iconst 0, 1) := by decide +kernel
theorem dX8_cue_11 : decode cX8_cue 11 = .ok (.bipush 60, 2) := by decide +kernel
theorem dX8_cue_13 : decode cX8_cue 13 = .ok (.invokestatic 87, 3) := by decide +kernel
theorem dX8_cue_16 : decode cX8_cue 16 = .ok (.ifCond .eq 17, 3) := by decide +kernel
theorem dX8_cue_19 : decode cX8_cue 19 = .ok (.iload_n 3, 1) := by decide +kernel
theorem dX8_cue_20 : decode cX8_cue 20 = .ok (.iconst 0, 1) := by decide +kernel
theorem dX8_cue_21 : decode cX8_cue 21 = .ok (.bipush 60, 2) := by decide +kernel
theorem dX8_cue_23 : decode cX8_cue 23 = .ok (.invokestatic 87, 3) := by decide +kernel
theorem dX8_cue_26 : decode cX8_cue 26 = .ok (.ifCond .eq 7, 3) := by decide +kernel
theorem dX8_cue_29 : decode cX8_cue 29 = .ok (.iconst 1, 1) := by decide +kernel
theorem dX8_cue_30 : decode cX8_cue 30 = .ok (.goto 4, 3) := by decide +kernel
theorem dX8_cue_33 : decode cX8_cue 33 = .ok (.iconst 0, 1) := by decide +kernel
theorem dX8_cue_34 : decode cX8_cue 34 = .ok (.istore 4, 2) := by decide +kernel
theorem dX8_cue_36 : decode cX8_cue 36 = .ok (.aload_n 0, 1) := by decide +kernel
theorem dX8_cue_37 : decode cX8_cue 37 = .ok (.iload 4, 2) := by decide +kernel
theorem dX8_cue_39 : decode cX8_cue 39 = .ok (.ifCond .ne 7, 3) := by decide +kernel
theorem dX8_cue_42 : decode cX8_cue 42 = .ok (.iconst 1, 1) := by decide +kernel
theorem dX8_cue_43 : decode cX8_cue 43 = .ok (.goto 17, 3) := by decide +kernel
theorem dX8_cue_46 : decode cX8_cue 46 = .ok (.aload_n 0, 1) := by decide +kernel
theorem dX8_cue_47 : decode cX8_cue 47 = .ok (.getfield 91, 3) := by decide +kernel
theorem dX8_cue_50 : decode cX8_cue 50 = .ok (.bipush 12, 2) := by decide +kernel
theorem dX8_cue_52 : decode cX8_cue 52 = .ok (.if_icmp .ne 7, 3) := by decide +kernel
theorem dX8_cue_55 : decode cX8_cue 55 = .ok (.iconst 2, 1) := by decide +kernel
theorem dX8_cue_56 : decode cX8_cue 56 = .ok (.goto 4, 3) := by decide +kernel
theorem dX8_cue_59 : decode cX8_cue 59 = .ok (.iconst 0, 1) := by decide +kernel
theorem dX8_cue_60 : decode cX8_cue 60 = .ok (.invokevirtual 98, 3) := by decide +kernel
theorem dX8_cue_63 : decode cX8_cue 63 = .ok (.ifCond .ne 5, 3) := by decide +kernel
theorem dX8_cue_66 : decode cX8_cue 66 = .ok (.iconst 0, 1) := by decide +kernel
theorem dX8_cue_67 : decode cX8_cue 67 = .ok (.ireturn, 1) := by decide +kernel
theorem dX8_cue_68 : decode cX8_cue 68 = .ok (.aload_n 0, 1) := by decide +kernel
theorem dX8_cue_69 : decode cX8_cue 69 = .ok (.getfield 36, 3) := by decide +kernel
theorem dX8_cue_72 : decode cX8_cue 72 = .ok (.aload_n 0, 1) := by decide +kernel
theorem dX8_cue_73 : decode cX8_cue 73 = .ok (.getfield 91, 3) := by decide +kernel
theorem dX8_cue_76 : decode cX8_cue 76 = .ok (.iload_n 1, 1) := by decide +kernel
theorem dX8_cue_77 : decode cX8_cue 77 = .ok (.iastore, 1) := by decide +kernel
theorem dX8_cue_78 : decode cX8_cue 78 = .ok (.aload_n 0, 1) := by decide +kernel
theorem dX8_cue_79 : decode cX8_cue 79 = .ok (.getfield 39, 3) := by decide +kernel
theorem dX8_cue_82 : decode cX8_cue 82 = .ok (.aload_n 0, 1) := by decide +kernel
theorem dX8_cue_83 : decode cX8_cue 83 = .ok (.getfield 91, 3) := by decide +kernel
theorem dX8_cue_86 : decode cX8_cue 86 = .ok (.iload_n 2, 1) := by decide +kernel
theorem dX8_cue_87 : decode cX8_cue 87 = .ok (.iastore, 1) := by decide +kernel
theorem dX8_cue_88 : decode cX8_cue 88 = .ok (.aload_n 0, 1) := by decide +kernel
theorem dX8_cue_89 : decode cX8_cue 89 = .ok (.getfield 42, 3) := by decide +kernel
theorem dX8_cue_92 : decode cX8_cue 92 = .ok (.aload_n 0, 1) := by decide +kernel
theorem dX8_cue_93 : decode cX8_cue 93 = .ok (.getfield 91, 3) := by decide +kernel
theorem dX8_cue_96 : decode cX8_cue 96 = .ok (.iload_n 3, 1) := by decide +kernel
theorem dX8_cue_97 : decode cX8_cue 97 = .ok (.iastore, 1) := by decide +kernel
theorem dX8_cue_98 : decode cX8_cue 98 = .ok (.aload_n 0, 1) := by decide +kernel
theorem dX8_cue_99 : decode cX8_cue 99 = .ok (.getfield 48, 3) := by decide +kernel
theorem dX8_cue_102 : decode cX8_cue 102 = .ok (.aload_n 0, 1) := by decide +kernel
theorem dX8_cue_103 : decode cX8_cue 103 = .ok (.getfield 91, 3) := by decide +kernel
theorem dX8_cue_106 : decode cX8_cue 106 = .ok (.iconst (-1), 1) := by decide +kernel
theorem dX8_cue_107 : decode cX8_cue 107 = .ok (.iastore, 1) := by decide +kernel
theorem dX8_cue_108 : decode cX8_cue 108 = .ok (.aload_n 0, 1) := by decide +kernel
theorem dX8_cue_109 : decode cX8_cue 109 = .ok (.getfield 63, 3) := by decide +kernel
theorem dX8_cue_112 : decode cX8_cue 112 = .ok (.aload_n 0, 1) := by decide +kernel
theorem dX8_cue_113 : decode cX8_cue 113 = .ok (.getfield 91, 3) := by decide +kernel
theorem dX8_cue_116 : decode cX8_cue 116 = .ok (.iconst (-1), 1) := by decide +kernel
theorem dX8_cue_117 : decode cX8_cue 117 = .ok (.iastore, 1) := by decide +kernel
theorem dX8_cue_118 : decode cX8_cue 118 = .ok (.aload_n 0, 1) := by decide +kernel
theorem dX8_cue_119 : decode cX8_cue 119 = .ok (.dup, 1) := by decide +kernel
theorem dX8_cue_120 : decode cX8_cue 120 = .ok (.getfield 91, 3) := by decide +kernel
theorem dX8_cue_123 : decode cX8_cue 123 = .ok (.iconst 1, 1) := by decide +kernel
theorem dX8_cue_124 : decode cX8_cue 124 = .ok (.iadd, 1) := by decide +kernel
theorem dX8_cue_125 : decode cX8_cue 125 = .ok (.putfield 91, 3) := by decide +kernel
theorem dX8_cue_128 : decode cX8_cue 128 = .ok (.aload_n 0, 1) := by decide +kernel
theorem dX8_cue_129 : decode cX8_cue 129 = .ok (.getfield 91, 3) := by decide +kernel
theorem dX8_cue_132 : decode cX8_cue 132 = .ok (.iconst 1, 1) := by decide +kernel
theorem dX8_cue_133 : decode cX8_cue 133 = .ok (.isub, 1) := by decide +kernel
theorem dX8_cue_134 : decode cX8_cue 134 = .ok (.ireturn, 1) := by decide +kernel
theorem dX8_level_0 : decode cX8_level 0 = .ok (.aload_n 0, 1) := by decide +kernel
theorem dX8_level_1 : decode cX8_level 1 = .ok (.iload_n 1, 1) := by decide +kernel
theorem dX8_level_2 : decode cX8_level 2 = .ok (.invokevirtual 107, 3) := by decide +kernel
theorem dX8_level_5 : decode cX8_level 5 = .ok (.ifCond .eq 15, 3) := by decide +kernel
theorem dX8_level_8 : decode cX8_level 8 = .ok (.aload_n 0, 1) := by decide +kernel
theorem dX8_level_9 : decode cX8_level 9 = .ok (.iload_n 2, 1) := by decide +kernel
theorem dX8_level_10 : decode cX8_level 10 = .ok (.invokevirtual 101, 3) := by decide +kernel
theorem dX8_level_13 : decode cX8_level 13 = .ok (.ifCond .eq 7, 3) := by decide +kernel
theorem dX8_level_16 : decode cX8_level 16 = .ok (.iconst 1, 1) := by decide +kernel
theorem dX8_level_17 : decode cX8_level 17 = .ok (.goto 4, 3) := by decide +kernel
theorem dX8_level_20 : decode cX8_level 20 = .ok (.iconst 0, 1) := by decide +kernel
theorem dX8_level_21 : decode cX8_level 21 = .ok (.istore 4, 2) := by decide +kernel
theorem dX8_level_23 : decode cX8_level 23 = .ok (.aload_n 0, 1) := by decide +kernel
theorem dX8_level_24 : decode cX8_level 24 = .ok (.iload 4, 2) := by decide +kernel
theorem dX8_level_26 : decode cX8_level 26 = .ok (.ifCond .ne 7, 3) := by decide +kernel
theorem dX8_level_29 : decode cX8_level 29 = .ok (.iconst 1, 1) := by decide +kernel
theorem dX8_level_30 : decode cX8_level 30 = .ok (.goto 18, 3) := by decide +kernel
theorem dX8_level_33 : decode cX8_level 33 = .ok (.iload_n 3, 1) := by decide +kernel
theorem dX8_level_34 : decode cX8_level 34 = .ok (.iconst 0, 1) := by decide +kernel
theorem dX8_level_35 : decode cX8_level 35 = .ok (.bipush 100, 2) := by decide +kernel
theorem dX8_level_37 : decode cX8_level 37 = .ok (.invokestatic 87, 3) := by decide +kernel
theorem dX8_level_40 : decode cX8_level 40 = .ok (.ifCond .eq 7, 3) := by decide +kernel
theorem dX8_level_43 : decode cX8_level 43 = .ok (.iconst 0, 1) := by decide +kernel
theorem dX8_level_44 : decode cX8_level 44 = .ok (.goto 4, 3) := by decide +kernel
theorem dX8_level_47 : decode cX8_level 47 = .ok (.iconst 2, 1) := by decide +kernel
theorem dX8_level_48 : decode cX8_level 48 = .ok (.invokevirtual 98, 3) := by decide +kernel
theorem dX8_level_51 : decode cX8_level 51 = .ok (.ifCond .ne 5, 3) := by decide +kernel
theorem dX8_level_54 : decode cX8_level 54 = .ok (.iconst 0, 1) := by decide +kernel
theorem dX8_level_55 : decode cX8_level 55 = .ok (.ireturn, 1) := by decide +kernel
theorem dX8_level_56 : decode cX8_level 56 = .ok (.aload_n 0, 1) := by decide +kernel
theorem dX8_level_57 : decode cX8_level 57 = .ok (.getfield 45, 3) := by decide +kernel
theorem dX8_level_60 : decode cX8_level 60 = .ok (.bipush 16, 2) := by decide +kernel
theorem dX8_level_62 : decode cX8_level 62 = .ok (.iload_n 1, 1) := by decide +kernel
theorem dX8_level_63 : decode cX8_level 63 = .ok (.imul, 1) := by decide +kernel
theorem dX8_level_64 : decode cX8_level 64 = .ok (.iload_n 2, 1) := by decide +kernel
theorem dX8_level_65 : decode cX8_level 65 = .ok (.iadd, 1) := by decide +kernel
theorem dX8_level_66 : decode cX8_level 66 = .ok (.iaload, 1) := by decide +kernel
theorem dX8_level_67 : decode cX8_level 67 = .ok (.istore 5, 2) := by decide +kernel
theorem dX8_level_69 : decode cX8_level 69 = .ok (.aload_n 0, 1) := by decide +kernel
theorem dX8_level_70 : decode cX8_level 70 = .ok (.getfield 45, 3) := by decide +kernel
theorem dX8_level_73 : decode cX8_level 73 = .ok (.bipush 16, 2) := by decide +kernel
theorem dX8_level_75 : decode cX8_level 75 = .ok (.iload_n 1, 1) := by decide +kernel
theorem dX8_level_76 : decode cX8_level 76 = .ok (.imul, 1) := by decide +kernel
theorem dX8_level_77 : decode cX8_level 77 = .ok (.iload_n 2, 1) := by decide +kernel
theorem dX8_level_78 : decode cX8_level 78 = .ok (.iadd, 1) := by decide +kernel
theorem dX8_level_79 : decode cX8_level 79 = .ok (.iload_n 3, 1) := by decide +kernel
theorem dX8_level_80 : decode cX8_level 80 = .ok (.iastore, 1) := by decide +kernel
theorem dX8_level_81 : decode cX8_level 81 = .ok (.iload 5, 2) := by decide +kernel
theorem dX8_level_83 : decode cX8_level 83 = .ok (.ireturn, 1) := by decide +kernel
theorem dX8_follow_0 : decode cX8_follow 0 = .ok (.aload_n 0, 1) := by decide +kernel
theorem dX8_follow_1 : decode cX8_follow 1 = .ok (.iload_n 1, 1) := by decide +kernel
theorem dX8_follow_2 : decode cX8_follow 2 = .ok (.invokevirtual 107, 3) := by decide +kernel
theorem dX8_follow_5 : decode cX8_follow 5 = .ok (.ifCond .eq 20, 3) := by decide +kernel
theorem dX8_follow_8 : decode cX8_follow 8 = .ok (.iload_n 2, 1) := by decide +kernel
theorem dX8_follow_9 : decode cX8_follow 9 = .ok (.iconst (-1), 1) := by decide +kernel
theorem dX8_follow_10 : decode cX8_follow 10 = .ok (.if_icmp .eq 11, 3) := by decide +kernel
theorem dX8_follow_13 : decode cX8_follow 13 = .ok (.aload_n 0, 1) := by decide +kernel
theorem dX8_follow_14 : decode cX8_follow 14 = .ok (.iload_n 2, 1) := by decide +kernel
theorem dX8_follow_15 : decode cX8_follow 15 = .ok (.invokevirtual 107, 3) := by decide +kernel
theorem dX8_follow_18 : decode cX8_follow 18 = .ok (.ifCond .eq 7, 3) := by decide +kernel
theorem dX8_follow_21 : decode cX8_follow 21 = .ok (.iconst 1, 1) := by decide +kernel
theorem dX8_follow_22 : decode cX8_follow 22 = .ok (.goto 4, 3) := by decide +kernel
theorem dX8_follow_25 : decode cX8_follow 25 = .ok (.iconst 0, 1) := by decide +kernel
theorem dX8_follow_26 : decode cX8_follow 26 = .ok (.istore 4, 2) := by decide +kernel
theorem dX8_follow_28 : decode cX8_follow 28 = .ok (.aload_n 0, 1) := by decide +kernel
theorem dX8_follow_29 : decode cX8_follow 29 = .ok (.iload 4, 2) := by decide +kernel
theorem dX8_follow_31 : decode cX8_follow 31 = .ok (.ifCond .ne 7, 3) := by decide +kernel
theorem dX8_follow_34 : decode cX8_follow 34 = .ok (.iconst 1, 1) := by decide +kernel
theorem dX8_follow_35 : decode cX8_follow 35 = .ok (.goto 18, 3) := by decide +kernel
theorem dX8_follow_38 : decode cX8_follow 38 = .ok (.iload_n 3, 1) := by decide +kernel
theorem dX8_follow_39 : decode cX8_follow 39 = .ok (.iconst 1, 1) := by decide +kernel
theorem dX8_follow_40 : decode cX8_follow 40 = .ok (.bipush 60, 2) := by decide +kernel
theorem dX8_follow_42 : decode cX8_follow 42 = .ok (.invokestatic 87, 3) := by decide +kernel
theorem dX8_follow_45 : decode cX8_follow 45 = .ok (.ifCond .eq 7, 3) := by decide +kernel
theorem dX8_follow_48 : decode cX8_follow 48 = .ok (.iconst 0, 1) := by decide +kernel
theorem dX8_follow_49 : decode cX8_follow 49 = .ok (.goto 4, 3) := by decide +kernel
theorem dX8_follow_52 : decode cX8_follow 52 = .ok (.iconst 2, 1) := by decide +kernel
theorem dX8_follow_53 : decode cX8_follow 53 = .ok (.invokevirtual 98, 3) := by decide +kernel
theorem dX8_follow_56 : decode cX8_follow 56 = .ok (.ifCond .ne 5, 3) := by decide +kernel
theorem dX8_follow_59 : decode cX8_follow 59 = .ok (.iconst 0, 1) := by decide +kernel
theorem dX8_follow_60 : decode cX8_follow 60 = .ok (.ireturn, 1) := by decide +kernel
theorem dX8_follow_61 : decode cX8_follow 61 = .ok (.aload_n 0, 1) := by decide +kernel
theorem dX8_follow_62 : decode cX8_follow 62 = .ok (.getfield 48, 3) := by decide +kernel
theorem dX8_follow_65 : decode cX8_follow 65 = .ok (.iload_n 1, 1) := by decide +kernel
theorem dX8_follow_66 : decode cX8_follow 66 = .ok (.iaload, 1) := by decide +kernel
theorem dX8_follow_67 : decode cX8_follow 67 = .ok (.istore 5, 2) := by decide +kernel
theorem dX8_follow_69 : decode cX8_follow 69 = .ok (.aload_n 0, 1) := by decide +kernel
theorem dX8_follow_70 : decode cX8_follow 70 = .ok (.getfield 48, 3) := by decide +kernel
theorem dX8_follow_73 : decode cX8_follow 73 = .ok (.iload_n 1, 1) := by decide +kernel
theorem dX8_follow_74 : decode cX8_follow 74 = .ok (.iload_n 2, 1) := by decide +kernel
theorem dX8_follow_75 : decode cX8_follow 75 = .ok (.iastore, 1) := by decide +kernel
theorem dX8_follow_76 : decode cX8_follow 76 = .ok (.aload_n 0, 1) := by decide +kernel
theorem dX8_follow_77 : decode cX8_follow 77 = .ok (.getfield 51, 3) := by decide +kernel
theorem dX8_follow_80 : decode cX8_follow 80 = .ok (.iload_n 1, 1) := by decide +kernel
theorem dX8_follow_81 : decode cX8_follow 81 = .ok (.iload_n 3, 1) := by decide +kernel
theorem dX8_follow_82 : decode cX8_follow 82 = .ok (.iastore, 1) := by decide +kernel
theorem dX8_follow_83 : decode cX8_follow 83 = .ok (.iload 5, 2) := by decide +kernel
theorem dX8_follow_85 : decode cX8_follow 85 = .ok (.ireturn, 1) := by decide +kernel
theorem dX8_distance_0 : decode cX8_distance 0 = .ok (.bipush 10, 2) := by decide +kernel
theorem dX8_distance_2 : decode cX8_distance 2 = .ok (.aload_n 0, 1) := by decide +kernel
theorem dX8_distance_3 : decode cX8_distance 3 = .ok (.getfield 7, 3) := by decide +kernel
theorem dX8_distance_6 : decode cX8_distance 6 = .ok (.iload_n 1, 1) := by decide +kernel
theorem dX8_distance_7 : decode cX8_distance 7 = .ok (.iaload, 1) := by decide +kernel
theorem dX8_distance_8 : decode cX8_distance 8 = .ok (.aload_n 0, 1) := by decide +kernel
theorem dX8_distance_9 : decode cX8_distance 9 = .ok (.getfield 7, 3) := by decide +kernel
theorem dX8_distance_12 : decode cX8_distance 12 = .ok (.iload_n 2, 1) := by decide +kernel
theorem dX8_distance_13 : decode cX8_distance 13 = .ok (.iaload, 1) := by decide +kernel
theorem dX8_distance_14 : decode cX8_distance 14 = .ok (.isub, 1) := by decide +kernel
theorem dX8_distance_15 : decode cX8_distance 15 = .ok (.invokestatic 110, 3) := by decide +kernel
theorem dX8_distance_18 : decode cX8_distance 18 = .ok (.imul, 1) := by decide +kernel
theorem dX8_distance_19 : decode cX8_distance 19 = .ok (.aload_n 0, 1) := by decide +kernel
theorem dX8_distance_20 : decode cX8_distance 20 = .ok (.getfield 13, 3) := by decide +kernel
theorem dX8_distance_23 : decode cX8_distance 23 = .ok (.iload_n 1, 1) := by decide +kernel
theorem dX8_distance_24 : decode cX8_distance 24 = .ok (.iaload, 1) := by decide +kernel
theorem dX8_distance_25 : decode cX8_distance 25 = .ok (.aload_n 0, 1) := by decide +kernel
theorem dX8_distance_26 : decode cX8_distance 26 = .ok (.getfield 13, 3) := by decide +kernel
theorem dX8_distance_29 : decode cX8_distance 29 = .ok (.iload_n 2, 1) := by decide +kernel
theorem dX8_distance_30 : decode cX8_distance 30 = .ok (.iaload, 1) := by decide +kernel
theorem dX8_distance_31 : decode cX8_distance 31 = .ok (.isub, 1) := by decide +kernel
theorem dX8_distance_32 : decode cX8_distance 32 = .ok (.invokestatic 110, 3) := by decide +kernel
theorem dX8_distance_35 : decode cX8_distance 35 = .ok (.iadd, 1) := by decide +kernel
theorem dX8_distance_36 : decode cX8_distance 36 = .ok (.ireturn, 1) := by decide +kernel
theorem dX8_nearest_0 : decode cX8_nearest 0 = .ok (.iconst (-1), 1) := by decide +kernel
theorem dX8_nearest_1 : decode cX8_nearest 1 = .ok (.istore_n 3, 1) := by decide +kernel
theorem dX8_nearest_2 : decode cX8_nearest 2 = .ok (.iconst 0, 1) := by decide +kernel
theorem dX8_nearest_3 : decode cX8_nearest 3 = .ok (.istore 4, 2) := by decide +kernel
theorem dX8_nearest_5 : decode cX8_nearest 5 = .ok (.iload 4, 2) := by decide +kernel
theorem dX8_nearest_7 : decode cX8_nearest 7 = .ok (.aload_n 0, 1) := by decide +kernel
theorem dX8_nearest_8 : decode cX8_nearest 8 = .ok (.getfield 84, 3) := by decide +kernel
theorem dX8_nearest_11 : decode cX8_nearest 11 = .ok (.if_icmp .ge 99, 3) := by decide +kernel
theorem dX8_nearest_14 : decode cX8_nearest 14 = .ok (.aload_n 0, 1) := by decide +kernel
theorem dX8_nearest_15 : decode cX8_nearest 15 = .ok (.iload 4, 2) := by decide +kernel
theorem dX8_nearest_17 : decode cX8_nearest 17 = .ok (.invokevirtual 104, 3) := by decide +kernel
theorem dX8_nearest_20 : decode cX8_nearest 20 = .ok (.ifCond .eq 48, 3) := by decide +kernel
theorem dX8_nearest_23 : decode cX8_nearest 23 = .ok (.aload_n 0, 1) := by decide +kernel
theorem dX8_nearest_24 : decode cX8_nearest 24 = .ok (.getfield 16, 3) := by decide +kernel
theorem dX8_nearest_27 : decode cX8_nearest 27 = .ok (.iload 4, 2) := by decide +kernel
theorem dX8_nearest_29 : decode cX8_nearest 29 = .ok (.iaload, 1) := by decide +kernel
theorem dX8_nearest_30 : decode cX8_nearest 30 = .ok (.aload_n 0, 1) := by decide +kernel
theorem dX8_nearest_31 : decode cX8_nearest 31 = .ok (.getfield 16, 3) := by decide +kernel
theorem dX8_nearest_34 : decode cX8_nearest 34 = .ok (.iload_n 2, 1) := by decide +kernel
theorem dX8_nearest_35 : decode cX8_nearest 35 = .ok (.iaload, 1) := by decide +kernel
theorem dX8_nearest_36 : decode cX8_nearest 36 = .ok (.if_icmp .ne 32, 3) := by decide +kernel
theorem dX8_nearest_39 : decode cX8_nearest 39 = .ok (.aload_n 0, 1) := by decide +kernel
theorem dX8_nearest_40 : decode cX8_nearest 40 = .ok (.getfield 45, 3) := by decide +kernel
theorem dX8_nearest_43 : decode cX8_nearest 43 = .ok (.bipush 16, 2) := by decide +kernel
theorem dX8_nearest_45 : decode cX8_nearest 45 = .ok (.iload_n 1, 1) := by decide +kernel
theorem dX8_nearest_46 : decode cX8_nearest 46 = .ok (.imul, 1) := by decide +kernel
theorem dX8_nearest_47 : decode cX8_nearest 47 = .ok (.iload 4, 2) := by decide +kernel
theorem dX8_nearest_49 : decode cX8_nearest 49 = .ok (.iadd, 1) := by decide +kernel
theorem dX8_nearest_50 : decode cX8_nearest 50 = .ok (.iaload, 1) := by decide +kernel
theorem dX8_nearest_51 : decode cX8_nearest 51 = .ok (.ifCond .ne 17, 3) := by decide +kernel
theorem dX8_nearest_54 : decode cX8_nearest 54 = .ok (.aload_n 0, 1) := by decide +kernel
theorem dX8_nearest_55 : decode cX8_nearest 55 = .ok (.getfield 72, 3) := by decide +kernel
theorem dX8_nearest_58 : decode cX8_nearest 58 = .ok (.iload 4, 2) := by decide +kernel
theorem dX8_nearest_60 : decode cX8_nearest 60 = .ok (.iaload, 1) := by decide +kernel
theorem dX8_nearest_61 : decode cX8_nearest 61 = .ok (.ifCond .ne 7, 3) := by decide +kernel
theorem dX8_nearest_64 : decode cX8_nearest 64 = .ok (.iconst 1, 1) := by decide +kernel
theorem dX8_nearest_65 : decode cX8_nearest 65 = .ok (.goto 4, 3) := by decide +kernel
theorem dX8_nearest_68 : decode cX8_nearest 68 = .ok (.iconst 0, 1) := by decide +kernel
theorem dX8_nearest_69 : decode cX8_nearest 69 = .ok (.istore 5, 2) := by decide +kernel
theorem dX8_nearest_71 : decode cX8_nearest 71 = .ok (.iload 5, 2) := by decide +kernel
theorem dX8_nearest_73 : decode cX8_nearest 73 = .ok (.ifCond .eq 29, 3) := by decide +kernel
theorem dX8_nearest_76 : decode cX8_nearest 76 = .ok (.iload_n 3, 1) := by decide +kernel
theorem dX8_nearest_77 : decode cX8_nearest 77 = .ok (.iconst (-1), 1) := by decide +kernel
theorem dX8_nearest_78 : decode cX8_nearest 78 = .ok (.if_icmp .eq 19, 3) := by decide +kernel
theorem dX8_nearest_81 : decode cX8_nearest 81 = .ok (.aload_n 0, 1) := by decide +kernel
theorem dX8_nearest_82 : decode cX8_nearest 82 = .ok (.iload 4, 2) := by decide +kernel
theorem dX8_nearest_84 : decode cX8_nearest 84 = .ok (.iload_n 2, 1) := by decide +kernel
theorem dX8_nearest_85 : decode cX8_nearest 85 = .ok (.invokevirtual 114, 3) := by decide +kernel
theorem dX8_nearest_88 : decode cX8_nearest 88 = .ok (.aload_n 0, 1) := by decide +kernel
theorem dX8_nearest_89 : decode cX8_nearest 89 = .ok (.iload_n 3, 1) := by decide +kernel
theorem dX8_nearest_90 : decode cX8_nearest 90 = .ok (.iload_n 2, 1) := by decide +kernel
theorem dX8_nearest_91 : decode cX8_nearest 91 = .ok (.invokevirtual 114, 3) := by decide +kernel
theorem dX8_nearest_94 : decode cX8_nearest 94 = .ok (.if_icmp .ge 8, 3) := by decide +kernel
theorem dX8_nearest_97 : decode cX8_nearest 97 = .ok (.iload 4, 2) := by decide +kernel
theorem dX8_nearest_99 : decode cX8_nearest 99 = .ok (.goto 4, 3) := by decide +kernel
theorem dX8_nearest_102 : decode cX8_nearest 102 = .ok (.iload_n 3, 1) := by decide +kernel
theorem dX8_nearest_103 : decode cX8_nearest 103 = .ok (.istore_n 3, 1) := by decide +kernel
theorem dX8_nearest_104 : decode cX8_nearest 104 = .ok (.iinc 4 1, 3) := by decide +kernel
theorem dX8_nearest_107 : decode cX8_nearest 107 = .ok (.goto (-102), 3) := by decide +kernel
theorem dX8_nearest_110 : decode cX8_nearest 110 = .ok (.iload_n 3, 1) := by decide +kernel
theorem dX8_nearest_111 : decode cX8_nearest 111 = .ok (.ireturn, 1) := by decide +kernel
theorem dX8_finds_0 : decode cX8_finds 0 = .ok (.iconst 0, 1) := by decide +kernel
theorem dX8_finds_1 : decode cX8_finds 1 = .ok (.istore_n 2, 1) := by decide +kernel
theorem dX8_finds_2 : decode cX8_finds 2 = .ok (.iload_n 2, 1) := by decide +kernel
theorem dX8_finds_3 : decode cX8_finds 3 = .ok (.aload_n 0, 1) := by decide +kernel
theorem dX8_finds_4 : decode cX8_finds 4 = .ok (.getfield 84, 3) := by decide +kernel
theorem dX8_finds_7 : decode cX8_finds 7 = .ok (.if_icmp .ge 77, 3) := by decide +kernel
theorem dX8_finds_10 : decode cX8_finds 10 = .ok (.aload_n 0, 1) := by decide +kernel
theorem dX8_finds_11 : decode cX8_finds 11 = .ok (.iload_n 2, 1) := by decide +kernel
theorem dX8_finds_12 : decode cX8_finds 12 = .ok (.invokevirtual 104, 3) := by decide +kernel
theorem dX8_finds_15 : decode cX8_finds 15 = .ok (.ifCond .eq 21, 3) := by decide +kernel
theorem dX8_finds_18 : decode cX8_finds 18 = .ok (.aload_n 0, 1) := by decide +kernel
theorem dX8_finds_19 : decode cX8_finds 19 = .ok (.getfield 45, 3) := by decide +kernel
theorem dX8_finds_22 : decode cX8_finds 22 = .ok (.bipush 16, 2) := by decide +kernel
theorem dX8_finds_24 : decode cX8_finds 24 = .ok (.iload_n 1, 1) := by decide +kernel
theorem dX8_finds_25 : decode cX8_finds 25 = .ok (.imul, 1) := by decide +kernel
theorem dX8_finds_26 : decode cX8_finds 26 = .ok (.iload_n 2, 1) := by decide +kernel
theorem dX8_finds_27 : decode cX8_finds 27 = .ok (.iadd, 1) := by decide +kernel
theorem dX8_finds_28 : decode cX8_finds 28 = .ok (.iaload, 1) := by decide +kernel
theorem dX8_finds_29 : decode cX8_finds 29 = .ok (.ifCond .le 7, 3) := by decide +kernel
theorem dX8_finds_32 : decode cX8_finds 32 = .ok (.iconst 1, 1) := by decide +kernel
theorem dX8_finds_33 : decode cX8_finds 33 = .ok (.goto 4, 3) := by decide +kernel
theorem dX8_finds_36 : decode cX8_finds 36 = .ok (.iconst 0, 1) := by decide +kernel
theorem dX8_finds_37 : decode cX8_finds 37 = .ok (.istore_n 3, 1) := by decide +kernel
theorem dX8_finds_38 : decode cX8_finds 38 = .ok (.aload_n 0, 1) := by decide +kernel
theorem dX8_finds_39 : decode cX8_finds 39 = .ok (.getfield 72, 3) := by decide +kernel
theorem dX8_finds_42 : decode cX8_finds 42 = .ok (.iload_n 2, 1) := by decide +kernel
theorem dX8_finds_43 : decode cX8_finds 43 = .ok (.iload_n 3, 1) := by decide +kernel
theorem dX8_finds_44 : decode cX8_finds 44 = .ok (.ifCond .eq 17, 3) := by decide +kernel
theorem dX8_finds_47 : decode cX8_finds 47 = .ok (.aload_n 0, 1) := by decide +kernel
theorem dX8_finds_48 : decode cX8_finds 48 = .ok (.getfield 45, 3) := by decide +kernel
theorem dX8_finds_51 : decode cX8_finds 51 = .ok (.bipush 16, 2) := by decide +kernel
theorem dX8_finds_53 : decode cX8_finds 53 = .ok (.iload_n 1, 1) := by decide +kernel
theorem dX8_finds_54 : decode cX8_finds 54 = .ok (.imul, 1) := by decide +kernel
theorem dX8_finds_55 : decode cX8_finds 55 = .ok (.iload_n 2, 1) := by decide +kernel
theorem dX8_finds_56 : decode cX8_finds 56 = .ok (.iadd, 1) := by decide +kernel
theorem dX8_finds_57 : decode cX8_finds 57 = .ok (.iaload, 1) := by decide +kernel
theorem dX8_finds_58 : decode cX8_finds 58 = .ok (.goto 4, 3) := by decide +kernel
theorem dX8_finds_61 : decode cX8_finds 61 = .ok (.iconst 0, 1) := by decide +kernel
theorem dX8_finds_62 : decode cX8_finds 62 = .ok (.iastore, 1) := by decide +kernel
theorem dX8_finds_63 : decode cX8_finds 63 = .ok (.aload_n 0, 1) := by decide +kernel
theorem dX8_finds_64 : decode cX8_finds 64 = .ok (.getfield 75, 3) := by decide +kernel
theorem dX8_finds_67 : decode cX8_finds 67 = .ok (.iload_n 2, 1) := by decide +kernel
theorem dX8_finds_68 : decode cX8_finds 68 = .ok (.iload_n 3, 1) := by decide +kernel
theorem dX8_finds_69 : decode cX8_finds 69 = .ok (.ifCond .eq 7, 3) := by decide +kernel
theorem dX8_finds_72 : decode cX8_finds 72 = .ok (.iload_n 2, 1) := by decide +kernel
theorem dX8_finds_73 : decode cX8_finds 73 = .ok (.goto 4, 3) := by decide +kernel
theorem dX8_finds_76 : decode cX8_finds 76 = .ok (.iconst (-1), 1) := by decide +kernel
theorem dX8_finds_77 : decode cX8_finds 77 = .ok (.iastore, 1) := by decide +kernel
theorem dX8_finds_78 : decode cX8_finds 78 = .ok (.iinc 2 1, 3) := by decide +kernel
theorem dX8_finds_81 : decode cX8_finds 81 = .ok (.goto (-79), 3) := by decide +kernel
theorem dX8_finds_84 : decode cX8_finds 84 = .ok (.iconst 0, 1) := by decide +kernel
theorem dX8_finds_85 : decode cX8_finds 85 = .ok (.istore_n 2, 1) := by decide +kernel
theorem dX8_finds_86 : decode cX8_finds 86 = .ok (.iload_n 2, 1) := by decide +kernel
theorem dX8_finds_87 : decode cX8_finds 87 = .ok (.aload_n 0, 1) := by decide +kernel
theorem dX8_finds_88 : decode cX8_finds 88 = .ok (.getfield 84, 3) := by decide +kernel
theorem dX8_finds_91 : decode cX8_finds 91 = .ok (.if_icmp .ge 67, 3) := by decide +kernel
theorem dX8_finds_94 : decode cX8_finds 94 = .ok (.aload_n 0, 1) := by decide +kernel
theorem dX8_finds_95 : decode cX8_finds 95 = .ok (.iload_n 2, 1) := by decide +kernel
theorem dX8_finds_96 : decode cX8_finds 96 = .ok (.invokevirtual 104, 3) := by decide +kernel
theorem dX8_finds_99 : decode cX8_finds 99 = .ok (.ifCond .ne 53, 3) := by decide +kernel
theorem dX8_finds_102 : decode cX8_finds 102 = .ok (.aload_n 0, 1) := by decide +kernel
theorem dX8_finds_103 : decode cX8_finds 103 = .ok (.getfield 45, 3) := by decide +kernel
theorem dX8_finds_106 : decode cX8_finds 106 = .ok (.bipush 16, 2) := by decide +kernel
theorem dX8_finds_108 : decode cX8_finds 108 = .ok (.iload_n 1, 1) := by decide +kernel
theorem dX8_finds_109 : decode cX8_finds 109 = .ok (.imul, 1) := by decide +kernel
theorem dX8_finds_110 : decode cX8_finds 110 = .ok (.iload_n 2, 1) := by decide +kernel
theorem dX8_finds_111 : decode cX8_finds 111 = .ok (.iadd, 1) := by decide +kernel
theorem dX8_finds_112 : decode cX8_finds 112 = .ok (.iaload, 1) := by decide +kernel
theorem dX8_finds_113 : decode cX8_finds 113 = .ok (.ifCond .le 39, 3) := by decide +kernel
theorem dX8_finds_116 : decode cX8_finds 116 = .ok (.aload_n 0, 1) := by decide +kernel
theorem dX8_finds_117 : decode cX8_finds 117 = .ok (.iload_n 1, 1) := by decide +kernel
theorem dX8_finds_118 : decode cX8_finds 118 = .ok (.iload_n 2, 1) := by decide +kernel
theorem dX8_finds_119 : decode cX8_finds 119 = .ok (.invokevirtual 118, 3) := by decide +kernel
theorem dX8_finds_122 : decode cX8_finds 122 = .ok (.istore_n 3, 1) := by decide +kernel
theorem dX8_finds_123 : decode cX8_finds 123 = .ok (.aload_n 0, 1) := by decide +kernel
theorem dX8_finds_124 : decode cX8_finds 124 = .ok (.getfield 75, 3) := by decide +kernel
theorem dX8_finds_127 : decode cX8_finds 127 = .ok (.iload_n 2, 1) := by decide +kernel
theorem dX8_finds_128 : decode cX8_finds 128 = .ok (.iload_n 3, 1) := by decide +kernel
theorem dX8_finds_129 : decode cX8_finds 129 = .ok (.iastore, 1) := by decide +kernel
theorem dX8_finds_130 : decode cX8_finds 130 = .ok (.iload_n 3, 1) := by decide +kernel
theorem dX8_finds_131 : decode cX8_finds 131 = .ok (.iconst (-1), 1) := by decide +kernel
theorem dX8_finds_132 : decode cX8_finds 132 = .ok (.if_icmp .eq 20, 3) := by decide +kernel
theorem dX8_finds_135 : decode cX8_finds 135 = .ok (.aload_n 0, 1) := by decide +kernel
theorem dX8_finds_136 : decode cX8_finds 136 = .ok (.getfield 72, 3) := by decide +kernel
theorem dX8_finds_139 : decode cX8_finds 139 = .ok (.iload_n 3, 1) := by decide +kernel
theorem dX8_finds_140 : decode cX8_finds 140 = .ok (.aload_n 0, 1) := by decide +kernel
theorem dX8_finds_141 : decode cX8_finds 141 = .ok (.getfield 45, 3) := by decide +kernel
theorem dX8_finds_144 : decode cX8_finds 144 = .ok (.bipush 16, 2) := by decide +kernel
theorem dX8_finds_146 : decode cX8_finds 146 = .ok (.iload_n 1, 1) := by decide +kernel
theorem dX8_finds_147 : decode cX8_finds 147 = .ok (.imul, 1) := by decide +kernel
theorem dX8_finds_148 : decode cX8_finds 148 = .ok (.iload_n 2, 1) := by decide +kernel
theorem dX8_finds_149 : decode cX8_finds 149 = .ok (.iadd, 1) := by decide +kernel
theorem dX8_finds_150 : decode cX8_finds 150 = .ok (.iaload, 1) := by decide +kernel
theorem dX8_finds_151 : decode cX8_finds 151 = .ok (.iastore, 1) := by decide +kernel
theorem dX8_finds_152 : decode cX8_finds 152 = .ok (.iinc 2 1, 3) := by decide +kernel
theorem dX8_finds_155 : decode cX8_finds 155 = .ok (.goto (-69), 3) := by decide +kernel
theorem dX8_finds_158 : decode cX8_finds 158 = .ok (.return_, 1) := by decide +kernel
theorem dX8_raises_0 : decode cX8_raises 0 = .ok (.aload_n 0, 1) := by decide +kernel
theorem dX8_raises_1 : decode cX8_raises 1 = .ok (.iload_n 1, 1) := by decide +kernel
theorem dX8_raises_2 : decode cX8_raises 2 = .ok (.invokevirtual 121, 3) := by decide +kernel
theorem dX8_raises_5 : decode cX8_raises 5 = .ok (.iconst 0, 1) := by decide +kernel
theorem dX8_raises_6 : decode cX8_raises 6 = .ok (.istore_n 2, 1) := by decide +kernel
theorem dX8_raises_7 : decode cX8_raises 7 = .ok (.iload_n 2, 1) := by decide +kernel
theorem dX8_raises_8 : decode cX8_raises 8 = .ok (.aload_n 0, 1) := by decide +kernel
theorem dX8_raises_9 : decode cX8_raises 9 = .ok (.getfield 84, 3) := by decide +kernel
theorem dX8_raises_12 : decode cX8_raises 12 = .ok (.if_icmp .ge 45, 3) := by decide +kernel
theorem dX8_raises_15 : decode cX8_raises 15 = .ok (.aload_n 0, 1) := by decide +kernel
theorem dX8_raises_16 : decode cX8_raises 16 = .ok (.getfield 78, 3) := by decide +kernel
theorem dX8_raises_19 : decode cX8_raises 19 = .ok (.iload_n 2, 1) := by decide +kernel
theorem dX8_raises_20 : decode cX8_raises 20 = .ok (.aload_n 0, 1) := by decide +kernel
theorem dX8_raises_21 : decode cX8_raises 21 = .ok (.getfield 72, 3) := by decide +kernel
theorem dX8_raises_24 : decode cX8_raises 24 = .ok (.iload_n 2, 1) := by decide +kernel
theorem dX8_raises_25 : decode cX8_raises 25 = .ok (.iaload, 1) := by decide +kernel
theorem dX8_raises_26 : decode cX8_raises 26 = .ok (.aload_n 0, 1) := by decide +kernel
theorem dX8_raises_27 : decode cX8_raises 27 = .ok (.getfield 78, 3) := by decide +kernel
theorem dX8_raises_30 : decode cX8_raises 30 = .ok (.iload_n 2, 1) := by decide +kernel
theorem dX8_raises_31 : decode cX8_raises 31 = .ok (.iaload, 1) := by decide +kernel
theorem dX8_raises_32 : decode cX8_raises 32 = .ok (.if_icmp .le 12, 3) := by decide +kernel
theorem dX8_raises_35 : decode cX8_raises 35 = .ok (.aload_n 0, 1) := by decide +kernel
theorem dX8_raises_36 : decode cX8_raises 36 = .ok (.getfield 72, 3) := by decide +kernel
theorem dX8_raises_39 : decode cX8_raises 39 = .ok (.iload_n 2, 1) := by decide +kernel
theorem dX8_raises_40 : decode cX8_raises 40 = .ok (.iaload, 1) := by decide +kernel
theorem dX8_raises_41 : decode cX8_raises 41 = .ok (.goto 9, 3) := by decide +kernel
theorem dX8_raises_44 : decode cX8_raises 44 = .ok (.aload_n 0, 1) := by decide +kernel
theorem dX8_raises_45 : decode cX8_raises 45 = .ok (.getfield 78, 3) := by decide +kernel
theorem dX8_raises_48 : decode cX8_raises 48 = .ok (.iload_n 2, 1) := by decide +kernel
theorem dX8_raises_49 : decode cX8_raises 49 = .ok (.iaload, 1) := by decide +kernel
theorem dX8_raises_50 : decode cX8_raises 50 = .ok (.iastore, 1) := by decide +kernel
theorem dX8_raises_51 : decode cX8_raises 51 = .ok (.iinc 2 1, 3) := by decide +kernel
theorem dX8_raises_54 : decode cX8_raises 54 = .ok (.goto (-47), 3) := by decide +kernel
theorem dX8_raises_57 : decode cX8_raises 57 = .ok (.return_, 1) := by decide +kernel
theorem dX8_asked_0 : decode cX8_asked 0 = .ok (.iconst 0, 1) := by decide +kernel
theorem dX8_asked_1 : decode cX8_asked 1 = .ok (.istore_n 3, 1) := by decide +kernel
theorem dX8_asked_2 : decode cX8_asked 2 = .ok (.iload_n 3, 1) := by decide +kernel
theorem dX8_asked_3 : decode cX8_asked 3 = .ok (.aload_n 0, 1) := by decide +kernel
theorem dX8_asked_4 : decode cX8_asked 4 = .ok (.getfield 84, 3) := by decide +kernel
theorem dX8_asked_7 : decode cX8_asked 7 = .ok (.if_icmp .ge 16, 3) := by decide +kernel
theorem dX8_asked_10 : decode cX8_asked 10 = .ok (.aload_n 0, 1) := by decide +kernel
theorem dX8_asked_11 : decode cX8_asked 11 = .ok (.getfield 78, 3) := by decide +kernel
theorem dX8_asked_14 : decode cX8_asked 14 = .ok (.iload_n 3, 1) := by decide +kernel
theorem dX8_asked_15 : decode cX8_asked 15 = .ok (.iconst 0, 1) := by decide +kernel
theorem dX8_asked_16 : decode cX8_asked 16 = .ok (.iastore, 1) := by decide +kernel
theorem dX8_asked_17 : decode cX8_asked 17 = .ok (.iinc 3 1, 3) := by decide +kernel
theorem dX8_asked_20 : decode cX8_asked 20 = .ok (.goto (-18), 3) := by decide +kernel
theorem dX8_asked_23 : decode cX8_asked 23 = .ok (.aload_n 0, 1) := by decide +kernel
theorem dX8_asked_24 : decode cX8_asked 24 = .ok (.iload_n 1, 1) := by decide +kernel
theorem dX8_asked_25 : decode cX8_asked 25 = .ok (.invokevirtual 125, 3) := by decide +kernel
theorem dX8_asked_28 : decode cX8_asked 28 = .ok (.iconst 0, 1) := by decide +kernel
theorem dX8_asked_29 : decode cX8_asked 29 = .ok (.istore_n 3, 1) := by decide +kernel
theorem dX8_asked_30 : decode cX8_asked 30 = .ok (.iload_n 3, 1) := by decide +kernel
theorem dX8_asked_31 : decode cX8_asked 31 = .ok (.aload_n 0, 1) := by decide +kernel
theorem dX8_asked_32 : decode cX8_asked 32 = .ok (.getfield 91, 3) := by decide +kernel
theorem dX8_asked_35 : decode cX8_asked 35 = .ok (.if_icmp .ge 33, 3) := by decide +kernel
theorem dX8_asked_38 : decode cX8_asked 38 = .ok (.aload_n 0, 1) := by decide +kernel
theorem dX8_asked_39 : decode cX8_asked 39 = .ok (.getfield 54, 3) := by decide +kernel
theorem dX8_asked_42 : decode cX8_asked 42 = .ok (.iload_n 3, 1) := by decide +kernel
theorem dX8_asked_43 : decode cX8_asked 43 = .ok (.baload, 1) := by decide +kernel
theorem dX8_asked_44 : decode cX8_asked 44 = .ok (.ifCond .eq 18, 3) := by decide +kernel
theorem dX8_asked_47 : decode cX8_asked 47 = .ok (.aload_n 0, 1) := by decide +kernel
theorem dX8_asked_48 : decode cX8_asked 48 = .ok (.getfield 63, 3) := by decide +kernel
theorem dX8_asked_51 : decode cX8_asked 51 = .ok (.iload_n 3, 1) := by decide +kernel
theorem dX8_asked_52 : decode cX8_asked 52 = .ok (.iaload, 1) := by decide +kernel
theorem dX8_asked_53 : decode cX8_asked 53 = .ok (.iconst (-1), 1) := by decide +kernel
theorem dX8_asked_54 : decode cX8_asked 54 = .ok (.if_icmp .ne 8, 3) := by decide +kernel
theorem dX8_asked_57 : decode cX8_asked 57 = .ok (.aload_n 0, 1) := by decide +kernel
theorem dX8_asked_58 : decode cX8_asked 58 = .ok (.iload_n 3, 1) := by decide +kernel
theorem dX8_asked_59 : decode cX8_asked 59 = .ok (.invokevirtual 125, 3) := by decide +kernel
theorem dX8_asked_62 : decode cX8_asked 62 = .ok (.iinc 3 1, 3) := by decide +kernel
theorem dX8_asked_65 : decode cX8_asked 65 = .ok (.goto (-35), 3) := by decide +kernel
theorem dX8_asked_68 : decode cX8_asked 68 = .ok (.iconst 0, 1) := by decide +kernel
theorem dX8_asked_69 : decode cX8_asked 69 = .ok (.istore_n 3, 1) := by decide +kernel
theorem dX8_asked_70 : decode cX8_asked 70 = .ok (.iconst 0, 1) := by decide +kernel
theorem dX8_asked_71 : decode cX8_asked 71 = .ok (.istore 4, 2) := by decide +kernel
theorem dX8_asked_73 : decode cX8_asked 73 = .ok (.iload 4, 2) := by decide +kernel
theorem dX8_asked_75 : decode cX8_asked 75 = .ok (.aload_n 0, 1) := by decide +kernel
theorem dX8_asked_76 : decode cX8_asked 76 = .ok (.getfield 84, 3) := by decide +kernel
theorem dX8_asked_79 : decode cX8_asked 79 = .ok (.if_icmp .ge 42, 3) := by decide +kernel
theorem dX8_asked_82 : decode cX8_asked 82 = .ok (.iload_n 3, 1) := by decide +kernel
theorem dX8_asked_83 : decode cX8_asked 83 = .ok (.aload_n 0, 1) := by decide +kernel
theorem dX8_asked_84 : decode cX8_asked 84 = .ok (.getfield 22, 3) := by decide +kernel
theorem dX8_asked_87 : decode cX8_asked 87 = .ok (.iload 4, 2) := by decide +kernel
theorem dX8_asked_89 : decode cX8_asked 89 = .ok (.iaload, 1) := by decide +kernel
theorem dX8_asked_90 : decode cX8_asked 90 = .ok (.iload_n 2, 1) := by decide +kernel
theorem dX8_asked_91 : decode cX8_asked 91 = .ok (.if_icmp .ne 21, 3) := by decide +kernel
theorem dX8_asked_94 : decode cX8_asked 94 = .ok (.aload_n 0, 1) := by decide +kernel
theorem dX8_asked_95 : decode cX8_asked 95 = .ok (.getfield 19, 3) := by decide +kernel
theorem dX8_asked_98 : decode cX8_asked 98 = .ok (.iload 4, 2) := by decide +kernel
theorem dX8_asked_100 : decode cX8_asked 100 = .ok (.iaload, 1) := by decide +kernel
theorem dX8_asked_101 : decode cX8_asked 101 = .ok (.aload_n 0, 1) := by decide +kernel
theorem dX8_asked_102 : decode cX8_asked 102 = .ok (.getfield 78, 3) := by decide +kernel
theorem dX8_asked_105 : decode cX8_asked 105 = .ok (.iload 4, 2) := by decide +kernel
theorem dX8_asked_107 : decode cX8_asked 107 = .ok (.iaload, 1) := by decide +kernel
theorem dX8_asked_108 : decode cX8_asked 108 = .ok (.imul, 1) := by decide +kernel
theorem dX8_asked_109 : decode cX8_asked 109 = .ok (.goto 4, 3) := by decide +kernel
theorem dX8_asked_112 : decode cX8_asked 112 = .ok (.iconst 0, 1) := by decide +kernel
theorem dX8_asked_113 : decode cX8_asked 113 = .ok (.iadd, 1) := by decide +kernel
theorem dX8_asked_114 : decode cX8_asked 114 = .ok (.istore_n 3, 1) := by decide +kernel
theorem dX8_asked_115 : decode cX8_asked 115 = .ok (.iinc 4 1, 3) := by decide +kernel
theorem dX8_asked_118 : decode cX8_asked 118 = .ok (.goto (-45), 3) := by decide +kernel
theorem dX8_asked_121 : decode cX8_asked 121 = .ok (.iload_n 3, 1) := by decide +kernel
theorem dX8_asked_122 : decode cX8_asked 122 = .ok (.bipush 99, 2) := by decide +kernel
theorem dX8_asked_124 : decode cX8_asked 124 = .ok (.iadd, 1) := by decide +kernel
theorem dX8_asked_125 : decode cX8_asked 125 = .ok (.bipush 100, 2) := by decide +kernel
theorem dX8_asked_127 : decode cX8_asked 127 = .ok (.idiv, 1) := by decide +kernel
theorem dX8_asked_128 : decode cX8_asked 128 = .ok (.ireturn, 1) := by decide +kernel
theorem dX8_mayGo_0 : decode cX8_mayGo 0 = .ok (.iconst 1, 1) := by decide +kernel
theorem dX8_mayGo_1 : decode cX8_mayGo 1 = .ok (.istore_n 2, 1) := by decide +kernel
theorem dX8_mayGo_2 : decode cX8_mayGo 2 = .ok (.iconst 0, 1) := by decide +kernel
theorem dX8_mayGo_3 : decode cX8_mayGo 3 = .ok (.istore_n 3, 1) := by decide +kernel
theorem dX8_mayGo_4 : decode cX8_mayGo 4 = .ok (.iload_n 3, 1) := by decide +kernel
theorem dX8_mayGo_5 : decode cX8_mayGo 5 = .ok (.iconst 3, 1) := by decide +kernel
theorem dX8_mayGo_6 : decode cX8_mayGo 6 = .ok (.if_icmp .ge 34, 3) := by decide +kernel
theorem dX8_mayGo_9 : decode cX8_mayGo 9 = .ok (.iload_n 2, 1) := by decide +kernel
theorem dX8_mayGo_10 : decode cX8_mayGo 10 = .ok (.ifCond .eq 22, 3) := by decide +kernel
theorem dX8_mayGo_13 : decode cX8_mayGo 13 = .ok (.aload_n 0, 1) := by decide +kernel
theorem dX8_mayGo_14 : decode cX8_mayGo 14 = .ok (.iload_n 1, 1) := by decide +kernel
theorem dX8_mayGo_15 : decode cX8_mayGo 15 = .ok (.iload_n 3, 1) := by decide +kernel
theorem dX8_mayGo_16 : decode cX8_mayGo 16 = .ok (.invokevirtual 128, 3) := by decide +kernel
theorem dX8_mayGo_19 : decode cX8_mayGo 19 = .ok (.aload_n 0, 1) := by decide +kernel
theorem dX8_mayGo_20 : decode cX8_mayGo 20 = .ok (.getfield 33, 3) := by decide +kernel
theorem dX8_mayGo_23 : decode cX8_mayGo 23 = .ok (.iload_n 3, 1) := by decide +kernel
theorem dX8_mayGo_24 : decode cX8_mayGo 24 = .ok (.iaload, 1) := by decide +kernel
theorem dX8_mayGo_25 : decode cX8_mayGo 25 = .ok (.if_icmp .gt 7, 3) := by decide +kernel
theorem dX8_mayGo_28 : decode cX8_mayGo 28 = .ok (.iconst 1, 1) := by decide +kernel
theorem dX8_mayGo_29 : decode cX8_mayGo 29 = .ok (.goto 4, 3) := by decide +kernel
theorem dX8_mayGo_32 : decode cX8_mayGo 32 = .ok (.iconst 0, 1) := by decide +kernel
theorem dX8_mayGo_33 : decode cX8_mayGo 33 = .ok (.istore_n 2, 1) := by decide +kernel
theorem dX8_mayGo_34 : decode cX8_mayGo 34 = .ok (.iinc 3 1, 3) := by decide +kernel
theorem dX8_mayGo_37 : decode cX8_mayGo 37 = .ok (.goto (-33), 3) := by decide +kernel
theorem dX8_mayGo_40 : decode cX8_mayGo 40 = .ok (.iload_n 2, 1) := by decide +kernel
theorem dX8_mayGo_41 : decode cX8_mayGo 41 = .ok (.ireturn, 1) := by decide +kernel
theorem dX8_active_0 : decode cX8_active 0 = .ok (.iconst 0, 1) := by decide +kernel
theorem dX8_active_1 : decode cX8_active 1 = .ok (.istore_n 1, 1) := by decide +kernel
theorem dX8_active_2 : decode cX8_active 2 = .ok (.iconst 0, 1) := by decide +kernel
theorem dX8_active_3 : decode cX8_active 3 = .ok (.istore_n 2, 1) := by decide +kernel
theorem dX8_active_4 : decode cX8_active 4 = .ok (.iload_n 2, 1) := by decide +kernel
theorem dX8_active_5 : decode cX8_active 5 = .ok (.aload_n 0, 1) := by decide +kernel
theorem dX8_active_6 : decode cX8_active 6 = .ok (.getfield 91, 3) := by decide +kernel
theorem dX8_active_9 : decode cX8_active 9 = .ok (.if_icmp .ge 26, 3) := by decide +kernel
theorem dX8_active_12 : decode cX8_active 12 = .ok (.iload_n 1, 1) := by decide +kernel
theorem dX8_active_13 : decode cX8_active 13 = .ok (.aload_n 0, 1) := by decide +kernel
theorem dX8_active_14 : decode cX8_active 14 = .ok (.getfield 54, 3) := by decide +kernel
theorem dX8_active_17 : decode cX8_active 17 = .ok (.iload_n 2, 1) := by decide +kernel
theorem dX8_active_18 : decode cX8_active 18 = .ok (.baload, 1) := by decide +kernel
theorem dX8_active_19 : decode cX8_active 19 = .ok (.ifCond .eq 7, 3) := by decide +kernel
theorem dX8_active_22 : decode cX8_active 22 = .ok (.iconst 1, 1) := by decide +kernel
theorem dX8_active_23 : decode cX8_active 23 = .ok (.goto 4, 3) := by decide +kernel
theorem dX8_active_26 : decode cX8_active 26 = .ok (.iconst 0, 1) := by decide +kernel
theorem dX8_active_27 : decode cX8_active 27 = .ok (.iadd, 1) := by decide +kernel
theorem dX8_active_28 : decode cX8_active 28 = .ok (.istore_n 1, 1) := by decide +kernel
theorem dX8_active_29 : decode cX8_active 29 = .ok (.iinc 2 1, 3) := by decide +kernel
theorem dX8_active_32 : decode cX8_active 32 = .ok (.goto (-28), 3) := by decide +kernel
theorem dX8_active_35 : decode cX8_active 35 = .ok (.iload_n 1, 1) := by decide +kernel
theorem dX8_active_36 : decode cX8_active 36 = .ok (.ireturn, 1) := by decide +kernel
theorem dX8_goes_0 : decode cX8_goes 0 = .ok (.aload_n 0, 1) := by decide +kernel
theorem dX8_goes_1 : decode cX8_goes 1 = .ok (.getfield 54, 3) := by decide +kernel
theorem dX8_goes_4 : decode cX8_goes 4 = .ok (.iload_n 1, 1) := by decide +kernel
theorem dX8_goes_5 : decode cX8_goes 5 = .ok (.iconst 1, 1) := by decide +kernel
theorem dX8_goes_6 : decode cX8_goes 6 = .ok (.bastore, 1) := by decide +kernel
theorem dX8_goes_7 : decode cX8_goes 7 = .ok (.aload_n 0, 1) := by decide +kernel
theorem dX8_goes_8 : decode cX8_goes 8 = .ok (.getfield 57, 3) := by decide +kernel
theorem dX8_goes_11 : decode cX8_goes 11 = .ok (.iload_n 1, 1) := by decide +kernel
theorem dX8_goes_12 : decode cX8_goes 12 = .ok (.aload_n 0, 1) := by decide +kernel
theorem dX8_goes_13 : decode cX8_goes 13 = .ok (.getfield 131, 3) := by decide +kernel
theorem dX8_goes_16 : decode cX8_goes 16 = .ok (.iastore, 1) := by decide +kernel
theorem dX8_goes_17 : decode cX8_goes 17 = .ok (.aload_n 0, 1) := by decide +kernel
theorem dX8_goes_18 : decode cX8_goes 18 = .ok (.getfield 63, 3) := by decide +kernel
theorem dX8_goes_21 : decode cX8_goes 21 = .ok (.iload_n 1, 1) := by decide +kernel
theorem dX8_goes_22 : decode cX8_goes 22 = .ok (.iconst (-1), 1) := by decide +kernel
theorem dX8_goes_23 : decode cX8_goes 23 = .ok (.iastore, 1) := by decide +kernel
theorem dX8_goes_24 : decode cX8_goes 24 = .ok (.aload_n 0, 1) := by decide +kernel
theorem dX8_goes_25 : decode cX8_goes 25 = .ok (.getfield 60, 3) := by decide +kernel
theorem dX8_goes_28 : decode cX8_goes 28 = .ok (.iload_n 1, 1) := by decide +kernel
theorem dX8_goes_29 : decode cX8_goes 29 = .ok (.aload_n 0, 1) := by decide +kernel
theorem dX8_goes_30 : decode cX8_goes 30 = .ok (.getfield 134, 3) := by decide +kernel
theorem dX8_goes_33 : decode cX8_goes 33 = .ok (.iastore, 1) := by decide +kernel
theorem dX8_goes_34 : decode cX8_goes 34 = .ok (.aload_n 0, 1) := by decide +kernel
theorem dX8_goes_35 : decode cX8_goes 35 = .ok (.dup, 1) := by decide +kernel
theorem dX8_goes_36 : decode cX8_goes 36 = .ok (.getfield 134, 3) := by decide +kernel
theorem dX8_goes_39 : decode cX8_goes 39 = .ok (.iconst 1, 1) := by decide +kernel
theorem dX8_goes_40 : decode cX8_goes 40 = .ok (.iadd, 1) := by decide +kernel
theorem dX8_goes_41 : decode cX8_goes 41 = .ok (.putfield 134, 3) := by decide +kernel
theorem dX8_goes_44 : decode cX8_goes 44 = .ok (.aload_n 0, 1) := by decide +kernel
theorem dX8_goes_45 : decode cX8_goes 45 = .ok (.getfield 48, 3) := by decide +kernel
theorem dX8_goes_48 : decode cX8_goes 48 = .ok (.iload_n 1, 1) := by decide +kernel
theorem dX8_goes_49 : decode cX8_goes 49 = .ok (.iaload, 1) := by decide +kernel
theorem dX8_goes_50 : decode cX8_goes 50 = .ok (.iconst (-1), 1) := by decide +kernel
theorem dX8_goes_51 : decode cX8_goes 51 = .ok (.if_icmp .eq 48, 3) := by decide +kernel
theorem dX8_goes_54 : decode cX8_goes 54 = .ok (.aload_n 0, 1) := by decide +kernel
theorem dX8_goes_55 : decode cX8_goes 55 = .ok (.getfield 66, 3) := by decide +kernel
theorem dX8_goes_58 : decode cX8_goes 58 = .ok (.aload_n 0, 1) := by decide +kernel
theorem dX8_goes_59 : decode cX8_goes 59 = .ok (.getfield 137, 3) := by decide +kernel
theorem dX8_goes_62 : decode cX8_goes 62 = .ok (.aload_n 0, 1) := by decide +kernel
theorem dX8_goes_63 : decode cX8_goes 63 = .ok (.getfield 48, 3) := by decide +kernel
theorem dX8_goes_66 : decode cX8_goes 66 = .ok (.iload_n 1, 1) := by decide +kernel
theorem dX8_goes_67 : decode cX8_goes 67 = .ok (.iaload, 1) := by decide +kernel
theorem dX8_goes_68 : decode cX8_goes 68 = .ok (.iastore, 1) := by decide +kernel
theorem dX8_goes_69 : decode cX8_goes 69 = .ok (.aload_n 0, 1) := by decide +kernel
theorem dX8_goes_70 : decode cX8_goes 70 = .ok (.getfield 69, 3) := by decide +kernel
theorem dX8_goes_73 : decode cX8_goes 73 = .ok (.aload_n 0, 1) := by decide +kernel
theorem dX8_goes_74 : decode cX8_goes 74 = .ok (.getfield 137, 3) := by decide +kernel
theorem dX8_goes_77 : decode cX8_goes 77 = .ok (.aload_n 0, 1) := by decide +kernel
theorem dX8_goes_78 : decode cX8_goes 78 = .ok (.getfield 131, 3) := by decide +kernel
theorem dX8_goes_81 : decode cX8_goes 81 = .ok (.aload_n 0, 1) := by decide +kernel
theorem dX8_goes_82 : decode cX8_goes 82 = .ok (.getfield 51, 3) := by decide +kernel
theorem dX8_goes_85 : decode cX8_goes 85 = .ok (.iload_n 1, 1) := by decide +kernel
theorem dX8_goes_86 : decode cX8_goes 86 = .ok (.iaload, 1) := by decide +kernel
theorem dX8_goes_87 : decode cX8_goes 87 = .ok (.iadd, 1) := by decide +kernel
theorem dX8_goes_88 : decode cX8_goes 88 = .ok (.iastore, 1) := by decide +kernel
theorem dX8_goes_89 : decode cX8_goes 89 = .ok (.aload_n 0, 1) := by decide +kernel
theorem dX8_goes_90 : decode cX8_goes 90 = .ok (.dup, 1) := by decide +kernel
theorem dX8_goes_91 : decode cX8_goes 91 = .ok (.getfield 137, 3) := by decide +kernel
theorem dX8_goes_94 : decode cX8_goes 94 = .ok (.iconst 1, 1) := by decide +kernel
theorem dX8_goes_95 : decode cX8_goes 95 = .ok (.iadd, 1) := by decide +kernel
theorem dX8_goes_96 : decode cX8_goes 96 = .ok (.putfield 137, 3) := by decide +kernel
theorem dX8_goes_99 : decode cX8_goes 99 = .ok (.return_, 1) := by decide +kernel
theorem dX8_go_0 : decode cX8_go 0 = .ok (.aload_n 0, 1) := by decide +kernel
theorem dX8_go_1 : decode cX8_go 1 = .ok (.iload_n 1, 1) := by decide +kernel
theorem dX8_go_2 : decode cX8_go 2 = .ok (.invokevirtual 107, 3) := by decide +kernel
theorem dX8_go_5 : decode cX8_go 5 = .ok (.istore_n 2, 1) := by decide +kernel
theorem dX8_go_6 : decode cX8_go 6 = .ok (.aload_n 0, 1) := by decide +kernel
theorem dX8_go_7 : decode cX8_go 7 = .ok (.iload_n 2, 1) := by decide +kernel
theorem dX8_go_8 : decode cX8_go 8 = .ok (.ifCond .ne 7, 3) := by decide +kernel
theorem dX8_go_11 : decode cX8_go 11 = .ok (.iconst 1, 1) := by decide +kernel
theorem dX8_go_12 : decode cX8_go 12 = .ok (.goto 16, 3) := by decide +kernel
theorem dX8_go_15 : decode cX8_go 15 = .ok (.aload_n 0, 1) := by decide +kernel
theorem dX8_go_16 : decode cX8_go 16 = .ok (.iload_n 1, 1) := by decide +kernel
theorem dX8_go_17 : decode cX8_go 17 = .ok (.invokevirtual 140, 3) := by decide +kernel
theorem dX8_go_20 : decode cX8_go 20 = .ok (.ifCond .eq 7, 3) := by decide +kernel
theorem dX8_go_23 : decode cX8_go 23 = .ok (.iconst 0, 1) := by decide +kernel
theorem dX8_go_24 : decode cX8_go 24 = .ok (.goto 4, 3) := by decide +kernel
theorem dX8_go_27 : decode cX8_go 27 = .ok (.iconst 2, 1) := by decide +kernel
theorem dX8_go_28 : decode cX8_go 28 = .ok (.invokevirtual 98, 3) := by decide +kernel
theorem dX8_go_31 : decode cX8_go 31 = .ok (.ifCond .ne 5, 3) := by decide +kernel
theorem dX8_go_34 : decode cX8_go 34 = .ok (.iconst 0, 1) := by decide +kernel
theorem dX8_go_35 : decode cX8_go 35 = .ok (.ireturn, 1) := by decide +kernel
theorem dX8_go_36 : decode cX8_go 36 = .ok (.aload_n 0, 1) := by decide +kernel
theorem dX8_go_37 : decode cX8_go 37 = .ok (.iload_n 1, 1) := by decide +kernel
theorem dX8_go_38 : decode cX8_go 38 = .ok (.invokevirtual 143, 3) := by decide +kernel
theorem dX8_go_41 : decode cX8_go 41 = .ok (.aload_n 0, 1) := by decide +kernel
theorem dX8_go_42 : decode cX8_go 42 = .ok (.invokevirtual 146, 3) := by decide +kernel
theorem dX8_go_45 : decode cX8_go 45 = .ok (.ireturn, 1) := by decide +kernel
theorem dX8_ends_0 : decode cX8_ends 0 = .ok (.aload_n 0, 1) := by decide +kernel
theorem dX8_ends_1 : decode cX8_ends 1 = .ok (.getfield 54, 3) := by decide +kernel
theorem dX8_ends_4 : decode cX8_ends 4 = .ok (.iload_n 1, 1) := by decide +kernel
theorem dX8_ends_5 : decode cX8_ends 5 = .ok (.aload_n 0, 1) := by decide +kernel
theorem dX8_ends_6 : decode cX8_ends 6 = .ok (.getfield 54, 3) := by decide +kernel
theorem dX8_ends_9 : decode cX8_ends 9 = .ok (.iload_n 1, 1) := by decide +kernel
theorem dX8_ends_10 : decode cX8_ends 10 = .ok (.baload, 1) := by decide +kernel
theorem dX8_ends_11 : decode cX8_ends 11 = .ok (.ifCond .eq 37, 3) := by decide +kernel
theorem dX8_ends_14 : decode cX8_ends 14 = .ok (.aload_n 0, 1) := by decide +kernel
theorem dX8_ends_15 : decode cX8_ends 15 = .ok (.getfield 63, 3) := by decide +kernel
theorem dX8_ends_18 : decode cX8_ends 18 = .ok (.iload_n 1, 1) := by decide +kernel
theorem dX8_ends_19 : decode cX8_ends 19 = .ok (.iaload, 1) := by decide +kernel
theorem dX8_ends_20 : decode cX8_ends 20 = .ok (.iconst (-1), 1) := by decide +kernel
theorem dX8_ends_21 : decode cX8_ends 21 = .ok (.if_icmp .eq 23, 3) := by decide +kernel
theorem dX8_ends_24 : decode cX8_ends 24 = .ok (.aload_n 0, 1) := by decide +kernel
theorem dX8_ends_25 : decode cX8_ends 25 = .ok (.getfield 131, 3) := by decide +kernel
theorem dX8_ends_28 : decode cX8_ends 28 = .ok (.aload_n 0, 1) := by decide +kernel
theorem dX8_ends_29 : decode cX8_ends 29 = .ok (.getfield 63, 3) := by decide +kernel
theorem dX8_ends_32 : decode cX8_ends 32 = .ok (.iload_n 1, 1) := by decide +kernel
theorem dX8_ends_33 : decode cX8_ends 33 = .ok (.iaload, 1) := by decide +kernel
theorem dX8_ends_34 : decode cX8_ends 34 = .ok (.isub, 1) := by decide +kernel
theorem dX8_ends_35 : decode cX8_ends 35 = .ok (.aload_n 0, 1) := by decide +kernel
theorem dX8_ends_36 : decode cX8_ends 36 = .ok (.getfield 42, 3) := by decide +kernel
theorem dX8_ends_39 : decode cX8_ends 39 = .ok (.iload_n 1, 1) := by decide +kernel
theorem dX8_ends_40 : decode cX8_ends 40 = .ok (.iaload, 1) := by decide +kernel
theorem dX8_ends_41 : decode cX8_ends 41 = .ok (.if_icmp .ge 7, 3) := by decide +kernel
theorem dX8_ends_44 : decode cX8_ends 44 = .ok (.iconst 1, 1) := by decide +kernel
theorem dX8_ends_45 : decode cX8_ends 45 = .ok (.goto 4, 3) := by decide +kernel
theorem dX8_ends_48 : decode cX8_ends 48 = .ok (.iconst 0, 1) := by decide +kernel
theorem dX8_ends_49 : decode cX8_ends 49 = .ok (.bastore, 1) := by decide +kernel
theorem dX8_ends_50 : decode cX8_ends 50 = .ok (.return_, 1) := by decide +kernel
theorem dX8_release_0 : decode cX8_release 0 = .ok (.aload_n 0, 1) := by decide +kernel
theorem dX8_release_1 : decode cX8_release 1 = .ok (.iload_n 1, 1) := by decide +kernel
theorem dX8_release_2 : decode cX8_release 2 = .ok (.invokevirtual 107, 3) := by decide +kernel
theorem dX8_release_5 : decode cX8_release 5 = .ok (.istore_n 2, 1) := by decide +kernel
theorem dX8_release_6 : decode cX8_release 6 = .ok (.aload_n 0, 1) := by decide +kernel
theorem dX8_release_7 : decode cX8_release 7 = .ok (.iload_n 2, 1) := by decide +kernel
theorem dX8_release_8 : decode cX8_release 8 = .ok (.ifCond .ne 7, 3) := by decide +kernel
theorem dX8_release_11 : decode cX8_release 11 = .ok (.iconst 1, 1) := by decide +kernel
theorem dX8_release_12 : decode cX8_release 12 = .ok (.goto 27, 3) := by decide +kernel
theorem dX8_release_15 : decode cX8_release 15 = .ok (.aload_n 0, 1) := by decide +kernel
theorem dX8_release_16 : decode cX8_release 16 = .ok (.getfield 54, 3) := by decide +kernel
theorem dX8_release_19 : decode cX8_release 19 = .ok (.iload_n 1, 1) := by decide +kernel
theorem dX8_release_20 : decode cX8_release 20 = .ok (.baload, 1) := by decide +kernel
theorem dX8_release_21 : decode cX8_release 21 = .ok (.ifCond .eq 13, 3) := by decide +kernel
theorem dX8_release_24 : decode cX8_release 24 = .ok (.aload_n 0, 1) := by decide +kernel
theorem dX8_release_25 : decode cX8_release 25 = .ok (.getfield 63, 3) := by decide +kernel
theorem dX8_release_28 : decode cX8_release 28 = .ok (.iload_n 1, 1) := by decide +kernel
theorem dX8_release_29 : decode cX8_release 29 = .ok (.iaload, 1) := by decide +kernel
theorem dX8_release_30 : decode cX8_release 30 = .ok (.iconst (-1), 1) := by decide +kernel
theorem dX8_release_31 : decode cX8_release 31 = .ok (.if_icmp .eq 7, 3) := by decide +kernel
theorem dX8_release_34 : decode cX8_release 34 = .ok (.iconst 2, 1) := by decide +kernel
theorem dX8_release_35 : decode cX8_release 35 = .ok (.goto 4, 3) := by decide +kernel
theorem dX8_release_38 : decode cX8_release 38 = .ok (.iconst 0, 1) := by decide +kernel
theorem dX8_release_39 : decode cX8_release 39 = .ok (.invokevirtual 98, 3) := by decide +kernel
theorem dX8_release_42 : decode cX8_release 42 = .ok (.ifCond .ne 5, 3) := by decide +kernel
theorem dX8_release_45 : decode cX8_release 45 = .ok (.iconst 0, 1) := by decide +kernel
theorem dX8_release_46 : decode cX8_release 46 = .ok (.ireturn, 1) := by decide +kernel
theorem dX8_release_47 : decode cX8_release 47 = .ok (.aload_n 0, 1) := by decide +kernel
theorem dX8_release_48 : decode cX8_release 48 = .ok (.getfield 63, 3) := by decide +kernel
theorem dX8_release_51 : decode cX8_release 51 = .ok (.iload_n 1, 1) := by decide +kernel
theorem dX8_release_52 : decode cX8_release 52 = .ok (.aload_n 0, 1) := by decide +kernel
theorem dX8_release_53 : decode cX8_release 53 = .ok (.getfield 131, 3) := by decide +kernel
theorem dX8_release_56 : decode cX8_release 56 = .ok (.iastore, 1) := by decide +kernel
theorem dX8_release_57 : decode cX8_release 57 = .ok (.aload_n 0, 1) := by decide +kernel
theorem dX8_release_58 : decode cX8_release 58 = .ok (.iload_n 1, 1) := by decide +kernel
theorem dX8_release_59 : decode cX8_release 59 = .ok (.invokevirtual 150, 3) := by decide +kernel
theorem dX8_release_62 : decode cX8_release 62 = .ok (.aload_n 0, 1) := by decide +kernel
theorem dX8_release_63 : decode cX8_release 63 = .ok (.getfield 54, 3) := by decide +kernel
theorem dX8_release_66 : decode cX8_release 66 = .ok (.iload_n 1, 1) := by decide +kernel
theorem dX8_release_67 : decode cX8_release 67 = .ok (.baload, 1) := by decide +kernel
theorem dX8_release_68 : decode cX8_release 68 = .ok (.ireturn, 1) := by decide +kernel
theorem dX8_follows_0 : decode cX8_follows 0 = .ok (.aload_n 0, 1) := by decide +kernel
theorem dX8_follows_1 : decode cX8_follows 1 = .ok (.getfield 137, 3) := by decide +kernel
theorem dX8_follows_4 : decode cX8_follows 4 = .ok (.istore_n 1, 1) := by decide +kernel
theorem dX8_follows_5 : decode cX8_follows 5 = .ok (.iconst 0, 1) := by decide +kernel
theorem dX8_follows_6 : decode cX8_follows 6 = .ok (.istore_n 2, 1) := by decide +kernel
theorem dX8_follows_7 : decode cX8_follows 7 = .ok (.aload_n 0, 1) := by decide +kernel
theorem dX8_follows_8 : decode cX8_follows 8 = .ok (.getfield 137, 3) := by decide +kernel
theorem dX8_follows_11 : decode cX8_follows 11 = .ok (.istore_n 3, 1) := by decide +kernel
theorem dX8_follows_12 : decode cX8_follows 12 = .ok (.iconst 0, 1) := by decide +kernel
theorem dX8_follows_13 : decode cX8_follows 13 = .ok (.istore 4, 2) := by decide +kernel
theorem dX8_follows_15 : decode cX8_follows 15 = .ok (.iload 4, 2) := by decide +kernel
theorem dX8_follows_17 : decode cX8_follows 17 = .ok (.iload_n 1, 1) := by decide +kernel
theorem dX8_follows_18 : decode cX8_follows 18 = .ok (.if_icmp .ge 93, 3) := by decide +kernel
theorem dX8_follows_21 : decode cX8_follows 21 = .ok (.aload_n 0, 1) := by decide +kernel
theorem dX8_follows_22 : decode cX8_follows 22 = .ok (.getfield 69, 3) := by decide +kernel
theorem dX8_follows_25 : decode cX8_follows 25 = .ok (.iload 4, 2) := by decide +kernel
theorem dX8_follows_27 : decode cX8_follows 27 = .ok (.iaload, 1) := by decide +kernel
theorem dX8_follows_28 : decode cX8_follows 28 = .ok (.aload_n 0, 1) := by decide +kernel
theorem dX8_follows_29 : decode cX8_follows 29 = .ok (.getfield 131, 3) := by decide +kernel
theorem dX8_follows_32 : decode cX8_follows 32 = .ok (.if_icmp .ne 44, 3) := by decide +kernel
theorem dX8_follows_35 : decode cX8_follows 35 = .ok (.aload_n 0, 1) := by decide +kernel
theorem dX8_follows_36 : decode cX8_follows 36 = .ok (.aload_n 0, 1) := by decide +kernel
theorem dX8_follows_37 : decode cX8_follows 37 = .ok (.getfield 66, 3) := by decide +kernel
theorem dX8_follows_40 : decode cX8_follows 40 = .ok (.iload 4, 2) := by decide +kernel
theorem dX8_follows_42 : decode cX8_follows 42 = .ok (.iaload, 1) := by decide +kernel
theorem dX8_follows_43 : decode cX8_follows 43 = .ok (.invokevirtual 140, 3) := by decide +kernel
theorem dX8_follows_46 : decode cX8_follows 46 = .ok (.ifCond .eq 17, 3) := by decide +kernel
theorem dX8_follows_49 : decode cX8_follows 49 = .ok (.aload_n 0, 1) := by decide +kernel
theorem dX8_follows_50 : decode cX8_follows 50 = .ok (.aload_n 0, 1) := by decide +kernel
theorem dX8_follows_51 : decode cX8_follows 51 = .ok (.getfield 66, 3) := by decide +kernel
theorem dX8_follows_54 : decode cX8_follows 54 = .ok (.iload 4, 2) := by decide +kernel
theorem dX8_follows_56 : decode cX8_follows 56 = .ok (.iaload, 1) := by decide +kernel
theorem dX8_follows_57 : decode cX8_follows 57 = .ok (.invokevirtual 143, 3) := by decide +kernel
theorem dX8_follows_60 : decode cX8_follows 60 = .ok (.goto 45, 3) := by decide +kernel
theorem dX8_follows_63 : decode cX8_follows 63 = .ok (.aload_n 0, 1) := by decide +kernel
theorem dX8_follows_64 : decode cX8_follows 64 = .ok (.dup, 1) := by decide +kernel
theorem dX8_follows_65 : decode cX8_follows 65 = .ok (.getfield 153, 3) := by decide +kernel
theorem dX8_follows_68 : decode cX8_follows 68 = .ok (.iconst 1, 1) := by decide +kernel
theorem dX8_follows_69 : decode cX8_follows 69 = .ok (.iadd, 1) := by decide +kernel
theorem dX8_follows_70 : decode cX8_follows 70 = .ok (.putfield 153, 3) := by decide +kernel
theorem dX8_follows_73 : decode cX8_follows 73 = .ok (.goto 32, 3) := by decide +kernel
theorem dX8_follows_76 : decode cX8_follows 76 = .ok (.aload_n 0, 1) := by decide +kernel
theorem dX8_follows_77 : decode cX8_follows 77 = .ok (.getfield 66, 3) := by decide +kernel
theorem dX8_follows_80 : decode cX8_follows 80 = .ok (.iload_n 2, 1) := by decide +kernel
theorem dX8_follows_81 : decode cX8_follows 81 = .ok (.aload_n 0, 1) := by decide +kernel
theorem dX8_follows_82 : decode cX8_follows 82 = .ok (.getfield 66, 3) := by decide +kernel
theorem dX8_follows_85 : decode cX8_follows 85 = .ok (.iload 4, 2) := by decide +kernel
theorem dX8_follows_87 : decode cX8_follows 87 = .ok (.iaload, 1) := by decide +kernel
theorem dX8_follows_88 : decode cX8_follows 88 = .ok (.iastore, 1) := by decide +kernel
theorem dX8_follows_89 : decode cX8_follows 89 = .ok (.aload_n 0, 1) := by decide +kernel
theorem dX8_follows_90 : decode cX8_follows 90 = .ok (.getfield 69, 3) := by decide +kernel
theorem dX8_follows_93 : decode cX8_follows 93 = .ok (.iload_n 2, 1) := by decide +kernel
theorem dX8_follows_94 : decode cX8_follows 94 = .ok (.aload_n 0, 1) := by decide +kernel
theorem dX8_follows_95 : decode cX8_follows 95 = .ok (.getfield 69, 3) := by decide +kernel
theorem dX8_follows_98 : decode cX8_follows 98 = .ok (.iload 4, 2) := by decide +kernel
theorem dX8_follows_100 : decode cX8_follows 100 = .ok (.iaload, 1) := by decide +kernel
theorem dX8_follows_101 : decode cX8_follows 101 = .ok (.iastore, 1) := by decide +kernel
theorem dX8_follows_102 : decode cX8_follows 102 = .ok (.iinc 2 1, 3) := by decide +kernel
theorem dX8_follows_105 : decode cX8_follows 105 = .ok (.iinc 4 1, 3) := by decide +kernel
theorem dX8_follows_108 : decode cX8_follows 108 = .ok (.goto (-93), 3) := by decide +kernel
theorem dX8_follows_111 : decode cX8_follows 111 = .ok (.iload_n 3, 1) := by decide +kernel
theorem dX8_follows_112 : decode cX8_follows 112 = .ok (.istore 4, 2) := by decide +kernel
theorem dX8_follows_114 : decode cX8_follows 114 = .ok (.iload 4, 2) := by decide +kernel
theorem dX8_follows_116 : decode cX8_follows 116 = .ok (.aload_n 0, 1) := by decide +kernel
theorem dX8_follows_117 : decode cX8_follows 117 = .ok (.getfield 137, 3) := by decide +kernel
theorem dX8_follows_120 : decode cX8_follows 120 = .ok (.if_icmp .ge 38, 3) := by decide +kernel
theorem dX8_follows_123 : decode cX8_follows 123 = .ok (.aload_n 0, 1) := by decide +kernel
theorem dX8_follows_124 : decode cX8_follows 124 = .ok (.getfield 66, 3) := by decide +kernel
theorem dX8_follows_127 : decode cX8_follows 127 = .ok (.iload_n 2, 1) := by decide +kernel
theorem dX8_follows_128 : decode cX8_follows 128 = .ok (.aload_n 0, 1) := by decide +kernel
theorem dX8_follows_129 : decode cX8_follows 129 = .ok (.getfield 66, 3) := by decide +kernel
theorem dX8_follows_132 : decode cX8_follows 132 = .ok (.iload 4, 2) := by decide +kernel
theorem dX8_follows_134 : decode cX8_follows 134 = .ok (.iaload, 1) := by decide +kernel
theorem dX8_follows_135 : decode cX8_follows 135 = .ok (.iastore, 1) := by decide +kernel
theorem dX8_follows_136 : decode cX8_follows 136 = .ok (.aload_n 0, 1) := by decide +kernel
theorem dX8_follows_137 : decode cX8_follows 137 = .ok (.getfield 69, 3) := by decide +kernel
theorem dX8_follows_140 : decode cX8_follows 140 = .ok (.iload_n 2, 1) := by decide +kernel
theorem dX8_follows_141 : decode cX8_follows 141 = .ok (.aload_n 0, 1) := by decide +kernel
theorem dX8_follows_142 : decode cX8_follows 142 = .ok (.getfield 69, 3) := by decide +kernel
theorem dX8_follows_145 : decode cX8_follows 145 = .ok (.iload 4, 2) := by decide +kernel
theorem dX8_follows_147 : decode cX8_follows 147 = .ok (.iaload, 1) := by decide +kernel
theorem dX8_follows_148 : decode cX8_follows 148 = .ok (.iastore, 1) := by decide +kernel
theorem dX8_follows_149 : decode cX8_follows 149 = .ok (.iinc 2 1, 3) := by decide +kernel
theorem dX8_follows_152 : decode cX8_follows 152 = .ok (.iinc 4 1, 3) := by decide +kernel
theorem dX8_follows_155 : decode cX8_follows 155 = .ok (.goto (-41), 3) := by decide +kernel
theorem dX8_follows_158 : decode cX8_follows 158 = .ok (.aload_n 0, 1) := by decide +kernel
theorem dX8_follows_159 : decode cX8_follows 159 = .ok (.iload_n 2, 1) := by decide +kernel
theorem dX8_follows_160 : decode cX8_follows 160 = .ok (.putfield 137, 3) := by decide +kernel
theorem dX8_follows_163 : decode cX8_follows 163 = .ok (.return_, 1) := by decide +kernel
theorem dX8_pass_0 : decode cX8_pass 0 = .ok (.aload_n 0, 1) := by decide +kernel
theorem dX8_pass_1 : decode cX8_pass 1 = .ok (.iload_n 1, 1) := by decide +kernel
theorem dX8_pass_2 : decode cX8_pass 2 = .ok (.iconst 1, 1) := by decide +kernel
theorem dX8_pass_3 : decode cX8_pass 3 = .ok (.bipush 20, 2) := by decide +kernel
theorem dX8_pass_5 : decode cX8_pass 5 = .ok (.invokestatic 87, 3) := by decide +kernel
theorem dX8_pass_8 : decode cX8_pass 8 = .ok (.ifCond .eq 7, 3) := by decide +kernel
theorem dX8_pass_11 : decode cX8_pass 11 = .ok (.iconst 0, 1) := by decide +kernel
theorem dX8_pass_12 : decode cX8_pass 12 = .ok (.goto 4, 3) := by decide +kernel
theorem dX8_pass_15 : decode cX8_pass 15 = .ok (.iconst 1, 1) := by decide +kernel
theorem dX8_pass_16 : decode cX8_pass 16 = .ok (.invokevirtual 98, 3) := by decide +kernel
theorem dX8_pass_19 : decode cX8_pass 19 = .ok (.ifCond .ne 5, 3) := by decide +kernel
theorem dX8_pass_22 : decode cX8_pass 22 = .ok (.iconst 0, 1) := by decide +kernel
theorem dX8_pass_23 : decode cX8_pass 23 = .ok (.ireturn, 1) := by decide +kernel
theorem dX8_pass_24 : decode cX8_pass 24 = .ok (.iconst 0, 1) := by decide +kernel
theorem dX8_pass_25 : decode cX8_pass 25 = .ok (.istore_n 2, 1) := by decide +kernel
theorem dX8_pass_26 : decode cX8_pass 26 = .ok (.iload_n 2, 1) := by decide +kernel
theorem dX8_pass_27 : decode cX8_pass 27 = .ok (.iload_n 1, 1) := by decide +kernel
theorem dX8_pass_28 : decode cX8_pass 28 = .ok (.if_icmp .ge 44, 3) := by decide +kernel
theorem dX8_pass_31 : decode cX8_pass 31 = .ok (.aload_n 0, 1) := by decide +kernel
theorem dX8_pass_32 : decode cX8_pass 32 = .ok (.dup, 1) := by decide +kernel
theorem dX8_pass_33 : decode cX8_pass 33 = .ok (.getfield 131, 3) := by decide +kernel
theorem dX8_pass_36 : decode cX8_pass 36 = .ok (.iconst 1, 1) := by decide +kernel
theorem dX8_pass_37 : decode cX8_pass 37 = .ok (.iadd, 1) := by decide +kernel
theorem dX8_pass_38 : decode cX8_pass 38 = .ok (.putfield 131, 3) := by decide +kernel
theorem dX8_pass_41 : decode cX8_pass 41 = .ok (.iconst 0, 1) := by decide +kernel
theorem dX8_pass_42 : decode cX8_pass 42 = .ok (.istore_n 3, 1) := by decide +kernel
theorem dX8_pass_43 : decode cX8_pass 43 = .ok (.iload_n 3, 1) := by decide +kernel
theorem dX8_pass_44 : decode cX8_pass 44 = .ok (.aload_n 0, 1) := by decide +kernel
theorem dX8_pass_45 : decode cX8_pass 45 = .ok (.getfield 91, 3) := by decide +kernel
theorem dX8_pass_48 : decode cX8_pass 48 = .ok (.if_icmp .ge 14, 3) := by decide +kernel
theorem dX8_pass_51 : decode cX8_pass 51 = .ok (.aload_n 0, 1) := by decide +kernel
theorem dX8_pass_52 : decode cX8_pass 52 = .ok (.iload_n 3, 1) := by decide +kernel
theorem dX8_pass_53 : decode cX8_pass 53 = .ok (.invokevirtual 150, 3) := by decide +kernel
theorem dX8_pass_56 : decode cX8_pass 56 = .ok (.iinc 3 1, 3) := by decide +kernel
theorem dX8_pass_59 : decode cX8_pass 59 = .ok (.goto (-16), 3) := by decide +kernel
theorem dX8_pass_62 : decode cX8_pass 62 = .ok (.aload_n 0, 1) := by decide +kernel
theorem dX8_pass_63 : decode cX8_pass 63 = .ok (.invokevirtual 156, 3) := by decide +kernel
theorem dX8_pass_66 : decode cX8_pass 66 = .ok (.iinc 2 1, 3) := by decide +kernel
theorem dX8_pass_69 : decode cX8_pass 69 = .ok (.goto (-43), 3) := by decide +kernel
theorem dX8_pass_72 : decode cX8_pass 72 = .ok (.aload_n 0, 1) := by decide +kernel
theorem dX8_pass_73 : decode cX8_pass 73 = .ok (.getfield 131, 3) := by decide +kernel
theorem dX8_pass_76 : decode cX8_pass 76 = .ok (.ireturn, 1) := by decide +kernel
theorem dX8_rising_0 : decode cX8_rising 0 = .ok (.aload_n 0, 1) := by decide +kernel
theorem dX8_rising_1 : decode cX8_rising 1 = .ok (.getfield 39, 3) := by decide +kernel
theorem dX8_rising_4 : decode cX8_rising 4 = .ok (.iload_n 1, 1) := by decide +kernel
theorem dX8_rising_5 : decode cX8_rising 5 = .ok (.iaload, 1) := by decide +kernel
theorem dX8_rising_6 : decode cX8_rising 6 = .ok (.ifCond .ne 5, 3) := by decide +kernel
theorem dX8_rising_9 : decode cX8_rising 9 = .ok (.fconst 1, 1) := by decide +kernel
theorem dX8_rising_10 : decode cX8_rising 10 = .ok (.freturn, 1) := by decide +kernel
theorem dX8_rising_11 : decode cX8_rising 11 = .ok (.iload_n 2, 1) := by decide +kernel
theorem dX8_rising_12 : decode cX8_rising 12 = .ok (.aload_n 0, 1) := by decide +kernel
theorem dX8_rising_13 : decode cX8_rising 13 = .ok (.getfield 57, 3) := by decide +kernel
theorem dX8_rising_16 : decode cX8_rising 16 = .ok (.iload_n 1, 1) := by decide +kernel
theorem dX8_rising_17 : decode cX8_rising 17 = .ok (.iaload, 1) := by decide +kernel
theorem dX8_rising_18 : decode cX8_rising 18 = .ok (.isub, 1) := by decide +kernel
theorem dX8_rising_19 : decode cX8_rising 19 = .ok (.i2f, 1) := by decide +kernel
theorem dX8_rising_20 : decode cX8_rising 20 = .ok (.aload_n 0, 1) := by decide +kernel
theorem dX8_rising_21 : decode cX8_rising 21 = .ok (.getfield 39, 3) := by decide +kernel
theorem dX8_rising_24 : decode cX8_rising 24 = .ok (.iload_n 1, 1) := by decide +kernel
theorem dX8_rising_25 : decode cX8_rising 25 = .ok (.iaload, 1) := by decide +kernel
theorem dX8_rising_26 : decode cX8_rising 26 = .ok (.i2f, 1) := by decide +kernel
theorem dX8_rising_27 : decode cX8_rising 27 = .ok (.fdiv, 1) := by decide +kernel
theorem dX8_rising_28 : decode cX8_rising 28 = .ok (.fstore_n 3, 1) := by decide +kernel
theorem dX8_rising_29 : decode cX8_rising 29 = .ok (.fload_n 3, 1) := by decide +kernel
theorem dX8_rising_30 : decode cX8_rising 30 = .ok (.fconst 1, 1) := by decide +kernel
theorem dX8_rising_31 : decode cX8_rising 31 = .ok (.fcmp .l, 1) := by decide +kernel
theorem dX8_rising_32 : decode cX8_rising 32 = .ok (.ifCond .le 7, 3) := by decide +kernel
theorem dX8_rising_35 : decode cX8_rising 35 = .ok (.fconst 1, 1) := by decide +kernel
theorem dX8_rising_36 : decode cX8_rising 36 = .ok (.goto 4, 3) := by decide +kernel
theorem dX8_rising_39 : decode cX8_rising 39 = .ok (.fload_n 3, 1) := by decide +kernel
theorem dX8_rising_40 : decode cX8_rising 40 = .ok (.freturn, 1) := by decide +kernel
theorem dX8_master_0 : decode cX8_master 0 = .ok (.aload_n 0, 1) := by decide +kernel
theorem dX8_master_1 : decode cX8_master 1 = .ok (.getfield 63, 3) := by decide +kernel
theorem dX8_master_4 : decode cX8_master 4 = .ok (.iload_n 1, 1) := by decide +kernel
theorem dX8_master_5 : decode cX8_master 5 = .ok (.iaload, 1) := by decide +kernel
theorem dX8_master_6 : decode cX8_master 6 = .ok (.iconst (-1), 1) := by decide +kernel
theorem dX8_master_7 : decode cX8_master 7 = .ok (.if_icmp .ne 13, 3) := by decide +kernel
theorem dX8_master_10 : decode cX8_master 10 = .ok (.aload_n 0, 1) := by decide +kernel
theorem dX8_master_11 : decode cX8_master 11 = .ok (.iload_n 1, 1) := by decide +kernel
theorem dX8_master_12 : decode cX8_master 12 = .ok (.aload_n 0, 1) := by decide +kernel
theorem dX8_master_13 : decode cX8_master 13 = .ok (.getfield 131, 3) := by decide +kernel
theorem dX8_master_16 : decode cX8_master 16 = .ok (.invokevirtual 159, 3) := by decide +kernel
theorem dX8_master_19 : decode cX8_master 19 = .ok (.freturn, 1) := by decide +kernel
theorem dX8_master_20 : decode cX8_master 20 = .ok (.aload_n 0, 1) := by decide +kernel
theorem dX8_master_21 : decode cX8_master 21 = .ok (.iload_n 1, 1) := by decide +kernel
theorem dX8_master_22 : decode cX8_master 22 = .ok (.aload_n 0, 1) := by decide +kernel
theorem dX8_master_23 : decode cX8_master 23 = .ok (.getfield 63, 3) := by decide +kernel
theorem dX8_master_26 : decode cX8_master 26 = .ok (.iload_n 1, 1) := by decide +kernel
theorem dX8_master_27 : decode cX8_master 27 = .ok (.iaload, 1) := by decide +kernel
theorem dX8_master_28 : decode cX8_master 28 = .ok (.invokevirtual 159, 3) := by decide +kernel
theorem dX8_master_31 : decode cX8_master 31 = .ok (.fconst 1, 1) := by decide +kernel
theorem dX8_master_32 : decode cX8_master 32 = .ok (.aload_n 0, 1) := by decide +kernel
theorem dX8_master_33 : decode cX8_master 33 = .ok (.getfield 131, 3) := by decide +kernel
theorem dX8_master_36 : decode cX8_master 36 = .ok (.aload_n 0, 1) := by decide +kernel
theorem dX8_master_37 : decode cX8_master 37 = .ok (.getfield 63, 3) := by decide +kernel
theorem dX8_master_40 : decode cX8_master 40 = .ok (.iload_n 1, 1) := by decide +kernel
theorem dX8_master_41 : decode cX8_master 41 = .ok (.iaload, 1) := by decide +kernel
theorem dX8_master_42 : decode cX8_master 42 = .ok (.isub, 1) := by decide +kernel
theorem dX8_master_43 : decode cX8_master 43 = .ok (.i2f, 1) := by decide +kernel
theorem dX8_master_44 : decode cX8_master 44 = .ok (.aload_n 0, 1) := by decide +kernel
theorem dX8_master_45 : decode cX8_master 45 = .ok (.getfield 42, 3) := by decide +kernel
theorem dX8_master_48 : decode cX8_master 48 = .ok (.iload_n 1, 1) := by decide +kernel
theorem dX8_master_49 : decode cX8_master 49 = .ok (.iaload, 1) := by decide +kernel
theorem dX8_master_50 : decode cX8_master 50 = .ok (.i2f, 1) := by decide +kernel
theorem dX8_master_51 : decode cX8_master 51 = .ok (.fdiv, 1) := by decide +kernel
theorem dX8_master_52 : decode cX8_master 52 = .ok (.fsub, 1) := by decide +kernel
theorem dX8_master_53 : decode cX8_master 53 = .ok (.fmul, 1) := by decide +kernel
theorem dX8_master_54 : decode cX8_master 54 = .ok (.freturn, 1) := by decide +kernel
theorem dX8_after_0 : decode cX8_after 0 = .ok (.iconst (-1), 1) := by decide +kernel
theorem dX8_after_1 : decode cX8_after 1 = .ok (.istore_n 2, 1) := by decide +kernel
theorem dX8_after_2 : decode cX8_after 2 = .ok (.iconst 0, 1) := by decide +kernel
theorem dX8_after_3 : decode cX8_after 3 = .ok (.istore_n 3, 1) := by decide +kernel
theorem dX8_after_4 : decode cX8_after 4 = .ok (.iload_n 3, 1) := by decide +kernel
theorem dX8_after_5 : decode cX8_after 5 = .ok (.aload_n 0, 1) := by decide +kernel
theorem dX8_after_6 : decode cX8_after 6 = .ok (.getfield 91, 3) := by decide +kernel
theorem dX8_after_9 : decode cX8_after 9 = .ok (.if_icmp .ge 54, 3) := by decide +kernel
theorem dX8_after_12 : decode cX8_after 12 = .ok (.aload_n 0, 1) := by decide +kernel
theorem dX8_after_13 : decode cX8_after 13 = .ok (.getfield 54, 3) := by decide +kernel
theorem dX8_after_16 : decode cX8_after 16 = .ok (.iload_n 3, 1) := by decide +kernel
theorem dX8_after_17 : decode cX8_after 17 = .ok (.baload, 1) := by decide +kernel
theorem dX8_after_18 : decode cX8_after 18 = .ok (.ifCond .eq 37, 3) := by decide +kernel
theorem dX8_after_21 : decode cX8_after 21 = .ok (.aload_n 0, 1) := by decide +kernel
theorem dX8_after_22 : decode cX8_after 22 = .ok (.getfield 60, 3) := by decide +kernel
theorem dX8_after_25 : decode cX8_after 25 = .ok (.iload_n 3, 1) := by decide +kernel
theorem dX8_after_26 : decode cX8_after 26 = .ok (.iaload, 1) := by decide +kernel
theorem dX8_after_27 : decode cX8_after 27 = .ok (.iload_n 1, 1) := by decide +kernel
theorem dX8_after_28 : decode cX8_after 28 = .ok (.if_icmp .le 27, 3) := by decide +kernel
theorem dX8_after_31 : decode cX8_after 31 = .ok (.iload_n 2, 1) := by decide +kernel
theorem dX8_after_32 : decode cX8_after 32 = .ok (.iconst (-1), 1) := by decide +kernel
theorem dX8_after_33 : decode cX8_after 33 = .ok (.if_icmp .eq 18, 3) := by decide +kernel
theorem dX8_after_36 : decode cX8_after 36 = .ok (.aload_n 0, 1) := by decide +kernel
theorem dX8_after_37 : decode cX8_after 37 = .ok (.getfield 60, 3) := by decide +kernel
theorem dX8_after_40 : decode cX8_after 40 = .ok (.iload_n 3, 1) := by decide +kernel
theorem dX8_after_41 : decode cX8_after 41 = .ok (.iaload, 1) := by decide +kernel
theorem dX8_after_42 : decode cX8_after 42 = .ok (.aload_n 0, 1) := by decide +kernel
theorem dX8_after_43 : decode cX8_after 43 = .ok (.getfield 60, 3) := by decide +kernel
theorem dX8_after_46 : decode cX8_after 46 = .ok (.iload_n 2, 1) := by decide +kernel
theorem dX8_after_47 : decode cX8_after 47 = .ok (.iaload, 1) := by decide +kernel
theorem dX8_after_48 : decode cX8_after 48 = .ok (.if_icmp .ge 7, 3) := by decide +kernel
theorem dX8_after_51 : decode cX8_after 51 = .ok (.iload_n 3, 1) := by decide +kernel
theorem dX8_after_52 : decode cX8_after 52 = .ok (.goto 4, 3) := by decide +kernel
theorem dX8_after_55 : decode cX8_after 55 = .ok (.iload_n 2, 1) := by decide +kernel
theorem dX8_after_56 : decode cX8_after 56 = .ok (.istore_n 2, 1) := by decide +kernel
theorem dX8_after_57 : decode cX8_after 57 = .ok (.iinc 3 1, 3) := by decide +kernel
theorem dX8_after_60 : decode cX8_after 60 = .ok (.goto (-56), 3) := by decide +kernel
theorem dX8_after_63 : decode cX8_after 63 = .ok (.iload_n 2, 1) := by decide +kernel
theorem dX8_after_64 : decode cX8_after 64 = .ok (.ireturn, 1) := by decide +kernel
theorem dX8_levelNow_0 : decode cX8_levelNow 0 = .ok (.fconst 0, 1) := by decide +kernel
theorem dX8_levelNow_1 : decode cX8_levelNow 1 = .ok (.fstore_n 2, 1) := by decide +kernel
theorem dX8_levelNow_2 : decode cX8_levelNow 2 = .ok (.iconst 0, 1) := by decide +kernel
theorem dX8_levelNow_3 : decode cX8_levelNow 3 = .ok (.istore_n 3, 1) := by decide +kernel
theorem dX8_levelNow_4 : decode cX8_levelNow 4 = .ok (.iload_n 3, 1) := by decide +kernel
theorem dX8_levelNow_5 : decode cX8_levelNow 5 = .ok (.iconst 1, 1) := by decide +kernel
theorem dX8_levelNow_6 : decode cX8_levelNow 6 = .ok (.if_icmp .gt 124, 3) := by decide +kernel
theorem dX8_levelNow_9 : decode cX8_levelNow 9 = .ok (.aload_n 0, 1) := by decide +kernel
theorem dX8_levelNow_10 : decode cX8_levelNow 10 = .ok (.iconst (-1), 1) := by decide +kernel
theorem dX8_levelNow_11 : decode cX8_levelNow 11 = .ok (.invokevirtual 163, 3) := by decide +kernel
theorem dX8_levelNow_14 : decode cX8_levelNow 14 = .ok (.istore 4, 2) := by decide +kernel
theorem dX8_levelNow_16 : decode cX8_levelNow 16 = .ok (.iload 4, 2) := by decide +kernel
theorem dX8_levelNow_18 : decode cX8_levelNow 18 = .ok (.iconst (-1), 1) := by decide +kernel
theorem dX8_levelNow_19 : decode cX8_levelNow 19 = .ok (.if_icmp .eq 105, 3) := by decide +kernel
theorem dX8_levelNow_22 : decode cX8_levelNow 22 = .ok (.aload_n 0, 1) := by decide +kernel
theorem dX8_levelNow_23 : decode cX8_levelNow 23 = .ok (.iload 4, 2) := by decide +kernel
theorem dX8_levelNow_25 : decode cX8_levelNow 25 = .ok (.invokevirtual 121, 3) := by decide +kernel
theorem dX8_levelNow_28 : decode cX8_levelNow 28 = .ok (.aload_n 0, 1) := by decide +kernel
theorem dX8_levelNow_29 : decode cX8_levelNow 29 = .ok (.getfield 36, 3) := by decide +kernel
theorem dX8_levelNow_32 : decode cX8_levelNow 32 = .ok (.iload 4, 2) := by decide +kernel
theorem dX8_levelNow_34 : decode cX8_levelNow 34 = .ok (.iaload, 1) := by decide +kernel
theorem dX8_levelNow_35 : decode cX8_levelNow 35 = .ok (.iload_n 3, 1) := by decide +kernel
theorem dX8_levelNow_36 : decode cX8_levelNow 36 = .ok (.if_icmp .ne 12, 3) := by decide +kernel
theorem dX8_levelNow_39 : decode cX8_levelNow 39 = .ok (.aload_n 0, 1) := by decide +kernel
theorem dX8_levelNow_40 : decode cX8_levelNow 40 = .ok (.getfield 72, 3) := by decide +kernel
theorem dX8_levelNow_43 : decode cX8_levelNow 43 = .ok (.iload_n 1, 1) := by decide +kernel
theorem dX8_levelNow_44 : decode cX8_levelNow 44 = .ok (.iaload, 1) := by decide +kernel
theorem dX8_levelNow_45 : decode cX8_levelNow 45 = .ok (.goto 4, 3) := by decide +kernel
theorem dX8_levelNow_48 : decode cX8_levelNow 48 = .ok (.iconst 0, 1) := by decide +kernel
theorem dX8_levelNow_49 : decode cX8_levelNow 49 = .ok (.istore 5, 2) := by decide +kernel
theorem dX8_levelNow_51 : decode cX8_levelNow 51 = .ok (.iload 5, 2) := by decide +kernel
theorem dX8_levelNow_53 : decode cX8_levelNow 53 = .ok (.ifCond .le 55, 3) := by decide +kernel
theorem dX8_levelNow_56 : decode cX8_levelNow 56 = .ok (.iload_n 3, 1) := by decide +kernel
theorem dX8_levelNow_57 : decode cX8_levelNow 57 = .ok (.ifCond .ne 16, 3) := by decide +kernel
theorem dX8_levelNow_60 : decode cX8_levelNow 60 = .ok (.aload_n 0, 1) := by decide +kernel
theorem dX8_levelNow_61 : decode cX8_levelNow 61 = .ok (.iload 4, 2) := by decide +kernel
theorem dX8_levelNow_63 : decode cX8_levelNow 63 = .ok (.invokevirtual 166, 3) := by decide +kernel
theorem dX8_levelNow_66 : decode cX8_levelNow 66 = .ok (.iload 5, 2) := by decide +kernel
theorem dX8_levelNow_68 : decode cX8_levelNow 68 = .ok (.i2f, 1) := by decide +kernel
theorem dX8_levelNow_69 : decode cX8_levelNow 69 = .ok (.fmul, 1) := by decide +kernel
theorem dX8_levelNow_70 : decode cX8_levelNow 70 = .ok (.goto 17, 3) := by decide +kernel
theorem dX8_levelNow_73 : decode cX8_levelNow 73 = .ok (.fload_n 2, 1) := by decide +kernel
theorem dX8_levelNow_74 : decode cX8_levelNow 74 = .ok (.aload_n 0, 1) := by decide +kernel
theorem dX8_levelNow_75 : decode cX8_levelNow 75 = .ok (.iload 4, 2) := by decide +kernel
theorem dX8_levelNow_77 : decode cX8_levelNow 77 = .ok (.invokevirtual 166, 3) := by decide +kernel
theorem dX8_levelNow_80 : decode cX8_levelNow 80 = .ok (.iload 5, 2) := by decide +kernel
theorem dX8_levelNow_82 : decode cX8_levelNow 82 = .ok (.i2f, 1) := by decide +kernel
theorem dX8_levelNow_83 : decode cX8_levelNow 83 = .ok (.fload_n 2, 1) := by decide +kernel
theorem dX8_levelNow_84 : decode cX8_levelNow 84 = .ok (.fsub, 1) := by decide +kernel
theorem dX8_levelNow_85 : decode cX8_levelNow 85 = .ok (.fmul, 1) := by decide +kernel
theorem dX8_levelNow_86 : decode cX8_levelNow 86 = .ok (.fadd, 1) := by decide +kernel
theorem dX8_levelNow_87 : decode cX8_levelNow 87 = .ok (.fstore 6, 2) := by decide +kernel
theorem dX8_levelNow_89 : decode cX8_levelNow 89 = .ok (.iload_n 3, 1) := by decide +kernel
theorem dX8_levelNow_90 : decode cX8_levelNow 90 = .ok (.iconst 1, 1) := by decide +kernel
theorem dX8_levelNow_91 : decode cX8_levelNow 91 = .ok (.if_icmp .eq 10, 3) := by decide +kernel
theorem dX8_levelNow_94 : decode cX8_levelNow 94 = .ok (.fload 6, 2) := by decide +kernel
theorem dX8_levelNow_96 : decode cX8_levelNow 96 = .ok (.fload_n 2, 1) := by decide +kernel
theorem dX8_levelNow_97 : decode cX8_levelNow 97 = .ok (.fcmp .l, 1) := by decide +kernel
theorem dX8_levelNow_98 : decode cX8_levelNow 98 = .ok (.ifCond .le 8, 3) := by decide +kernel
theorem dX8_levelNow_101 : decode cX8_levelNow 101 = .ok (.fload 6, 2) := by decide +kernel
theorem dX8_levelNow_103 : decode cX8_levelNow 103 = .ok (.goto 4, 3) := by decide +kernel
theorem dX8_levelNow_106 : decode cX8_levelNow 106 = .ok (.fload_n 2, 1) := by decide +kernel
theorem dX8_levelNow_107 : decode cX8_levelNow 107 = .ok (.fstore_n 2, 1) := by decide +kernel
theorem dX8_levelNow_108 : decode cX8_levelNow 108 = .ok (.aload_n 0, 1) := by decide +kernel
theorem dX8_levelNow_109 : decode cX8_levelNow 109 = .ok (.aload_n 0, 1) := by decide +kernel
theorem dX8_levelNow_110 : decode cX8_levelNow 110 = .ok (.getfield 60, 3) := by decide +kernel
theorem dX8_levelNow_113 : decode cX8_levelNow 113 = .ok (.iload 4, 2) := by decide +kernel
theorem dX8_levelNow_115 : decode cX8_levelNow 115 = .ok (.iaload, 1) := by decide +kernel
theorem dX8_levelNow_116 : decode cX8_levelNow 116 = .ok (.invokevirtual 163, 3) := by decide +kernel
theorem dX8_levelNow_119 : decode cX8_levelNow 119 = .ok (.istore 4, 2) := by decide +kernel
theorem dX8_levelNow_121 : decode cX8_levelNow 121 = .ok (.goto (-105), 3) := by decide +kernel
theorem dX8_levelNow_124 : decode cX8_levelNow 124 = .ok (.iinc 3 1, 3) := by decide +kernel
theorem dX8_levelNow_127 : decode cX8_levelNow 127 = .ok (.goto (-123), 3) := by decide +kernel
theorem dX8_levelNow_130 : decode cX8_levelNow 130 = .ok (.fload_n 2, 1) := by decide +kernel
theorem dX8_levelNow_131 : decode cX8_levelNow 131 = .ok (.freturn, 1) := by decide +kernel
theorem dX8_load_0 : decode cX8_load 0 = .ok (.fconst 0, 1) := by decide +kernel
theorem dX8_load_1 : decode cX8_load 1 = .ok (.fstore_n 2, 1) := by decide +kernel
theorem dX8_load_2 : decode cX8_load 2 = .ok (.iconst 0, 1) := by decide +kernel
theorem dX8_load_3 : decode cX8_load 3 = .ok (.istore_n 3, 1) := by decide +kernel
theorem dX8_load_4 : decode cX8_load 4 = .ok (.iload_n 3, 1) := by decide +kernel
theorem dX8_load_5 : decode cX8_load 5 = .ok (.aload_n 0, 1) := by decide +kernel
theorem dX8_load_6 : decode cX8_load 6 = .ok (.getfield 84, 3) := by decide +kernel
theorem dX8_load_9 : decode cX8_load 9 = .ok (.if_icmp .ge 38, 3) := by decide +kernel
theorem dX8_load_12 : decode cX8_load 12 = .ok (.aload_n 0, 1) := by decide +kernel
theorem dX8_load_13 : decode cX8_load 13 = .ok (.getfield 22, 3) := by decide +kernel
theorem dX8_load_16 : decode cX8_load 16 = .ok (.iload_n 3, 1) := by decide +kernel
theorem dX8_load_17 : decode cX8_load 17 = .ok (.iaload, 1) := by decide +kernel
theorem dX8_load_18 : decode cX8_load 18 = .ok (.iload_n 1, 1) := by decide +kernel
theorem dX8_load_19 : decode cX8_load 19 = .ok (.if_icmp .ne 22, 3) := by decide +kernel
theorem dX8_load_22 : decode cX8_load 22 = .ok (.fload_n 2, 1) := by decide +kernel
theorem dX8_load_23 : decode cX8_load 23 = .ok (.aload_n 0, 1) := by decide +kernel
theorem dX8_load_24 : decode cX8_load 24 = .ok (.getfield 19, 3) := by decide +kernel
theorem dX8_load_27 : decode cX8_load 27 = .ok (.iload_n 3, 1) := by decide +kernel
theorem dX8_load_28 : decode cX8_load 28 = .ok (.iaload, 1) := by decide +kernel
theorem dX8_load_29 : decode cX8_load 29 = .ok (.i2f, 1) := by decide +kernel
theorem dX8_load_30 : decode cX8_load 30 = .ok (.aload_n 0, 1) := by decide +kernel
theorem dX8_load_31 : decode cX8_load 31 = .ok (.iload_n 3, 1) := by decide +kernel
theorem dX8_load_32 : decode cX8_load 32 = .ok (.invokevirtual 170, 3) := by decide +kernel
theorem dX8_load_35 : decode cX8_load 35 = .ok (.fmul, 1) := by decide +kernel
theorem dX8_load_36 : decode cX8_load 36 = .ok (.ldc 173, 2) := by decide +kernel
theorem dX8_load_38 : decode cX8_load 38 = .ok (.fdiv, 1) := by decide +kernel
theorem dX8_load_39 : decode cX8_load 39 = .ok (.fadd, 1) := by decide +kernel
theorem dX8_load_40 : decode cX8_load 40 = .ok (.fstore_n 2, 1) := by decide +kernel
theorem dX8_load_41 : decode cX8_load 41 = .ok (.iinc 3 1, 3) := by decide +kernel
theorem dX8_load_44 : decode cX8_load 44 = .ok (.goto (-40), 3) := by decide +kernel
theorem dX8_load_47 : decode cX8_load 47 = .ok (.fload_n 2, 1) := by decide +kernel
theorem dX8_load_48 : decode cX8_load 48 = .ok (.freturn, 1) := by decide +kernel
theorem dX8_bitsOf_0 : decode cX8_bitsOf 0 = .ok (.fload_n 0, 1) := by decide +kernel
theorem dX8_bitsOf_1 : decode cX8_bitsOf 1 = .ok (.fconst 0, 1) := by decide +kernel
theorem dX8_bitsOf_2 : decode cX8_bitsOf 2 = .ok (.fcmp .l, 1) := by decide +kernel
theorem dX8_bitsOf_3 : decode cX8_bitsOf 3 = .ok (.ifCond .ne 5, 3) := by decide +kernel
theorem dX8_bitsOf_6 : decode cX8_bitsOf 6 = .ok (.iconst 0, 1) := by decide +kernel
theorem dX8_bitsOf_7 : decode cX8_bitsOf 7 = .ok (.ireturn, 1) := by decide +kernel
theorem dX8_bitsOf_8 : decode cX8_bitsOf 8 = .ok (.bipush 127, 2) := by decide +kernel
theorem dX8_bitsOf_10 : decode cX8_bitsOf 10 = .ok (.istore_n 1, 1) := by decide +kernel
theorem dX8_bitsOf_11 : decode cX8_bitsOf 11 = .ok (.fload_n 0, 1) := by decide +kernel
theorem dX8_bitsOf_12 : decode cX8_bitsOf 12 = .ok (.fstore_n 2, 1) := by decide +kernel
theorem dX8_bitsOf_13 : decode cX8_bitsOf 13 = .ok (.fload_n 2, 1) := by decide +kernel
theorem dX8_bitsOf_14 : decode cX8_bitsOf 14 = .ok (.fconst 1, 1) := by decide +kernel
theorem dX8_bitsOf_15 : decode cX8_bitsOf 15 = .ok (.fcmp .g, 1) := by decide +kernel
theorem dX8_bitsOf_16 : decode cX8_bitsOf 16 = .ok (.ifCond .ge 13, 3) := by decide +kernel
theorem dX8_bitsOf_19 : decode cX8_bitsOf 19 = .ok (.fload_n 2, 1) := by decide +kernel
theorem dX8_bitsOf_20 : decode cX8_bitsOf 20 = .ok (.fconst 2, 1) := by decide +kernel
theorem dX8_bitsOf_21 : decode cX8_bitsOf 21 = .ok (.fmul, 1) := by decide +kernel
theorem dX8_bitsOf_22 : decode cX8_bitsOf 22 = .ok (.fstore_n 2, 1) := by decide +kernel
theorem dX8_bitsOf_23 : decode cX8_bitsOf 23 = .ok (.iinc 1 (-1), 3) := by decide +kernel
theorem dX8_bitsOf_26 : decode cX8_bitsOf 26 = .ok (.goto (-13), 3) := by decide +kernel
theorem dX8_bitsOf_29 : decode cX8_bitsOf 29 = .ok (.fload_n 2, 1) := by decide +kernel
theorem dX8_bitsOf_30 : decode cX8_bitsOf 30 = .ok (.fconst 2, 1) := by decide +kernel
theorem dX8_bitsOf_31 : decode cX8_bitsOf 31 = .ok (.fcmp .l, 1) := by decide +kernel
theorem dX8_bitsOf_32 : decode cX8_bitsOf 32 = .ok (.ifCond .lt 13, 3) := by decide +kernel
theorem dX8_bitsOf_35 : decode cX8_bitsOf 35 = .ok (.fload_n 2, 1) := by decide +kernel
theorem dX8_bitsOf_36 : decode cX8_bitsOf 36 = .ok (.fconst 2, 1) := by decide +kernel
theorem dX8_bitsOf_37 : decode cX8_bitsOf 37 = .ok (.fdiv, 1) := by decide +kernel
theorem dX8_bitsOf_38 : decode cX8_bitsOf 38 = .ok (.fstore_n 2, 1) := by decide +kernel
theorem dX8_bitsOf_39 : decode cX8_bitsOf 39 = .ok (.iinc 1 1, 3) := by decide +kernel
theorem dX8_bitsOf_42 : decode cX8_bitsOf 42 = .ok (.goto (-13), 3) := by decide +kernel
theorem dX8_bitsOf_45 : decode cX8_bitsOf 45 = .ok (.iload_n 1, 1) := by decide +kernel
theorem dX8_bitsOf_46 : decode cX8_bitsOf 46 = .ok (.ldc 174, 2) := by decide +kernel
theorem dX8_bitsOf_48 : decode cX8_bitsOf 48 = .ok (.imul, 1) := by decide +kernel
theorem dX8_bitsOf_49 : decode cX8_bitsOf 49 = .ok (.fload_n 2, 1) := by decide +kernel
theorem dX8_bitsOf_50 : decode cX8_bitsOf 50 = .ok (.fconst 1, 1) := by decide +kernel
theorem dX8_bitsOf_51 : decode cX8_bitsOf 51 = .ok (.fsub, 1) := by decide +kernel
theorem dX8_bitsOf_52 : decode cX8_bitsOf 52 = .ok (.ldc 175, 2) := by decide +kernel
theorem dX8_bitsOf_54 : decode cX8_bitsOf 54 = .ok (.fmul, 1) := by decide +kernel
theorem dX8_bitsOf_55 : decode cX8_bitsOf 55 = .ok (.f2i, 1) := by decide +kernel
theorem dX8_bitsOf_56 : decode cX8_bitsOf 56 = .ok (.iadd, 1) := by decide +kernel
theorem dX8_bitsOf_57 : decode cX8_bitsOf 57 = .ok (.ireturn, 1) := by decide +kernel
theorem dX8_levelOf_0 : decode cX8_levelOf 0 = .ok (.aload_n 0, 1) := by decide +kernel
theorem dX8_levelOf_1 : decode cX8_levelOf 1 = .ok (.aload_n 0, 1) := by decide +kernel
theorem dX8_levelOf_2 : decode cX8_levelOf 2 = .ok (.iload_n 1, 1) := by decide +kernel
theorem dX8_levelOf_3 : decode cX8_levelOf 3 = .ok (.invokevirtual 101, 3) := by decide +kernel
theorem dX8_levelOf_6 : decode cX8_levelOf 6 = .ok (.ifCond .eq 7, 3) := by decide +kernel
theorem dX8_levelOf_9 : decode cX8_levelOf 9 = .ok (.iconst 0, 1) := by decide +kernel
theorem dX8_levelOf_10 : decode cX8_levelOf 10 = .ok (.goto 4, 3) := by decide +kernel
theorem dX8_levelOf_13 : decode cX8_levelOf 13 = .ok (.iconst 1, 1) := by decide +kernel
theorem dX8_levelOf_14 : decode cX8_levelOf 14 = .ok (.invokevirtual 98, 3) := by decide +kernel
theorem dX8_levelOf_17 : decode cX8_levelOf 17 = .ok (.ifCond .eq 14, 3) := by decide +kernel
theorem dX8_levelOf_20 : decode cX8_levelOf 20 = .ok (.aload_n 0, 1) := by decide +kernel
theorem dX8_levelOf_21 : decode cX8_levelOf 21 = .ok (.iload_n 1, 1) := by decide +kernel
theorem dX8_levelOf_22 : decode cX8_levelOf 22 = .ok (.invokevirtual 170, 3) := by decide +kernel
theorem dX8_levelOf_25 : decode cX8_levelOf 25 = .ok (.invokestatic 176, 3) := by decide +kernel
theorem dX8_levelOf_28 : decode cX8_levelOf 28 = .ok (.goto 4, 3) := by decide +kernel
theorem dX8_levelOf_31 : decode cX8_levelOf 31 = .ok (.iconst 0, 1) := by decide +kernel
theorem dX8_levelOf_32 : decode cX8_levelOf 32 = .ok (.ireturn, 1) := by decide +kernel
theorem dX8_levelAnew_0 : decode cX8_levelAnew 0 = .ok (.aload_n 0, 1) := by decide +kernel
theorem dX8_levelAnew_1 : decode cX8_levelAnew 1 = .ok (.aload_n 0, 1) := by decide +kernel
theorem dX8_levelAnew_2 : decode cX8_levelAnew 2 = .ok (.iload_n 1, 1) := by decide +kernel
theorem dX8_levelAnew_3 : decode cX8_levelAnew 3 = .ok (.invokevirtual 101, 3) := by decide +kernel
theorem dX8_levelAnew_6 : decode cX8_levelAnew 6 = .ok (.ifCond .eq 7, 3) := by decide +kernel
theorem dX8_levelAnew_9 : decode cX8_levelAnew 9 = .ok (.iconst 0, 1) := by decide +kernel
theorem dX8_levelAnew_10 : decode cX8_levelAnew 10 = .ok (.goto 4, 3) := by decide +kernel
theorem dX8_levelAnew_13 : decode cX8_levelAnew 13 = .ok (.iconst 1, 1) := by decide +kernel
theorem dX8_levelAnew_14 : decode cX8_levelAnew 14 = .ok (.invokevirtual 98, 3) := by decide +kernel
theorem dX8_levelAnew_17 : decode cX8_levelAnew 17 = .ok (.ifCond .eq 14, 3) := by decide +kernel
theorem dX8_levelAnew_20 : decode cX8_levelAnew 20 = .ok (.aload_n 0, 1) := by decide +kernel
theorem dX8_levelAnew_21 : decode cX8_levelAnew 21 = .ok (.iload_n 1, 1) := by decide +kernel
theorem dX8_levelAnew_22 : decode cX8_levelAnew 22 = .ok (.invokevirtual 170, 3) := by decide +kernel
theorem dX8_levelAnew_25 : decode cX8_levelAnew 25 = .ok (.invokestatic 176, 3) := by decide +kernel
theorem dX8_levelAnew_28 : decode cX8_levelAnew 28 = .ok (.goto 4, 3) := by decide +kernel
theorem dX8_levelAnew_31 : decode cX8_levelAnew 31 = .ok (.iconst 0, 1) := by decide +kernel
theorem dX8_levelAnew_32 : decode cX8_levelAnew 32 = .ok (.ireturn, 1) := by decide +kernel
theorem dX8_loadOf_0 : decode cX8_loadOf 0 = .ok (.aload_n 0, 1) := by decide +kernel
theorem dX8_loadOf_1 : decode cX8_loadOf 1 = .ok (.iload_n 1, 1) := by decide +kernel
theorem dX8_loadOf_2 : decode cX8_loadOf 2 = .ok (.invokestatic 94, 3) := by decide +kernel
theorem dX8_loadOf_5 : decode cX8_loadOf 5 = .ok (.ifCond .eq 7, 3) := by decide +kernel
theorem dX8_loadOf_8 : decode cX8_loadOf 8 = .ok (.iconst 0, 1) := by decide +kernel
theorem dX8_loadOf_9 : decode cX8_loadOf 9 = .ok (.goto 4, 3) := by decide +kernel
theorem dX8_loadOf_12 : decode cX8_loadOf 12 = .ok (.iconst 1, 1) := by decide +kernel
theorem dX8_loadOf_13 : decode cX8_loadOf 13 = .ok (.invokevirtual 98, 3) := by decide +kernel
theorem dX8_loadOf_16 : decode cX8_loadOf 16 = .ok (.ifCond .eq 14, 3) := by decide +kernel
theorem dX8_loadOf_19 : decode cX8_loadOf 19 = .ok (.aload_n 0, 1) := by decide +kernel
theorem dX8_loadOf_20 : decode cX8_loadOf 20 = .ok (.iload_n 1, 1) := by decide +kernel
theorem dX8_loadOf_21 : decode cX8_loadOf 21 = .ok (.invokevirtual 180, 3) := by decide +kernel
theorem dX8_loadOf_24 : decode cX8_loadOf 24 = .ok (.invokestatic 176, 3) := by decide +kernel
theorem dX8_loadOf_27 : decode cX8_loadOf 27 = .ok (.goto 4, 3) := by decide +kernel
theorem dX8_loadOf_30 : decode cX8_loadOf 30 = .ok (.iconst 0, 1) := by decide +kernel
theorem dX8_loadOf_31 : decode cX8_loadOf 31 = .ok (.ireturn, 1) := by decide +kernel
theorem dX8_watts_0 : decode cX8_watts 0 = .ok (.aload_n 0, 1) := by decide +kernel
theorem dX8_watts_1 : decode cX8_watts 1 = .ok (.iload_n 1, 1) := by decide +kernel
theorem dX8_watts_2 : decode cX8_watts 2 = .ok (.invokestatic 94, 3) := by decide +kernel
theorem dX8_watts_5 : decode cX8_watts 5 = .ok (.ifCond .eq 7, 3) := by decide +kernel
theorem dX8_watts_8 : decode cX8_watts 8 = .ok (.iconst 0, 1) := by decide +kernel
theorem dX8_watts_9 : decode cX8_watts 9 = .ok (.goto 4, 3) := by decide +kernel
theorem dX8_watts_12 : decode cX8_watts 12 = .ok (.iconst 1, 1) := by decide +kernel
theorem dX8_watts_13 : decode cX8_watts 13 = .ok (.invokevirtual 98, 3) := by decide +kernel
theorem dX8_watts_16 : decode cX8_watts 16 = .ok (.ifCond .eq 12, 3) := by decide +kernel
theorem dX8_watts_19 : decode cX8_watts 19 = .ok (.aload_n 0, 1) := by decide +kernel
theorem dX8_watts_20 : decode cX8_watts 20 = .ok (.iload_n 1, 1) := by decide +kernel
theorem dX8_watts_21 : decode cX8_watts 21 = .ok (.invokevirtual 180, 3) := by decide +kernel
theorem dX8_watts_24 : decode cX8_watts 24 = .ok (.f2i, 1) := by decide +kernel
theorem dX8_watts_25 : decode cX8_watts 25 = .ok (.goto 4, 3) := by decide +kernel
theorem dX8_watts_28 : decode cX8_watts 28 = .ok (.iconst 0, 1) := by decide +kernel
theorem dX8_watts_29 : decode cX8_watts 29 = .ok (.ireturn, 1) := by decide +kernel
theorem dX8_asks_0 : decode cX8_asks 0 = .ok (.aload_n 0, 1) := by decide +kernel
theorem dX8_asks_1 : decode cX8_asks 1 = .ok (.aload_n 0, 1) := by decide +kernel
theorem dX8_asks_2 : decode cX8_asks 2 = .ok (.iload_n 1, 1) := by decide +kernel
theorem dX8_asks_3 : decode cX8_asks 3 = .ok (.invokevirtual 107, 3) := by decide +kernel
theorem dX8_asks_6 : decode cX8_asks 6 = .ok (.ifCond .eq 14, 3) := by decide +kernel
theorem dX8_asks_9 : decode cX8_asks 9 = .ok (.iload_n 2, 1) := by decide +kernel
theorem dX8_asks_10 : decode cX8_asks 10 = .ok (.invokestatic 94, 3) := by decide +kernel
theorem dX8_asks_13 : decode cX8_asks 13 = .ok (.ifCond .eq 7, 3) := by decide +kernel
theorem dX8_asks_16 : decode cX8_asks 16 = .ok (.iconst 0, 1) := by decide +kernel
theorem dX8_asks_17 : decode cX8_asks 17 = .ok (.goto 4, 3) := by decide +kernel
theorem dX8_asks_20 : decode cX8_asks 20 = .ok (.iconst 1, 1) := by decide +kernel
theorem dX8_asks_21 : decode cX8_asks 21 = .ok (.invokevirtual 98, 3) := by decide +kernel
theorem dX8_asks_24 : decode cX8_asks 24 = .ok (.ifCond .eq 12, 3) := by decide +kernel
theorem dX8_asks_27 : decode cX8_asks 27 = .ok (.aload_n 0, 1) := by decide +kernel
theorem dX8_asks_28 : decode cX8_asks 28 = .ok (.iload_n 1, 1) := by decide +kernel
theorem dX8_asks_29 : decode cX8_asks 29 = .ok (.iload_n 2, 1) := by decide +kernel
theorem dX8_asks_30 : decode cX8_asks 30 = .ok (.invokevirtual 128, 3) := by decide +kernel
theorem dX8_asks_33 : decode cX8_asks 33 = .ok (.goto 4, 3) := by decide +kernel
theorem dX8_asks_36 : decode cX8_asks 36 = .ok (.iconst 0, 1) := by decide +kernel
theorem dX8_asks_37 : decode cX8_asks 37 = .ok (.ireturn, 1) := by decide +kernel
theorem dX8_shines_0 : decode cX8_shines 0 = .ok (.aload_n 0, 1) := by decide +kernel
theorem dX8_shines_1 : decode cX8_shines 1 = .ok (.aload_n 0, 1) := by decide +kernel
theorem dX8_shines_2 : decode cX8_shines 2 = .ok (.iload_n 1, 1) := by decide +kernel
theorem dX8_shines_3 : decode cX8_shines 3 = .ok (.invokevirtual 107, 3) := by decide +kernel
theorem dX8_shines_6 : decode cX8_shines 6 = .ok (.ifCond .eq 15, 3) := by decide +kernel
theorem dX8_shines_9 : decode cX8_shines 9 = .ok (.aload_n 0, 1) := by decide +kernel
theorem dX8_shines_10 : decode cX8_shines 10 = .ok (.iload_n 2, 1) := by decide +kernel
theorem dX8_shines_11 : decode cX8_shines 11 = .ok (.invokevirtual 101, 3) := by decide +kernel
theorem dX8_shines_14 : decode cX8_shines 14 = .ok (.ifCond .eq 7, 3) := by decide +kernel
theorem dX8_shines_17 : decode cX8_shines 17 = .ok (.iconst 0, 1) := by decide +kernel
theorem dX8_shines_18 : decode cX8_shines 18 = .ok (.goto 4, 3) := by decide +kernel
theorem dX8_shines_21 : decode cX8_shines 21 = .ok (.iconst 1, 1) := by decide +kernel
theorem dX8_shines_22 : decode cX8_shines 22 = .ok (.invokevirtual 98, 3) := by decide +kernel
theorem dX8_shines_25 : decode cX8_shines 25 = .ok (.ifCond .ne 5, 3) := by decide +kernel
theorem dX8_shines_28 : decode cX8_shines 28 = .ok (.iconst 0, 1) := by decide +kernel
theorem dX8_shines_29 : decode cX8_shines 29 = .ok (.ireturn, 1) := by decide +kernel
theorem dX8_shines_30 : decode cX8_shines 30 = .ok (.aload_n 0, 1) := by decide +kernel
theorem dX8_shines_31 : decode cX8_shines 31 = .ok (.iload_n 1, 1) := by decide +kernel
theorem dX8_shines_32 : decode cX8_shines 32 = .ok (.invokevirtual 121, 3) := by decide +kernel
theorem dX8_shines_35 : decode cX8_shines 35 = .ok (.aload_n 0, 1) := by decide +kernel
theorem dX8_shines_36 : decode cX8_shines 36 = .ok (.getfield 75, 3) := by decide +kernel
theorem dX8_shines_39 : decode cX8_shines 39 = .ok (.iload_n 2, 1) := by decide +kernel
theorem dX8_shines_40 : decode cX8_shines 40 = .ok (.iaload, 1) := by decide +kernel
theorem dX8_shines_41 : decode cX8_shines 41 = .ok (.ireturn, 1) := by decide +kernel
theorem dX8_playing_0 : decode cX8_playing 0 = .ok (.aload_n 0, 1) := by decide +kernel
theorem dX8_playing_1 : decode cX8_playing 1 = .ok (.aload_n 0, 1) := by decide +kernel
theorem dX8_playing_2 : decode cX8_playing 2 = .ok (.iload_n 1, 1) := by decide +kernel
theorem dX8_playing_3 : decode cX8_playing 3 = .ok (.invokevirtual 107, 3) := by decide +kernel
theorem dX8_playing_6 : decode cX8_playing 6 = .ok (.ifCond .ne 7, 3) := by decide +kernel
theorem dX8_playing_9 : decode cX8_playing 9 = .ok (.iconst 1, 1) := by decide +kernel
theorem dX8_playing_10 : decode cX8_playing 10 = .ok (.goto 17, 3) := by decide +kernel
theorem dX8_playing_13 : decode cX8_playing 13 = .ok (.iload_n 2, 1) := by decide +kernel
theorem dX8_playing_14 : decode cX8_playing 14 = .ok (.iconst 0, 1) := by decide +kernel
theorem dX8_playing_15 : decode cX8_playing 15 = .ok (.iconst 3, 1) := by decide +kernel
theorem dX8_playing_16 : decode cX8_playing 16 = .ok (.invokestatic 87, 3) := by decide +kernel
theorem dX8_playing_19 : decode cX8_playing 19 = .ok (.ifCond .eq 7, 3) := by decide +kernel
theorem dX8_playing_22 : decode cX8_playing 22 = .ok (.iconst 0, 1) := by decide +kernel
theorem dX8_playing_23 : decode cX8_playing 23 = .ok (.goto 4, 3) := by decide +kernel
theorem dX8_playing_26 : decode cX8_playing 26 = .ok (.iconst 2, 1) := by decide +kernel
theorem dX8_playing_27 : decode cX8_playing 27 = .ok (.invokevirtual 98, 3) := by decide +kernel
theorem dX8_playing_30 : decode cX8_playing 30 = .ok (.ifCond .ne 5, 3) := by decide +kernel
theorem dX8_playing_33 : decode cX8_playing 33 = .ok (.iconst 0, 1) := by decide +kernel
theorem dX8_playing_34 : decode cX8_playing 34 = .ok (.ireturn, 1) := by decide +kernel
theorem dX8_playing_35 : decode cX8_playing 35 = .ok (.iload_n 2, 1) := by decide +kernel
theorem dX8_playing_36 : decode cX8_playing 36 = .ok (.iconst 2, 1) := by decide +kernel
theorem dX8_playing_37 : decode cX8_playing 37 = .ok (.if_icmp .ge 32, 3) := by decide +kernel
theorem dX8_playing_40 : decode cX8_playing 40 = .ok (.aload_n 0, 1) := by decide +kernel
theorem dX8_playing_41 : decode cX8_playing 41 = .ok (.getfield 54, 3) := by decide +kernel
theorem dX8_playing_44 : decode cX8_playing 44 = .ok (.iload_n 1, 1) := by decide +kernel
theorem dX8_playing_45 : decode cX8_playing 45 = .ok (.baload, 1) := by decide +kernel
theorem dX8_playing_46 : decode cX8_playing 46 = .ok (.ifCond .eq 21, 3) := by decide +kernel
theorem dX8_playing_49 : decode cX8_playing 49 = .ok (.iload_n 2, 1) := by decide +kernel
theorem dX8_playing_50 : decode cX8_playing 50 = .ok (.ifCond .eq 13, 3) := by decide +kernel
theorem dX8_playing_53 : decode cX8_playing 53 = .ok (.aload_n 0, 1) := by decide +kernel
theorem dX8_playing_54 : decode cX8_playing 54 = .ok (.getfield 63, 3) := by decide +kernel
theorem dX8_playing_57 : decode cX8_playing 57 = .ok (.iload_n 1, 1) := by decide +kernel
theorem dX8_playing_58 : decode cX8_playing 58 = .ok (.iaload, 1) := by decide +kernel
theorem dX8_playing_59 : decode cX8_playing 59 = .ok (.iconst (-1), 1) := by decide +kernel
theorem dX8_playing_60 : decode cX8_playing 60 = .ok (.if_icmp .eq 7, 3) := by decide +kernel
theorem dX8_playing_63 : decode cX8_playing 63 = .ok (.iconst 1, 1) := by decide +kernel
theorem dX8_playing_64 : decode cX8_playing 64 = .ok (.goto 4, 3) := by decide +kernel
theorem dX8_playing_67 : decode cX8_playing 67 = .ok (.iconst 0, 1) := by decide +kernel
theorem dX8_playing_68 : decode cX8_playing 68 = .ok (.ireturn, 1) := by decide +kernel
theorem dX8_playing_69 : decode cX8_playing 69 = .ok (.aload_n 0, 1) := by decide +kernel
theorem dX8_playing_70 : decode cX8_playing 70 = .ok (.getfield 54, 3) := by decide +kernel
theorem dX8_playing_73 : decode cX8_playing 73 = .ok (.iload_n 1, 1) := by decide +kernel
theorem dX8_playing_74 : decode cX8_playing 74 = .ok (.baload, 1) := by decide +kernel
theorem dX8_playing_75 : decode cX8_playing 75 = .ok (.ifCond .ne 7, 3) := by decide +kernel
theorem dX8_playing_78 : decode cX8_playing 78 = .ok (.iconst (-1), 1) := by decide +kernel
theorem dX8_playing_79 : decode cX8_playing 79 = .ok (.goto 25, 3) := by decide +kernel
theorem dX8_playing_82 : decode cX8_playing 82 = .ok (.iload_n 2, 1) := by decide +kernel
theorem dX8_playing_83 : decode cX8_playing 83 = .ok (.iconst 2, 1) := by decide +kernel
theorem dX8_playing_84 : decode cX8_playing 84 = .ok (.if_icmp .ne 12, 3) := by decide +kernel
theorem dX8_playing_87 : decode cX8_playing 87 = .ok (.aload_n 0, 1) := by decide +kernel
theorem dX8_playing_88 : decode cX8_playing 88 = .ok (.getfield 57, 3) := by decide +kernel
theorem dX8_playing_91 : decode cX8_playing 91 = .ok (.iload_n 1, 1) := by decide +kernel
theorem dX8_playing_92 : decode cX8_playing 92 = .ok (.iaload, 1) := by decide +kernel
theorem dX8_playing_93 : decode cX8_playing 93 = .ok (.goto 11, 3) := by decide +kernel
theorem dX8_playing_96 : decode cX8_playing 96 = .ok (.aload_n 0, 1) := by decide +kernel
theorem dX8_playing_97 : decode cX8_playing 97 = .ok (.iload_n 1, 1) := by decide +kernel
theorem dX8_playing_98 : decode cX8_playing 98 = .ok (.invokevirtual 166, 3) := by decide +kernel
theorem dX8_playing_101 : decode cX8_playing 101 = .ok (.invokestatic 176, 3) := by decide +kernel
theorem dX8_playing_104 : decode cX8_playing 104 = .ok (.ireturn, 1) := by decide +kernel
theorem dX8_barred_0 : decode cX8_barred 0 = .ok (.aload_n 0, 1) := by decide +kernel
theorem dX8_barred_1 : decode cX8_barred 1 = .ok (.iconst 0, 1) := by decide +kernel
theorem dX8_barred_2 : decode cX8_barred 2 = .ok (.putfield 81, 3) := by decide +kernel
theorem dX8_barred_5 : decode cX8_barred 5 = .ok (.aload_n 0, 1) := by decide +kernel
theorem dX8_barred_6 : decode cX8_barred 6 = .ok (.getfield 153, 3) := by decide +kernel
theorem dX8_barred_9 : decode cX8_barred 9 = .ok (.ireturn, 1) := by decide +kernel
theorem dJ9_abs_0f7a4_0 : decode cJ9_abs_0f7a4 0 = .ok (.iload_n 0, 1) := by decide +kernel
theorem dJ9_abs_0f7a4_1 : decode cJ9_abs_0f7a4 1 = .ok (.ifCond .ge 8, 3) := by decide +kernel
theorem dJ9_abs_0f7a4_4 : decode cJ9_abs_0f7a4 4 = .ok (.iload_n 0, 1) := by decide +kernel
theorem dJ9_abs_0f7a4_5 : decode cJ9_abs_0f7a4 5 = .ok (.ineg, 1) := by decide +kernel
theorem dJ9_abs_0f7a4_6 : decode cJ9_abs_0f7a4 6 = .ok (.goto 4, 3) := by decide +kernel
theorem dJ9_abs_0f7a4_9 : decode cJ9_abs_0f7a4 9 = .ok (.iload_n 0, 1) := by decide +kernel
theorem dJ9_abs_0f7a4_10 : decode cJ9_abs_0f7a4 10 = .ok (.ireturn, 1) := by decide +kernel
theorem dJ9_max_7cf53_0 : decode cJ9_max_7cf53 0 = .ok (.iload_n 0, 1) := by decide +kernel
theorem dJ9_max_7cf53_1 : decode cJ9_max_7cf53 1 = .ok (.iload_n 1, 1) := by decide +kernel
theorem dJ9_max_7cf53_2 : decode cJ9_max_7cf53 2 = .ok (.if_icmp .lt 7, 3) := by decide +kernel
theorem dJ9_max_7cf53_5 : decode cJ9_max_7cf53 5 = .ok (.iload_n 0, 1) := by decide +kernel
theorem dJ9_max_7cf53_6 : decode cJ9_max_7cf53 6 = .ok (.goto 4, 3) := by decide +kernel
theorem dJ9_max_7cf53_9 : decode cJ9_max_7cf53 9 = .ok (.iload_n 1, 1) := by decide +kernel
theorem dJ9_max_7cf53_10 : decode cJ9_max_7cf53 10 = .ok (.ireturn, 1) := by decide +kernel
theorem dJ9_min_7cf53_0 : decode cJ9_min_7cf53 0 = .ok (.iload_n 0, 1) := by decide +kernel
theorem dJ9_min_7cf53_1 : decode cJ9_min_7cf53 1 = .ok (.iload_n 1, 1) := by decide +kernel
theorem dJ9_min_7cf53_2 : decode cJ9_min_7cf53 2 = .ok (.if_icmp .gt 7, 3) := by decide +kernel
theorem dJ9_min_7cf53_5 : decode cJ9_min_7cf53 5 = .ok (.iload_n 0, 1) := by decide +kernel
theorem dJ9_min_7cf53_6 : decode cJ9_min_7cf53 6 = .ok (.goto 4, 3) := by decide +kernel
theorem dJ9_min_7cf53_9 : decode cJ9_min_7cf53 9 = .ok (.iload_n 1, 1) := by decide +kernel
theorem dJ9_min_7cf53_10 : decode cJ9_min_7cf53 10 = .ok (.ireturn, 1) := by decide +kernel
theorem dJ7_fill_53178_0 : decode cJ7_fill_53178 0 = .ok (.iconst 0, 1) := by decide +kernel
theorem dJ7_fill_53178_1 : decode cJ7_fill_53178 1 = .ok (.istore_n 2, 1) := by decide +kernel
theorem dJ7_fill_53178_2 : decode cJ7_fill_53178 2 = .ok (.aload_n 0, 1) := by decide +kernel
theorem dJ7_fill_53178_3 : decode cJ7_fill_53178 3 = .ok (.arraylength, 1) := by decide +kernel
theorem dJ7_fill_53178_4 : decode cJ7_fill_53178 4 = .ok (.istore_n 3, 1) := by decide +kernel
theorem dJ7_fill_53178_5 : decode cJ7_fill_53178 5 = .ok (.iload_n 2, 1) := by decide +kernel
theorem dJ7_fill_53178_6 : decode cJ7_fill_53178 6 = .ok (.iload_n 3, 1) := by decide +kernel
theorem dJ7_fill_53178_7 : decode cJ7_fill_53178 7 = .ok (.if_icmp .ge 13, 3) := by decide +kernel
theorem dJ7_fill_53178_10 : decode cJ7_fill_53178 10 = .ok (.aload_n 0, 1) := by decide +kernel
theorem dJ7_fill_53178_11 : decode cJ7_fill_53178 11 = .ok (.iload_n 2, 1) := by decide +kernel
theorem dJ7_fill_53178_12 : decode cJ7_fill_53178 12 = .ok (.iload_n 1, 1) := by decide +kernel
theorem dJ7_fill_53178_13 : decode cJ7_fill_53178 13 = .ok (.iastore, 1) := by decide +kernel
theorem dJ7_fill_53178_14 : decode cJ7_fill_53178 14 = .ok (.iinc 2 1, 3) := by decide +kernel
theorem dJ7_fill_53178_17 : decode cJ7_fill_53178 17 = .ok (.goto (-12), 3) := by decide +kernel
theorem dJ7_fill_53178_20 : decode cJ7_fill_53178 20 = .ok (.return_, 1) := by decide +kernel
theorem dJ7_copyOf_59c91_0 : decode cJ7_copyOf_59c91 0 = .ok (.iload_n 1, 1) := by decide +kernel
theorem dJ7_copyOf_59c91_1 : decode cJ7_copyOf_59c91 1 = .ok (.aload_n 0, 1) := by decide +kernel
theorem dJ7_copyOf_59c91_2 : decode cJ7_copyOf_59c91 2 = .ok (.arraylength, 1) := by decide +kernel
theorem dJ7_copyOf_59c91_3 : decode cJ7_copyOf_59c91 3 = .ok (.if_icmp .ne 11, 3) := by decide +kernel
theorem dJ7_copyOf_59c91_6 : decode cJ7_copyOf_59c91 6 = .ok (.aload_n 0, 1) := by decide +kernel
theorem dJ7_copyOf_59c91_7 : decode cJ7_copyOf_59c91 7 = .ok (.invokevirtual 316, 3) := by decide +kernel
theorem dJ7_copyOf_59c91_10 : decode cJ7_copyOf_59c91 10 = .ok (.checkcast 317, 3) := by decide +kernel
theorem dJ7_copyOf_59c91_13 : decode cJ7_copyOf_59c91 13 = .ok (.areturn, 1) := by decide +kernel
theorem dJ7_copyOf_59c91_14 : decode cJ7_copyOf_59c91 14 = .ok (.iload_n 1, 1) := by decide +kernel
theorem dJ7_copyOf_59c91_15 : decode cJ7_copyOf_59c91 15 = .ok (.newarray .int, 2) := by decide +kernel
theorem dJ7_copyOf_59c91_17 : decode cJ7_copyOf_59c91 17 = .ok (.astore_n 2, 1) := by decide +kernel
theorem dJ7_copyOf_59c91_18 : decode cJ7_copyOf_59c91 18 = .ok (.aload_n 0, 1) := by decide +kernel
theorem dJ7_copyOf_59c91_19 : decode cJ7_copyOf_59c91 19 = .ok (.iconst 0, 1) := by decide +kernel
theorem dJ7_copyOf_59c91_20 : decode cJ7_copyOf_59c91 20 = .ok (.aload_n 2, 1) := by decide +kernel
theorem dJ7_copyOf_59c91_21 : decode cJ7_copyOf_59c91 21 = .ok (.iconst 0, 1) := by decide +kernel
theorem dJ7_copyOf_59c91_22 : decode cJ7_copyOf_59c91 22 = .ok (.aload_n 0, 1) := by decide +kernel
theorem dJ7_copyOf_59c91_23 : decode cJ7_copyOf_59c91 23 = .ok (.arraylength, 1) := by decide +kernel
theorem dJ7_copyOf_59c91_24 : decode cJ7_copyOf_59c91 24 = .ok (.iload_n 1, 1) := by decide +kernel
theorem dJ7_copyOf_59c91_25 : decode cJ7_copyOf_59c91 25 = .ok (.invokestatic 304, 3) := by decide +kernel
theorem dJ7_copyOf_59c91_28 : decode cJ7_copyOf_59c91 28 = .ok (.invokestatic 150, 3) := by decide +kernel
theorem dJ7_copyOf_59c91_31 : decode cJ7_copyOf_59c91 31 = .ok (.aload_n 2, 1) := by decide +kernel
theorem dJ7_copyOf_59c91_32 : decode cJ7_copyOf_59c91 32 = .ok (.areturn, 1) := by decide +kernel
end
section
set_option maxRecDepth 20000 in
theorem ggX0_init_J7_fill_53178 : GoodIn wsX0_init wsJ7_fill_53178 := goodIn_r _ [15] (by decide +kernel) (by decide +kernel)
set_option maxRecDepth 20000 in
theorem gX0_init_J7_fill_53178 : GoodIn wsX0_init (va_wsS RX0 34 yJ7_fill_53178 wsJ7_fill_53178) := goodIn_app (goodIn_of _ (by decide +kernel)) ggX0_init_J7_fill_53178
set_option maxRecDepth 20000 in
theorem ggX0_arrange_J7_fill_53178 : GoodIn wsX0_arrange wsJ7_fill_53178 := goodIn_r _ [7] (by decide +kernel) (by decide +kernel)
set_option maxRecDepth 20000 in
theorem gX0_arrange_J7_fill_53178 : GoodIn wsX0_arrange (va_wsS RX0 34 yJ7_fill_53178 wsJ7_fill_53178) := goodIn_app (goodIn_of _ (by decide +kernel)) ggX0_arrange_J7_fill_53178
set_option maxRecDepth 20000 in
theorem ggX0_arrange_X5_lampAt : GoodIn wsX0_arrange wsX5_lampAt := goodIn_r _ [12, 13, 52, 53, 54] (by decide +kernel) (by decide +kernel)
set_option maxRecDepth 20000 in
theorem gX0_arrange_X5_lampAt : GoodIn wsX0_arrange (wsV RX0 40 RX5 yX5_lampAt wsX5_lampAt) := goodIn_app (goodIn_of _ (by decide +kernel)) ggX0_arrange_X5_lampAt
set_option maxRecDepth 20000 in
theorem ggX0_arrange_X5_isUsable : GoodIn wsX0_arrange wsX5_isUsable := goodIn_r _ [17, 18, 19, 20, 55, 56, 57, 58, 59, 60, 52, 53, 54] (by decide +kernel) (by decide +kernel)
set_option maxRecDepth 20000 in
theorem gX0_arrange_X5_isUsable : GoodIn wsX0_arrange (wsV RX0 46 RX5 yX5_isUsable wsX5_isUsable) := goodIn_app (goodIn_of _ (by decide +kernel)) ggX0_arrange_X5_isUsable
set_option maxRecDepth 20000 in
theorem ggX0_arrange_X5_nearestSpare : GoodIn wsX0_arrange wsX5_nearestSpare := goodIn_r _ [24, 13, 25, 26, 15, 16, 11, 17, 18, 19, 20, 27, 28, 29, 30, 31, 3, 2, 32, 33, 34, 35, 36, 37, 38, 39, 40, 41, 42, 52, 53, 54, 55, 56, 57, 58, 59, 60, 43, 44, 45, 46, 47, 48, 49, 50, 51] (by decide +kernel) (by decide +kernel)
set_option maxRecDepth 20000 in
theorem gX0_arrange_X5_nearestSpare : GoodIn wsX0_arrange (wsV RX0 50 RX5 yX5_nearestSpare wsX5_nearestSpare) := goodIn_app (goodIn_of _ (by decide +kernel)) ggX0_arrange_X5_nearestSpare
set_option maxRecDepth 20000 in
theorem ggX1_isOver_X1_isReleased : GoodIn wsX1_isOver wsX1_isReleased := goodIn_r _ [8, 2, 9, 10, 11] (by decide +kernel) (by decide +kernel)
set_option maxRecDepth 20000 in
theorem gX1_isOver_X1_isReleased : GoodIn wsX1_isOver (wsV RX1 22 RX1 yX1_isReleased wsX1_isReleased) := goodIn_app (goodIn_of _ (by decide +kernel)) ggX1_isOver_X1_isReleased
set_option maxRecDepth 20000 in
theorem ggX1_levelFor_X0_levelFor : GoodIn wsX1_levelFor wsX0_levelFor := goodIn_r _ [6, 7, 11, 12, 13, 14, 15, 16, 17, 18, 19] (by decide +kernel) (by decide +kernel)
set_option maxRecDepth 20000 in
theorem gX1_levelFor_X0_levelFor : GoodIn wsX1_levelFor (wsV RX1 34 RX0 yX0_levelFor wsX0_levelFor) := goodIn_app (goodIn_of _ (by decide +kernel)) ggX1_levelFor_X0_levelFor
set_option maxRecDepth 20000 in
theorem ggX1_master_X1_isReleased : GoodIn wsX1_master wsX1_isReleased := goodIn_r _ [9, 4, 16, 17, 18] (by decide +kernel) (by decide +kernel)
set_option maxRecDepth 20000 in
theorem gX1_master_X1_isReleased : GoodIn wsX1_master (wsV RX1 22 RX1 yX1_isReleased wsX1_isReleased) := goodIn_app (goodIn_of _ (by decide +kernel)) ggX1_master_X1_isReleased
set_option maxRecDepth 20000 in
theorem ggX1_master_X0_masterRisen : GoodIn wsX1_master wsX0_masterRisen := goodIn_r _ [14, 15, 19, 20, 21, 22, 23, 24, 25, 26, 27] (by decide +kernel) (by decide +kernel)
set_option maxRecDepth 20000 in
theorem gX1_master_X0_masterRisen : GoodIn wsX1_master (wsV RX1 38 RX0 yX0_masterRisen wsX0_masterRisen) := goodIn_app (goodIn_of _ (by decide +kernel)) ggX1_master_X0_masterRisen
set_option maxRecDepth 20000 in
theorem ggX2_init_X1_init : GoodIn wsX2_init wsX1_init := goodIn_r _ [10, 11, 2, 3, 12, 15, 16, 17] (by decide +kernel) (by decide +kernel)
set_option maxRecDepth 20000 in
theorem gX2_init_X1_init : GoodIn wsX2_init (wsX1_init) := ggX2_init_X1_init
set_option maxRecDepth 20000 in
theorem ggX2_placeOf_X2_at : GoodIn wsX2_placeOf wsX2_at := goodIn_r _ [7, 1, 8, 9, 10] (by decide +kernel) (by decide +kernel)
set_option maxRecDepth 20000 in
theorem gX2_placeOf_X2_at : GoodIn wsX2_placeOf (wsV RX2 22 RX2 yX2_at wsX2_at) := goodIn_app (goodIn_of _ (by decide +kernel)) ggX2_placeOf_X2_at
set_option maxRecDepth 20000 in
theorem ggX2_goingOf_X2_placeOf : GoodIn wsX2_goingOf wsX2_placeOf := goodIn_r _ [5, 6, 7, 8, 9, 10, 4, 11, 12, 13, 14, 15, 16, 17] (by decide +kernel) (by decide +kernel)
set_option maxRecDepth 20000 in
theorem gX2_goingOf_X2_placeOf : GoodIn wsX2_goingOf (wsV RX2 30 RX2 yX2_placeOf wsX2_placeOf) := goodIn_app (goodIn_of _ (by decide +kernel)) ggX2_goingOf_X2_placeOf
set_option maxRecDepth 20000 in
theorem ggX2_goingOf_X2_at : GoodIn wsX2_goingOf wsX2_at := goodIn_r _ [11, 6, 12, 13, 14] (by decide +kernel) (by decide +kernel)
set_option maxRecDepth 20000 in
theorem gX2_goingOf_X2_at : GoodIn wsX2_goingOf (wsV RX2 22 RX2 yX2_at wsX2_at) := goodIn_app (goodIn_of _ (by decide +kernel)) ggX2_goingOf_X2_at
set_option maxRecDepth 20000 in
theorem ggX2_begin_X2_placeOf : GoodIn wsX2_begin wsX2_placeOf := goodIn_r _ [7, 1, 8, 9, 10, 11, 6, 12, 2, 25, 26, 27, 28, 29] (by decide +kernel) (by decide +kernel)
set_option maxRecDepth 20000 in
theorem gX2_begin_X2_placeOf : GoodIn wsX2_begin (wsV RX2 30 RX2 yX2_placeOf wsX2_placeOf) := goodIn_app (goodIn_of _ (by decide +kernel)) ggX2_begin_X2_placeOf
set_option maxRecDepth 20000 in
theorem ggX2_begin_X2_moveLast : GoodIn wsX2_begin wsX2_moveLast := goodIn_r _ [16, 1, 2, 9, 10, 11, 6, 12, 25, 26] (by decide +kernel) (by decide +kernel)
set_option maxRecDepth 20000 in
theorem gX2_begin_X2_moveLast : GoodIn wsX2_begin (wsV RX2 34 RX2 yX2_moveLast wsX2_moveLast) := goodIn_app (goodIn_of _ (by decide +kernel)) ggX2_begin_X2_moveLast
set_option maxRecDepth 20000 in
theorem ggX2_begin_X2_at : GoodIn wsX2_begin wsX2_at := goodIn_r _ [12, 1, 2, 25, 26] (by decide +kernel) (by decide +kernel)
set_option maxRecDepth 20000 in
theorem gX2_begin_X2_at : GoodIn wsX2_begin (wsV RX2 22 RX2 yX2_at wsX2_at) := goodIn_app (goodIn_of _ (by decide +kernel)) ggX2_begin_X2_at
set_option maxRecDepth 20000 in
theorem ggX2_begin_X1_begin : GoodIn wsX2_begin wsX1_begin := goodIn_r _ [21, 22, 23, 24, 27, 28, 29] (by decide +kernel) (by decide +kernel)
set_option maxRecDepth 20000 in
theorem gX2_begin_X1_begin : GoodIn wsX2_begin (wsV RX2 38 RX1 yX1_begin wsX1_begin) := goodIn_app (goodIn_of _ (by decide +kernel)) ggX2_begin_X1_begin
set_option maxRecDepth 20000 in
theorem ggX2_fall_X2_goingOf : GoodIn wsX2_fall wsX2_goingOf := goodIn_r _ [5, 6, 7, 8, 4, 9, 10, 11, 12, 13, 14, 15, 16, 23, 24, 25, 26, 27] (by decide +kernel) (by decide +kernel)
set_option maxRecDepth 20000 in
theorem gX2_fall_X2_goingOf : GoodIn wsX2_fall (wsV RX2 42 RX2 yX2_goingOf wsX2_goingOf) := goodIn_app (goodIn_of _ (by decide +kernel)) ggX2_fall_X2_goingOf
set_option maxRecDepth 20000 in
theorem ggX2_fall_X1_fall : GoodIn wsX2_fall wsX1_fall := goodIn_r _ [21, 22, 25, 26, 27] (by decide +kernel) (by decide +kernel)
set_option maxRecDepth 20000 in
theorem gX2_fall_X1_fall : GoodIn wsX2_fall (wsV RX2 46 RX1 yX1_fall wsX1_fall) := goodIn_app (goodIn_of _ (by decide +kernel)) ggX2_fall_X1_fall
set_option maxRecDepth 20000 in
theorem ggX2_dropOver_X2_at : GoodIn wsX2_dropOver wsX2_at := goodIn_r _ [6, 1, 7, 24, 25] (by decide +kernel) (by decide +kernel)
set_option maxRecDepth 20000 in
theorem gX2_dropOver_X2_at : GoodIn wsX2_dropOver (wsV RX2 22 RX2 yX2_at wsX2_at) := goodIn_app (goodIn_of _ (by decide +kernel)) ggX2_dropOver_X2_at
set_option maxRecDepth 20000 in
theorem ggX2_dropOver_X1_isOver : GoodIn wsX2_dropOver wsX1_isOver := goodIn_r _ [12, 13, 14, 15, 16, 17, 18, 11, 19, 26, 27, 28, 29, 30, 31, 32, 33, 34, 35, 36, 37] (by decide +kernel) (by decide +kernel)
set_option maxRecDepth 20000 in
theorem gX2_dropOver_X1_isOver : GoodIn wsX2_dropOver (wsV RX2 49 RX1 yX1_isOver wsX1_isOver) := goodIn_app (goodIn_of _ (by decide +kernel)) ggX2_dropOver_X1_isOver
set_option maxRecDepth 20000 in
theorem ggX2_dropOver_X2_moveLast : GoodIn wsX2_dropOver wsX2_moveLast := goodIn_r _ [23, 1, 7, 2, 3, 4, 5, 6, 24, 25] (by decide +kernel) (by decide +kernel)
set_option maxRecDepth 20000 in
theorem gX2_dropOver_X2_moveLast : GoodIn wsX2_dropOver (wsV RX2 34 RX2 yX2_moveLast wsX2_moveLast) := goodIn_app (goodIn_of _ (by decide +kernel)) ggX2_dropOver_X2_moveLast
set_option maxRecDepth 20000 in
theorem ggX2_moveLast_X2_at : GoodIn wsX2_moveLast wsX2_at := goodIn_r _ [7, 1, 2, 8, 9] (by decide +kernel) (by decide +kernel)
set_option maxRecDepth 20000 in
theorem gX2_moveLast_X2_at : GoodIn wsX2_moveLast (wsV RX2 22 RX2 yX2_at wsX2_at) := goodIn_app (goodIn_of _ (by decide +kernel)) ggX2_moveLast_X2_at
set_option maxRecDepth 20000 in
theorem ggX2_greatestUnreleased_X2_at : GoodIn wsX2_greatestUnreleased wsX2_at := goodIn_r _ [10, 1, 11, 29, 30] (by decide +kernel) (by decide +kernel)
set_option maxRecDepth 20000 in
theorem gX2_greatestUnreleased_X2_at : GoodIn wsX2_greatestUnreleased (wsV RX2 22 RX2 yX2_at wsX2_at) := goodIn_app (goodIn_of _ (by decide +kernel)) ggX2_greatestUnreleased_X2_at
set_option maxRecDepth 20000 in
theorem ggX2_greatestUnreleased_X1_isReleased : GoodIn wsX2_greatestUnreleased wsX1_isReleased := goodIn_r _ [16, 17, 31, 32, 33] (by decide +kernel) (by decide +kernel)
set_option maxRecDepth 20000 in
theorem gX2_greatestUnreleased_X1_isReleased : GoodIn wsX2_greatestUnreleased (wsV RX2 53 RX1 yX1_isReleased wsX1_isReleased) := goodIn_app (goodIn_of _ (by decide +kernel)) ggX2_greatestUnreleased_X1_isReleased
set_option maxRecDepth 20000 in
theorem ggX2_greatestUnreleased_X1_levelFor : GoodIn wsX2_greatestUnreleased wsX1_levelFor := goodIn_r _ [21, 22, 23, 24, 25, 26, 27, 28, 31, 32, 33, 34, 35, 36, 37, 38, 39, 40, 41, 42] (by decide +kernel) (by decide +kernel)
set_option maxRecDepth 20000 in
theorem gX2_greatestUnreleased_X1_levelFor : GoodIn wsX2_greatestUnreleased (wsV RX2 57 RX1 yX1_levelFor wsX1_levelFor) := goodIn_app (goodIn_of _ (by decide +kernel)) ggX2_greatestUnreleased_X1_levelFor
set_option maxRecDepth 20000 in
theorem ggX2_mix_X2_at : GoodIn wsX2_mix wsX2_at := goodIn_r _ [6, 1, 7, 41, 42] (by decide +kernel) (by decide +kernel)
set_option maxRecDepth 20000 in
theorem gX2_mix_X2_at : GoodIn wsX2_mix (wsV RX2 22 RX2 yX2_at wsX2_at) := goodIn_app (goodIn_of _ (by decide +kernel)) ggX2_mix_X2_at
set_option maxRecDepth 20000 in
theorem ggX2_mix_X1_isOf : GoodIn wsX2_mix wsX1_isOf := goodIn_r _ [12, 13, 14, 43, 44, 45, 46, 47, 48, 49, 50, 51, 52, 53, 54] (by decide +kernel) (by decide +kernel)
set_option maxRecDepth 20000 in
theorem gX2_mix_X1_isOf : GoodIn wsX2_mix (wsV RX2 67 RX1 yX1_isOf wsX1_isOf) := goodIn_app (goodIn_of _ (by decide +kernel)) ggX2_mix_X1_isOf
set_option maxRecDepth 20000 in
theorem ggX2_mix_X1_levelFor : GoodIn wsX2_mix wsX1_levelFor := goodIn_r _ [18, 13, 19, 20, 21, 22, 23, 24, 43, 44, 45, 46, 47, 48, 49, 50, 51, 52, 53, 54] (by decide +kernel) (by decide +kernel)
set_option maxRecDepth 20000 in
theorem gX2_mix_X1_levelFor : GoodIn wsX2_mix (wsV RX2 57 RX1 yX1_levelFor wsX1_levelFor) := goodIn_app (goodIn_of _ (by decide +kernel)) ggX2_mix_X1_levelFor
set_option maxRecDepth 20000 in
theorem ggX2_mix_X1_master : GoodIn wsX2_mix wsX1_master := goodIn_r _ [28, 13, 29, 30, 31, 32, 33, 34, 11, 35, 36, 37, 38, 22, 39, 40, 43, 44, 45, 46, 47, 48, 49, 50, 51, 52, 53, 54] (by decide +kernel) (by decide +kernel)
set_option maxRecDepth 20000 in
theorem gX2_mix_X1_master : GoodIn wsX2_mix (wsV RX2 70 RX1 yX1_master wsX1_master) := goodIn_app (goodIn_of _ (by decide +kernel)) ggX2_mix_X1_master
set_option maxRecDepth 20000 in
theorem ggX3_writeGoing_X3_entryFor : GoodIn wsX3_writeGoing wsX3_entryFor := goodIn_r _ [4] (by decide +kernel) (by decide +kernel)
set_option maxRecDepth 20000 in
theorem gX3_writeGoing_X3_entryFor : GoodIn wsX3_writeGoing (va_wsS RX3 15 yX3_entryFor wsX3_entryFor) := goodIn_app (goodIn_of _ (by decide +kernel)) ggX3_writeGoing_X3_entryFor
set_option maxRecDepth 20000 in
theorem ggX3_writeGoing_X3_strike : GoodIn wsX3_writeGoing wsX3_strike := goodIn_r _ [8, 9, 10, 11, 12, 3, 13, 14, 15, 16, 17, 18, 19, 20, 21, 47, 48] (by decide +kernel) (by decide +kernel)
set_option maxRecDepth 20000 in
theorem gX3_writeGoing_X3_strike : GoodIn wsX3_writeGoing (wsV RX3 19 RX3 yX3_strike wsX3_strike) := goodIn_app (goodIn_of _ (by decide +kernel)) ggX3_writeGoing_X3_strike
set_option maxRecDepth 20000 in
theorem ggX3_writeGoing_X3_append : GoodIn wsX3_writeGoing wsX3_append := goodIn_r _ [25, 9, 14, 26, 27, 28, 29, 30, 31, 32, 33, 34, 35, 36, 37, 38, 39, 40, 41, 42, 43, 44, 45, 46, 47, 48] (by decide +kernel) (by decide +kernel)
set_option maxRecDepth 20000 in
theorem gX3_writeGoing_X3_append : GoodIn wsX3_writeGoing (wsV RX3 23 RX3 yX3_append wsX3_append) := goodIn_app (goodIn_of _ (by decide +kernel)) ggX3_writeGoing_X3_append
set_option maxRecDepth 20000 in
theorem ggX3_writeRelease_X3_entryFor : GoodIn wsX3_writeRelease wsX3_entryFor := goodIn_r _ [4] (by decide +kernel) (by decide +kernel)
set_option maxRecDepth 20000 in
theorem gX3_writeRelease_X3_entryFor : GoodIn wsX3_writeRelease (va_wsS RX3 15 yX3_entryFor wsX3_entryFor) := goodIn_app (goodIn_of _ (by decide +kernel)) ggX3_writeRelease_X3_entryFor
set_option maxRecDepth 20000 in
theorem ggX3_writeRelease_X3_append : GoodIn wsX3_writeRelease wsX3_append := goodIn_r _ [8, 9, 10, 11, 12, 13, 14, 15, 16, 17, 18, 19, 20, 21, 22, 23, 24, 25, 26, 27, 28, 29, 30, 31, 32, 33] (by decide +kernel) (by decide +kernel)
set_option maxRecDepth 20000 in
theorem gX3_writeRelease_X3_append : GoodIn wsX3_writeRelease (wsV RX3 23 RX3 yX3_append wsX3_append) := goodIn_app (goodIn_of _ (by decide +kernel)) ggX3_writeRelease_X3_append
set_option maxRecDepth 20000 in
theorem ggX3_strike_X3_entryAt : GoodIn wsX3_strike wsX3_entryAt := goodIn_r _ [6, 7, 15, 16] (by decide +kernel) (by decide +kernel)
set_option maxRecDepth 20000 in
theorem gX3_strike_X3_entryAt : GoodIn wsX3_strike (wsV RX3 30 RX3 yX3_entryAt wsX3_entryAt) := goodIn_app (goodIn_of _ (by decide +kernel)) ggX3_strike_X3_entryAt
set_option maxRecDepth 20000 in
theorem ggX3_strike_X3_tickOf : GoodIn wsX3_strike wsX3_tickOf := goodIn_r _ [10] (by decide +kernel) (by decide +kernel)
set_option maxRecDepth 20000 in
theorem gX3_strike_X3_tickOf : GoodIn wsX3_strike (va_wsS RX3 34 yX3_tickOf wsX3_tickOf) := goodIn_app (goodIn_of _ (by decide +kernel)) ggX3_strike_X3_tickOf
set_option maxRecDepth 20000 in
theorem ggX3_strike_X3_removeAt : GoodIn wsX3_strike wsX3_removeAt := goodIn_r _ [14, 1, 7, 15, 16] (by decide +kernel) (by decide +kernel)
set_option maxRecDepth 20000 in
theorem gX3_strike_X3_removeAt : GoodIn wsX3_strike (wsV RX3 37 RX3 yX3_removeAt wsX3_removeAt) := goodIn_app (goodIn_of _ (by decide +kernel)) ggX3_strike_X3_removeAt
set_option maxRecDepth 20000 in
theorem ggX3_append_J7_copyOf_59c91 : GoodIn wsX3_append wsJ7_copyOf_59c91 := goodIn_r _ [11, 12, 13, 14, 15, 16, 17, 18, 19, 5, 6, 7, 20, 21, 22, 23] (by decide +kernel) (by decide +kernel)
set_option maxRecDepth 20000 in
theorem gX3_append_J7_copyOf_59c91 : GoodIn wsX3_append (va_wsS RX3 47 yJ7_copyOf_59c91 wsJ7_copyOf_59c91) := goodIn_app (goodIn_of _ (by decide +kernel)) ggX3_append_J7_copyOf_59c91
set_option maxRecDepth 20000 in
theorem ggX5_countUsable_X5_isUsable : GoodIn wsX5_countUsable wsX5_isUsable := goodIn_r _ [6, 7, 8, 9, 13, 14, 15, 16, 17, 18, 10, 11, 12] (by decide +kernel) (by decide +kernel)
set_option maxRecDepth 20000 in
theorem gX5_countUsable_X5_isUsable : GoodIn wsX5_countUsable (wsV RX5 31 RX5 yX5_isUsable wsX5_isUsable) := goodIn_app (goodIn_of _ (by decide +kernel)) ggX5_countUsable_X5_isUsable
set_option maxRecDepth 20000 in
theorem ggX5_nearestSpare_X5_isUsable : GoodIn wsX5_nearestSpare wsX5_isUsable := goodIn_r _ [7, 8, 9, 10, 32, 33, 34, 35, 36, 37, 29, 30, 31] (by decide +kernel) (by decide +kernel)
set_option maxRecDepth 20000 in
theorem gX5_nearestSpare_X5_isUsable : GoodIn wsX5_nearestSpare (wsV RX5 31 RX5 yX5_isUsable wsX5_isUsable) := goodIn_app (goodIn_of _ (by decide +kernel)) ggX5_nearestSpare_X5_isUsable
set_option maxRecDepth 20000 in
theorem ggX5_nearestSpare_X0_canSpare : GoodIn wsX5_nearestSpare wsX0_canSpare := goodIn_r _ [15, 16, 17, 38, 39, 40, 41, 42, 43, 44, 45, 46] (by decide +kernel) (by decide +kernel)
set_option maxRecDepth 20000 in
theorem gX5_nearestSpare_X0_canSpare : GoodIn wsX5_nearestSpare (wsV RX5 38 RX0 yX0_canSpare wsX0_canSpare) := goodIn_app (goodIn_of _ (by decide +kernel)) ggX5_nearestSpare_X0_canSpare
set_option maxRecDepth 20000 in
theorem ggX5_nearestSpare_X4_distanceTo : GoodIn wsX5_nearestSpare wsX4_distanceTo := goodIn_r _ [22, 23, 24, 25, 26, 27, 28, 32, 33, 34, 35, 36, 37] (by decide +kernel) (by decide +kernel)
set_option maxRecDepth 20000 in
theorem gX5_nearestSpare_X4_distanceTo : GoodIn wsX5_nearestSpare (wsV RX5 44 RX4 yX4_distanceTo wsX4_distanceTo) := goodIn_app (goodIn_of _ (by decide +kernel)) ggX5_nearestSpare_X4_distanceTo
set_option maxRecDepth 20000 in
theorem ggX7_init_X5_init : GoodIn wsX7_init wsX5_init := goodIn_r _ [27, 28, 2, 3, 29, 30, 31, 62, 63, 64] (by decide +kernel) (by decide +kernel)
set_option maxRecDepth 20000 in
theorem gX7_init_X5_init : GoodIn wsX7_init (wsX5_init) := ggX7_init_X5_init
set_option maxRecDepth 20000 in
theorem ggX7_init_J7_fill_53178 : GoodIn wsX7_init wsJ7_fill_53178 := goodIn_r _ [35] (by decide +kernel) (by decide +kernel)
set_option maxRecDepth 20000 in
theorem gX7_init_J7_fill_53178 : GoodIn wsX7_init (va_wsS RX7 26 yJ7_fill_53178 wsJ7_fill_53178) := goodIn_app (goodIn_of _ (by decide +kernel)) ggX7_init_J7_fill_53178
set_option maxRecDepth 20000 in
theorem ggX7_init_X2_init : GoodIn wsX7_init wsX2_init := goodIn_r _ [38, 39, 2, 3, 40, 41, 42, 43, 44, 45, 46, 47, 48, 75, 76, 84, 85, 86] (by decide +kernel) (by decide +kernel)
set_option maxRecDepth 20000 in
theorem gX7_init_X2_init : GoodIn wsX7_init (wsX2_init) := ggX7_init_X2_init
set_option maxRecDepth 20000 in
theorem ggX7_init_X6_init : GoodIn wsX7_init wsX6_init := goodIn_r _ [51, 52, 2, 3, 53, 54, 10, 55, 56, 77, 78, 79, 80, 81] (by decide +kernel) (by decide +kernel)
set_option maxRecDepth 20000 in
theorem gX7_init_X6_init : GoodIn wsX7_init (wsX6_init) := ggX7_init_X6_init
set_option maxRecDepth 20000 in
theorem ggX7_init_X3_init : GoodIn wsX7_init wsX3_init := goodIn_r _ [59, 60, 2, 3, 10, 61, 82, 83] (by decide +kernel) (by decide +kernel)
set_option maxRecDepth 20000 in
theorem gX7_init_X3_init : GoodIn wsX7_init (wsX3_init) := ggX7_init_X3_init
set_option maxRecDepth 20000 in
theorem ggX7_lamp_X7_isWithin : GoodIn wsX7_lamp wsX7_isWithin := goodIn_r _ [12] (by decide +kernel) (by decide +kernel)
set_option maxRecDepth 20000 in
theorem gX7_lamp_X7_isWithin : GoodIn wsX7_lamp (va_wsS RX7 56 yX7_isWithin wsX7_isWithin) := goodIn_app (goodIn_of _ (by decide +kernel)) ggX7_lamp_X7_isWithin
set_option maxRecDepth 20000 in
theorem ggX7_lamp_X7_isGel : GoodIn wsX7_lamp wsX7_isGel := goodIn_r _ [15] (by decide +kernel) (by decide +kernel)
set_option maxRecDepth 20000 in
theorem gX7_lamp_X7_isGel : GoodIn wsX7_lamp (va_wsS RX7 60 yX7_isGel wsX7_isGel) := goodIn_app (goodIn_of _ (by decide +kernel)) ggX7_lamp_X7_isGel
set_option maxRecDepth 20000 in
theorem ggX7_lamp_X7_isPhase : GoodIn wsX7_lamp wsX7_isPhase := goodIn_r _ [18, 9, 10, 11, 12] (by decide +kernel) (by decide +kernel)
set_option maxRecDepth 20000 in
theorem gX7_lamp_X7_isPhase : GoodIn wsX7_lamp (va_wsS RX7 64 yX7_isPhase wsX7_isPhase) := goodIn_app (goodIn_of _ (by decide +kernel)) ggX7_lamp_X7_isPhase
set_option maxRecDepth 20000 in
theorem ggX7_lamp_X5_isFull : GoodIn wsX7_lamp wsX5_isFull := goodIn_r _ [23, 24, 25, 103, 104, 105] (by decide +kernel) (by decide +kernel)
set_option maxRecDepth 20000 in
theorem gX7_lamp_X5_isFull : GoodIn wsX7_lamp (wsV RX7 74 RX5 yX5_isFull wsX5_isFull) := goodIn_app (goodIn_of _ (by decide +kernel)) ggX7_lamp_X5_isFull
set_option maxRecDepth 20000 in
theorem ggX7_lamp_X4_init : GoodIn wsX7_lamp wsX4_init := goodIn_r _ [28, 29, 30, 31, 32, 33, 34, 35, 36, 97, 98, 99, 100, 101, 102] (by decide +kernel) (by decide +kernel)
set_option maxRecDepth 20000 in
theorem gX7_lamp_X4_init : GoodIn wsX7_lamp (wsX4_init) := ggX7_lamp_X4_init
set_option maxRecDepth 20000 in
theorem ggX7_lamp_X5_hang : GoodIn wsX7_lamp wsX5_hang := goodIn_r _ [40, 24, 25, 103, 104, 105] (by decide +kernel) (by decide +kernel)
set_option maxRecDepth 20000 in
theorem gX7_lamp_X5_hang : GoodIn wsX7_lamp (wsV RX7 88 RX5 yX5_hang wsX5_hang) := goodIn_app (goodIn_of _ (by decide +kernel)) ggX7_lamp_X5_hang
set_option maxRecDepth 20000 in
theorem ggX7_lamp_X7_arrangeCues : GoodIn wsX7_lamp wsX7_arrangeCues := goodIn_r _ [44, 45, 5, 46, 47, 48, 49, 50, 51, 52, 53, 54, 55, 56, 57, 58, 59, 60, 22, 61, 25, 62, 63, 64, 65, 66, 67, 68, 69, 70, 71, 72, 73, 74, 75, 76, 77, 78, 79, 80, 81, 8, 82, 32, 83, 84, 85, 86, 33, 87, 88, 89, 90, 91, 92, 93, 94, 95, 96, 106, 107, 108, 109, 110, 111, 112, 113, 114, 103, 104, 105, 97, 98, 99, 100, 101, 102] (by decide +kernel) (by decide +kernel)
set_option maxRecDepth 20000 in
theorem gX7_lamp_X7_arrangeCues : GoodIn wsX7_lamp (wsV RX7 92 RX7 yX7_arrangeCues wsX7_arrangeCues) := goodIn_app (goodIn_of _ (by decide +kernel)) ggX7_lamp_X7_arrangeCues
set_option maxRecDepth 20000 in
theorem ggX7_die_X5_lampAt : GoodIn wsX7_die wsX5_lampAt := goodIn_r _ [9, 10, 74, 75, 76] (by decide +kernel) (by decide +kernel)
set_option maxRecDepth 20000 in
theorem gX7_die_X5_lampAt : GoodIn wsX7_die (wsV RX7 95 RX5 yX5_lampAt wsX5_lampAt) := goodIn_app (goodIn_of _ (by decide +kernel)) ggX7_die_X5_lampAt
set_option maxRecDepth 20000 in
theorem ggX7_die_X7_arrangeCues : GoodIn wsX7_die wsX7_arrangeCues := goodIn_r _ [15, 16, 3, 17, 18, 19, 20, 21, 22, 23, 24, 25, 26, 27, 28, 29, 6, 7, 8, 9, 10, 30, 31, 32, 33, 34, 35, 36, 37, 38, 39, 40, 41, 42, 43, 44, 45, 46, 47, 48, 49, 50, 51, 52, 53, 54, 55, 56, 57, 58, 59, 60, 61, 62, 63, 64, 65, 66, 67, 77, 78, 79, 80, 81, 82, 83, 84, 85, 74, 75, 76, 68, 69, 70, 71, 72, 73] (by decide +kernel) (by decide +kernel)
set_option maxRecDepth 20000 in
theorem gX7_die_X7_arrangeCues : GoodIn wsX7_die (wsV RX7 92 RX7 yX7_arrangeCues wsX7_arrangeCues) := goodIn_app (goodIn_of _ (by decide +kernel)) ggX7_die_X7_arrangeCues
set_option maxRecDepth 20000 in
theorem ggX7_house_X7_isWithin : GoodIn wsX7_house wsX7_isWithin := goodIn_r _ [8] (by decide +kernel) (by decide +kernel)
set_option maxRecDepth 20000 in
theorem gX7_house_X7_isWithin : GoodIn wsX7_house (va_wsS RX7 56 yX7_isWithin wsX7_isWithin) := goodIn_app (goodIn_of _ (by decide +kernel)) ggX7_house_X7_isWithin
set_option maxRecDepth 20000 in
theorem ggX7_house_X7_arrangeCues : GoodIn wsX7_house wsX7_arrangeCues := goodIn_r _ [12, 13, 3, 14, 15, 16, 17, 18, 19, 20, 21, 22, 23, 24, 25, 26, 27, 28, 29, 30, 31, 32, 33, 34, 35, 36, 37, 38, 39, 40, 41, 42, 43, 44, 45, 46, 47, 48, 49, 50, 51, 52, 53, 54, 55, 56, 57, 58, 59, 64, 65, 66, 67, 68, 69, 70, 71, 72, 73, 77, 78, 79, 80, 81, 82, 83, 84, 85, 74, 75, 76, 86, 87, 88, 89, 90, 91] (by decide +kernel) (by decide +kernel)
set_option maxRecDepth 20000 in
theorem gX7_house_X7_arrangeCues : GoodIn wsX7_house (wsV RX7 92 RX7 yX7_arrangeCues wsX7_arrangeCues) := goodIn_app (goodIn_of _ (by decide +kernel)) ggX7_house_X7_arrangeCues
set_option maxRecDepth 20000 in
theorem ggX7_house_X5_countUsable : GoodIn wsX7_house wsX5_countUsable := goodIn_r _ [63, 31, 44, 33, 34, 29, 35, 36, 37, 38, 74, 75, 76, 86, 87, 88, 89, 90, 91] (by decide +kernel) (by decide +kernel)
set_option maxRecDepth 20000 in
theorem gX7_house_X5_countUsable : GoodIn wsX7_house (wsV RX7 114 RX5 yX5_countUsable wsX5_countUsable) := goodIn_app (goodIn_of _ (by decide +kernel)) ggX7_house_X5_countUsable
set_option maxRecDepth 20000 in
theorem ggX7_power_X7_isPhase : GoodIn wsX7_power wsX7_isPhase := goodIn_r _ [9, 10, 11, 8, 12] (by decide +kernel) (by decide +kernel)
set_option maxRecDepth 20000 in
theorem gX7_power_X7_isPhase : GoodIn wsX7_power (va_wsS RX7 64 yX7_isPhase wsX7_isPhase) := goodIn_app (goodIn_of _ (by decide +kernel)) ggX7_power_X7_isPhase
set_option maxRecDepth 20000 in
theorem ggX7_power_X7_isWithin : GoodIn wsX7_power wsX7_isWithin := goodIn_r _ [12] (by decide +kernel) (by decide +kernel)
set_option maxRecDepth 20000 in
theorem gX7_power_X7_isWithin : GoodIn wsX7_power (va_wsS RX7 56 yX7_isWithin wsX7_isWithin) := goodIn_app (goodIn_of _ (by decide +kernel)) ggX7_power_X7_isWithin
set_option maxRecDepth 20000 in
theorem ggX7_cue_X7_isWithin : GoodIn wsX7_cue wsX7_isWithin := goodIn_r _ [13] (by decide +kernel) (by decide +kernel)
set_option maxRecDepth 20000 in
theorem gX7_cue_X7_isWithin : GoodIn wsX7_cue (va_wsS RX7 56 yX7_isWithin wsX7_isWithin) := goodIn_app (goodIn_of _ (by decide +kernel)) ggX7_cue_X7_isWithin
set_option maxRecDepth 20000 in
theorem ggX7_cue_X0_init : GoodIn wsX7_cue wsX0_init := goodIn_r _ [16, 17, 18, 19, 20, 21, 22, 23, 24, 25, 26, 27, 28, 29, 30, 31, 42, 43, 44, 45, 46, 47, 48, 49, 50] (by decide +kernel) (by decide +kernel)
set_option maxRecDepth 20000 in
theorem gX7_cue_X0_init : GoodIn wsX7_cue (wsX0_init) := ggX7_cue_X0_init
set_option maxRecDepth 20000 in
theorem ggX7_level_X7_cueAt : GoodIn wsX7_level wsX7_cueAt := goodIn_r _ [10, 11, 66, 67, 68, 69, 70, 71, 72, 73, 74, 75] (by decide +kernel) (by decide +kernel)
set_option maxRecDepth 20000 in
theorem gX7_level_X7_cueAt : GoodIn wsX7_level (wsV RX7 132 RX7 yX7_cueAt wsX7_cueAt) := goodIn_app (goodIn_of _ (by decide +kernel)) ggX7_level_X7_cueAt
set_option maxRecDepth 20000 in
theorem ggX7_level_X5_lampAt : GoodIn wsX7_level wsX5_lampAt := goodIn_r _ [16, 17, 76, 77, 78] (by decide +kernel) (by decide +kernel)
set_option maxRecDepth 20000 in
theorem gX7_level_X5_lampAt : GoodIn wsX7_level (wsV RX7 95 RX5 yX5_lampAt wsX5_lampAt) := goodIn_app (goodIn_of _ (by decide +kernel)) ggX7_level_X5_lampAt
set_option maxRecDepth 20000 in
theorem ggX7_level_X7_isWithin : GoodIn wsX7_level wsX7_isWithin := goodIn_r _ [20] (by decide +kernel) (by decide +kernel)
set_option maxRecDepth 20000 in
theorem gX7_level_X7_isWithin : GoodIn wsX7_level (va_wsS RX7 56 yX7_isWithin wsX7_isWithin) := goodIn_app (goodIn_of _ (by decide +kernel)) ggX7_level_X7_isWithin
set_option maxRecDepth 20000 in
theorem ggX7_level_X0_tell : GoodIn wsX7_level wsX0_tell := goodIn_r _ [25, 26, 79, 80, 81, 82, 83, 84, 85, 86, 87] (by decide +kernel) (by decide +kernel)
set_option maxRecDepth 20000 in
theorem gX7_level_X0_tell : GoodIn wsX7_level (wsV RX7 140 RX0 yX0_tell wsX0_tell) := goodIn_app (goodIn_of _ (by decide +kernel)) ggX7_level_X0_tell
set_option maxRecDepth 20000 in
theorem ggX7_level_X0_arrange : GoodIn wsX7_level wsX0_arrange := goodIn_r _ [30, 31, 32, 26, 33, 34, 35, 36, 37, 13, 14, 15, 16, 17, 38, 39, 40, 41, 42, 43, 44, 45, 46, 47, 48, 49, 50, 51, 52, 53, 24, 54, 55, 56, 57, 58, 59, 60, 61, 62, 63, 64, 65, 79, 80, 81, 82, 83, 84, 85, 86, 87, 76, 77, 78, 88, 89, 90, 91, 92, 93] (by decide +kernel) (by decide +kernel)
set_option maxRecDepth 20000 in
theorem gX7_level_X0_arrange : GoodIn wsX7_level (wsV RX7 144 RX0 yX0_arrange wsX0_arrange) := goodIn_app (goodIn_of _ (by decide +kernel)) ggX7_level_X0_arrange
set_option maxRecDepth 20000 in
theorem ggX7_follow_X7_cueAt : GoodIn wsX7_follow wsX7_cueAt := goodIn_r _ [12, 13, 26, 27, 28, 29, 30, 31, 32, 33, 34, 35] (by decide +kernel) (by decide +kernel)
set_option maxRecDepth 20000 in
theorem gX7_follow_X7_cueAt : GoodIn wsX7_follow (wsV RX7 132 RX7 yX7_cueAt wsX7_cueAt) := goodIn_app (goodIn_of _ (by decide +kernel)) ggX7_follow_X7_cueAt
set_option maxRecDepth 20000 in
theorem ggX7_follow_X7_isWithin : GoodIn wsX7_follow wsX7_isWithin := goodIn_r _ [16] (by decide +kernel) (by decide +kernel)
set_option maxRecDepth 20000 in
theorem gX7_follow_X7_isWithin : GoodIn wsX7_follow (va_wsS RX7 56 yX7_isWithin wsX7_isWithin) := goodIn_app (goodIn_of _ (by decide +kernel)) ggX7_follow_X7_isWithin
set_option maxRecDepth 20000 in
theorem ggX7_go_X7_cueAt : GoodIn wsX7_go wsX7_cueAt := goodIn_r _ [11, 12, 150, 151, 152, 153, 154, 155, 156, 157, 158, 159] (by decide +kernel) (by decide +kernel)
set_option maxRecDepth 20000 in
theorem gX7_go_X7_cueAt : GoodIn wsX7_go (wsV RX7 132 RX7 yX7_cueAt wsX7_cueAt) := goodIn_app (goodIn_of _ (by decide +kernel)) ggX7_go_X7_cueAt
set_option maxRecDepth 20000 in
theorem ggX7_go_X7_canGo : GoodIn wsX7_go wsX7_canGo := goodIn_r _ [16, 17, 18, 19, 20, 10, 21, 22, 23, 24, 5, 25, 26, 27, 28, 29, 30, 31, 32, 33, 34, 35, 36, 37, 38, 39, 40, 41, 42, 43, 44, 45, 46, 47, 48, 49, 50, 51, 52, 53, 54, 55, 56, 57, 58, 59, 60, 61, 62, 63, 64, 150, 151, 152, 153, 154, 155, 156, 157, 158, 159, 162, 163, 164, 165, 166, 167, 168, 169, 170, 171, 172, 173, 174, 175, 176, 177, 178, 179, 160, 161, 180, 181, 182] (by decide +kernel) (by decide +kernel)
set_option maxRecDepth 20000 in
theorem gX7_go_X7_canGo : GoodIn wsX7_go (wsV RX7 162 RX7 yX7_canGo wsX7_canGo) := goodIn_app (goodIn_of _ (by decide +kernel)) ggX7_go_X7_canGo
set_option maxRecDepth 20000 in
theorem ggX7_go_X7_begin : GoodIn wsX7_go wsX7_begin := goodIn_r _ [68, 5, 69, 70, 71, 72, 73, 74, 75, 76, 77, 44, 78, 46, 52, 79, 80, 81, 82, 83, 48, 49, 50, 51, 84, 85, 86, 87, 88, 89, 90, 56, 91, 63, 92, 58, 93, 94, 95, 96, 97, 98, 99, 100, 101, 102, 103, 104, 105, 106, 107, 108, 109, 110, 111, 112, 113, 114, 115, 116, 117, 118, 119, 120, 121, 122, 123, 124, 27, 125, 126, 127, 128, 129, 130, 131, 132, 133, 134, 135, 136, 137, 138, 139, 140, 141, 142, 143, 144, 145, 146, 147, 148, 149, 150, 151, 152, 153, 154, 155, 156, 157, 158, 159, 171, 172, 173, 174, 175, 176, 177, 178, 179, 160, 161, 180, 181, 182, 183, 184, 185, 186, 187, 188, 189] (by decide +kernel) (by decide +kernel)
set_option maxRecDepth 20000 in
theorem gX7_go_X7_begin : GoodIn wsX7_go (wsV RX7 168 RX7 yX7_begin wsX7_begin) := goodIn_app (goodIn_of _ (by decide +kernel)) ggX7_go_X7_begin
set_option maxRecDepth 20000 in
theorem ggX7_release_X7_cueAt : GoodIn wsX7_release wsX7_cueAt := goodIn_r _ [13, 14, 91, 92, 93, 94, 95, 96, 97, 98, 99, 100] (by decide +kernel) (by decide +kernel)
set_option maxRecDepth 20000 in
theorem gX7_release_X7_cueAt : GoodIn wsX7_release (wsV RX7 132 RX7 yX7_cueAt wsX7_cueAt) := goodIn_app (goodIn_of _ (by decide +kernel)) ggX7_release_X7_cueAt
set_option maxRecDepth 20000 in
theorem ggX7_release_X2_goingOf : GoodIn wsX7_release wsX2_goingOf := goodIn_r _ [19, 20, 21, 22, 18, 23, 24, 25, 26, 27, 28, 29, 30, 110, 111, 112, 113, 114] (by decide +kernel) (by decide +kernel)
set_option maxRecDepth 20000 in
theorem gX7_release_X2_goingOf : GoodIn wsX7_release (wsV RX7 175 RX2 yX2_goingOf wsX2_goingOf) := goodIn_app (goodIn_of _ (by decide +kernel)) ggX7_release_X2_goingOf
set_option maxRecDepth 20000 in
theorem ggX7_release_X1_isReleased : GoodIn wsX7_release wsX1_isReleased := goodIn_r _ [35, 36, 112, 113, 114] (by decide +kernel) (by decide +kernel)
set_option maxRecDepth 20000 in
theorem gX7_release_X1_isReleased : GoodIn wsX7_release (wsV RX7 179 RX1 yX1_isReleased wsX1_isReleased) := goodIn_app (goodIn_of _ (by decide +kernel)) ggX7_release_X1_isReleased
set_option maxRecDepth 20000 in
theorem ggX7_release_X1_fall : GoodIn wsX7_release wsX1_fall := goodIn_r _ [40, 36, 112, 113, 114] (by decide +kernel) (by decide +kernel)
set_option maxRecDepth 20000 in
theorem gX7_release_X1_fall : GoodIn wsX7_release (wsV RX7 189 RX1 yX1_fall wsX1_fall) := goodIn_app (goodIn_of _ (by decide +kernel)) ggX7_release_X1_fall
set_option maxRecDepth 20000 in
theorem ggX7_release_X3_writeRelease : GoodIn wsX7_release wsX3_writeRelease := goodIn_r _ [45, 46, 47, 44, 48, 49, 50, 51, 52, 53, 54, 55, 56, 57, 58, 59, 60, 61, 62, 63, 64, 65, 66, 67, 68, 69, 70, 71, 72, 73, 74, 75, 115, 116] (by decide +kernel) (by decide +kernel)
set_option maxRecDepth 20000 in
theorem gX7_release_X3_writeRelease : GoodIn wsX7_release (wsV RX7 193 RX3 yX3_writeRelease wsX3_writeRelease) := goodIn_app (goodIn_of _ (by decide +kernel)) ggX7_release_X3_writeRelease
set_option maxRecDepth 20000 in
theorem ggX7_release_X2_dropOver : GoodIn wsX7_release wsX2_dropOver := goodIn_r _ [79, 24, 26, 27, 28, 18, 29, 30, 80, 81, 82, 34, 83, 84, 36, 85, 86, 32, 33, 35, 87, 88, 89, 90, 110, 111, 112, 113, 114, 101, 102, 103, 104, 105, 106, 107, 108, 109] (by decide +kernel) (by decide +kernel)
set_option maxRecDepth 20000 in
theorem gX7_release_X2_dropOver : GoodIn wsX7_release (wsV RX7 197 RX2 yX2_dropOver wsX2_dropOver) := goodIn_app (goodIn_of _ (by decide +kernel)) ggX7_release_X2_dropOver
set_option maxRecDepth 20000 in
theorem ggX7_pass_X7_isWithin : GoodIn wsX7_pass wsX7_isWithin := goodIn_r _ [7] (by decide +kernel) (by decide +kernel)
set_option maxRecDepth 20000 in
theorem gX7_pass_X7_isWithin : GoodIn wsX7_pass (va_wsS RX7 56 yX7_isWithin wsX7_isWithin) := goodIn_app (goodIn_of _ (by decide +kernel)) ggX7_pass_X7_isWithin
set_option maxRecDepth 20000 in
theorem ggX7_pass_X7_passOne : GoodIn wsX7_pass wsX7_passOne := goodIn_r _ [11, 3, 12, 13, 14, 15, 16, 17, 18, 19, 20, 21, 22, 23, 24, 25, 26, 27, 28, 29, 30, 31, 32, 33, 34, 35, 36, 37, 38, 39, 40, 41, 42, 43, 44, 45, 46, 47, 48, 49, 50, 51, 52, 53, 54, 55, 56, 57, 58, 59, 6, 60, 61, 62, 63, 64, 65, 66, 67, 68, 69, 70, 71, 72, 73, 74, 75, 76, 77, 78, 79, 80, 81, 82, 83, 84, 85, 86, 87, 88, 89, 90, 91, 92, 93, 94, 95, 96, 97, 98, 99, 100, 101, 102, 103, 104, 105, 106, 107, 108, 109, 110, 111, 112, 113, 114, 115, 116, 117, 118, 119, 120, 121, 122, 123, 124, 125, 126, 127, 128, 129, 130, 131, 132, 133, 134, 135, 136, 137, 138, 139, 140, 141, 142, 143, 144, 145, 146, 147, 148, 149, 150, 151, 152, 153, 154, 155, 156, 157, 158, 159, 160, 161, 162, 163, 164, 165, 166, 167, 168, 169, 170, 171, 172, 173, 174, 175, 176, 177, 178, 179, 180, 181, 182, 183, 184, 185, 186, 187, 188, 189, 190, 191, 192, 193, 194, 195, 196, 197, 198, 199, 200, 201, 202, 203, 204, 205, 206, 207, 208, 209, 210] (by decide +kernel) (by decide +kernel)
set_option maxRecDepth 20000 in
theorem gX7_pass_X7_passOne : GoodIn wsX7_pass (wsV RX7 200 RX7 yX7_passOne wsX7_passOne) := goodIn_app (goodIn_of _ (by decide +kernel)) ggX7_pass_X7_passOne
set_option maxRecDepth 20000 in
theorem ggX7_levelOf_X5_lampAt : GoodIn wsX7_levelOf wsX5_lampAt := goodIn_r _ [10, 11, 71, 72, 73] (by decide +kernel) (by decide +kernel)
set_option maxRecDepth 20000 in
theorem gX7_levelOf_X5_lampAt : GoodIn wsX7_levelOf (wsV RX7 95 RX5 yX5_lampAt wsX5_lampAt) := goodIn_app (goodIn_of _ (by decide +kernel)) ggX7_levelOf_X5_lampAt
set_option maxRecDepth 20000 in
theorem ggX7_levelOf_X2_mix : GoodIn wsX7_levelOf wsX2_mix := goodIn_r _ [16, 17, 18, 19, 20, 15, 21, 22, 23, 24, 25, 26, 27, 28, 29, 30, 31, 32, 33, 34, 35, 36, 37, 38, 39, 40, 41, 42, 43, 44, 45, 46, 47, 48, 49, 50, 51, 52, 53, 54, 55, 74, 75, 76, 77, 78, 79, 80, 81, 82, 83, 84, 85, 86, 87] (by decide +kernel) (by decide +kernel)
set_option maxRecDepth 20000 in
theorem gX7_levelOf_X2_mix : GoodIn wsX7_levelOf (wsV RX7 203 RX2 yX2_mix wsX2_mix) := goodIn_app (goodIn_of _ (by decide +kernel)) ggX7_levelOf_X2_mix
set_option maxRecDepth 20000 in
theorem ggX7_levelOf_X7_bitsOf : GoodIn wsX7_levelOf wsX7_bitsOf := goodIn_r _ [59, 60] (by decide +kernel) (by decide +kernel)
set_option maxRecDepth 20000 in
theorem gX7_levelOf_X7_bitsOf : GoodIn wsX7_levelOf (va_wsS RX7 207 yX7_bitsOf wsX7_bitsOf) := goodIn_app (goodIn_of _ (by decide +kernel)) ggX7_levelOf_X7_bitsOf
set_option maxRecDepth 20000 in
theorem ggX7_levelAnew_X5_lampAt : GoodIn wsX7_levelAnew wsX5_lampAt := goodIn_r _ [10, 11, 138, 139, 140] (by decide +kernel) (by decide +kernel)
set_option maxRecDepth 20000 in
theorem gX7_levelAnew_X5_lampAt : GoodIn wsX7_levelAnew (wsV RX7 95 RX5 yX5_lampAt wsX5_lampAt) := goodIn_app (goodIn_of _ (by decide +kernel)) ggX7_levelAnew_X5_lampAt
set_option maxRecDepth 20000 in
theorem ggX7_levelAnew_X7_retell : GoodIn wsX7_levelAnew wsX7_retell := goodIn_r _ [16, 4, 17, 18, 5, 19, 20, 21, 22, 23, 24, 25, 26, 27, 28, 29, 30, 31, 32, 33, 34, 35, 36, 15, 37, 38, 39, 40, 41, 42, 43, 44, 45, 46, 47, 48, 49, 50, 51, 52, 53, 54, 55, 56, 57, 58, 59, 60, 61, 62, 63, 64, 65, 66, 67, 68, 69, 70, 71, 72, 73, 74, 75, 76, 77, 78, 79, 80, 81, 82, 83, 84, 85, 86, 87, 88, 89, 90, 91, 92, 93, 94, 95, 128, 129, 130, 131, 132, 133, 134, 135, 136, 137, 141, 142, 143, 144, 145, 146, 147, 148, 149, 150, 151, 152, 153, 154, 155, 156] (by decide +kernel) (by decide +kernel)
set_option maxRecDepth 20000 in
theorem gX7_levelAnew_X7_retell : GoodIn wsX7_levelAnew (wsV RX7 211 RX7 yX7_retell wsX7_retell) := goodIn_app (goodIn_of _ (by decide +kernel)) ggX7_levelAnew_X7_retell
set_option maxRecDepth 20000 in
theorem ggX7_levelAnew_X2_mix : GoodIn wsX7_levelAnew wsX2_mix := goodIn_r _ [99, 24, 58, 59, 60, 22, 61, 62, 100, 101, 102, 66, 103, 81, 104, 105, 106, 107, 108, 109, 110, 111, 112, 113, 114, 115, 116, 117, 118, 82, 91, 68, 92, 93, 94, 95, 119, 120, 121, 122, 123, 143, 144, 145, 146, 147, 148, 149, 150, 151, 152, 153, 154, 155, 156] (by decide +kernel) (by decide +kernel)
set_option maxRecDepth 20000 in
theorem gX7_levelAnew_X2_mix : GoodIn wsX7_levelAnew (wsV RX7 203 RX2 yX2_mix wsX2_mix) := goodIn_app (goodIn_of _ (by decide +kernel)) ggX7_levelAnew_X2_mix
set_option maxRecDepth 20000 in
theorem ggX7_levelAnew_X7_bitsOf : GoodIn wsX7_levelAnew wsX7_bitsOf := goodIn_r _ [126, 127] (by decide +kernel) (by decide +kernel)
set_option maxRecDepth 20000 in
theorem gX7_levelAnew_X7_bitsOf : GoodIn wsX7_levelAnew (va_wsS RX7 207 yX7_bitsOf wsX7_bitsOf) := goodIn_app (goodIn_of _ (by decide +kernel)) ggX7_levelAnew_X7_bitsOf
set_option maxRecDepth 20000 in
theorem ggX7_loadOf_X7_isPhase : GoodIn wsX7_loadOf wsX7_isPhase := goodIn_r _ [6, 7, 8, 5, 9] (by decide +kernel) (by decide +kernel)
set_option maxRecDepth 20000 in
theorem gX7_loadOf_X7_isPhase : GoodIn wsX7_loadOf (va_wsS RX7 64 yX7_isPhase wsX7_isPhase) := goodIn_app (goodIn_of _ (by decide +kernel)) ggX7_loadOf_X7_isPhase
set_option maxRecDepth 20000 in
theorem ggX7_loadOf_X7_loadNow : GoodIn wsX7_loadOf wsX7_loadNow := goodIn_r _ [13, 14, 15, 16, 17, 18, 19, 20, 21, 22, 23, 24, 25, 26, 27, 28, 29, 30, 31, 32, 33, 34, 35, 36, 37, 38, 39, 40, 41, 42, 43, 44, 45, 46, 47, 48, 49, 50, 51, 52, 53, 54, 55, 56, 57, 58, 59, 60, 61, 62, 63, 64, 65, 66, 67, 68, 69, 74, 75, 76, 77, 78, 79, 80, 81, 82, 83, 84, 85, 86, 87, 88, 89, 90, 91, 92, 93, 94, 95, 96, 97, 98, 99, 100, 101, 102, 103, 104, 105, 106] (by decide +kernel) (by decide +kernel)
set_option maxRecDepth 20000 in
theorem gX7_loadOf_X7_loadNow : GoodIn wsX7_loadOf (wsV RX7 214 RX7 yX7_loadNow wsX7_loadNow) := goodIn_app (goodIn_of _ (by decide +kernel)) ggX7_loadOf_X7_loadNow
set_option maxRecDepth 20000 in
theorem ggX7_loadOf_X7_bitsOf : GoodIn wsX7_loadOf wsX7_bitsOf := goodIn_r _ [72, 73] (by decide +kernel) (by decide +kernel)
set_option maxRecDepth 20000 in
theorem gX7_loadOf_X7_bitsOf : GoodIn wsX7_loadOf (va_wsS RX7 207 yX7_bitsOf wsX7_bitsOf) := goodIn_app (goodIn_of _ (by decide +kernel)) ggX7_loadOf_X7_bitsOf
set_option maxRecDepth 20000 in
theorem ggX7_watts_X7_isPhase : GoodIn wsX7_watts wsX7_isPhase := goodIn_r _ [6, 7, 8, 5, 9] (by decide +kernel) (by decide +kernel)
set_option maxRecDepth 20000 in
theorem gX7_watts_X7_isPhase : GoodIn wsX7_watts (va_wsS RX7 64 yX7_isPhase wsX7_isPhase) := goodIn_app (goodIn_of _ (by decide +kernel)) ggX7_watts_X7_isPhase
set_option maxRecDepth 20000 in
theorem ggX7_watts_X7_loadNow : GoodIn wsX7_watts wsX7_loadNow := goodIn_r _ [13, 14, 15, 16, 17, 18, 19, 20, 21, 22, 23, 24, 25, 26, 27, 28, 29, 30, 31, 32, 33, 34, 35, 36, 37, 38, 39, 40, 41, 42, 43, 44, 45, 46, 47, 48, 49, 50, 51, 52, 53, 54, 55, 56, 57, 58, 59, 60, 61, 62, 63, 64, 65, 66, 67, 68, 69, 70, 71, 72, 73, 74, 75, 76, 77, 78, 79, 80, 81, 82, 83, 84, 85, 86, 87, 88, 89, 90, 91, 92, 93, 94, 95, 96, 97, 98, 99, 100, 101, 102] (by decide +kernel) (by decide +kernel)
set_option maxRecDepth 20000 in
theorem gX7_watts_X7_loadNow : GoodIn wsX7_watts (wsV RX7 214 RX7 yX7_loadNow wsX7_loadNow) := goodIn_app (goodIn_of _ (by decide +kernel)) ggX7_watts_X7_loadNow
set_option maxRecDepth 20000 in
theorem ggX7_asks_X7_cueAt : GoodIn wsX7_asks wsX7_cueAt := goodIn_r _ [7, 8, 63, 64, 65, 66, 67, 68, 69, 70, 71, 72] (by decide +kernel) (by decide +kernel)
set_option maxRecDepth 20000 in
theorem gX7_asks_X7_cueAt : GoodIn wsX7_asks (wsV RX7 132 RX7 yX7_cueAt wsX7_cueAt) := goodIn_app (goodIn_of _ (by decide +kernel)) ggX7_asks_X7_cueAt
set_option maxRecDepth 20000 in
theorem ggX7_asks_X7_isPhase : GoodIn wsX7_asks wsX7_isPhase := goodIn_r _ [11, 12, 13, 6, 14] (by decide +kernel) (by decide +kernel)
set_option maxRecDepth 20000 in
theorem gX7_asks_X7_isPhase : GoodIn wsX7_asks (va_wsS RX7 64 yX7_isPhase wsX7_isPhase) := goodIn_app (goodIn_of _ (by decide +kernel)) ggX7_asks_X7_isPhase
set_option maxRecDepth 20000 in
theorem ggX7_asks_X7_wattsAsked : GoodIn wsX7_asks wsX7_wattsAsked := goodIn_r _ [18, 19, 20, 21, 22, 23, 24, 25, 26, 27, 28, 29, 30, 31, 32, 33, 34, 35, 36, 37, 38, 39, 40, 41, 42, 43, 44, 45, 46, 47, 48, 49, 50, 51, 52, 53, 54, 55, 56, 57, 58, 59, 60, 61, 62, 63, 64, 65, 66, 67, 68, 69, 70, 71, 72, 73, 74, 75, 76, 77, 78, 79, 80, 81, 82, 83, 84, 85, 86, 87, 88, 89, 90, 91, 92, 93, 94, 95] (by decide +kernel) (by decide +kernel)
set_option maxRecDepth 20000 in
theorem gX7_asks_X7_wattsAsked : GoodIn wsX7_asks (wsV RX7 220 RX7 yX7_wattsAsked wsX7_wattsAsked) := goodIn_app (goodIn_of _ (by decide +kernel)) ggX7_asks_X7_wattsAsked
set_option maxRecDepth 20000 in
theorem ggX7_shines_X7_cueAt : GoodIn wsX7_shines wsX7_cueAt := goodIn_r _ [8, 9, 22, 23, 24, 25, 26, 27, 28, 29, 30, 31] (by decide +kernel) (by decide +kernel)
set_option maxRecDepth 20000 in
theorem gX7_shines_X7_cueAt : GoodIn wsX7_shines (wsV RX7 132 RX7 yX7_cueAt wsX7_cueAt) := goodIn_app (goodIn_of _ (by decide +kernel)) ggX7_shines_X7_cueAt
set_option maxRecDepth 20000 in
theorem ggX7_shines_X5_lampAt : GoodIn wsX7_shines wsX5_lampAt := goodIn_r _ [14, 15, 32, 33, 34] (by decide +kernel) (by decide +kernel)
set_option maxRecDepth 20000 in
theorem gX7_shines_X5_lampAt : GoodIn wsX7_shines (wsV RX7 95 RX5 yX5_lampAt wsX5_lampAt) := goodIn_app (goodIn_of _ (by decide +kernel)) ggX7_shines_X5_lampAt
set_option maxRecDepth 20000 in
theorem ggX7_shines_X0_shinerFor : GoodIn wsX7_shines wsX0_shinerFor := goodIn_r _ [20, 21, 35, 36, 37, 38, 39, 40, 41, 42, 43] (by decide +kernel) (by decide +kernel)
set_option maxRecDepth 20000 in
theorem gX7_shines_X0_shinerFor : GoodIn wsX7_shines (wsV RX7 224 RX0 yX0_shinerFor wsX0_shinerFor) := goodIn_app (goodIn_of _ (by decide +kernel)) ggX7_shines_X0_shinerFor
set_option maxRecDepth 20000 in
theorem ggX7_playing_X7_cueAt : GoodIn wsX7_playing wsX7_cueAt := goodIn_r _ [12, 13, 57, 58, 59, 60, 61, 62, 63, 64, 65, 66] (by decide +kernel) (by decide +kernel)
set_option maxRecDepth 20000 in
theorem gX7_playing_X7_cueAt : GoodIn wsX7_playing (wsV RX7 132 RX7 yX7_cueAt wsX7_cueAt) := goodIn_app (goodIn_of _ (by decide +kernel)) ggX7_playing_X7_cueAt
set_option maxRecDepth 20000 in
theorem ggX7_playing_X7_isWithin : GoodIn wsX7_playing wsX7_isWithin := goodIn_r _ [16] (by decide +kernel) (by decide +kernel)
set_option maxRecDepth 20000 in
theorem gX7_playing_X7_isWithin : GoodIn wsX7_playing (va_wsS RX7 56 yX7_isWithin wsX7_isWithin) := goodIn_app (goodIn_of _ (by decide +kernel)) ggX7_playing_X7_isWithin
set_option maxRecDepth 20000 in
theorem ggX7_playing_X2_goingOf : GoodIn wsX7_playing wsX2_goingOf := goodIn_r _ [21, 22, 23, 24, 20, 25, 26, 27, 28, 29, 30, 31, 32, 70, 71, 67, 68, 69] (by decide +kernel) (by decide +kernel)
set_option maxRecDepth 20000 in
theorem gX7_playing_X2_goingOf : GoodIn wsX7_playing (wsV RX7 175 RX2 yX2_goingOf wsX2_goingOf) := goodIn_app (goodIn_of _ (by decide +kernel)) ggX7_playing_X2_goingOf
set_option maxRecDepth 20000 in
theorem ggX7_playing_X1_isReleased : GoodIn wsX7_playing wsX1_isReleased := goodIn_r _ [37, 38, 67, 68, 69] (by decide +kernel) (by decide +kernel)
set_option maxRecDepth 20000 in
theorem gX7_playing_X1_isReleased : GoodIn wsX7_playing (wsV RX7 179 RX1 yX1_isReleased wsX1_isReleased) := goodIn_app (goodIn_of _ (by decide +kernel)) ggX7_playing_X1_isReleased
set_option maxRecDepth 20000 in
theorem ggX7_playing_X1_master : GoodIn wsX7_playing wsX1_master := goodIn_r _ [42, 43, 44, 45, 38, 46, 34, 35, 36, 37, 47, 48, 49, 50, 51, 52, 67, 68, 69, 72, 73, 74, 75, 76, 77, 78, 79, 80] (by decide +kernel) (by decide +kernel)
set_option maxRecDepth 20000 in
theorem gX7_playing_X1_master : GoodIn wsX7_playing (wsV RX7 233 RX1 yX1_master wsX1_master) := goodIn_app (goodIn_of _ (by decide +kernel)) ggX7_playing_X1_master
set_option maxRecDepth 20000 in
theorem ggX7_playing_X7_bitsOf : GoodIn wsX7_playing wsX7_bitsOf := goodIn_r _ [55, 56] (by decide +kernel) (by decide +kernel)
set_option maxRecDepth 20000 in
theorem gX7_playing_X7_bitsOf : GoodIn wsX7_playing (va_wsS RX7 207 yX7_bitsOf wsX7_bitsOf) := goodIn_app (goodIn_of _ (by decide +kernel)) ggX7_playing_X7_bitsOf
set_option maxRecDepth 20000 in
theorem ggX7_isPhase_X7_isWithin : GoodIn wsX7_isPhase wsX7_isWithin := goodIn_r _ [4] (by decide +kernel) (by decide +kernel)
set_option maxRecDepth 20000 in
theorem gX7_isPhase_X7_isWithin : GoodIn wsX7_isPhase (va_wsS RX7 56 yX7_isWithin wsX7_isWithin) := goodIn_app (goodIn_of _ (by decide +kernel)) ggX7_isPhase_X7_isWithin
set_option maxRecDepth 20000 in
theorem ggX7_arrangeCues_X0_arrange : GoodIn wsX7_arrangeCues wsX0_arrange := goodIn_r _ [7, 8, 9, 10, 11, 12, 13, 14, 15, 16, 17, 18, 19, 20, 21, 22, 23, 24, 25, 26, 27, 28, 29, 30, 31, 32, 33, 34, 35, 36, 6, 37, 38, 39, 40, 41, 42, 43, 44, 45, 46, 47, 48, 59, 60, 61, 62, 63, 64, 65, 66, 67, 68, 69, 70, 71, 72, 73, 74, 75, 76] (by decide +kernel) (by decide +kernel)
set_option maxRecDepth 20000 in
theorem gX7_arrangeCues_X0_arrange : GoodIn wsX7_arrangeCues (wsV RX7 144 RX0 yX0_arrange wsX0_arrange) := goodIn_app (goodIn_of _ (by decide +kernel)) ggX7_arrangeCues_X0_arrange
set_option maxRecDepth 20000 in
theorem ggX7_canGo_X7_wattsAsked : GoodIn wsX7_canGo wsX7_wattsAsked := goodIn_r _ [6, 7, 8, 9, 10, 11, 12, 13, 14, 15, 16, 17, 18, 19, 20, 21, 22, 23, 24, 25, 26, 27, 28, 29, 30, 31, 32, 33, 34, 35, 36, 37, 38, 39, 40, 41, 42, 43, 44, 45, 46, 47, 48, 49, 50, 51, 52, 53, 54, 55, 56, 57, 58, 59, 60, 61, 62, 63, 64, 65, 66, 67, 68, 69, 70, 71, 72, 73, 74, 75, 76, 77, 78, 79, 80, 81, 82, 83] (by decide +kernel) (by decide +kernel)
set_option maxRecDepth 20000 in
theorem gX7_canGo_X7_wattsAsked : GoodIn wsX7_canGo (wsV RX7 220 RX7 yX7_wattsAsked wsX7_wattsAsked) := goodIn_app (goodIn_of _ (by decide +kernel)) ggX7_canGo_X7_wattsAsked
set_option maxRecDepth 20000 in
theorem ggX7_wattsAsked_X5_lampAt : GoodIn wsX7_wattsAsked wsX5_lampAt := goodIn_r _ [13, 14, 61, 62, 63] (by decide +kernel) (by decide +kernel)
set_option maxRecDepth 20000 in
theorem gX7_wattsAsked_X5_lampAt : GoodIn wsX7_wattsAsked (wsV RX7 95 RX5 yX5_lampAt wsX5_lampAt) := goodIn_app (goodIn_of _ (by decide +kernel)) ggX7_wattsAsked_X5_lampAt
set_option maxRecDepth 20000 in
theorem ggX7_wattsAsked_X0_levelFor : GoodIn wsX7_wattsAsked wsX0_levelFor := goodIn_r _ [19, 20, 64, 65, 66, 67, 68, 69, 70, 71, 72] (by decide +kernel) (by decide +kernel)
set_option maxRecDepth 20000 in
theorem gX7_wattsAsked_X0_levelFor : GoodIn wsX7_wattsAsked (wsV RX7 246 RX0 yX0_levelFor wsX0_levelFor) := goodIn_app (goodIn_of _ (by decide +kernel)) ggX7_wattsAsked_X0_levelFor
set_option maxRecDepth 20000 in
theorem ggX7_wattsAsked_X2_greatestUnreleased : GoodIn wsX7_wattsAsked wsX2_greatestUnreleased := goodIn_r _ [25, 26, 27, 6, 7, 8, 28, 29, 30, 24, 31, 32, 33, 34, 35, 36, 37, 38, 39, 40, 41, 42, 43, 44, 16, 17, 18, 19, 20, 73, 74, 75, 76, 77, 64, 65, 66, 67, 68, 69, 70, 71, 72] (by decide +kernel) (by decide +kernel)
set_option maxRecDepth 20000 in
theorem gX7_wattsAsked_X2_greatestUnreleased : GoodIn wsX7_wattsAsked (wsV RX7 249 RX2 yX2_greatestUnreleased wsX2_greatestUnreleased) := goodIn_app (goodIn_of _ (by decide +kernel)) ggX7_wattsAsked_X2_greatestUnreleased
set_option maxRecDepth 20000 in
theorem ggX7_begin_X2_begin : GoodIn wsX7_begin wsX2_begin := goodIn_r _ [12, 13, 14, 15, 16, 17, 11, 18, 19, 20, 21, 22, 23, 24, 25, 26, 27, 28, 29, 30, 31, 32, 33, 34, 35, 113, 114, 115, 116, 117] (by decide +kernel) (by decide +kernel)
set_option maxRecDepth 20000 in
theorem gX7_begin_X2_begin : GoodIn wsX7_begin (wsV RX7 257 RX2 yX2_begin wsX2_begin) := goodIn_app (goodIn_of _ (by decide +kernel)) ggX7_begin_X2_begin
set_option maxRecDepth 20000 in
theorem ggX7_begin_X3_writeGoing : GoodIn wsX7_begin wsX3_writeGoing := goodIn_r _ [40, 41, 42, 39, 43, 44, 45, 46, 47, 48, 49, 50, 51, 52, 53, 54, 55, 56, 57, 58, 59, 60, 61, 62, 63, 64, 65, 66, 67, 68, 69, 70, 71, 72, 73, 74, 75, 76, 77, 78, 79, 80, 81, 82, 83, 84, 85, 118, 119] (by decide +kernel) (by decide +kernel)
set_option maxRecDepth 20000 in
theorem gX7_begin_X3_writeGoing : GoodIn wsX7_begin (wsV RX7 260 RX3 yX3_writeGoing wsX3_writeGoing) := goodIn_app (goodIn_of _ (by decide +kernel)) ggX7_begin_X3_writeGoing
set_option maxRecDepth 20000 in
theorem ggX7_begin_X6_note : GoodIn wsX7_begin wsX6_note := goodIn_r _ [90, 91, 92, 93, 120, 121, 122, 123, 124] (by decide +kernel) (by decide +kernel)
set_option maxRecDepth 20000 in
theorem gX7_begin_X6_note : GoodIn wsX7_begin (wsV RX7 263 RX6 yX6_note wsX6_note) := goodIn_app (goodIn_of _ (by decide +kernel)) ggX7_begin_X6_note
set_option maxRecDepth 20000 in
theorem ggX7_passOne_X2_dropOver : GoodIn wsX7_passOne wsX2_dropOver := goodIn_r _ [10, 11, 12, 13, 14, 9, 15, 16, 17, 18, 19, 20, 21, 22, 23, 24, 25, 26, 27, 28, 29, 30, 31, 32, 177, 178, 179, 180, 181, 182, 183, 184, 185, 186, 187, 188, 189, 190] (by decide +kernel) (by decide +kernel)
set_option maxRecDepth 20000 in
theorem gX7_passOne_X2_dropOver : GoodIn wsX7_passOne (wsV RX7 197 RX2 yX2_dropOver wsX2_dropOver) := goodIn_app (goodIn_of _ (by decide +kernel)) ggX7_passOne_X2_dropOver
set_option maxRecDepth 20000 in
theorem ggX7_passOne_X6_takeDue : GoodIn wsX7_passOne wsX6_takeDue := goodIn_r _ [37, 38, 39, 40, 41, 42, 172, 173, 174, 175, 176] (by decide +kernel) (by decide +kernel)
set_option maxRecDepth 20000 in
theorem gX7_passOne_X6_takeDue : GoodIn wsX7_passOne (wsV RX7 266 RX6 yX6_takeDue wsX6_takeDue) := goodIn_app (goodIn_of _ (by decide +kernel)) ggX7_passOne_X6_takeDue
set_option maxRecDepth 20000 in
theorem ggX7_passOne_X6_readyAt : GoodIn wsX7_passOne wsX6_readyAt := goodIn_r _ [46, 38, 42, 172, 173, 174, 175, 176] (by decide +kernel) (by decide +kernel)
set_option maxRecDepth 20000 in
theorem gX7_passOne_X6_readyAt : GoodIn wsX7_passOne (wsV RX7 272 RX6 yX6_readyAt wsX6_readyAt) := goodIn_app (goodIn_of _ (by decide +kernel)) ggX7_passOne_X6_readyAt
set_option maxRecDepth 20000 in
theorem ggX7_passOne_X7_canGo : GoodIn wsX7_passOne wsX7_canGo := goodIn_r _ [51, 52, 53, 54, 55, 50, 56, 57, 58, 59, 2, 60, 61, 62, 63, 64, 65, 66, 67, 68, 69, 70, 71, 72, 73, 74, 75, 76, 77, 78, 9, 79, 11, 80, 12, 13, 14, 15, 16, 81, 26, 27, 20, 28, 23, 82, 83, 84, 85, 22, 86, 162, 163, 164, 165, 166, 167, 168, 169, 170, 171, 191, 192, 193, 194, 195, 196, 197, 198, 199, 182, 183, 184, 185, 186, 187, 188, 189, 190, 177, 178, 179, 180, 181] (by decide +kernel) (by decide +kernel)
set_option maxRecDepth 20000 in
theorem gX7_passOne_X7_canGo : GoodIn wsX7_passOne (wsV RX7 162 RX7 yX7_canGo wsX7_canGo) := goodIn_app (goodIn_of _ (by decide +kernel)) ggX7_passOne_X7_canGo
set_option maxRecDepth 20000 in
theorem ggX7_passOne_X7_begin : GoodIn wsX7_passOne wsX7_begin := goodIn_r _ [90, 2, 1, 91, 92, 93, 3, 94, 95, 96, 97, 9, 98, 11, 16, 99, 100, 101, 102, 103, 12, 13, 14, 15, 29, 30, 31, 32, 104, 105, 106, 20, 107, 22, 108, 23, 109, 110, 111, 112, 113, 114, 115, 116, 117, 118, 119, 120, 121, 122, 123, 124, 125, 126, 127, 128, 129, 130, 131, 132, 133, 134, 135, 136, 137, 138, 139, 140, 62, 141, 142, 143, 144, 145, 146, 147, 148, 149, 150, 151, 152, 153, 154, 155, 156, 157, 158, 159, 160, 36, 161, 39, 40, 41, 162, 163, 164, 165, 166, 167, 168, 169, 170, 171, 182, 183, 184, 185, 186, 187, 188, 189, 190, 177, 178, 179, 180, 181, 200, 201, 172, 173, 174, 175, 176] (by decide +kernel) (by decide +kernel)
set_option maxRecDepth 20000 in
theorem gX7_passOne_X7_begin : GoodIn wsX7_passOne (wsV RX7 168 RX7 yX7_begin wsX7_begin) := goodIn_app (goodIn_of _ (by decide +kernel)) ggX7_passOne_X7_begin
set_option maxRecDepth 20000 in
theorem ggX7_loadNow_X5_lampAt : GoodIn wsX7_loadNow wsX5_lampAt := goodIn_r _ [11, 12, 73, 74, 75] (by decide +kernel) (by decide +kernel)
set_option maxRecDepth 20000 in
theorem gX7_loadNow_X5_lampAt : GoodIn wsX7_loadNow (wsV RX7 95 RX5 yX5_lampAt wsX5_lampAt) := goodIn_app (goodIn_of _ (by decide +kernel)) ggX7_loadNow_X5_lampAt
set_option maxRecDepth 20000 in
theorem ggX7_loadNow_X2_mix : GoodIn wsX7_loadNow wsX2_mix := goodIn_r _ [17, 18, 19, 20, 21, 16, 22, 23, 24, 25, 26, 27, 28, 29, 30, 31, 32, 33, 34, 35, 36, 37, 38, 39, 40, 41, 42, 43, 44, 45, 46, 47, 48, 49, 50, 51, 52, 53, 54, 55, 56, 76, 77, 78, 79, 80, 81, 82, 83, 84, 85, 86, 87, 88, 89] (by decide +kernel) (by decide +kernel)
set_option maxRecDepth 20000 in
theorem gX7_loadNow_X2_mix : GoodIn wsX7_loadNow (wsV RX7 203 RX2 yX2_mix wsX2_mix) := goodIn_app (goodIn_of _ (by decide +kernel)) ggX7_loadNow_X2_mix
set_option maxRecDepth 20000 in
theorem ggX7_retell_X2_clear : GoodIn wsX7_retell wsX2_clear := goodIn_r _ [9, 10, 95, 96] (by decide +kernel) (by decide +kernel)
set_option maxRecDepth 20000 in
theorem gX7_retell_X2_clear : GoodIn wsX7_retell (wsV RX7 276 RX2 yX2_clear wsX2_clear) := goodIn_app (goodIn_of _ (by decide +kernel)) ggX7_retell_X2_clear
set_option maxRecDepth 20000 in
theorem ggX7_retell_X3_entryAt : GoodIn wsX7_retell wsX3_entryAt := goodIn_r _ [15, 16, 93, 94] (by decide +kernel) (by decide +kernel)
set_option maxRecDepth 20000 in
theorem gX7_retell_X3_entryAt : GoodIn wsX7_retell (wsV RX7 280 RX3 yX3_entryAt wsX3_entryAt) := goodIn_app (goodIn_of _ (by decide +kernel)) ggX7_retell_X3_entryAt
set_option maxRecDepth 20000 in
theorem ggX7_retell_X3_cueOf : GoodIn wsX7_retell wsX3_cueOf := goodIn_r _ [19] (by decide +kernel) (by decide +kernel)
set_option maxRecDepth 20000 in
theorem gX7_retell_X3_cueOf : GoodIn wsX7_retell (va_wsS RX7 283 yX3_cueOf wsX3_cueOf) := goodIn_app (goodIn_of _ (by decide +kernel)) ggX7_retell_X3_cueOf
set_option maxRecDepth 20000 in
theorem ggX7_retell_X7_cueAt : GoodIn wsX7_retell wsX7_cueAt := goodIn_r _ [24, 25, 83, 84, 85, 86, 87, 88, 89, 90, 91, 92] (by decide +kernel) (by decide +kernel)
set_option maxRecDepth 20000 in
theorem gX7_retell_X7_cueAt : GoodIn wsX7_retell (wsV RX7 132 RX7 yX7_cueAt wsX7_cueAt) := goodIn_app (goodIn_of _ (by decide +kernel)) ggX7_retell_X7_cueAt
set_option maxRecDepth 20000 in
theorem ggX7_retell_X3_isRelease : GoodIn wsX7_retell wsX3_isRelease := goodIn_r _ [28] (by decide +kernel) (by decide +kernel)
set_option maxRecDepth 20000 in
theorem gX7_retell_X3_isRelease : GoodIn wsX7_retell (va_wsS RX7 286 yX3_isRelease wsX3_isRelease) := goodIn_app (goodIn_of _ (by decide +kernel)) ggX7_retell_X3_isRelease
set_option maxRecDepth 20000 in
theorem ggX7_retell_X3_tickOf : GoodIn wsX7_retell wsX3_tickOf := goodIn_r _ [31] (by decide +kernel) (by decide +kernel)
set_option maxRecDepth 20000 in
theorem gX7_retell_X3_tickOf : GoodIn wsX7_retell (va_wsS RX7 289 yX3_tickOf wsX3_tickOf) := goodIn_app (goodIn_of _ (by decide +kernel)) ggX7_retell_X3_tickOf
set_option maxRecDepth 20000 in
theorem ggX7_retell_X2_fall : GoodIn wsX7_retell wsX2_fall := goodIn_r _ [35, 36, 37, 38, 8, 39, 40, 41, 42, 43, 10, 44, 45, 46, 47, 48, 49, 50, 51, 52, 53, 54, 55, 95, 96, 97, 98, 99] (by decide +kernel) (by decide +kernel)
set_option maxRecDepth 20000 in
theorem gX7_retell_X2_fall : GoodIn wsX7_retell (wsV RX7 292 RX2 yX2_fall wsX2_fall) := goodIn_app (goodIn_of _ (by decide +kernel)) ggX7_retell_X2_fall
set_option maxRecDepth 20000 in
theorem ggX7_retell_X2_begin : GoodIn wsX7_retell wsX2_begin := goodIn_r _ [59, 10, 49, 40, 41, 42, 8, 43, 44, 45, 46, 47, 48, 60, 61, 62, 63, 64, 65, 66, 53, 67, 68, 69, 55, 95, 96, 97, 98, 99] (by decide +kernel) (by decide +kernel)
set_option maxRecDepth 20000 in
theorem gX7_retell_X2_begin : GoodIn wsX7_retell (wsV RX7 257 RX2 yX2_begin wsX2_begin) := goodIn_app (goodIn_of _ (by decide +kernel)) ggX7_retell_X2_begin
set_option maxRecDepth 20000 in
theorem ggX7_retell_X2_dropOver : GoodIn wsX7_retell wsX2_dropOver := goodIn_r _ [73, 10, 45, 46, 47, 8, 48, 49, 74, 75, 76, 53, 77, 68, 55, 78, 79, 80, 81, 82, 60, 61, 62, 63, 95, 96, 97, 98, 99, 100, 101, 102, 103, 104, 105, 106, 107, 108] (by decide +kernel) (by decide +kernel)
set_option maxRecDepth 20000 in
theorem gX7_retell_X2_dropOver : GoodIn wsX7_retell (wsV RX7 197 RX2 yX2_dropOver wsX2_dropOver) := goodIn_app (goodIn_of _ (by decide +kernel)) ggX7_retell_X2_dropOver
set_option maxRecDepth 20000 in
theorem ggX8_isLamp_X8_isIn : GoodIn wsX8_isLamp wsX8_isIn := goodIn_r _ [5] (by decide +kernel) (by decide +kernel)
set_option maxRecDepth 20000 in
theorem gX8_isLamp_X8_isIn : GoodIn wsX8_isLamp (va_wsS RX8 87 yX8_isIn wsX8_isIn) := goodIn_app (goodIn_of _ (by decide +kernel)) ggX8_isLamp_X8_isIn
set_option maxRecDepth 20000 in
theorem ggX8_isCue_X8_isIn : GoodIn wsX8_isCue wsX8_isIn := goodIn_r _ [5] (by decide +kernel) (by decide +kernel)
set_option maxRecDepth 20000 in
theorem gX8_isCue_X8_isIn : GoodIn wsX8_isCue (va_wsS RX8 87 yX8_isIn wsX8_isIn) := goodIn_app (goodIn_of _ (by decide +kernel)) ggX8_isCue_X8_isIn
set_option maxRecDepth 20000 in
theorem ggX8_isPhase_X8_isIn : GoodIn wsX8_isPhase wsX8_isIn := goodIn_r _ [4] (by decide +kernel) (by decide +kernel)
set_option maxRecDepth 20000 in
theorem gX8_isPhase_X8_isIn : GoodIn wsX8_isPhase (va_wsS RX8 87 yX8_isIn wsX8_isIn) := goodIn_app (goodIn_of _ (by decide +kernel)) ggX8_isPhase_X8_isIn
set_option maxRecDepth 20000 in
theorem ggX8_lamp_X8_isIn : GoodIn wsX8_lamp wsX8_isIn := goodIn_r _ [10] (by decide +kernel) (by decide +kernel)
set_option maxRecDepth 20000 in
theorem gX8_lamp_X8_isIn : GoodIn wsX8_lamp (va_wsS RX8 87 yX8_isIn wsX8_isIn) := goodIn_app (goodIn_of _ (by decide +kernel)) ggX8_lamp_X8_isIn
set_option maxRecDepth 20000 in
theorem ggX8_lamp_X8_isPhase : GoodIn wsX8_lamp wsX8_isPhase := goodIn_r _ [13, 7, 8, 9, 10] (by decide +kernel) (by decide +kernel)
set_option maxRecDepth 20000 in
theorem gX8_lamp_X8_isPhase : GoodIn wsX8_lamp (va_wsS RX8 94 yX8_isPhase wsX8_isPhase) := goodIn_app (goodIn_of _ (by decide +kernel)) ggX8_lamp_X8_isPhase
set_option maxRecDepth 20000 in
theorem ggX8_lamp_X8_can : GoodIn wsX8_lamp wsX8_can := goodIn_r _ [17, 18, 19, 20, 21, 22, 23, 24, 25, 26, 27, 28, 29, 30, 31, 32, 33, 34, 35, 36, 37, 38, 39, 40, 41, 42, 43, 44, 45, 46, 47, 48] (by decide +kernel) (by decide +kernel)
set_option maxRecDepth 20000 in
theorem gX8_lamp_X8_can : GoodIn wsX8_lamp (wsV RX8 98 RX8 yX8_can wsX8_can) := goodIn_app (goodIn_of _ (by decide +kernel)) ggX8_lamp_X8_can
set_option maxRecDepth 20000 in
theorem ggX8_die_X8_isLamp : GoodIn wsX8_die wsX8_isLamp := goodIn_r _ [6, 7, 8, 9, 5, 10, 16, 17, 18, 19, 20, 21, 22, 23, 24, 25, 26, 27, 28, 29, 30, 31, 32, 33, 34, 35, 36, 37, 38, 39, 40, 41, 42, 43, 44, 45] (by decide +kernel) (by decide +kernel)
set_option maxRecDepth 20000 in
theorem gX8_die_X8_isLamp : GoodIn wsX8_die (wsV RX8 101 RX8 yX8_isLamp wsX8_isLamp) := goodIn_app (goodIn_of _ (by decide +kernel)) ggX8_die_X8_isLamp
set_option maxRecDepth 20000 in
theorem ggX8_die_X8_can : GoodIn wsX8_die wsX8_can := goodIn_r _ [14, 15, 16, 17, 18, 19, 20, 21, 22, 23, 24, 25, 26, 27, 28, 29, 30, 31, 32, 33, 34, 35, 36, 37, 38, 39, 40, 41, 42, 43, 44, 45] (by decide +kernel) (by decide +kernel)
set_option maxRecDepth 20000 in
theorem gX8_die_X8_can : GoodIn wsX8_die (wsV RX8 98 RX8 yX8_can wsX8_can) := goodIn_app (goodIn_of _ (by decide +kernel)) ggX8_die_X8_can
set_option maxRecDepth 20000 in
theorem ggX8_house_X8_isIn : GoodIn wsX8_house wsX8_isIn := goodIn_r _ [6] (by decide +kernel) (by decide +kernel)
set_option maxRecDepth 20000 in
theorem gX8_house_X8_isIn : GoodIn wsX8_house (va_wsS RX8 87 yX8_isIn wsX8_isIn) := goodIn_app (goodIn_of _ (by decide +kernel)) ggX8_house_X8_isIn
set_option maxRecDepth 20000 in
theorem ggX8_house_X8_can : GoodIn wsX8_house wsX8_can := goodIn_r _ [10, 11, 18, 19, 20, 21, 22, 23, 24, 25, 26, 27, 28, 29, 30, 31, 32, 33, 34, 35, 36, 37, 38, 39, 40, 41, 42, 43, 44, 45, 46, 47] (by decide +kernel) (by decide +kernel)
set_option maxRecDepth 20000 in
theorem gX8_house_X8_can : GoodIn wsX8_house (wsV RX8 98 RX8 yX8_can wsX8_can) := goodIn_app (goodIn_of _ (by decide +kernel)) ggX8_house_X8_can
set_option maxRecDepth 20000 in
theorem ggX8_house_X8_isUsable : GoodIn wsX8_house wsX8_isUsable := goodIn_r _ [15, 16, 1, 17, 18, 19, 20, 21, 22, 23, 24, 25, 26, 27, 28, 29, 30, 31, 32, 33, 34, 35, 36, 37, 38, 39, 40, 41, 42, 43, 44, 45, 46, 47] (by decide +kernel) (by decide +kernel)
set_option maxRecDepth 20000 in
theorem gX8_house_X8_isUsable : GoodIn wsX8_house (wsV RX8 104 RX8 yX8_isUsable wsX8_isUsable) := goodIn_app (goodIn_of _ (by decide +kernel)) ggX8_house_X8_isUsable
set_option maxRecDepth 20000 in
theorem ggX8_power_X8_isPhase : GoodIn wsX8_power wsX8_isPhase := goodIn_r _ [5, 6, 7, 4, 8] (by decide +kernel) (by decide +kernel)
set_option maxRecDepth 20000 in
theorem gX8_power_X8_isPhase : GoodIn wsX8_power (va_wsS RX8 94 yX8_isPhase wsX8_isPhase) := goodIn_app (goodIn_of _ (by decide +kernel)) ggX8_power_X8_isPhase
set_option maxRecDepth 20000 in
theorem ggX8_power_X8_isIn : GoodIn wsX8_power wsX8_isIn := goodIn_r _ [8] (by decide +kernel) (by decide +kernel)
set_option maxRecDepth 20000 in
theorem gX8_power_X8_isIn : GoodIn wsX8_power (va_wsS RX8 87 yX8_isIn wsX8_isIn) := goodIn_app (goodIn_of _ (by decide +kernel)) ggX8_power_X8_isIn
set_option maxRecDepth 20000 in
theorem ggX8_power_X8_can : GoodIn wsX8_power wsX8_can := goodIn_r _ [12, 13, 14, 15, 16, 17, 18, 19, 20, 21, 22, 23, 24, 25, 26, 27, 28, 29, 30, 31, 32, 33, 34, 35, 36, 37, 38, 39, 40, 41, 42, 43] (by decide +kernel) (by decide +kernel)
set_option maxRecDepth 20000 in
theorem gX8_power_X8_can : GoodIn wsX8_power (wsV RX8 98 RX8 yX8_can wsX8_can) := goodIn_app (goodIn_of _ (by decide +kernel)) ggX8_power_X8_can
set_option maxRecDepth 20000 in
theorem ggX8_cue_X8_isIn : GoodIn wsX8_cue wsX8_isIn := goodIn_r _ [10] (by decide +kernel) (by decide +kernel)
set_option maxRecDepth 20000 in
theorem gX8_cue_X8_isIn : GoodIn wsX8_cue (va_wsS RX8 87 yX8_isIn wsX8_isIn) := goodIn_app (goodIn_of _ (by decide +kernel)) ggX8_cue_X8_isIn
set_option maxRecDepth 20000 in
theorem ggX8_cue_X8_can : GoodIn wsX8_cue wsX8_can := goodIn_r _ [14, 15, 16, 17, 18, 19, 20, 21, 22, 23, 24, 25, 26, 27, 28, 29, 30, 31, 32, 33, 34, 35, 36, 37, 38, 39, 40, 41, 42, 43, 44, 45] (by decide +kernel) (by decide +kernel)
set_option maxRecDepth 20000 in
theorem gX8_cue_X8_can : GoodIn wsX8_cue (wsV RX8 98 RX8 yX8_can wsX8_can) := goodIn_app (goodIn_of _ (by decide +kernel)) ggX8_cue_X8_can
set_option maxRecDepth 20000 in
theorem ggX8_level_X8_isCue : GoodIn wsX8_level wsX8_isCue := goodIn_r _ [6, 7, 8, 9, 5, 10, 21, 22, 23, 24, 25, 26, 27, 28, 29, 30, 31, 32, 33, 34, 35, 36, 37, 38, 39, 40, 41, 42, 43, 44, 45, 46, 47, 48, 49, 50] (by decide +kernel) (by decide +kernel)
set_option maxRecDepth 20000 in
theorem gX8_level_X8_isCue : GoodIn wsX8_level (wsV RX8 107 RX8 yX8_isCue wsX8_isCue) := goodIn_app (goodIn_of _ (by decide +kernel)) ggX8_level_X8_isCue
set_option maxRecDepth 20000 in
theorem ggX8_level_X8_isLamp : GoodIn wsX8_level wsX8_isLamp := goodIn_r _ [14, 15, 8, 9, 5, 10, 21, 22, 23, 24, 25, 26, 27, 28, 29, 30, 31, 32, 33, 34, 35, 36, 37, 38, 39, 40, 41, 42, 43, 44, 45, 46, 47, 48, 49, 50] (by decide +kernel) (by decide +kernel)
set_option maxRecDepth 20000 in
theorem gX8_level_X8_isLamp : GoodIn wsX8_level (wsV RX8 101 RX8 yX8_isLamp wsX8_isLamp) := goodIn_app (goodIn_of _ (by decide +kernel)) ggX8_level_X8_isLamp
set_option maxRecDepth 20000 in
theorem ggX8_level_X8_isIn : GoodIn wsX8_level wsX8_isIn := goodIn_r _ [10] (by decide +kernel) (by decide +kernel)
set_option maxRecDepth 20000 in
theorem gX8_level_X8_isIn : GoodIn wsX8_level (va_wsS RX8 87 yX8_isIn wsX8_isIn) := goodIn_app (goodIn_of _ (by decide +kernel)) ggX8_level_X8_isIn
set_option maxRecDepth 20000 in
theorem ggX8_level_X8_can : GoodIn wsX8_level wsX8_can := goodIn_r _ [19, 20, 21, 22, 23, 24, 25, 26, 27, 28, 29, 30, 31, 32, 33, 34, 35, 36, 37, 38, 39, 40, 41, 42, 43, 44, 45, 46, 47, 48, 49, 50] (by decide +kernel) (by decide +kernel)
set_option maxRecDepth 20000 in
theorem gX8_level_X8_can : GoodIn wsX8_level (wsV RX8 98 RX8 yX8_can wsX8_can) := goodIn_app (goodIn_of _ (by decide +kernel)) ggX8_level_X8_can
set_option maxRecDepth 20000 in
theorem ggX8_follow_X8_isCue : GoodIn wsX8_follow wsX8_isCue := goodIn_r _ [7, 8, 9, 10, 6, 11, 17, 18, 19, 20, 21, 22, 23, 24, 25, 26, 27, 28, 29, 30, 31, 32, 33, 34, 35, 36, 37, 38, 39, 40, 41, 42, 43, 44, 45, 46] (by decide +kernel) (by decide +kernel)
set_option maxRecDepth 20000 in
theorem gX8_follow_X8_isCue : GoodIn wsX8_follow (wsV RX8 107 RX8 yX8_isCue wsX8_isCue) := goodIn_app (goodIn_of _ (by decide +kernel)) ggX8_follow_X8_isCue
set_option maxRecDepth 20000 in
theorem ggX8_follow_X8_isIn : GoodIn wsX8_follow wsX8_isIn := goodIn_r _ [11] (by decide +kernel) (by decide +kernel)
set_option maxRecDepth 20000 in
theorem gX8_follow_X8_isIn : GoodIn wsX8_follow (va_wsS RX8 87 yX8_isIn wsX8_isIn) := goodIn_app (goodIn_of _ (by decide +kernel)) ggX8_follow_X8_isIn
set_option maxRecDepth 20000 in
theorem ggX8_follow_X8_can : GoodIn wsX8_follow wsX8_can := goodIn_r _ [15, 16, 17, 18, 19, 20, 21, 22, 23, 24, 25, 26, 27, 28, 29, 30, 31, 32, 33, 34, 35, 36, 37, 38, 39, 40, 41, 42, 43, 44, 45, 46] (by decide +kernel) (by decide +kernel)
set_option maxRecDepth 20000 in
theorem gX8_follow_X8_can : GoodIn wsX8_follow (wsV RX8 98 RX8 yX8_can wsX8_can) := goodIn_app (goodIn_of _ (by decide +kernel)) ggX8_follow_X8_can
set_option maxRecDepth 20000 in
theorem ggX8_distance_X8_size : GoodIn wsX8_distance wsX8_size := goodIn_r _ [6] (by decide +kernel) (by decide +kernel)
set_option maxRecDepth 20000 in
theorem gX8_distance_X8_size : GoodIn wsX8_distance (va_wsS RX8 110 yX8_size wsX8_size) := goodIn_app (goodIn_of _ (by decide +kernel)) ggX8_distance_X8_size
set_option maxRecDepth 20000 in
theorem ggX8_nearest_X8_isUsable : GoodIn wsX8_nearest wsX8_isUsable := goodIn_r _ [9, 10, 11, 12, 21, 22, 23, 24, 25, 26, 27, 28, 29, 30, 31, 32, 33, 34, 35, 36, 37, 38, 39, 40, 41, 42, 43, 44, 45, 46, 47, 48, 49, 50] (by decide +kernel) (by decide +kernel)
set_option maxRecDepth 20000 in
theorem gX8_nearest_X8_isUsable : GoodIn wsX8_nearest (wsV RX8 104 RX8 yX8_isUsable wsX8_isUsable) := goodIn_app (goodIn_of _ (by decide +kernel)) ggX8_nearest_X8_isUsable
set_option maxRecDepth 20000 in
theorem ggX8_nearest_X8_distance : GoodIn wsX8_nearest wsX8_distance := goodIn_r _ [16, 12, 17, 18, 19, 8, 20, 21, 22, 23, 24, 25, 26, 27, 28, 29, 30, 31, 32, 33, 34, 35, 36, 37, 38, 39, 40, 41, 42, 43, 44, 45, 46, 47, 48, 49, 50] (by decide +kernel) (by decide +kernel)
set_option maxRecDepth 20000 in
theorem gX8_nearest_X8_distance : GoodIn wsX8_nearest (wsV RX8 114 RX8 yX8_distance wsX8_distance) := goodIn_app (goodIn_of _ (by decide +kernel)) ggX8_nearest_X8_distance
set_option maxRecDepth 20000 in
theorem ggX8_finds_X8_isUsable : GoodIn wsX8_finds wsX8_isUsable := goodIn_r _ [9, 10, 11, 12, 26, 27, 28, 29, 30, 31, 32, 33, 34, 35, 36, 37, 38, 39, 40, 41, 42, 43, 44, 45, 46, 47, 48, 49, 50, 51, 52, 53, 54, 55] (by decide +kernel) (by decide +kernel)
set_option maxRecDepth 20000 in
theorem gX8_finds_X8_isUsable : GoodIn wsX8_finds (wsV RX8 104 RX8 yX8_isUsable wsX8_isUsable) := goodIn_app (goodIn_of _ (by decide +kernel)) ggX8_finds_X8_isUsable
set_option maxRecDepth 20000 in
theorem ggX8_finds_X8_nearest : GoodIn wsX8_finds wsX8_nearest := goodIn_r _ [16, 1, 17, 2, 3, 5, 6, 7, 8, 9, 10, 11, 12, 18, 19, 20, 21, 22, 23, 24, 25, 26, 27, 28, 29, 30, 31, 32, 33, 34, 35, 36, 37, 38, 39, 40, 41, 42, 43, 44, 45, 46, 47, 48, 49, 50, 51, 52, 53, 54, 55] (by decide +kernel) (by decide +kernel)
set_option maxRecDepth 20000 in
theorem gX8_finds_X8_nearest : GoodIn wsX8_finds (wsV RX8 118 RX8 yX8_nearest wsX8_nearest) := goodIn_app (goodIn_of _ (by decide +kernel)) ggX8_finds_X8_nearest
set_option maxRecDepth 20000 in
theorem ggX8_raises_X8_finds : GoodIn wsX8_raises wsX8_finds := goodIn_r _ [8, 1, 9, 3, 10, 11, 12, 13, 7, 14, 15, 16, 17, 18, 19, 20, 21, 22, 23, 24, 25, 26, 27, 28, 29, 30, 31, 32, 33, 34, 35, 36, 37, 38, 39, 40, 41, 42, 43, 44, 45, 46, 47, 48, 49, 50, 51, 52, 53, 54, 55, 56, 57, 58, 59, 60] (by decide +kernel) (by decide +kernel)
set_option maxRecDepth 20000 in
theorem gX8_raises_X8_finds : GoodIn wsX8_raises (wsV RX8 121 RX8 yX8_finds wsX8_finds) := goodIn_app (goodIn_of _ (by decide +kernel)) ggX8_raises_X8_finds
set_option maxRecDepth 20000 in
theorem ggX8_asked_X8_raises : GoodIn wsX8_asked wsX8_raises := goodIn_r _ [12, 1, 2, 13, 14, 15, 16, 11, 17, 18, 19, 20, 21, 22, 23, 24, 25, 26, 27, 28, 29, 30, 31, 32, 33, 34, 35, 36, 37, 38, 39, 40, 41, 42, 43, 44, 45, 46, 47, 48, 49, 50, 51, 52, 53, 54, 55, 56, 57, 58, 59, 60, 61, 62, 63, 64, 65, 66, 67, 68, 69] (by decide +kernel) (by decide +kernel)
set_option maxRecDepth 20000 in
theorem gX8_asked_X8_raises : GoodIn wsX8_asked (wsV RX8 125 RX8 yX8_raises wsX8_raises) := goodIn_app (goodIn_of _ (by decide +kernel)) ggX8_asked_X8_raises
set_option maxRecDepth 20000 in
theorem ggX8_mayGo_X8_asked : GoodIn wsX8_mayGo wsX8_asked := goodIn_r _ [6, 7, 8, 9, 10, 11, 12, 13, 14, 15, 16, 5, 17, 18, 19, 20, 21, 22, 23, 24, 25, 26, 27, 28, 29, 30, 31, 32, 33, 34, 35, 36, 37, 38, 39, 40, 41, 42, 43, 44, 45, 46, 47, 48, 49, 50, 51, 52, 53, 54, 55, 56, 57, 58, 59, 60, 61, 62, 63, 64, 65, 66, 67, 68, 69, 70, 71, 72, 73, 74] (by decide +kernel) (by decide +kernel)
set_option maxRecDepth 20000 in
theorem gX8_mayGo_X8_asked : GoodIn wsX8_mayGo (wsV RX8 128 RX8 yX8_asked wsX8_asked) := goodIn_app (goodIn_of _ (by decide +kernel)) ggX8_mayGo_X8_asked
set_option maxRecDepth 20000 in
theorem ggX8_go_X8_isCue : GoodIn wsX8_go wsX8_isCue := goodIn_r _ [5, 6, 7, 8, 4, 9, 78, 79, 80, 81, 82, 83, 84, 85, 86, 87, 88, 89, 90, 91, 92, 93, 94, 95, 96, 97, 98, 99, 100, 101, 102, 103, 104, 105, 106, 107] (by decide +kernel) (by decide +kernel)
set_option maxRecDepth 20000 in
theorem gX8_go_X8_isCue : GoodIn wsX8_go (wsV RX8 107 RX8 yX8_isCue wsX8_isCue) := goodIn_app (goodIn_of _ (by decide +kernel)) ggX8_go_X8_isCue
set_option maxRecDepth 20000 in
theorem ggX8_go_X8_mayGo : GoodIn wsX8_go wsX8_mayGo := goodIn_r _ [13, 14, 15, 16, 17, 4, 18, 19, 20, 6, 21, 22, 23, 24, 25, 26, 27, 28, 29, 30, 31, 32, 33, 34, 35, 36, 37, 38, 39, 40, 41, 42, 43, 44, 45, 46, 47, 48, 49, 50, 51, 52, 53, 54, 55, 78, 79, 80, 81, 82, 83, 84, 85, 86, 87, 88, 89, 90, 91, 92, 93, 94, 95, 96, 97, 98, 99, 100, 101, 102, 103, 104, 105, 106, 107] (by decide +kernel) (by decide +kernel)
set_option maxRecDepth 20000 in
theorem gX8_go_X8_mayGo : GoodIn wsX8_go (wsV RX8 140 RX8 yX8_mayGo wsX8_mayGo) := goodIn_app (goodIn_of _ (by decide +kernel)) ggX8_go_X8_mayGo
set_option maxRecDepth 20000 in
theorem ggX8_go_X8_can : GoodIn wsX8_go wsX8_can := goodIn_r _ [59, 60, 78, 79, 80, 81, 82, 83, 84, 85, 86, 87, 88, 89, 90, 91, 92, 93, 94, 95, 96, 97, 98, 99, 100, 101, 102, 103, 104, 105, 106, 107] (by decide +kernel) (by decide +kernel)
set_option maxRecDepth 20000 in
theorem gX8_go_X8_can : GoodIn wsX8_go (wsV RX8 98 RX8 yX8_can wsX8_can) := goodIn_app (goodIn_of _ (by decide +kernel)) ggX8_go_X8_can
set_option maxRecDepth 20000 in
theorem ggX8_go_X8_goes : GoodIn wsX8_go wsX8_goes := goodIn_r _ [64, 21, 65, 66, 22, 67, 68, 69, 70, 71, 72, 73, 78, 79, 80, 81, 82, 83, 84, 85, 86, 87, 88, 89, 90, 91, 92, 93, 94, 95, 96, 97, 98, 99, 100, 101, 102, 103, 104, 105, 106, 107] (by decide +kernel) (by decide +kernel)
set_option maxRecDepth 20000 in
theorem gX8_go_X8_goes : GoodIn wsX8_go (wsV RX8 143 RX8 yX8_goes wsX8_goes) := goodIn_app (goodIn_of _ (by decide +kernel)) ggX8_go_X8_goes
set_option maxRecDepth 20000 in
theorem ggX8_go_X8_active : GoodIn wsX8_go wsX8_active := goodIn_r _ [77, 6, 21, 78, 79, 80, 81, 82, 83, 84, 85, 86, 87, 88, 89, 90, 91, 92, 93, 94, 95, 96, 97, 98, 99, 100, 101, 102, 103, 104, 105, 106, 107] (by decide +kernel) (by decide +kernel)
set_option maxRecDepth 20000 in
theorem gX8_go_X8_active : GoodIn wsX8_go (wsV RX8 146 RX8 yX8_active wsX8_active) := goodIn_app (goodIn_of _ (by decide +kernel)) ggX8_go_X8_active
set_option maxRecDepth 20000 in
theorem ggX8_release_X8_isCue : GoodIn wsX8_release wsX8_isCue := goodIn_r _ [8, 9, 10, 11, 7, 12, 23, 24, 25, 26, 27, 28, 29, 30, 31, 32, 33, 34, 35, 36, 37, 38, 39, 40, 41, 42, 43, 44, 45, 46, 47, 48, 49, 50, 51, 52] (by decide +kernel) (by decide +kernel)
set_option maxRecDepth 20000 in
theorem gX8_release_X8_isCue : GoodIn wsX8_release (wsV RX8 107 RX8 yX8_isCue wsX8_isCue) := goodIn_app (goodIn_of _ (by decide +kernel)) ggX8_release_X8_isCue
set_option maxRecDepth 20000 in
theorem ggX8_release_X8_can : GoodIn wsX8_release wsX8_can := goodIn_r _ [16, 17, 23, 24, 25, 26, 27, 28, 29, 30, 31, 32, 33, 34, 35, 36, 37, 38, 39, 40, 41, 42, 43, 44, 45, 46, 47, 48, 49, 50, 51, 52] (by decide +kernel) (by decide +kernel)
set_option maxRecDepth 20000 in
theorem gX8_release_X8_can : GoodIn wsX8_release (wsV RX8 98 RX8 yX8_can wsX8_can) := goodIn_app (goodIn_of _ (by decide +kernel)) ggX8_release_X8_can
set_option maxRecDepth 20000 in
theorem ggX8_release_X8_ends : GoodIn wsX8_release wsX8_ends := goodIn_r _ [21, 1, 2, 3, 22, 23, 24, 25, 26, 27, 28, 29, 30, 31, 32, 33, 34, 35, 36, 37, 38, 39, 40, 41, 42, 43, 44, 45, 46, 47, 48, 49, 50, 51, 52] (by decide +kernel) (by decide +kernel)
set_option maxRecDepth 20000 in
theorem gX8_release_X8_ends : GoodIn wsX8_release (wsV RX8 150 RX8 yX8_ends wsX8_ends) := goodIn_app (goodIn_of _ (by decide +kernel)) ggX8_release_X8_ends
set_option maxRecDepth 20000 in
theorem ggX8_follows_X8_mayGo : GoodIn wsX8_follows wsX8_mayGo := goodIn_r _ [10, 11, 12, 13, 14, 9, 15, 16, 17, 18, 19, 20, 21, 22, 23, 24, 25, 26, 27, 28, 29, 30, 31, 32, 33, 34, 35, 36, 37, 38, 39, 40, 41, 42, 43, 44, 45, 46, 47, 48, 49, 50, 51, 52, 53, 63, 64, 65, 66, 67, 68, 69, 70, 71, 72, 73, 74, 75, 76, 77, 78, 79, 80, 81, 82, 83, 84, 85, 86, 87, 88, 89, 90, 91, 92] (by decide +kernel) (by decide +kernel)
set_option maxRecDepth 20000 in
theorem gX8_follows_X8_mayGo : GoodIn wsX8_follows (wsV RX8 140 RX8 yX8_mayGo wsX8_mayGo) := goodIn_app (goodIn_of _ (by decide +kernel)) ggX8_follows_X8_mayGo
set_option maxRecDepth 20000 in
theorem ggX8_follows_X8_goes : GoodIn wsX8_follows wsX8_goes := goodIn_r _ [57, 19, 58, 3, 20, 59, 60, 61, 4, 1, 2, 62, 63, 64, 65, 66, 67, 68, 69, 70, 71, 72, 73, 74, 75, 76, 77, 78, 79, 80, 81, 82, 83, 84, 85, 86, 87, 88, 89, 90, 91, 92] (by decide +kernel) (by decide +kernel)
set_option maxRecDepth 20000 in
theorem gX8_follows_X8_goes : GoodIn wsX8_follows (wsV RX8 143 RX8 yX8_goes wsX8_goes) := goodIn_app (goodIn_of _ (by decide +kernel)) ggX8_follows_X8_goes
set_option maxRecDepth 20000 in
theorem ggX8_pass_X8_isIn : GoodIn wsX8_pass wsX8_isIn := goodIn_r _ [6] (by decide +kernel) (by decide +kernel)
set_option maxRecDepth 20000 in
theorem gX8_pass_X8_isIn : GoodIn wsX8_pass (va_wsS RX8 87 yX8_isIn wsX8_isIn) := goodIn_app (goodIn_of _ (by decide +kernel)) ggX8_pass_X8_isIn
set_option maxRecDepth 20000 in
theorem ggX8_pass_X8_can : GoodIn wsX8_pass wsX8_can := goodIn_r _ [10, 11, 80, 81, 82, 83, 84, 85, 86, 87, 88, 89, 90, 91, 92, 93, 94, 95, 96, 97, 98, 99, 100, 101, 102, 103, 104, 105, 106, 107, 108, 109] (by decide +kernel) (by decide +kernel)
set_option maxRecDepth 20000 in
theorem gX8_pass_X8_can : GoodIn wsX8_pass (wsV RX8 98 RX8 yX8_can wsX8_can) := goodIn_app (goodIn_of _ (by decide +kernel)) ggX8_pass_X8_can
set_option maxRecDepth 20000 in
theorem ggX8_pass_X8_ends : GoodIn wsX8_pass wsX8_ends := goodIn_r _ [15, 16, 17, 1, 18, 80, 81, 82, 83, 84, 85, 86, 87, 88, 89, 90, 91, 92, 93, 94, 95, 96, 97, 98, 99, 100, 101, 102, 103, 104, 105, 106, 107, 108, 109] (by decide +kernel) (by decide +kernel)
set_option maxRecDepth 20000 in
theorem gX8_pass_X8_ends : GoodIn wsX8_pass (wsV RX8 150 RX8 yX8_ends wsX8_ends) := goodIn_app (goodIn_of _ (by decide +kernel)) ggX8_pass_X8_ends
set_option maxRecDepth 20000 in
theorem ggX8_pass_X8_follows : GoodIn wsX8_pass wsX8_follows := goodIn_r _ [22, 23, 24, 1, 25, 26, 27, 28, 29, 5, 30, 31, 32, 33, 34, 35, 36, 37, 2, 16, 17, 38, 39, 40, 41, 42, 43, 44, 45, 46, 47, 48, 49, 50, 51, 52, 53, 54, 55, 56, 57, 58, 59, 60, 61, 62, 63, 64, 65, 66, 67, 68, 69, 70, 71, 72, 73, 74, 75, 76, 77, 78, 79, 80, 81, 82, 83, 84, 85, 86, 87, 88, 89, 90, 91, 92, 93, 94, 95, 96, 97, 98, 99, 100, 101, 102, 103, 104, 105, 106, 107, 108, 109] (by decide +kernel) (by decide +kernel)
set_option maxRecDepth 20000 in
theorem gX8_pass_X8_follows : GoodIn wsX8_pass (wsV RX8 156 RX8 yX8_follows wsX8_follows) := goodIn_app (goodIn_of _ (by decide +kernel)) ggX8_pass_X8_follows
set_option maxRecDepth 20000 in
theorem ggX8_master_X8_rising : GoodIn wsX8_master wsX8_rising := goodIn_r _ [8, 9, 10, 11, 12, 13, 14, 15, 16, 17, 18, 19, 20, 21, 22, 23, 24, 25, 26, 27, 28, 29, 30, 31, 32, 33, 34, 35, 36, 37, 38, 39, 40] (by decide +kernel) (by decide +kernel)
set_option maxRecDepth 20000 in
theorem gX8_master_X8_rising : GoodIn wsX8_master (wsV RX8 159 RX8 yX8_rising wsX8_rising) := goodIn_app (goodIn_of _ (by decide +kernel)) ggX8_master_X8_rising
set_option maxRecDepth 20000 in
theorem ggX8_levelNow_X8_after : GoodIn wsX8_levelNow wsX8_after := goodIn_r _ [8, 9, 10, 3, 51, 52, 53, 54, 55, 56, 57, 58, 59, 60, 61, 62, 63, 64, 65, 66, 67, 68, 69, 70, 71, 72, 73, 74, 75, 76, 77, 78, 79, 80] (by decide +kernel) (by decide +kernel)
set_option maxRecDepth 20000 in
theorem gX8_levelNow_X8_after : GoodIn wsX8_levelNow (wsV RX8 163 RX8 yX8_after wsX8_after) := goodIn_app (goodIn_of _ (by decide +kernel)) ggX8_levelNow_X8_after
set_option maxRecDepth 20000 in
theorem ggX8_levelNow_X8_finds : GoodIn wsX8_levelNow wsX8_finds := goodIn_r _ [14, 15, 16, 2, 17, 18, 19, 20, 7, 21, 22, 23, 24, 25, 26, 27, 28, 29, 30, 31, 32, 33, 34, 35, 36, 37, 51, 52, 53, 54, 55, 56, 57, 58, 59, 60, 61, 62, 63, 64, 65, 66, 67, 68, 69, 70, 71, 72, 73, 74, 75, 76, 77, 78, 79, 80] (by decide +kernel) (by decide +kernel)
set_option maxRecDepth 20000 in
theorem gX8_levelNow_X8_finds : GoodIn wsX8_levelNow (wsV RX8 121 RX8 yX8_finds wsX8_finds) := goodIn_app (goodIn_of _ (by decide +kernel)) ggX8_levelNow_X8_finds
set_option maxRecDepth 20000 in
theorem ggX8_levelNow_X8_master : GoodIn wsX8_levelNow wsX8_master := goodIn_r _ [41, 42, 43, 44, 45, 46, 47, 7, 48, 49, 50, 51, 52, 53, 54, 55, 56, 57, 58, 59, 60, 61, 62, 63, 64, 65, 66, 67, 68, 69, 70, 71, 72, 73, 74, 75, 76, 77, 78, 79, 80] (by decide +kernel) (by decide +kernel)
set_option maxRecDepth 20000 in
theorem gX8_levelNow_X8_master : GoodIn wsX8_levelNow (wsV RX8 166 RX8 yX8_master wsX8_master) := goodIn_app (goodIn_of _ (by decide +kernel)) ggX8_levelNow_X8_master
set_option maxRecDepth 20000 in
theorem ggX8_load_X8_levelNow : GoodIn wsX8_load wsX8_levelNow := goodIn_r _ [9, 10, 11, 12, 13, 14, 15, 8, 16, 17, 18, 19, 20, 21, 22, 1, 23, 24, 25, 26, 27, 28, 29, 30, 31, 32, 33, 34, 35, 36, 37, 38, 39, 40, 41, 42, 43, 44, 45, 46, 47, 48, 49, 50, 51, 52, 53, 54, 55, 56, 57, 58, 59, 60, 61, 62, 63, 64, 65, 66, 67, 68, 69, 70, 71, 72, 73, 74, 75, 76, 77, 78, 79, 80, 81, 82, 83, 84, 85, 86, 87] (by decide +kernel) (by decide +kernel)
set_option maxRecDepth 20000 in
theorem gX8_load_X8_levelNow : GoodIn wsX8_load (wsV RX8 170 RX8 yX8_levelNow wsX8_levelNow) := goodIn_app (goodIn_of _ (by decide +kernel)) ggX8_load_X8_levelNow
set_option maxRecDepth 20000 in
theorem ggX8_levelOf_X8_isLamp : GoodIn wsX8_levelOf wsX8_isLamp := goodIn_r _ [5, 6, 7, 8, 4, 9, 72, 73, 74, 75, 76, 77, 78, 79, 80, 81, 82, 83, 84, 85, 86, 87, 88, 89, 90, 91, 92, 93, 94, 95, 96, 97, 98, 99, 100, 101] (by decide +kernel) (by decide +kernel)
set_option maxRecDepth 20000 in
theorem gX8_levelOf_X8_isLamp : GoodIn wsX8_levelOf (wsV RX8 101 RX8 yX8_isLamp wsX8_isLamp) := goodIn_app (goodIn_of _ (by decide +kernel)) ggX8_levelOf_X8_isLamp
set_option maxRecDepth 20000 in
theorem ggX8_levelOf_X8_can : GoodIn wsX8_levelOf wsX8_can := goodIn_r _ [13, 14, 72, 73, 74, 75, 76, 77, 78, 79, 80, 81, 82, 83, 84, 85, 86, 87, 88, 89, 90, 91, 92, 93, 94, 95, 96, 97, 98, 99, 100, 101] (by decide +kernel) (by decide +kernel)
set_option maxRecDepth 20000 in
theorem gX8_levelOf_X8_can : GoodIn wsX8_levelOf (wsV RX8 98 RX8 yX8_can wsX8_can) := goodIn_app (goodIn_of _ (by decide +kernel)) ggX8_levelOf_X8_can
set_option maxRecDepth 20000 in
theorem ggX8_levelOf_X8_levelNow : GoodIn wsX8_levelOf wsX8_levelNow := goodIn_r _ [18, 19, 20, 21, 22, 23, 24, 4, 25, 26, 27, 28, 29, 30, 31, 6, 32, 33, 34, 35, 36, 37, 38, 39, 40, 41, 42, 43, 44, 45, 46, 47, 48, 49, 50, 51, 52, 53, 54, 55, 56, 57, 58, 59, 60, 61, 62, 63, 64, 65, 66, 72, 73, 74, 75, 76, 77, 78, 79, 80, 81, 82, 83, 84, 85, 86, 87, 88, 89, 90, 91, 92, 93, 94, 95, 96, 97, 98, 99, 100, 101] (by decide +kernel) (by decide +kernel)
set_option maxRecDepth 20000 in
theorem gX8_levelOf_X8_levelNow : GoodIn wsX8_levelOf (wsV RX8 170 RX8 yX8_levelNow wsX8_levelNow) := goodIn_app (goodIn_of _ (by decide +kernel)) ggX8_levelOf_X8_levelNow
set_option maxRecDepth 20000 in
theorem ggX8_levelOf_X8_bitsOf : GoodIn wsX8_levelOf wsX8_bitsOf := goodIn_r _ [69, 70, 71] (by decide +kernel) (by decide +kernel)
set_option maxRecDepth 20000 in
theorem gX8_levelOf_X8_bitsOf : GoodIn wsX8_levelOf (va_wsS RX8 176 yX8_bitsOf wsX8_bitsOf) := goodIn_app (goodIn_of _ (by decide +kernel)) ggX8_levelOf_X8_bitsOf
set_option maxRecDepth 20000 in
theorem ggX8_levelAnew_X8_isLamp : GoodIn wsX8_levelAnew wsX8_isLamp := goodIn_r _ [5, 6, 7, 8, 4, 9, 72, 73, 74, 75, 76, 77, 78, 79, 80, 81, 82, 83, 84, 85, 86, 87, 88, 89, 90, 91, 92, 93, 94, 95, 96, 97, 98, 99, 100, 101] (by decide +kernel) (by decide +kernel)
set_option maxRecDepth 20000 in
theorem gX8_levelAnew_X8_isLamp : GoodIn wsX8_levelAnew (wsV RX8 101 RX8 yX8_isLamp wsX8_isLamp) := goodIn_app (goodIn_of _ (by decide +kernel)) ggX8_levelAnew_X8_isLamp
set_option maxRecDepth 20000 in
theorem ggX8_levelAnew_X8_can : GoodIn wsX8_levelAnew wsX8_can := goodIn_r _ [13, 14, 72, 73, 74, 75, 76, 77, 78, 79, 80, 81, 82, 83, 84, 85, 86, 87, 88, 89, 90, 91, 92, 93, 94, 95, 96, 97, 98, 99, 100, 101] (by decide +kernel) (by decide +kernel)
set_option maxRecDepth 20000 in
theorem gX8_levelAnew_X8_can : GoodIn wsX8_levelAnew (wsV RX8 98 RX8 yX8_can wsX8_can) := goodIn_app (goodIn_of _ (by decide +kernel)) ggX8_levelAnew_X8_can
set_option maxRecDepth 20000 in
theorem ggX8_levelAnew_X8_levelNow : GoodIn wsX8_levelAnew wsX8_levelNow := goodIn_r _ [18, 19, 20, 21, 22, 23, 24, 4, 25, 26, 27, 28, 29, 30, 31, 6, 32, 33, 34, 35, 36, 37, 38, 39, 40, 41, 42, 43, 44, 45, 46, 47, 48, 49, 50, 51, 52, 53, 54, 55, 56, 57, 58, 59, 60, 61, 62, 63, 64, 65, 66, 72, 73, 74, 75, 76, 77, 78, 79, 80, 81, 82, 83, 84, 85, 86, 87, 88, 89, 90, 91, 92, 93, 94, 95, 96, 97, 98, 99, 100, 101] (by decide +kernel) (by decide +kernel)
set_option maxRecDepth 20000 in
theorem gX8_levelAnew_X8_levelNow : GoodIn wsX8_levelAnew (wsV RX8 170 RX8 yX8_levelNow wsX8_levelNow) := goodIn_app (goodIn_of _ (by decide +kernel)) ggX8_levelAnew_X8_levelNow
set_option maxRecDepth 20000 in
theorem ggX8_levelAnew_X8_bitsOf : GoodIn wsX8_levelAnew wsX8_bitsOf := goodIn_r _ [69, 70, 71] (by decide +kernel) (by decide +kernel)
set_option maxRecDepth 20000 in
theorem gX8_levelAnew_X8_bitsOf : GoodIn wsX8_levelAnew (va_wsS RX8 176 yX8_bitsOf wsX8_bitsOf) := goodIn_app (goodIn_of _ (by decide +kernel)) ggX8_levelAnew_X8_bitsOf
set_option maxRecDepth 20000 in
theorem ggX8_loadOf_X8_isPhase : GoodIn wsX8_loadOf wsX8_isPhase := goodIn_r _ [4, 5, 6, 3, 7] (by decide +kernel) (by decide +kernel)
set_option maxRecDepth 20000 in
theorem gX8_loadOf_X8_isPhase : GoodIn wsX8_loadOf (va_wsS RX8 94 yX8_isPhase wsX8_isPhase) := goodIn_app (goodIn_of _ (by decide +kernel)) ggX8_loadOf_X8_isPhase
set_option maxRecDepth 20000 in
theorem ggX8_loadOf_X8_can : GoodIn wsX8_loadOf wsX8_can := goodIn_r _ [11, 12, 78, 79, 80, 81, 82, 83, 84, 85, 86, 87, 88, 89, 90, 91, 92, 93, 94, 95, 96, 97, 98, 99, 100, 101, 102, 103, 104, 105, 106, 107] (by decide +kernel) (by decide +kernel)
set_option maxRecDepth 20000 in
theorem gX8_loadOf_X8_can : GoodIn wsX8_loadOf (wsV RX8 98 RX8 yX8_can wsX8_can) := goodIn_app (goodIn_of _ (by decide +kernel)) ggX8_loadOf_X8_can
set_option maxRecDepth 20000 in
theorem ggX8_loadOf_X8_load : GoodIn wsX8_loadOf wsX8_load := goodIn_r _ [16, 17, 18, 19, 20, 21, 22, 23, 3, 24, 25, 26, 27, 28, 29, 30, 31, 32, 33, 34, 35, 36, 37, 38, 39, 40, 41, 42, 43, 44, 45, 46, 47, 48, 49, 50, 51, 52, 53, 54, 55, 56, 57, 58, 59, 60, 61, 62, 63, 64, 65, 66, 67, 68, 69, 70, 71, 72, 78, 79, 80, 81, 82, 83, 84, 85, 86, 87, 88, 89, 90, 91, 92, 93, 94, 95, 96, 97, 98, 99, 100, 101, 102, 103, 104, 105, 106, 107] (by decide +kernel) (by decide +kernel)
set_option maxRecDepth 20000 in
theorem gX8_loadOf_X8_load : GoodIn wsX8_loadOf (wsV RX8 180 RX8 yX8_load wsX8_load) := goodIn_app (goodIn_of _ (by decide +kernel)) ggX8_loadOf_X8_load
set_option maxRecDepth 20000 in
theorem ggX8_loadOf_X8_bitsOf : GoodIn wsX8_loadOf wsX8_bitsOf := goodIn_r _ [75, 76, 77] (by decide +kernel) (by decide +kernel)
set_option maxRecDepth 20000 in
theorem gX8_loadOf_X8_bitsOf : GoodIn wsX8_loadOf (va_wsS RX8 176 yX8_bitsOf wsX8_bitsOf) := goodIn_app (goodIn_of _ (by decide +kernel)) ggX8_loadOf_X8_bitsOf
set_option maxRecDepth 20000 in
theorem ggX8_watts_X8_isPhase : GoodIn wsX8_watts wsX8_isPhase := goodIn_r _ [4, 5, 6, 3, 7] (by decide +kernel) (by decide +kernel)
set_option maxRecDepth 20000 in
theorem gX8_watts_X8_isPhase : GoodIn wsX8_watts (va_wsS RX8 94 yX8_isPhase wsX8_isPhase) := goodIn_app (goodIn_of _ (by decide +kernel)) ggX8_watts_X8_isPhase
set_option maxRecDepth 20000 in
theorem ggX8_watts_X8_can : GoodIn wsX8_watts wsX8_can := goodIn_r _ [11, 12, 73, 74, 75, 76, 77, 78, 79, 80, 81, 82, 83, 84, 85, 86, 87, 88, 89, 90, 91, 92, 93, 94, 95, 96, 97, 98, 99, 100, 101, 102] (by decide +kernel) (by decide +kernel)
set_option maxRecDepth 20000 in
theorem gX8_watts_X8_can : GoodIn wsX8_watts (wsV RX8 98 RX8 yX8_can wsX8_can) := goodIn_app (goodIn_of _ (by decide +kernel)) ggX8_watts_X8_can
set_option maxRecDepth 20000 in
theorem ggX8_watts_X8_load : GoodIn wsX8_watts wsX8_load := goodIn_r _ [16, 17, 18, 19, 20, 21, 22, 23, 3, 24, 25, 26, 27, 28, 29, 30, 31, 32, 33, 34, 35, 36, 37, 38, 39, 40, 41, 42, 43, 44, 45, 46, 47, 48, 49, 50, 51, 52, 53, 54, 55, 56, 57, 58, 59, 60, 61, 62, 63, 64, 65, 66, 67, 68, 69, 70, 71, 72, 73, 74, 75, 76, 77, 78, 79, 80, 81, 82, 83, 84, 85, 86, 87, 88, 89, 90, 91, 92, 93, 94, 95, 96, 97, 98, 99, 100, 101, 102] (by decide +kernel) (by decide +kernel)
set_option maxRecDepth 20000 in
theorem gX8_watts_X8_load : GoodIn wsX8_watts (wsV RX8 180 RX8 yX8_load wsX8_load) := goodIn_app (goodIn_of _ (by decide +kernel)) ggX8_watts_X8_load
set_option maxRecDepth 20000 in
theorem ggX8_asks_X8_isCue : GoodIn wsX8_asks wsX8_isCue := goodIn_r _ [5, 6, 7, 8, 4, 9, 59, 60, 61, 62, 63, 64, 65, 66, 67, 68, 69, 70, 71, 72, 73, 74, 75, 76, 77, 78, 79, 80, 81, 82, 83, 84, 85, 86, 87, 88] (by decide +kernel) (by decide +kernel)
set_option maxRecDepth 20000 in
theorem gX8_asks_X8_isCue : GoodIn wsX8_asks (wsV RX8 107 RX8 yX8_isCue wsX8_isCue) := goodIn_app (goodIn_of _ (by decide +kernel)) ggX8_asks_X8_isCue
set_option maxRecDepth 20000 in
theorem ggX8_asks_X8_isPhase : GoodIn wsX8_asks wsX8_isPhase := goodIn_r _ [12, 7, 8, 4, 9] (by decide +kernel) (by decide +kernel)
set_option maxRecDepth 20000 in
theorem gX8_asks_X8_isPhase : GoodIn wsX8_asks (va_wsS RX8 94 yX8_isPhase wsX8_isPhase) := goodIn_app (goodIn_of _ (by decide +kernel)) ggX8_asks_X8_isPhase
set_option maxRecDepth 20000 in
theorem ggX8_asks_X8_can : GoodIn wsX8_asks wsX8_can := goodIn_r _ [16, 17, 59, 60, 61, 62, 63, 64, 65, 66, 67, 68, 69, 70, 71, 72, 73, 74, 75, 76, 77, 78, 79, 80, 81, 82, 83, 84, 85, 86, 87, 88] (by decide +kernel) (by decide +kernel)
set_option maxRecDepth 20000 in
theorem gX8_asks_X8_can : GoodIn wsX8_asks (wsV RX8 98 RX8 yX8_can wsX8_can) := goodIn_app (goodIn_of _ (by decide +kernel)) ggX8_asks_X8_can
set_option maxRecDepth 20000 in
theorem ggX8_asks_X8_asked : GoodIn wsX8_asks wsX8_asked := goodIn_r _ [21, 22, 23, 6, 24, 25, 26, 27, 28, 29, 30, 4, 31, 32, 33, 34, 35, 36, 37, 38, 39, 40, 41, 42, 43, 44, 45, 46, 47, 48, 49, 50, 51, 52, 53, 54, 55, 56, 57, 58, 59, 60, 61, 62, 63, 64, 65, 66, 67, 68, 69, 70, 71, 72, 73, 74, 75, 76, 77, 78, 79, 80, 81, 82, 83, 84, 85, 86, 87, 88] (by decide +kernel) (by decide +kernel)
set_option maxRecDepth 20000 in
theorem gX8_asks_X8_asked : GoodIn wsX8_asks (wsV RX8 128 RX8 yX8_asked wsX8_asked) := goodIn_app (goodIn_of _ (by decide +kernel)) ggX8_asks_X8_asked
set_option maxRecDepth 20000 in
theorem ggX8_shines_X8_isCue : GoodIn wsX8_shines wsX8_isCue := goodIn_r _ [6, 7, 8, 9, 5, 10, 47, 48, 49, 50, 51, 52, 53, 54, 55, 56, 57, 58, 59, 60, 61, 62, 63, 64, 65, 66, 67, 68, 69, 70, 71, 72, 73, 74, 75, 76] (by decide +kernel) (by decide +kernel)
set_option maxRecDepth 20000 in
theorem gX8_shines_X8_isCue : GoodIn wsX8_shines (wsV RX8 107 RX8 yX8_isCue wsX8_isCue) := goodIn_app (goodIn_of _ (by decide +kernel)) ggX8_shines_X8_isCue
set_option maxRecDepth 20000 in
theorem ggX8_shines_X8_isLamp : GoodIn wsX8_shines wsX8_isLamp := goodIn_r _ [14, 15, 8, 9, 5, 10, 47, 48, 49, 50, 51, 52, 53, 54, 55, 56, 57, 58, 59, 60, 61, 62, 63, 64, 65, 66, 67, 68, 69, 70, 71, 72, 73, 74, 75, 76] (by decide +kernel) (by decide +kernel)
set_option maxRecDepth 20000 in
theorem gX8_shines_X8_isLamp : GoodIn wsX8_shines (wsV RX8 101 RX8 yX8_isLamp wsX8_isLamp) := goodIn_app (goodIn_of _ (by decide +kernel)) ggX8_shines_X8_isLamp
set_option maxRecDepth 20000 in
theorem ggX8_shines_X8_can : GoodIn wsX8_shines wsX8_can := goodIn_r _ [19, 20, 47, 48, 49, 50, 51, 52, 53, 54, 55, 56, 57, 58, 59, 60, 61, 62, 63, 64, 65, 66, 67, 68, 69, 70, 71, 72, 73, 74, 75, 76] (by decide +kernel) (by decide +kernel)
set_option maxRecDepth 20000 in
theorem gX8_shines_X8_can : GoodIn wsX8_shines (wsV RX8 98 RX8 yX8_can wsX8_can) := goodIn_app (goodIn_of _ (by decide +kernel)) ggX8_shines_X8_can
set_option maxRecDepth 20000 in
theorem ggX8_shines_X8_finds : GoodIn wsX8_shines wsX8_finds := goodIn_r _ [24, 15, 25, 26, 1, 27, 28, 29, 5, 30, 31, 32, 33, 34, 35, 36, 37, 38, 39, 40, 41, 42, 43, 44, 45, 46, 47, 48, 49, 50, 51, 52, 53, 54, 55, 56, 57, 58, 59, 60, 61, 62, 63, 64, 65, 66, 67, 68, 69, 70, 71, 72, 73, 74, 75, 76] (by decide +kernel) (by decide +kernel)
set_option maxRecDepth 20000 in
theorem gX8_shines_X8_finds : GoodIn wsX8_shines (wsV RX8 121 RX8 yX8_finds wsX8_finds) := goodIn_app (goodIn_of _ (by decide +kernel)) ggX8_shines_X8_finds
set_option maxRecDepth 20000 in
theorem ggX8_playing_X8_isCue : GoodIn wsX8_playing wsX8_isCue := goodIn_r _ [8, 9, 10, 11, 7, 12, 34, 35, 36, 37, 38, 39, 40, 41, 42, 43, 44, 45, 46, 47, 48, 49, 50, 51, 52, 53, 54, 55, 56, 57, 58, 59, 60, 61, 62, 63] (by decide +kernel) (by decide +kernel)
set_option maxRecDepth 20000 in
theorem gX8_playing_X8_isCue : GoodIn wsX8_playing (wsV RX8 107 RX8 yX8_isCue wsX8_isCue) := goodIn_app (goodIn_of _ (by decide +kernel)) ggX8_playing_X8_isCue
set_option maxRecDepth 20000 in
theorem ggX8_playing_X8_isIn : GoodIn wsX8_playing wsX8_isIn := goodIn_r _ [12] (by decide +kernel) (by decide +kernel)
set_option maxRecDepth 20000 in
theorem gX8_playing_X8_isIn : GoodIn wsX8_playing (va_wsS RX8 87 yX8_isIn wsX8_isIn) := goodIn_app (goodIn_of _ (by decide +kernel)) ggX8_playing_X8_isIn
set_option maxRecDepth 20000 in
theorem ggX8_playing_X8_can : GoodIn wsX8_playing wsX8_can := goodIn_r _ [16, 17, 34, 35, 36, 37, 38, 39, 40, 41, 42, 43, 44, 45, 46, 47, 48, 49, 50, 51, 52, 53, 54, 55, 56, 57, 58, 59, 60, 61, 62, 63] (by decide +kernel) (by decide +kernel)
set_option maxRecDepth 20000 in
theorem gX8_playing_X8_can : GoodIn wsX8_playing (wsV RX8 98 RX8 yX8_can wsX8_can) := goodIn_app (goodIn_of _ (by decide +kernel)) ggX8_playing_X8_can
set_option maxRecDepth 20000 in
theorem ggX8_playing_X8_master : GoodIn wsX8_playing wsX8_master := goodIn_r _ [21, 2, 22, 23, 24, 25, 26, 7, 27, 28, 3, 34, 35, 36, 37, 38, 39, 40, 41, 42, 43, 44, 45, 46, 47, 48, 49, 50, 51, 52, 53, 54, 55, 56, 57, 58, 59, 60, 61, 62, 63] (by decide +kernel) (by decide +kernel)
set_option maxRecDepth 20000 in
theorem gX8_playing_X8_master : GoodIn wsX8_playing (wsV RX8 166 RX8 yX8_master wsX8_master) := goodIn_app (goodIn_of _ (by decide +kernel)) ggX8_playing_X8_master
set_option maxRecDepth 20000 in
theorem ggX8_playing_X8_bitsOf : GoodIn wsX8_playing wsX8_bitsOf := goodIn_r _ [31, 32, 33] (by decide +kernel) (by decide +kernel)
set_option maxRecDepth 20000 in
theorem gX8_playing_X8_bitsOf : GoodIn wsX8_playing (va_wsS RX8 176 yX8_bitsOf wsX8_bitsOf) := goodIn_app (goodIn_of _ (by decide +kernel)) ggX8_playing_X8_bitsOf
end
section
/-! THE LAYER: a goal of a walk with the heap as a map from addresses to cells, and the locals as a list; rows of the kit told in these words -/
abbrev HM : Type := Nat → Option va_E
def x_up (h : HM) (a : Nat) (e : va_E) : HM := fun q => if q = a then some e else h q
theorem x_up_eq (h : HM) (a : Nat) (e : va_E) : x_up h a e a = some e := if_pos rfl
theorem x_up_ne {h : HM} {a b : Nat} {e : va_E} (n : b ≠ a) : x_up h a e b = h b := if_neg n
abbrev XG : Type := Launch × va_G × (Nat → ClassId) × (Nat → Prop)
abbrev XF : Type := Program × Env × Room × State × MethodId × Array Value × List Frame × Method × Code
abbrev g_l (G : XG) : Launch := G.1
abbrev g_D (G : XG) : va_G := G.2.1
abbrev g_c (G : XG) : Nat → ClassId := G.2.2.1
abbrev g_A (G : XG) : Nat → Prop := G.2.2.2
abbrev f_p (F : XF) : Program := F.1
abbrev f_e (F : XF) : Env := F.2.1
abbrev f_R (F : XF) : Room := F.2.2.1
abbrev f_s (F : XF) : State := F.2.2.2.1
abbrev f_m (F : XF) : MethodId := F.2.2.2.2.1
abbrev f_a (F : XF) : Array Value := F.2.2.2.2.2.1
abbrev f_b (F : XF) : List Frame := F.2.2.2.2.2.2.1
abbrev f_t (F : XF) : Method := F.2.2.2.2.2.2.2.1
abbrev f_c (F : XF) : Code := F.2.2.2.2.2.2.2.2
/-- the arrays' classes: ints, booleans, longs, lamps, cues, goings -/
def x_T (c : Nat → ClassId) : List (ClassId × FieldType) := [(c 0, .int), (c 1, .boolean), (c 2, .long), (c 3, .object RX4), (c 4, .object RX0), (c 5, .object RX1)]
def x_H (G : XG) (h : HM) (H : Heap) : Prop := ∀ (a : Nat) (e : va_E), h a = some e → va_at (g_D G) vwCl (a, e) H ∧ g_A G a
def x_loc (ls : Array Slot) (L : List (Option Value)) : Prop := ls.size = L.length ∧ lv_wf ls ∧ ∀ (i : Nat) (v : Value), L[i]? = some (some v) → ls[i]? = some (.val v) ∧ v.category = 1
def x_pairs (L : List (Option Value)) : List (Nat × Value) := (List.range L.length).filterMap (fun i => (L[i]?).join.map (fun v => (i, v)))
theorem x_pairs_mem {L : List (Option Value)} {i : Nat} {v : Value} (h : L[i]? = some (some v)) : (i, v) ∈ x_pairs L := by
  refine List.mem_filterMap.mpr ⟨i, List.mem_range.mpr (List.getElem?_eq_some_iff.mp h).1, ?_⟩
  rw [h]
  rfl
theorem x_loc.has {ls : Array Slot} {L : List (Option Value)} (h : x_loc ls L) : lv_has ls L.length (x_pairs L) := by
  refine ⟨h.1, h.2.1, fun q hq => ?_⟩
  obtain ⟨i, -, hi⟩ := List.mem_filterMap.mp hq
  cases hv : L[i]? with
  | none => rw [hv] at hi; cases hi
  | some o =>
    rw [hv] at hi
    cases o with
    | none => cases hi
    | some v =>
      cases hi
      exact (h.2.2 i v hv).1
theorem x_loc.set {ls ls' : Array Slot} {L : List (Option Value)} {i : Nat} {v : Value} (h : x_loc ls L) (hi : i < L.length) (hc : v.category = 1) (h' : lv_has ls' L.length ((i, v) :: (x_pairs L).filter (fun q => !(q.1 == i) && !(q.1 + 1 == i && q.2.category == 2)))) : x_loc ls' (L.set i (some v)) := by
  refine ⟨by rw [h'.1, List.length_set], h'.2.1, fun j w hj => ?_⟩
  by_cases e : j = i
  · subst e
    rw [List.getElem?_set_self hi] at hj
    cases hj
    exact ⟨h'.2.2 (j, v) List.mem_cons_self, hc⟩
  · rw [List.getElem?_set_ne (Ne.symm e)] at hj
    have hw := h.2.2 j w hj
    refine ⟨h'.2.2 (j, w) (List.mem_cons_of_mem _ (List.mem_filter.mpr ⟨x_pairs_mem hj, ?_⟩)), hw.2⟩
    simp [e, hw.2]
def x_E (G : XG) (F : XF) (cc : ByteArray) (own : String) (Ts : List Cond) (nL : Nat) (ret : Option FieldType) (rm : Room) : Prop :=
  (f_p F).tables.exec = Jvm.exec ∧ (f_c F).code = cc ∧ (f_c F).maxLocals = nL ∧ (f_s F).vm.findClass own = some (f_m F).cls ∧ (∀ w ∈ Ts, w.before (f_a F) (f_s F) = true) ∧ va_K (g_D G) vwCl (x_T (g_c G)) (f_s F) ∧ (f_t F).locks = false ∧ (f_t F).sig.returnType = ret ∧ f_R F = rm ∧ (∀ q, (f_s F).heap.size ≤ q → g_A G q)
def x_W (G : XG) (F : XF) (Q : State → Prop) (k n : Nat) (h : HM) (pc : Nat) (L : List (Option Value)) (st : List Value) : Prop :=
  ∀ (H : Heap) (locs : List Loc) (ls : Array Slot), x_H G h H → va_S (g_A G) (f_s F).heap H locs → x_loc ls L → W (f_p F) (g_l G) (f_e F) (f_R F) (f_s F) (f_m F) (f_a F) (f_b F) (f_t F) (f_c F) H locs k n Q (F0 (f_m F) pc ls st)
def x_rv : Value → Bool | .ref _ => true | .null => true | _ => false
theorem x_rv_rf (r : Option Nat) : x_rv (va_rf r) = true := by cases r <;> rfl
section X1
variable {G : XG} {F : XF} {cc : ByteArray} {own : String} {Ts : List Cond} {nL : Nat} {ret : Option FieldType} {rm : Room} {Q : State → Prop} {a b : Nat} {h : HM} {pc : Nat} {L L' : List (Option Value)} {st : List Value}
theorem x_iconst (hE : x_E G F cc own Ts nL ret rm) {n : Int} {v : Int32} (d : decode cc pc = .ok (.iconst n, 1)) (hv : Int32.ofInt n = v) (kk : x_W G F Q a b h (pc + 1) L (.int v :: st)) : x_W G F Q a b h pc L st := fun H locs ls hH hS hL => lv_iconst hE.1 hE.2.1 d hv (kk H locs ls hH hS hL)
theorem x_bipush (hE : x_E G F cc own Ts nL ret rm) {n : Int} {v : Int32} (d : decode cc pc = .ok (.bipush n, 2)) (hv : (Int8.ofInt n).toInt32 = v) (kk : x_W G F Q a b h (pc + 2) L (.int v :: st)) : x_W G F Q a b h pc L st := fun H locs ls hH hS hL => lv_bipush hE.1 hE.2.1 d hv (kk H locs ls hH hS hL)
theorem x_sipush (hE : x_E G F cc own Ts nL ret rm) {n : Int} {v : Int32} (d : decode cc pc = .ok (.sipush n, 3)) (hv : (Int16.ofInt n).toInt32 = v) (kk : x_W G F Q a b h (pc + 3) L (.int v :: st)) : x_W G F Q a b h pc L st := fun H locs ls hH hS hL => lv_sipush hE.1 hE.2.1 d hv (kk H locs ls hH hS hL)
theorem x_lconst (hE : x_E G F cc own Ts nL ret rm) {n : Fin 2} {v : Int64} (d : decode cc pc = .ok (.lconst n, 1)) (hv : Int64.ofNat (n : Nat) = v) (kk : x_W G F Q a b h (pc + 1) L (.long v :: st)) : x_W G F Q a b h pc L st := fun H locs ls hH hS hL => lv_lconst hE.1 hE.2.1 d hv (kk H locs ls hH hS hL)
theorem x_ldc (hE : x_E G F cc own Ts nL ret rm) {index : Nat} {v : Int32} (hw : Jvm.Cond.constant own index v ∈ Ts) (d : decode cc pc = .ok (.ldc index, 2)) (kk : x_W G F Q a b h (pc + 2) L (.int v :: st)) : x_W G F Q a b h pc L st := fun H locs ls hH hS hL => lv_ldc hE.1 hE.2.1 hE.2.2.2.1 (hE.2.2.2.2.1 _ hw) d (kk H locs ls hH hS hL)
theorem x_ldcf (hE : x_E G F cc own Ts nL ret rm) {index : Nat} {v : UInt32} (hw : Jvm.Cond.constantFloat own index v ∈ Ts) (d : decode cc pc = .ok (.ldc index, 2)) (kk : x_W G F Q a b h (pc + 2) L (.float v :: st)) : x_W G F Q a b h pc L st := fun H locs ls hH hS hL => lv_ldcf hE.1 hE.2.1 hE.2.2.2.1 (hE.2.2.2.2.1 _ hw) d (kk H locs ls hH hS hL)
theorem x_ldcw (hE : x_E G F cc own Ts nL ret rm) {index : Nat} {v : Int32} (hw : Jvm.Cond.constant own index v ∈ Ts) (d : decode cc pc = .ok (.ldc_w index, 3)) (kk : x_W G F Q a b h (pc + 3) L (.int v :: st)) : x_W G F Q a b h pc L st := fun H locs ls hH hS hL => lv_ldcw hE.1 hE.2.1 hE.2.2.2.1 (hE.2.2.2.2.1 _ hw) d (kk H locs ls hH hS hL)
theorem x_null (hE : x_E G F cc own Ts nL ret rm) (d : decode cc pc = .ok (.aconst_null, 1)) (kk : x_W G F Q a b h (pc + 1) L (.null :: st)) : x_W G F Q a b h pc L st := fun H locs ls hH hS hL => lv_null hE.1 hE.2.1 d (kk H locs ls hH hS hL)
theorem x_iload_n (hE : x_E G F cc own Ts nL ret rm) {k : Fin 4} {x : Int32} (d : decode cc pc = .ok (.iload_n k, 1)) (hl : L[(k : Nat)]? = some (some (.int x))) (kk : x_W G F Q a b h (pc + 1) L (.int x :: st)) : x_W G F Q a b h pc L st := fun H locs ls hH hS hL => lv_iload_n hE.1 hE.2.1 d rfl (hL.2.2 _ _ hl).1 (kk H locs ls hH hS hL)
theorem x_iload (hE : x_E G F cc own Ts nL ret rm) {i : Nat} {x : Int32} (d : decode cc pc = .ok (.iload i, 2)) (hl : L[i]? = some (some (.int x))) (kk : x_W G F Q a b h (pc + 2) L (.int x :: st)) : x_W G F Q a b h pc L st := fun H locs ls hH hS hL => lv_iload hE.1 hE.2.1 d (hL.2.2 _ _ hl).1 (kk H locs ls hH hS hL)
theorem x_fload_n (hE : x_E G F cc own Ts nL ret rm) {k : Fin 4} {x : UInt32} (d : decode cc pc = .ok (.fload_n k, 1)) (hl : L[(k : Nat)]? = some (some (.float x))) (kk : x_W G F Q a b h (pc + 1) L (.float x :: st)) : x_W G F Q a b h pc L st := fun H locs ls hH hS hL => lv_fload_n hE.1 hE.2.1 d rfl (hL.2.2 _ _ hl).1 (kk H locs ls hH hS hL)
theorem x_fload (hE : x_E G F cc own Ts nL ret rm) {i : Nat} {x : UInt32} (d : decode cc pc = .ok (.fload i, 2)) (hl : L[i]? = some (some (.float x))) (kk : x_W G F Q a b h (pc + 2) L (.float x :: st)) : x_W G F Q a b h pc L st := fun H locs ls hH hS hL => lv_fload hE.1 hE.2.1 d (hL.2.2 _ _ hl).1 (kk H locs ls hH hS hL)
theorem x_aload_n (hE : x_E G F cc own Ts nL ret rm) {k : Fin 4} {v : Value} (d : decode cc pc = .ok (.aload_n k, 1)) (hl : L[(k : Nat)]? = some (some v)) (hv : x_rv v = true) (kk : x_W G F Q a b h (pc + 1) L (v :: st)) : x_W G F Q a b h pc L st := fun H locs ls hH hS hL => by
  have h1 := (hL.2.2 _ _ hl).1
  cases v with
  | ref r => exact lv_aload_n hE.1 hE.2.1 d rfl h1 (kk H locs ls hH hS hL)
  | null => exact lv_aload_nN hE.1 hE.2.1 d rfl h1 (kk H locs ls hH hS hL)
  | _ => cases hv
theorem x_aload (hE : x_E G F cc own Ts nL ret rm) {i : Nat} {v : Value} (d : decode cc pc = .ok (.aload i, 2)) (hl : L[i]? = some (some v)) (hv : x_rv v = true) (kk : x_W G F Q a b h (pc + 2) L (v :: st)) : x_W G F Q a b h pc L st := fun H locs ls hH hS hL => by
  have h1 := (hL.2.2 _ _ hl).1
  cases v with
  | ref r => exact lv_aload hE.1 hE.2.1 d h1 (kk H locs ls hH hS hL)
  | null => exact lv_aloadN hE.1 hE.2.1 d h1 (kk H locs ls hH hS hL)
  | _ => cases hv
theorem x_istore_n (hE : x_E G F cc own Ts nL ret rm) {k : Fin 4} {i : Nat} {x : Int32} (d : decode cc pc = .ok (.istore_n k, 1)) (hi : (k : Nat) = i) (hn : i < L.length) (hL' : L.set i (some (.int x)) = L') (kk : x_W G F Q a b h (pc + 1) L' st) : x_W G F Q a b h pc L (.int x :: st) := by
  subst hL'
  exact fun H locs ls hH hS hL => lv_istore_n hE.1 hE.2.1 d hi hL.has hn rfl (fun ls' hl' => kk H locs ls' hH hS (hL.set hn rfl hl'))
theorem x_istore (hE : x_E G F cc own Ts nL ret rm) {i : Nat} {x : Int32} (d : decode cc pc = .ok (.istore i, 2)) (hn : i < L.length) (hL' : L.set i (some (.int x)) = L') (kk : x_W G F Q a b h (pc + 2) L' st) : x_W G F Q a b h pc L (.int x :: st) := by
  subst hL'
  exact fun H locs ls hH hS hL => lv_istore hE.1 hE.2.1 d hL.has hn rfl (fun ls' hl' => kk H locs ls' hH hS (hL.set hn rfl hl'))
theorem x_fstore_n (hE : x_E G F cc own Ts nL ret rm) {k : Fin 4} {i : Nat} {x : UInt32} (d : decode cc pc = .ok (.fstore_n k, 1)) (hi : (k : Nat) = i) (hn : i < L.length) (hL' : L.set i (some (.float x)) = L') (kk : x_W G F Q a b h (pc + 1) L' st) : x_W G F Q a b h pc L (.float x :: st) := by
  subst hL'
  exact fun H locs ls hH hS hL => lv_fstore_n hE.1 hE.2.1 d hi hL.has hn rfl (fun ls' hl' => kk H locs ls' hH hS (hL.set hn rfl hl'))
theorem x_fstore (hE : x_E G F cc own Ts nL ret rm) {i : Nat} {x : UInt32} (d : decode cc pc = .ok (.fstore i, 2)) (hn : i < L.length) (hL' : L.set i (some (.float x)) = L') (kk : x_W G F Q a b h (pc + 2) L' st) : x_W G F Q a b h pc L (.float x :: st) := by
  subst hL'
  exact fun H locs ls hH hS hL => lv_fstore hE.1 hE.2.1 d hL.has hn rfl (fun ls' hl' => kk H locs ls' hH hS (hL.set hn rfl hl'))
theorem x_astore_n (hE : x_E G F cc own Ts nL ret rm) {k : Fin 4} {i : Nat} {v : Value} (d : decode cc pc = .ok (.astore_n k, 1)) (hi : (k : Nat) = i) (hn : i < L.length) (hv : x_rv v = true) (hL' : L.set i (some v) = L') (kk : x_W G F Q a b h (pc + 1) L' st) : x_W G F Q a b h pc L (v :: st) := by
  subst hL'
  intro H locs ls hH hS hL
  cases v with
  | ref r => exact lv_astore_n hE.1 hE.2.1 d hi hL.has hn rfl (fun ls' hl' => kk H locs ls' hH hS (hL.set hn rfl hl'))
  | null => exact lv_astore_nN hE.1 hE.2.1 d hi hL.has hn rfl (fun ls' hl' => kk H locs ls' hH hS (hL.set hn rfl hl'))
  | _ => cases hv
theorem x_astore (hE : x_E G F cc own Ts nL ret rm) {i : Nat} {v : Value} (d : decode cc pc = .ok (.astore i, 2)) (hn : i < L.length) (hv : x_rv v = true) (hL' : L.set i (some v) = L') (kk : x_W G F Q a b h (pc + 2) L' st) : x_W G F Q a b h pc L (v :: st) := by
  subst hL'
  intro H locs ls hH hS hL
  cases v with
  | ref r => exact lv_astore hE.1 hE.2.1 d hL.has hn rfl (fun ls' hl' => kk H locs ls' hH hS (hL.set hn rfl hl'))
  | null => exact lv_astoreN hE.1 hE.2.1 d hL.has hn rfl (fun ls' hl' => kk H locs ls' hH hS (hL.set hn rfl hl'))
  | _ => cases hv
theorem x_iinc (hE : x_E G F cc own Ts nL ret rm) {i : Nat} {n : Int} {x v : Int32} (d : decode cc pc = .ok (.iinc i n, 3)) (hl : L[i]? = some (some (.int x))) (hv : x + Int32.ofInt n = v) (hL' : L.set i (some (.int v)) = L') (kk : x_W G F Q a b h (pc + 3) L' st) : x_W G F Q a b h pc L st := by
  subst hL'
  intro H locs ls hH hS hL
  have hn : i < L.length := (List.getElem?_eq_some_iff.mp hl).1
  obtain ⟨k, hk⟩ := List.getElem?_of_mem (x_pairs_mem hl)
  exact lv_iinc hE.1 hE.2.1 d hL.has (k := k) hk hv hn rfl (fun ls' hl' => kk H locs ls' hH hS (hL.set hn rfl hl'))
theorem x_iadd (hE : x_E G F cc own Ts nL ret rm) {x y : Int32} (d : decode cc pc = .ok (.iadd, 1)) (kk : x_W G F Q a b h (pc + 1) L (.int (x + y) :: st)) : x_W G F Q a b h pc L (.int y :: .int x :: st) := fun H locs ls hH hS hL => lv_iadd hE.1 hE.2.1 d (kk H locs ls hH hS hL)
theorem x_isub (hE : x_E G F cc own Ts nL ret rm) {x y : Int32} (d : decode cc pc = .ok (.isub, 1)) (kk : x_W G F Q a b h (pc + 1) L (.int (x - y) :: st)) : x_W G F Q a b h pc L (.int y :: .int x :: st) := fun H locs ls hH hS hL => lv_isub hE.1 hE.2.1 d (kk H locs ls hH hS hL)
theorem x_imul (hE : x_E G F cc own Ts nL ret rm) {x y : Int32} (d : decode cc pc = .ok (.imul, 1)) (kk : x_W G F Q a b h (pc + 1) L (.int (x * y) :: st)) : x_W G F Q a b h pc L (.int y :: .int x :: st) := fun H locs ls hH hS hL => lv_imul hE.1 hE.2.1 d (kk H locs ls hH hS hL)
theorem x_iand (hE : x_E G F cc own Ts nL ret rm) {x y : Int32} (d : decode cc pc = .ok (.iand, 1)) (kk : x_W G F Q a b h (pc + 1) L (.int (x &&& y) :: st)) : x_W G F Q a b h pc L (.int y :: .int x :: st) := fun H locs ls hH hS hL => lv_iand hE.1 hE.2.1 d (kk H locs ls hH hS hL)
theorem x_ior (hE : x_E G F cc own Ts nL ret rm) {x y : Int32} (d : decode cc pc = .ok (.ior, 1)) (kk : x_W G F Q a b h (pc + 1) L (.int (x ||| y) :: st)) : x_W G F Q a b h pc L (.int y :: .int x :: st) := fun H locs ls hH hS hL => lv_ior hE.1 hE.2.1 d (kk H locs ls hH hS hL)
theorem x_ishl (hE : x_E G F cc own Ts nL ret rm) {x y : Int32} (d : decode cc pc = .ok (.ishl, 1)) (kk : x_W G F Q a b h (pc + 1) L (.int (x <<< (y &&& 31)) :: st)) : x_W G F Q a b h pc L (.int y :: .int x :: st) := fun H locs ls hH hS hL => lv_ishl hE.1 hE.2.1 d (kk H locs ls hH hS hL)
theorem x_ishr (hE : x_E G F cc own Ts nL ret rm) {x y : Int32} (d : decode cc pc = .ok (.ishr, 1)) (kk : x_W G F Q a b h (pc + 1) L (.int (x >>> (y &&& 31)) :: st)) : x_W G F Q a b h pc L (.int y :: .int x :: st) := fun H locs ls hH hS hL => lv_ishr hE.1 hE.2.1 d (kk H locs ls hH hS hL)
theorem x_idiv (hE : x_E G F cc own Ts nL ret rm) {x y : Int32} (d : decode cc pc = .ok (.idiv, 1)) (hne : ¬ y = 0) (kk : x_W G F Q a b h (pc + 1) L (.int (x / y) :: st)) : x_W G F Q a b h pc L (.int y :: .int x :: st) := fun H locs ls hH hS hL => lv_idiv hE.1 hE.2.1 d hne (kk H locs ls hH hS hL)
theorem x_irem (hE : x_E G F cc own Ts nL ret rm) {x y : Int32} (d : decode cc pc = .ok (.irem, 1)) (hne : ¬ y = 0) (kk : x_W G F Q a b h (pc + 1) L (.int (x - x / y * y) :: st)) : x_W G F Q a b h pc L (.int y :: .int x :: st) := fun H locs ls hH hS hL => lv_irem hE.1 hE.2.1 d hne (kk H locs ls hH hS hL)
theorem x_ineg (hE : x_E G F cc own Ts nL ret rm) {x : Int32} (d : decode cc pc = .ok (.ineg, 1)) (kk : x_W G F Q a b h (pc + 1) L (.int (-x) :: st)) : x_W G F Q a b h pc L (.int x :: st) := fun H locs ls hH hS hL => lv_ineg hE.1 hE.2.1 d (kk H locs ls hH hS hL)
theorem x_i2l (hE : x_E G F cc own Ts nL ret rm) {x : Int32} (d : decode cc pc = .ok (.i2l, 1)) (kk : x_W G F Q a b h (pc + 1) L (.long x.toInt64 :: st)) : x_W G F Q a b h pc L (.int x :: st) := fun H locs ls hH hS hL => lv_i2l hE.1 hE.2.1 d rfl (kk H locs ls hH hS hL)
theorem x_lcmp (hE : x_E G F cc own Ts nL ret rm) {x y : Int64} (d : decode cc pc = .ok (.lcmp, 1)) (kk : x_W G F Q a b h (pc + 1) L (.int (lg_cmp x y) :: st)) : x_W G F Q a b h pc L (.long y :: .long x :: st) := fun H locs ls hH hS hL => W.lcmp hE.1 hE.2.1 d (kk H locs ls hH hS hL)
theorem x_dup (hE : x_E G F cc own Ts nL ret rm) {v : Value} (d : decode cc pc = .ok (.dup, 1)) (hv : v.category = 1) (kk : x_W G F Q a b h (pc + 1) L (v :: v :: st)) : x_W G F Q a b h pc L (v :: st) := fun H locs ls hH hS hL => lv_dup hE.1 hE.2.1 d hv (kk H locs ls hH hS hL)
theorem x_goto (hE : x_E G F cc own Ts nL ret rm) {off : Int} {tgt : Nat} (d : decode cc pc = .ok (.goto off, 3)) (ht : (pc : Int) + off = (tgt : Int)) (kk : x_W G F Q a b h tgt L st) : x_W G F Q a b h pc L st := fun H locs ls hH hS hL => lv_goto hE.1 hE.2.1 d ht (kk H locs ls hH hS hL)
theorem x_fconst0 (hE : x_E G F cc own Ts nL ret rm) (d : decode cc pc = .ok (.fconst 0, 1)) (kk : x_W G F Q a b h (pc + 1) L (.float FP.fconst0 :: st)) : x_W G F Q a b h pc L st := fun H locs ls hH hS hL => lv_fconst0 hE.1 hE.2.1 d (kk H locs ls hH hS hL)
theorem x_fconst1 (hE : x_E G F cc own Ts nL ret rm) (d : decode cc pc = .ok (.fconst 1, 1)) (kk : x_W G F Q a b h (pc + 1) L (.float FP.fconst1 :: st)) : x_W G F Q a b h pc L st := fun H locs ls hH hS hL => lv_fconst1 hE.1 hE.2.1 d (kk H locs ls hH hS hL)
theorem x_fconst2 (hE : x_E G F cc own Ts nL ret rm) (d : decode cc pc = .ok (.fconst 2, 1)) (kk : x_W G F Q a b h (pc + 1) L (.float FP.fconst2 :: st)) : x_W G F Q a b h pc L st := fun H locs ls hH hS hL => lv_fconst2 hE.1 hE.2.1 d (kk H locs ls hH hS hL)
theorem x_fadd (hE : x_E G F cc own Ts nL ret rm) {x y : UInt32} (d : decode cc pc = .ok (.fadd, 1)) (hne : vf_n32 (FP.fadd x y)) (kk : x_W G F Q a b h (pc + 1) L (.float (FP.fadd x y) :: st)) : x_W G F Q a b h pc L (.float y :: .float x :: st) := fun H locs ls hH hS hL => lv_fadd hE.1 hE.2.1 d hne (kk H locs ls hH hS hL)
theorem x_fsub (hE : x_E G F cc own Ts nL ret rm) {x y : UInt32} (d : decode cc pc = .ok (.fsub, 1)) (hne : vf_n32 (FP.fsub x y)) (kk : x_W G F Q a b h (pc + 1) L (.float (FP.fsub x y) :: st)) : x_W G F Q a b h pc L (.float y :: .float x :: st) := fun H locs ls hH hS hL => lv_fsub hE.1 hE.2.1 d hne (kk H locs ls hH hS hL)
theorem x_fmul (hE : x_E G F cc own Ts nL ret rm) {x y : UInt32} (d : decode cc pc = .ok (.fmul, 1)) (hne : vf_n32 (FP.fmul x y)) (kk : x_W G F Q a b h (pc + 1) L (.float (FP.fmul x y) :: st)) : x_W G F Q a b h pc L (.float y :: .float x :: st) := fun H locs ls hH hS hL => lv_fmul hE.1 hE.2.1 d hne (kk H locs ls hH hS hL)
theorem x_fdiv (hE : x_E G F cc own Ts nL ret rm) {x y : UInt32} (d : decode cc pc = .ok (.fdiv, 1)) (hne : vf_n32 (FP.fdiv x y)) (kk : x_W G F Q a b h (pc + 1) L (.float (FP.fdiv x y) :: st)) : x_W G F Q a b h pc L (.float y :: .float x :: st) := fun H locs ls hH hS hL => lv_fdiv hE.1 hE.2.1 d hne (kk H locs ls hH hS hL)
theorem x_fcmp (hE : x_E G F cc own Ts nL ret rm) {x y : UInt32} {op : CmpOp} (d : decode cc pc = .ok (.fcmp op, 1)) (kk : x_W G F Q a b h (pc + 1) L (.int (Op.cmpValue (FP.fcmp x y) op) :: st)) : x_W G F Q a b h pc L (.float y :: .float x :: st) := fun H locs ls hH hS hL => lv_fcmp hE.1 hE.2.1 d (kk H locs ls hH hS hL)
theorem x_i2f (hE : x_E G F cc own Ts nL ret rm) {x : Int32} (d : decode cc pc = .ok (.i2f, 1)) (kk : x_W G F Q a b h (pc + 1) L (.float (FP.i2f x) :: st)) : x_W G F Q a b h pc L (.int x :: st) := fun H locs ls hH hS hL => lv_i2f hE.1 hE.2.1 d (kk H locs ls hH hS hL)
theorem x_f2i (hE : x_E G F cc own Ts nL ret rm) {x : UInt32} (d : decode cc pc = .ok (.f2i, 1)) (kk : x_W G F Q a b h (pc + 1) L (.int (FP.f2i x) :: st)) : x_W G F Q a b h pc L (.float x :: st) := fun H locs ls hH hS hL => lv_f2i hE.1 hE.2.1 d (kk H locs ls hH hS hL)
end X1
section X2
variable {G : XG} {F : XF} {cc : ByteArray} {own : String} {Ts : List Cond} {nL : Nat} {ret : Option FieldType} {rm : Room} {Q : State → Prop} {a b : Nat} {h : HM} {pc : Nat} {L L' : List (Option Value)} {st : List Value}
theorem x_if_eq (hE : x_E G F cc own Ts nL ret rm) {x : Int32} {off : Int} {tgt : Nat} (d : decode cc pc = .ok (.ifCond .eq off, 3)) (ht : (pc : Int) + off = (tgt : Int)) (kt : x = 0 → x_W G F Q a b h tgt L st) (kf : ¬ x = 0 → x_W G F Q a b h (pc + 3) L st) : x_W G F Q a b h pc L (.int x :: st) := fun H locs ls hH hS hL => lv_if_eq hE.1 hE.2.1 d ht (fun c => kt c H locs ls hH hS hL) (fun c => kf c H locs ls hH hS hL)
theorem x_icmp_eq (hE : x_E G F cc own Ts nL ret rm) {x y : Int32} {off : Int} {tgt : Nat} (d : decode cc pc = .ok (.if_icmp .eq off, 3)) (ht : (pc : Int) + off = (tgt : Int)) (kt : x = y → x_W G F Q a b h tgt L st) (kf : ¬ x = y → x_W G F Q a b h (pc + 3) L st) : x_W G F Q a b h pc L (.int y :: .int x :: st) := fun H locs ls hH hS hL => lv_icmp_eq hE.1 hE.2.1 d ht (fun c => kt c H locs ls hH hS hL) (fun c => kf c H locs ls hH hS hL)
theorem x_if_ne (hE : x_E G F cc own Ts nL ret rm) {x : Int32} {off : Int} {tgt : Nat} (d : decode cc pc = .ok (.ifCond .ne off, 3)) (ht : (pc : Int) + off = (tgt : Int)) (kt : ¬ x = 0 → x_W G F Q a b h tgt L st) (kf : x = 0 → x_W G F Q a b h (pc + 3) L st) : x_W G F Q a b h pc L (.int x :: st) := fun H locs ls hH hS hL => lv_if_ne hE.1 hE.2.1 d ht (fun c => kt c H locs ls hH hS hL) (fun c => kf c H locs ls hH hS hL)
theorem x_icmp_ne (hE : x_E G F cc own Ts nL ret rm) {x y : Int32} {off : Int} {tgt : Nat} (d : decode cc pc = .ok (.if_icmp .ne off, 3)) (ht : (pc : Int) + off = (tgt : Int)) (kt : ¬ x = y → x_W G F Q a b h tgt L st) (kf : x = y → x_W G F Q a b h (pc + 3) L st) : x_W G F Q a b h pc L (.int y :: .int x :: st) := fun H locs ls hH hS hL => lv_icmp_ne hE.1 hE.2.1 d ht (fun c => kt c H locs ls hH hS hL) (fun c => kf c H locs ls hH hS hL)
theorem x_if_lt (hE : x_E G F cc own Ts nL ret rm) {x : Int32} {off : Int} {tgt : Nat} (d : decode cc pc = .ok (.ifCond .lt off, 3)) (ht : (pc : Int) + off = (tgt : Int)) (kt : x < 0 → x_W G F Q a b h tgt L st) (kf : ¬ x < 0 → x_W G F Q a b h (pc + 3) L st) : x_W G F Q a b h pc L (.int x :: st) := fun H locs ls hH hS hL => lv_if_lt hE.1 hE.2.1 d ht (fun c => kt c H locs ls hH hS hL) (fun c => kf c H locs ls hH hS hL)
theorem x_icmp_lt (hE : x_E G F cc own Ts nL ret rm) {x y : Int32} {off : Int} {tgt : Nat} (d : decode cc pc = .ok (.if_icmp .lt off, 3)) (ht : (pc : Int) + off = (tgt : Int)) (kt : x < y → x_W G F Q a b h tgt L st) (kf : ¬ x < y → x_W G F Q a b h (pc + 3) L st) : x_W G F Q a b h pc L (.int y :: .int x :: st) := fun H locs ls hH hS hL => lv_icmp_lt hE.1 hE.2.1 d ht (fun c => kt c H locs ls hH hS hL) (fun c => kf c H locs ls hH hS hL)
theorem x_if_ge (hE : x_E G F cc own Ts nL ret rm) {x : Int32} {off : Int} {tgt : Nat} (d : decode cc pc = .ok (.ifCond .ge off, 3)) (ht : (pc : Int) + off = (tgt : Int)) (kt : 0 ≤ x → x_W G F Q a b h tgt L st) (kf : ¬ 0 ≤ x → x_W G F Q a b h (pc + 3) L st) : x_W G F Q a b h pc L (.int x :: st) := fun H locs ls hH hS hL => lv_if_ge hE.1 hE.2.1 d ht (fun c => kt c H locs ls hH hS hL) (fun c => kf c H locs ls hH hS hL)
theorem x_icmp_ge (hE : x_E G F cc own Ts nL ret rm) {x y : Int32} {off : Int} {tgt : Nat} (d : decode cc pc = .ok (.if_icmp .ge off, 3)) (ht : (pc : Int) + off = (tgt : Int)) (kt : y ≤ x → x_W G F Q a b h tgt L st) (kf : ¬ y ≤ x → x_W G F Q a b h (pc + 3) L st) : x_W G F Q a b h pc L (.int y :: .int x :: st) := fun H locs ls hH hS hL => lv_icmp_ge hE.1 hE.2.1 d ht (fun c => kt c H locs ls hH hS hL) (fun c => kf c H locs ls hH hS hL)
theorem x_if_gt (hE : x_E G F cc own Ts nL ret rm) {x : Int32} {off : Int} {tgt : Nat} (d : decode cc pc = .ok (.ifCond .gt off, 3)) (ht : (pc : Int) + off = (tgt : Int)) (kt : 0 < x → x_W G F Q a b h tgt L st) (kf : ¬ 0 < x → x_W G F Q a b h (pc + 3) L st) : x_W G F Q a b h pc L (.int x :: st) := fun H locs ls hH hS hL => lv_if_gt hE.1 hE.2.1 d ht (fun c => kt c H locs ls hH hS hL) (fun c => kf c H locs ls hH hS hL)
theorem x_icmp_gt (hE : x_E G F cc own Ts nL ret rm) {x y : Int32} {off : Int} {tgt : Nat} (d : decode cc pc = .ok (.if_icmp .gt off, 3)) (ht : (pc : Int) + off = (tgt : Int)) (kt : y < x → x_W G F Q a b h tgt L st) (kf : ¬ y < x → x_W G F Q a b h (pc + 3) L st) : x_W G F Q a b h pc L (.int y :: .int x :: st) := fun H locs ls hH hS hL => lv_icmp_gt hE.1 hE.2.1 d ht (fun c => kt c H locs ls hH hS hL) (fun c => kf c H locs ls hH hS hL)
theorem x_if_le (hE : x_E G F cc own Ts nL ret rm) {x : Int32} {off : Int} {tgt : Nat} (d : decode cc pc = .ok (.ifCond .le off, 3)) (ht : (pc : Int) + off = (tgt : Int)) (kt : x ≤ 0 → x_W G F Q a b h tgt L st) (kf : ¬ x ≤ 0 → x_W G F Q a b h (pc + 3) L st) : x_W G F Q a b h pc L (.int x :: st) := fun H locs ls hH hS hL => lv_if_le hE.1 hE.2.1 d ht (fun c => kt c H locs ls hH hS hL) (fun c => kf c H locs ls hH hS hL)
theorem x_icmp_le (hE : x_E G F cc own Ts nL ret rm) {x y : Int32} {off : Int} {tgt : Nat} (d : decode cc pc = .ok (.if_icmp .le off, 3)) (ht : (pc : Int) + off = (tgt : Int)) (kt : x ≤ y → x_W G F Q a b h tgt L st) (kf : ¬ x ≤ y → x_W G F Q a b h (pc + 3) L st) : x_W G F Q a b h pc L (.int y :: .int x :: st) := fun H locs ls hH hS hL => lv_icmp_le hE.1 hE.2.1 d ht (fun c => kt c H locs ls hH hS hL) (fun c => kf c H locs ls hH hS hL)
theorem x_ifnull (hE : x_E G F cc own Ts nL ret rm) {x : Nat} {off : Int} (d : decode cc pc = .ok (.ifnull off, 3)) (kk : x_W G F Q a b h (pc + 3) L st) : x_W G F Q a b h pc L (.ref x :: st) := fun H locs ls hH hS hL => lv_ifnull hE.1 hE.2.1 d (kk H locs ls hH hS hL)
theorem x_ifnullN (hE : x_E G F cc own Ts nL ret rm) {off : Int} {tgt : Nat} (d : decode cc pc = .ok (.ifnull off, 3)) (ht : (pc : Int) + off = (tgt : Int)) (kk : x_W G F Q a b h tgt L st) : x_W G F Q a b h pc L (.null :: st) := fun H locs ls hH hS hL => lv_ifnullN hE.1 hE.2.1 d ht (kk H locs ls hH hS hL)
theorem x_ifnonnull (hE : x_E G F cc own Ts nL ret rm) {x : Nat} {off : Int} {tgt : Nat} (d : decode cc pc = .ok (.ifnonnull off, 3)) (ht : (pc : Int) + off = (tgt : Int)) (kk : x_W G F Q a b h tgt L st) : x_W G F Q a b h pc L (.ref x :: st) := fun H locs ls hH hS hL => lv_ifnonnull hE.1 hE.2.1 d ht (kk H locs ls hH hS hL)
theorem x_ifnonnullN (hE : x_E G F cc own Ts nL ret rm) {off : Int} (d : decode cc pc = .ok (.ifnonnull off, 3)) (kk : x_W G F Q a b h (pc + 3) L st) : x_W G F Q a b h pc L (.null :: st) := fun H locs ls hH hS hL => lv_ifnonnullN hE.1 hE.2.1 d (kk H locs ls hH hS hL)
theorem x_acmp_eq (hE : x_E G F cc own Ts nL ret rm) {rx ry : Option Nat} {off : Int} {tgt : Nat} (d : decode cc pc = .ok (.if_acmp .eq off, 3)) (ht : (pc : Int) + off = (tgt : Int)) (kt : rx = ry → x_W G F Q a b h tgt L st) (kf : ¬ rx = ry → x_W G F Q a b h (pc + 3) L st) : x_W G F Q a b h pc L (va_rf ry :: va_rf rx :: st) := fun H locs ls hH hS hL => lv_acmp_eq hE.1 hE.2.1 d ht (fun c => kt c H locs ls hH hS hL) (fun c => kf c H locs ls hH hS hL)
theorem x_acmp_ne (hE : x_E G F cc own Ts nL ret rm) {rx ry : Option Nat} {off : Int} {tgt : Nat} (d : decode cc pc = .ok (.if_acmp .ne off, 3)) (ht : (pc : Int) + off = (tgt : Int)) (kt : ¬ rx = ry → x_W G F Q a b h tgt L st) (kf : rx = ry → x_W G F Q a b h (pc + 3) L st) : x_W G F Q a b h pc L (va_rf ry :: va_rf rx :: st) := fun H locs ls hH hS hL => lv_acmp_ne hE.1 hE.2.1 d ht (fun c => kt c H locs ls hH hS hL) (fun c => kf c H locs ls hH hS hL)
theorem x_widen {k n : Nat} (h1 : a ≤ k) (h2 : b ≤ n) (kk : x_W G F Q k n h pc L st) : x_W G F Q a b h pc L st := fun H locs ls hH hS hL => W.widen h1 h2 (kk H locs ls hH hS hL)
theorem x_tableIn (hE : x_E G F cc own Ts nL ret rm) {dflt lo hi : Int} {offs : Array Int} {len : Nat} {x : Int32} {off : Int} {tgt : Nat} (d : decode cc pc = .ok (.tableswitch dflt lo hi offs, len)) (h1 : ¬ x.toInt < lo) (h2 : ¬ hi < x.toInt) (ho : offs[(x.toInt - lo).toNat]? = some off) (ht : (pc : Int) + off = (tgt : Int)) (kk : x_W G F Q a b h tgt L st) : x_W G F Q a b h pc L (.int x :: st) := fun H locs ls hH hS hL => lv_tableIn hE.1 hE.2.1 d h1 h2 ho ht (kk H locs ls hH hS hL)
theorem x_tableOut (hE : x_E G F cc own Ts nL ret rm) {dflt lo hi : Int} {offs : Array Int} {len : Nat} {x : Int32} {tgt : Nat} (d : decode cc pc = .ok (.tableswitch dflt lo hi offs, len)) (h1 : x.toInt < lo ∨ hi < x.toInt) (ht : (pc : Int) + dflt = (tgt : Int)) (kk : x_W G F Q a b h tgt L st) : x_W G F Q a b h pc L (.int x :: st) := fun H locs ls hH hS hL => lv_tableOut hE.1 hE.2.1 d h1 ht (kk H locs ls hH hS hL)
end X2
end
section
/-! the rows that read and write the heap -/
theorem x_H.up {G : XG} {h : HM} {H H1 : Heap} {a : Nat} {e : va_E} (hH : x_H G h H) (hA : g_A G a) (he : va_at (g_D G) vwCl (a, e) H1) (oq : ∀ q : Nat, q ≠ a → H1[q]? = H[q]?) : x_H G (x_up h a e) H1 := by
  intro q e' hq
  by_cases c : q = a
  · subst c
    rw [x_up_eq] at hq
    cases hq
    exact ⟨he, hA⟩
  · rw [x_up_ne c] at hq
    obtain ⟨h1, h2⟩ := hH q e' hq
    exact ⟨h1.kept (oq q c), h2⟩
theorem x_H.new {G : XG} {h : HM} {H H1 : Heap} {e : va_E} (hH : x_H G h H) (hA : g_A G H.size) (he : va_at (g_D G) vwCl (H.size, e) H1) (oq : ∀ q : Nat, q < H.size → H1[q]? = H[q]?) : h H.size = none ∧ x_H G (x_up h H.size e) H1 := by
  refine ⟨?_, fun q e' hq => ?_⟩
  · cases hc : h H.size with
    | none => rfl
    | some e0 => exact absurd (hH _ _ hc).1.lt (Nat.lt_irrefl _)
  · by_cases c : q = H.size
    · subst c
      rw [x_up_eq] at hq
      cases hq
      exact ⟨he, hA⟩
    · rw [x_up_ne c] at hq
      obtain ⟨h1, h2⟩ := hH q e' hq
      exact ⟨h1.kept (oq q h1.lt), h2⟩
theorem x_S.new {A : Nat → Prop} {H0 H H1 : Heap} {locs : List Loc} (hS : va_S A H0 H locs) (z1 : H1.size = H.size + 1) (o1 : ∀ q : Nat, q < H.size → H1[q]? = H[q]?) : va_S A H0 H1 locs :=
  ⟨Nat.le_trans hS.1 (by omega), fun x h1 h2 => (o1 x (Nat.lt_of_lt_of_le h1 hS.1)).trans (hS.2.1 x h1 h2), hS.2.2⟩
theorem x_one {D : va_G} {a : Nat} {e : va_E} {H : Heap} (h : va_at D vwCl (a, e) H) : va_P D vwCl [(a, e)] H := by
  intro k q hk
  match k, hk with
  | 0, hk => cases hk; exact h
  | k + 1, hk => simp at hk
section X3
variable {G : XG} {F : XF} {cc : ByteArray} {own : String} {Ts : List Cond} {nL : Nat} {ret : Option FieldType} {rm : Room} {Q : State → Prop} {a b : Nat} {h : HM} {pc : Nat} {L L' : List (Option Value)} {st : List Value} {q : Nat}
theorem x_get (hE : x_E G F cc own Ts nL ret rm) {C : String} {T : u_T} {N ci index : Nat} (hin : ∀ w ∈ u_ws C T N, w ∈ Ts) {fs : List Value} (hq : h q = some (.inr (ci, fs))) (hc : vwCl[ci]? = some (C, T, N)) (k : Nat) (hk : k < N) (hw : Cond.fieldLink own index (T k).1 (T k).2.1 (T k).2.2.1 ∈ Ts) {v : Value} (hv : fs[k]? = some v) (d : decode cc pc = .ok (.getfield index, 3)) (kk : x_W G F Q a b h (pc + 3) L (v :: st)) : x_W G F Q a b h pc L (.ref q :: st) := fun H locs ls hH hS hL =>
  va_get (D := g_D G) (cl := vwCl) (tys := x_T (g_c G)) (ws := [(q, .inr (ci, fs))]) hE.1 hE.2.1 hE.2.2.2.2.1 hin hE.2.2.2.1 hE.2.2.2.2.2.1 (x_one (hH q _ hq).1) 0 rfl hc k hk (hE.2.2.2.2.1 _ hw) (fun _ h9 => h9) hv d (kk H locs ls hH hS hL)
theorem x_put (hE : x_E G F cc own Ts nL ret rm) {C : String} {T : u_T} {N ci index : Nat} (hin : ∀ w ∈ u_ws C T N, w ∈ Ts) (ty0 : Nat → FieldType) (hty : ∀ k, k < N → parseFieldDescriptor (T k).2.2.1 = some (ty0 k)) (hnm : ∀ a, a < N → ∀ b, b < N → a ≠ b → (T a).2.1 ≠ (T b).2.1) {fs fs' : List Value} (hq : h q = some (.inr (ci, fs))) (hc : vwCl[ci]? = some (C, T, N)) (k : Nat) (hk : k < N) (hw : Cond.fieldLink own index (T k).1 (T k).2.1 (T k).2.2.1 ∈ Ts) (hfin : (T k).2.2.2 = false) {v : Value} (hn : narrow (ty0 k) v = v) (hfit : fits (ty0 k) v = true) (hl : k < fs.length) (hfs : fs.set k v = fs') (d : decode cc pc = .ok (.putfield index, 3)) (kk : x_W G F Q a b (x_up h q (.inr (ci, fs'))) (pc + 3) L st) : x_W G F Q a b h pc L (v :: .ref q :: st) := by
  subst hfs
  intro H locs ls hH hS hL
  obtain ⟨hexec, hb, hml, hown, hts, hK, -⟩ := hE
  have hap := va_apart (own := own) hts hin ty0 hty hnm hK hc
  obtain ⟨hat, hAq⟩ := hH q _ hq
  obtain ⟨r, h1, cell, q1, q2, q3, q4⟩ := hat
  have hr : r = (C, T, N) := Option.some.inj (h1.symm.trans hc)
  subst hr
  obtain ⟨hSl, hfc, kC, hkC, hkind⟩ := hK.1 ci _ hc
  obtain ⟨cf, kf, fi, f, hi, hsl⟩ := hSl k hk
  have hlay := hts _ (hin _ (u_in_lay hk))
  unfold u_lay at hlay
  rw [if_neg (by rw [hfin]; decide)] at hlay
  have hst := (u_facts hfc hkC (u_lays hts hin hk) hi).1
  have h6 := u_store hfc hkC hkind hlay hi (hty k hk) hn hfit
  refine W.putK hexec hb (f := f) ⟨hown, hts _ hw, ⟨_, _, _, hi⟩, hst⟩ (by rw [q2]; exact h6) q1 q3 (by rw [hsl]; exact k2_hasslot (q4 k hk)) rfl rfl d fun H' e1 e2 e3 => ?_
  rw [hsl] at e1 ⊢
  exact kk H' _ ls (hH.up hAq ⟨_, hc, t_OB.to (V := updV (vp_V fs) k v) ⟨_, e1, q2, q3, t_set q4 hap hk v⟩ (fun j _ => vp_updV_set hl v j)⟩ e3) (hS.put e2 e3 hAq) hL
theorem x_putF (hE : x_E G F cc own Ts nL ret rm) {C : String} {T : u_T} {N ci index : Nat} (hin : ∀ w ∈ u_ws C T N, w ∈ Ts) (ty0 : Nat → FieldType) (hty : ∀ k, k < N → parseFieldDescriptor (T k).2.2.1 = some (ty0 k)) (hnm : ∀ a, a < N → ∀ b, b < N → a ≠ b → (T a).2.1 ≠ (T b).2.1) {fs fs' : List Value} (hq : h q = some (.inr (ci, fs))) (hc : vwCl[ci]? = some (C, T, N)) (k : Nat) (hk : k < N) (hw : Cond.fieldLink own index (T k).1 (T k).2.1 (T k).2.2.1 ∈ Ts) (hfin : (T k).2.2.2 = true) (hin2 : (f_t F).name = "<init>") (hdecl : (T k).1 = own) {v : Value} (hn : narrow (ty0 k) v = v) (hfit : fits (ty0 k) v = true) (hl : k < fs.length) (hfs : fs.set k v = fs') (d : decode cc pc = .ok (.putfield index, 3)) (kk : x_W G F Q a b (x_up h q (.inr (ci, fs'))) (pc + 3) L st) : x_W G F Q a b h pc L (v :: .ref q :: st) := by
  subst hfs
  intro H locs ls hH hS hL
  obtain ⟨hexec, hb, hml, hown, hts, hK, -⟩ := hE
  have hap := va_apart (own := own) hts hin ty0 hty hnm hK hc
  obtain ⟨hat, hAq⟩ := hH q _ hq
  obtain ⟨r, h1, cell, q1, q2, q3, q4⟩ := hat
  have hr : r = (C, T, N) := Option.some.inj (h1.symm.trans hc)
  subst hr
  obtain ⟨hSl, hfc, kC, hkC, hkind⟩ := hK.1 ci _ hc
  obtain ⟨cf, kf, fi, f, hi, hsl⟩ := hSl k hk
  have hlay := hts _ (hin _ (u_in_lay hk))
  unfold u_lay at hlay
  rw [if_pos hfin] at hlay
  have hst := (u_facts hfc hkC (u_lays hts hin hk) hi).1
  have hcf : (f_m F).cls = cf := by
    obtain ⟨_, _, c', _, _, _, -, -, hf', -, -, -, hown2, -⟩ := Cond.laysFinal_spec hlay
    have e1 : c' = cf := by have := hi.symm.trans hf'; simp at this; exact this.1.symm
    rw [hdecl] at hown2
    rw [← e1]; exact Option.some.inj (hown.symm.trans hown2)
  have h6 := u_fits hfc hkC hkind (Or.inr hlay) hi (hty k hk) hn hfit
  refine W.putFinK hexec hb hown (hts _ hw) hi hst hcf hin2 (by rw [q2]; exact h6) q1 q3 (by rw [hsl]; exact k2_hasslot (q4 k hk)) rfl rfl d fun H' e1 e2 e3 => ?_
  rw [hsl] at e1 ⊢
  exact kk H' _ ls (hH.up hAq ⟨_, hc, t_OB.to (V := updV (vp_V fs) k v) ⟨_, e1, q2, q3, t_set q4 hap hk v⟩ (fun j _ => vp_updV_set hl v j)⟩ e3) (hS.put e2 e3 hAq) hL
theorem x_iald (hE : x_E G F cc own Ts nL ret rm) {n : Nat} {f : Nat → Int32} (hq : h q = some (.inl (g_c G 0, n, .inl f))) {i : Int32} {v : Int32} (hin : vp_in i n) (hv : f i.toNatClampNeg = v) (d : decode cc pc = .ok (.iaload, 1)) (kk : x_W G F Q a b h (pc + 1) L (.int v :: st)) : x_W G F Q a b h pc L (.int i :: .ref q :: st) := by
  subst hv
  exact fun H locs ls hH hS hL => va_iald (D := g_D G) (cl := vwCl) (tys := x_T (g_c G)) (ws := [(q, .inl (g_c G 0, n, .inl f))]) hE.1 hE.2.1 hE.2.2.2.2.2.1 (x_one (hH q _ hq).1) 0 0 rfl rfl hin d (kk H locs ls hH hS hL)
theorem x_zald (hE : x_E G F cc own Ts nL ret rm) {n : Nat} {f : Nat → Int32} (hq : h q = some (.inl (g_c G 1, n, .inl f))) {i : Int32} {v : Int32} (hin : vp_in i n) (hv : f i.toNatClampNeg = v) (d : decode cc pc = .ok (.baload, 1)) (kk : x_W G F Q a b h (pc + 1) L (.int v :: st)) : x_W G F Q a b h pc L (.int i :: .ref q :: st) := by
  subst hv
  exact fun H locs ls hH hS hL => va_zald (D := g_D G) (cl := vwCl) (tys := x_T (g_c G)) (ws := [(q, .inl (g_c G 1, n, .inl f))]) hE.1 hE.2.1 hE.2.2.2.2.2.1 (x_one (hH q _ hq).1) 0 1 rfl rfl hin d (kk H locs ls hH hS hL)
theorem x_lald (hE : x_E G F cc own Ts nL ret rm) {n : Nat} {f : Nat → Int64} (hq : h q = some (.inl (g_c G 2, n, .inr (.inl f)))) {i : Int32} {v : Int64} (hin : vp_in i n) (hv : f i.toNatClampNeg = v) (d : decode cc pc = .ok (.laload, 1)) (kk : x_W G F Q a b h (pc + 1) L (.long v :: st)) : x_W G F Q a b h pc L (.int i :: .ref q :: st) := by
  subst hv
  exact fun H locs ls hH hS hL => va_lald (D := g_D G) (cl := vwCl) (tys := x_T (g_c G)) (ws := [(q, .inl (g_c G 2, n, .inr (.inl f)))]) hE.1 hE.2.1 hE.2.2.2.2.2.1 (x_one (hH q _ hq).1) 0 2 rfl rfl hin d (kk H locs ls hH hS hL)
theorem x_aald (hE : x_E G F cc own Ts nL ret rm) {n t0 : Nat} {cA : ClassId} {C : String} {f : Nat → Option Nat} (hq : h q = some (.inl (cA, n, .inr (.inr (.inr (.inr f)))))) (ht : (x_T (g_c G))[t0]? = some (cA, .object C)) {i : Int32} {v : Option Nat} (hin : vp_in i n) (hv : f i.toNatClampNeg = v) (d : decode cc pc = .ok (.aaload, 1)) (kk : x_W G F Q a b h (pc + 1) L (va_rf v :: st)) : x_W G F Q a b h pc L (.int i :: .ref q :: st) := by
  subst hv
  exact fun H locs ls hH hS hL => va_aldq (D := g_D G) (cl := vwCl) (tys := x_T (g_c G)) (ws := [(q, .inl (cA, n, .inr (.inr (.inr (.inr f)))))]) hE.1 hE.2.1 hE.2.2.2.2.2.1 (x_one (hH q _ hq).1) 0 t0 rfl ht hin d (kk H locs ls hH hS hL)
theorem x_alen (hE : x_E G F cc own Ts nL ret rm) {t0 n : Nat} {cA : ClassId} {x : (Nat → Int32) ⊕ (Nat → Int64) ⊕ (Nat → UInt32) ⊕ (Nat → UInt64) ⊕ (Nat → Option Nat)} {ty : FieldType} (hq : h q = some (.inl (cA, n, x))) (ht : (x_T (g_c G))[t0]? = some (cA, ty)) (d : decode cc pc = .ok (.arraylength, 1)) (kk : x_W G F Q a b h (pc + 1) L (.int (nI n) :: st)) : x_W G F Q a b h pc L (.ref q :: st) := fun H locs ls hH hS hL =>
  va_alen (D := g_D G) (cl := vwCl) (tys := x_T (g_c G)) (ws := [(q, .inl (cA, n, x))]) hE.1 hE.2.1 hE.2.2.2.2.2.1 (x_one (hH q _ hq).1) 0 t0 rfl ht rfl d (kk H locs ls hH hS hL)
theorem x_iast (hE : x_E G F cc own Ts nL ret rm) {n : Nat} {f f' : Nat → Int32} (hq : h q = some (.inl (g_c G 0, n, .inl f))) {i x : Int32} (hin : vp_in i n) (hf : upd f i.toNatClampNeg x = f') (d : decode cc pc = .ok (.iastore, 1)) (kk : x_W G F Q a b (x_up h q (.inl (g_c G 0, n, .inl f'))) (pc + 1) L st) : x_W G F Q a b h pc L (.int x :: .int i :: .ref q :: st) := by
  subst hf
  intro H locs ls hH hS hL
  obtain ⟨hexec, hb, hml, hown, hts, hK, -⟩ := hE
  obtain ⟨hat, hAq⟩ := hH q _ hq
  have ht : (x_T (g_c G))[0]? = some (g_c G 0, .int) := rfl
  refine W.iast hexec hb hat ((hK.2 0 _ ht).1 n (fun j => .int (f j))) (fun q => by cases q) (by show ¬ (i < 0 ∨ (arrV _ _ _).slots.size ≤ _); rw [arrV_size]; exact hin) rfl rfl d fun H1 e z oq => ?_
  refine kk H1 _ ls (hH.up hAq ?_ oq) (hS.put z oq hAq) hL
  show H1[q]? = some (vp_cell _ _)
  rw [e]
  rw [vp_cell_i, vp_cell_i, arrV_store]
  congr 2
  funext j
  by_cases hj : j = i.toNatClampNeg
  · subst hj
    simp [updV, upd]
  · simp [updV, upd, hj]
theorem x_zast (hE : x_E G F cc own Ts nL ret rm) {n : Nat} {f f' : Nat → Int32} (hq : h q = some (.inl (g_c G 1, n, .inl f))) {i x : Int32} (hin : vp_in i n) (hf : upd f i.toNatClampNeg (vp_nar .boolean x) = f') (d : decode cc pc = .ok (.bastore, 1)) (kk : x_W G F Q a b (x_up h q (.inl (g_c G 1, n, .inl f'))) (pc + 1) L st) : x_W G F Q a b h pc L (.int x :: .int i :: .ref q :: st) := by
  subst hf
  intro H locs ls hH hS hL
  obtain ⟨hexec, hb, hml, hown, hts, hK, -⟩ := hE
  obtain ⟨hat, hAq⟩ := hH q _ hq
  have ht : (x_T (g_c G))[1]? = some (g_c G 1, .boolean) := rfl
  refine W.zast hexec hb hat ((hK.2 1 _ ht).1 n (fun j => .int (f j))) (fun q => by cases q) (by show ¬ (i < 0 ∨ (arrV _ _ _).slots.size ≤ _); rw [arrV_size]; exact hin) rfl rfl d fun H1 e z oq => ?_
  refine kk H1 _ ls (hH.up hAq ?_ oq) (hS.put z oq hAq) hL
  show H1[q]? = some (vp_cell _ _)
  rw [e]
  rw [vp_cell_i, vp_cell_i, arrV_store]
  congr 2
  funext j
  by_cases hj : j = i.toNatClampNeg
  · subst hj
    simp [updV, upd, vp_nar]
    try rfl
  · simp [updV, upd, hj]
theorem x_last (hE : x_E G F cc own Ts nL ret rm) {n : Nat} {f f' : Nat → Int64} (hq : h q = some (.inl (g_c G 2, n, .inr (.inl f)))) {i : Int32} {x : Int64} (hin : vp_in i n) (hf : vp_updL f i.toNatClampNeg x = f') (d : decode cc pc = .ok (.lastore, 1)) (kk : x_W G F Q a b (x_up h q (.inl (g_c G 2, n, .inr (.inl f')))) (pc + 1) L st) : x_W G F Q a b h pc L (.long x :: .int i :: .ref q :: st) := by
  subst hf
  intro H locs ls hH hS hL
  obtain ⟨hexec, hb, hml, hown, hts, hK, -⟩ := hE
  obtain ⟨hat, hAq⟩ := hH q _ hq
  have ht : (x_T (g_c G))[2]? = some (g_c G 2, .long) := rfl
  refine W.last hexec hb hat ((hK.2 2 _ ht).1 n (fun j => .long (f j))) (fun q => by cases q) (by show ¬ (i < 0 ∨ (arrV _ _ _).slots.size ≤ _); rw [arrV_size]; exact hin) rfl rfl d fun H1 e z oq => ?_
  refine kk H1 _ ls (hH.up hAq ?_ oq) (hS.put z oq hAq) hL
  show H1[q]? = some (vp_cell _ _)
  rw [e]
  rw [vp_cell_l, vp_cell_l, arrV_store]
  congr 2
  funext j
  by_cases hj : j = i.toNatClampNeg
  · subst hj
    simp [updV, vp_updL]
  · simp [updV, vp_updL, hj]
theorem x_aast (hE : x_E G F cc own Ts nL ret rm) {n t0 ci v : Nat} {cA : ClassId} {r : vw_C} {f f' : Nat → Option Nat} {vs : List Value} (hq : h q = some (.inl (cA, n, .inr (.inr (.inr (.inr f)))))) (ht : (x_T (g_c G))[t0]? = some (cA, .object r.1)) (hv : h v = some (.inr (ci, vs))) (hc : vwCl[ci]? = some r) {i : Int32} (hin : vp_in i n) (hf : va_up f i.toNatClampNeg (some v) = f') (d : decode cc pc = .ok (.aastore, 1)) (kk : x_W G F Q a b (x_up h q (.inl (cA, n, .inr (.inr (.inr (.inr f')))))) (pc + 1) L st) : x_W G F Q a b h pc L (.ref v :: .int i :: .ref q :: st) := by
  subst hf
  intro H locs ls hH hS hL
  obtain ⟨hexec, hb, hml, hown, hts, hK, -⟩ := hE
  obtain ⟨hat, hAq⟩ := hH q _ hq
  have hlt : i.toNatClampNeg < n := Nat.not_le.mp fun q => hin (Or.inr q)
  have h0 : ¬ i < 0 := fun q => hin (Or.inl q)
  obtain ⟨r', hr', cellV, g1, g2, g3, -⟩ := (hH v _ hv).1
  have hcls := (hK.1 ci r hc).2
  obtain ⟨kA, comp, k1, k2, k3, -⟩ := (hK.2 t0 _ ht).2
  have hcomp : comp = (g_D G).1 ci := Option.some.inj (k3.symm.trans hcls.1)
  subst hcomp
  obtain ⟨kC, hkC, -⟩ := hcls.2
  refine W.aast hexec hb hat (fun q h => by cases h) (fun h => by cases h) k1 k2 rfl hkC ⟨h0, by show _ < (arrV _ _ _).slots.size; rw [arrV_size]; exact hlt⟩ g1 (fun q h => by rw [g3] at h; cases h) (by rw [g2]; exact hkC) (by rw [g2]; exact va_assign hcls) rfl rfl d fun H1 e z oq => ?_
  refine kk H1 _ ls (hH.up hAq ?_ oq) (hS.put z oq hAq) hL
  show H1[q]? = some (vp_cell _ _)
  rw [e]
  rw [vp_cell_q, vp_cell_q, arrV_store]
  congr 2
  funext j
  by_cases hj : j = i.toNatClampNeg
  · subst hj
    simp [updV, va_up, va_rf]
  · simp [updV, va_up, hj]
theorem x_new (hE : x_E G F cc own Ts nL ret rm) {C : String} {T : u_T} {N ci index : Nat} (hin : ∀ w ∈ u_ws C T N, w ∈ Ts) (ty : Nat → FieldType) (hty : ∀ k, k < N → parseFieldDescriptor (T k).2.2.1 = some (ty k)) (hw : Cond.classLink own index C ∈ Ts) (hwi : Cond.instantiable C N ∈ Ts) (hwn : Cond.initialized C ∈ Ts) (hc : vwCl[ci]? = some (C, T, N)) {fs : List Value} (hfs : ∀ j, j < N → defaultValue (ty j) = vp_V fs j) (hcells : a + 1 ≤ rm.cells) (hslots : b + N ≤ rm.slots) (d : decode cc pc = .ok (.new index, 3))
    (kk : ∀ q : Nat, h q = none → x_W G F Q (a + 1) (b + N) (x_up h q (.inr (ci, fs))) (pc + 3) L (.ref q :: st)) : x_W G F Q a b h pc L st := by
  intro H locs ls hH hS hL
  obtain ⟨hexec, hb, hml, hown, hts, hK, -, -, hR, hA⟩ := hE
  have hKn := hK.1 ci _ hc
  refine W.newcK hexec hb hown (hts _ hw) (hts _ hwi) (hts _ hwn) rfl d (by rw [hR]; exact hcells) (by rw [hR]; exact hslots) hKn.2.1 rfl fun H1 kC hkC e1 z1 o1 => ?_
  obtain ⟨h1, h2⟩ := hH.new (hA _ hS.1) (e := .inr (ci, fs)) ⟨_, hc, (u_born ty hts hin hKn hkC e1 hty).to hfs⟩ o1
  exact kk H.size h1 H1 locs ls h2 (x_S.new hS z1 o1) hL
theorem x_newa (hE : x_E G F cc own Ts nL ret rm) {atype : ArrayType} {t0 : Nat} {cA : ClassId} {a0 : vp_A} {ty : FieldType} (hw : Cond.arrayClass (newarray.typeOf atype) ∈ Ts) (hty : newarray.typeOf atype = ty) (ht : (x_T (g_c G))[t0]? = some (cA, ty)) (hobj : ∀ C, ty ≠ .object C) {n : Int32} {N' : Nat} (ha : ∀ cA : ClassId, vp_cell cA a0 = arrV cA N' (fun _ => defaultValue ty)) (hn : ¬ n < 0) (hN : n.toNatClampNeg = N') (hbytes : N' * componentBytes ty ≤ 536870912) (hcells : a + 1 ≤ rm.cells) (hslots : b + N' ≤ rm.slots) (d : decode cc pc = .ok (.newarray atype, 2))
    (kk : ∀ q : Nat, h q = none → x_W G F Q (a + 1) (b + N') (x_up h q (.inl (cA, a0))) (pc + 2) L (.ref q :: st)) : x_W G F Q a b h pc L (.int n :: st) := by
  subst hty
  intro H locs ls hH hS hL
  obtain ⟨hexec, hb, hml, hown, hts, hK, -, -, hR, hA⟩ := hE
  refine va_newaK hexec hb (hts _ hw) rfl d rfl hn hN hbytes (by rw [hR]; exact hcells) (by rw [hR]; exact hslots) rfl fun H1 cA' e1 z1 o1 hAr hNm => ?_
  have hcA : cA' = cA := by
    have h4 := (hK.2 t0 _ ht).2
    unfold va_RA at h4
    split at h4
    · exact absurd (by assumption) (hobj _)
    · exact Option.some.inj (hNm.symm.trans h4)
  subst hcA
  obtain ⟨h1, h2⟩ := hH.new (hA _ hS.1) (e := .inl (cA', a0)) (by show H1[H.size]? = some (vp_cell _ _); rw [ha]; exact e1) o1
  exact kk H.size h1 H1 locs ls h2 (x_S.new hS z1 o1) hL
theorem x_newr (hE : x_E G F cc own Ts nL ret rm) {C : String} {index t0 : Nat} {cA : ClassId} (hw : Cond.classLink own index C ∈ Ts) (hov : va_AO C (f_s F)) (ht : (x_T (g_c G))[t0]? = some (cA, .object C)) {n : Int32} {N' : Nat} (hn : ¬ n < 0) (hN : n.toNatClampNeg = N') (hbytes : N' * 4 ≤ 536870912) (hcells : a + 1 ≤ rm.cells) (hslots : b + N' ≤ rm.slots) (d : decode cc pc = .ok (.anewarray index, 3))
    (kk : ∀ q : Nat, h q = none → x_W G F Q (a + 1) (b + N') (x_up h q (.inl (cA, N', .inr (.inr (.inr (.inr (fun _ => none))))))) (pc + 3) L (.ref q :: st)) : x_W G F Q a b h pc L (.int n :: st) := by
  subst hN
  intro H locs ls hH hS hL
  obtain ⟨hexec, hb, hml, hown, hts, hK, -, -, hR, hA⟩ := hE
  refine W.anew hexec hb hown (hts _ hw) (va_AO.use hov) rfl d rfl hn hbytes (by rw [hR]; exact hcells) (by rw [hR]; exact hslots) fun cA' kA comp f1 f2 f3 f4 => ?_
  generalize hH1 : H.push ({ cls := cA', slots := Array.replicate n.toNatClampNeg .null, vm := .none } : Cell) = H1
  have z1 : H1.size = H.size + 1 := by rw [← hH1, Array.size_push]
  have e1 : H1[H.size]? = some (arrV cA' n.toNatClampNeg (fun _ => .null)) := by rw [← hH1, Array.getElem?_push_size, ← arrV_new]
  have o1 : ∀ q : Nat, q < H.size → H1[q]? = H[q]? := fun q hq => by rw [← hH1, Array.getElem?_push, if_neg (Nat.ne_of_lt hq)]
  have hcA : cA' = cA := by
    obtain ⟨kA2, comp2, g1, g2, g3, g4⟩ := (hK.2 t0 _ ht).2
    exact Option.some.inj (f1.symm.trans g4)
  subst hcA
  obtain ⟨h1, h2⟩ := hH.new (hA _ hS.1) (e := .inl (cA', n.toNatClampNeg, .inr (.inr (.inr (.inr (fun _ => none)))))) (by show H1[H.size]? = some (vp_cell _ _); rw [vp_cell_q]; exact e1) o1
  exact kk H.size h1 H1 locs ls h2 (x_S.new hS z1 o1) hL
end X3
end
section
/-! contracts of methods, their proofs' frame, returns, calls -/
def x_Pc (G : XG) (As : List Value) (h : HM) : Array Value → State → Prop := fun v U => v = As.toArray ∧ x_H G h U.heap ∧ va_K (g_D G) vwCl (x_T (g_c G)) U ∧ ∀ q, U.heap.size ≤ q → g_A G q
def x_Qc (G : XG) (post : Option Value → HM → Prop) : Array Value → State → Outcome → State → Prop := fun _ st oc t => ∃ (v : Option Value) (h' : HM), oc = .returned v ∧ post v h' ∧ x_H G h' t.heap ∧ va_F (g_A G) st t
def x_M (G : XG) (y : MethodName) (ws : List Cond) (rm : Room) (As : List Value) (h : HM) (post : Option Value → HM → Prop) (mc ms : Nat) : Prop := Met (g_l G) y ws rm (x_Pc G As h) (x_Qc G post) mc ms (g_A G)
def x_Q (G : XG) (F : XF) (post : Option Value → HM → Prop) (mc ms : Nat) : State → Prop := MQ (f_b F) (x_Qc G post) (f_a F) (f_s F) mc ms (g_A G)
theorem x_cat_rf (r : Option Nat) : (va_rf r).category = 1 := by cases r <;> rfl
theorem x_nar_rf (C : String) (r : Option Nat) : narrow (.object C) (va_rf r) = va_rf r := by cases r <;> rfl
theorem x_fit_rf (C : String) (r : Option Nat) : fits (.object C) (va_rf r) = true := by cases r <;> rfl
abbrev x_is (v0 : Option Value) (h1 : HM) : Option Value → HM → Prop := fun v h' => v = v0 ∧ h1 = h'
theorem x_up_up (h : HM) (a : Nat) (e e' : va_E) : x_up (x_up h a e) a e' = x_up h a e' := by
  funext q
  by_cases c : q = a
  · rw [c, x_up_eq, x_up_eq]
  · rw [x_up_ne c, x_up_ne c, x_up_ne c]
theorem x_up_self {h : HM} {a : Nat} {e : va_E} (hh : h a = some e) : x_up h a e = h := by
  funext q
  by_cases c : q = a
  · rw [c, x_up_eq, hh]
  · rw [x_up_ne c]
theorem x_up_cm (h : HM) {a b : Nat} (e e' : va_E) (n : a ≠ b) : x_up (x_up h a e) b e' = x_up (x_up h b e') a e := by
  funext q
  by_cases c : q = a
  · subst c
    rw [x_up_ne n, x_up_eq, x_up_eq]
  · by_cases c2 : q = b
    · subst c2
      rw [x_up_eq, x_up_ne c, x_up_eq]
    · rw [x_up_ne c2, x_up_ne c, x_up_ne c, x_up_ne c2]
theorem x_ieq {G : XG} {F : XF} {Q : State → Prop} {a b : Nat} {h : HM} {pc : Nat} {L : List (Option Value)} {st : List Value} {x y : Int32} (e : x = y) (kk : x_W G F Q a b h pc L (.int y :: st)) : x_W G F Q a b h pc L (.int x :: st) := e ▸ kk
theorem x_heq {G : XG} {F : XF} {Q : State → Prop} {a b : Nat} {h h' : HM} {pc : Nat} {L : List (Option Value)} {st : List Value} (e : h = h') (kk : x_W G F Q a b h' pc L st) : x_W G F Q a b h pc L st := e ▸ kk
def x_ent (As : List Value) (n : Nat) : List (Option Value) := As.map some ++ List.replicate (n - As.length) none
theorem x_ent_loc {As : List Value} {n : Nat} (hn : As.length ≤ n) (hc : ∀ v ∈ As, v.category = 1) : x_loc ((As.map Slot.val ++ List.replicate (n - As.length) Slot.unset).toArray) (x_ent As n) := by
  have key : ∀ (i : Nat) (x : Slot), ((As.map Slot.val ++ List.replicate (n - As.length) Slot.unset).toArray)[i]? = some x → (∃ v, x = .val v ∧ As[i]? = some v ∧ v.category = 1) ∨ x = .unset := by
    intro i x hx
    rw [List.getElem?_toArray] at hx
    by_cases hl : i < As.length
    · rw [List.getElem?_append_left (by simpa using hl), List.getElem?_map] at hx
      rw [List.getElem?_eq_getElem hl] at hx
      cases hx
      exact Or.inl ⟨As[i], rfl, List.getElem?_eq_getElem hl, hc _ (List.getElem_mem hl)⟩
    · rw [List.getElem?_append_right (by simpa using Nat.not_lt.mp hl)] at hx
      exact Or.inr (List.eq_of_mem_replicate (List.mem_of_getElem? hx))
  refine ⟨by simp [x_ent], ⟨fun i v hi h2 => ?_, fun i hi => ?_⟩, fun i v hi => ?_⟩
  · rcases key i _ hi with ⟨w, e, -, h1⟩ | e
    · cases e
      omega
    · cases e
  · rcases key i _ hi with ⟨w, e, -, h1⟩ | e <;> cases e
  · unfold x_ent at hi
    by_cases hl : i < As.length
    · rw [List.getElem?_append_left (by simpa using hl), List.getElem?_map, List.getElem?_eq_getElem hl] at hi
      cases hi
      refine ⟨?_, hc _ (List.getElem_mem hl)⟩
      rw [List.getElem?_toArray, List.getElem?_append_left (by simpa using hl), List.getElem?_map, List.getElem?_eq_getElem hl]
      rfl
    · rw [List.getElem?_append_right (by simpa using Nat.not_lt.mp hl)] at hi
      have := List.eq_of_mem_replicate (List.mem_of_getElem? hi)
      cases this
/-- a contract's proof: the walk of the body from its entry -/
theorem x_M.of {G : XG} {cls nm ds : String} {ws ws' : List Cond} {rm : Room} {As : List Value} {h : HM} {post : Option Value → HM → Prop} {mc ms : Nat} {cc : ByteArray} {maxL : Nat} {ret : Option FieldType} {ent : List (Option Value)}
    (hy : plainName cls = true) (hw : ws = Cond.code ⟨cls, nm, ds⟩ cc maxL ret :: ws') (hn : As.length ≤ maxL) (hc0 : As.all (fun v => v.category == 1) = true) (he : x_ent As maxL = ent)
    (body : ∀ F : XF, x_E G F cc cls ws maxL ret rm → (f_t F).name = nm → x_W G F (x_Q G F post mc ms) 0 0 h 0 ent []) : x_M G ⟨cls, nm, ds⟩ ws rm As h post mc ms := by
  subst he
  have hc : ∀ v ∈ As, v.category = 1 := fun v hv => by simpa using List.all_eq_true.mp hc0 v hv
  refine Met.ofW (cc := cc) (maxL := maxL) (ret := ret) hy hw ?_
  intro p e s m args below meth c s₁ B hml hv
  obtain ⟨rfl, hH, hK, hA⟩ := hv
  have hE : x_E G (p, e, (headSpec ws rm).room, s, m, As.toArray, below, meth, c) cc cls ws maxL ret rm := ⟨B.exec, B.bytes, hml, findClass_of_methodNamed B.named, atoms_spec (ws := ws) B.pre, hK, B.notSynchronized, B.returns, rfl, hA⟩
  have hb := body _ hE (name_of_methodNamed B.named B.method).1
  rw [entry_eq m As hc maxL]
  exact hb s.heap [] _ hH va_S.rf (x_ent_loc hn hc)
section X4
variable {G : XG} {F : XF} {cc : ByteArray} {own : String} {Ts : List Cond} {nL : Nat} {ret : Option FieldType} {rm : Room} {Q : State → Prop} {a b : Nat} {h : HM} {pc : Nat} {L L' : List (Option Value)} {st : List Value} {post : Option Value → HM → Prop}
theorem x_iret (hE : x_E G F cc own Ts nL (some .int) rm) {v : Int32} (d : decode cc pc = .ok (.ireturn, 1)) (hp : post (some (.int v)) h) : x_W G F (x_Q G F post a b) a b h pc L [.int v] := fun H locs ls hH hS hL =>
  W.iret hE.1 hE.2.1 hE.2.2.2.2.2.2.2.1 (fun t ht hW => ⟨_, h, rfl, hp, by rw [ht]; exact hH, hS.F ht⟩) hS.2.2 d hE.2.2.2.2.2.2.1
theorem x_zret (hE : x_E G F cc own Ts nL (some .boolean) rm) {v : Int32} (hv : v = 0 ∨ v = 1) (d : decode cc pc = .ok (.ireturn, 1)) (hp : post (some (.int v)) h) : x_W G F (x_Q G F post a b) a b h pc L [.int v] := fun H locs ls hH hS hL =>
  W.zret hE.1 hE.2.1 hE.2.2.2.2.2.2.2.1 (by rcases hv with rfl | rfl <;> rfl) (fun t ht hW => ⟨_, h, rfl, hp, by rw [ht]; exact hH, hS.F ht⟩) hS.2.2 d hE.2.2.2.2.2.2.1
theorem x_fret (hE : x_E G F cc own Ts nL (some .float) rm) {v : UInt32} (d : decode cc pc = .ok (.freturn, 1)) (hp : post (some (.float v)) h) : x_W G F (x_Q G F post a b) a b h pc L [.float v] := fun H locs ls hH hS hL =>
  W.fret hE.1 hE.2.1 hE.2.2.2.2.2.2.2.1 (fun t ht hW => ⟨_, h, rfl, hp, by rw [ht]; exact hH, hS.F ht⟩) hS.2.2 d hE.2.2.2.2.2.2.1
theorem x_vret (hE : x_E G F cc own Ts nL none rm) (d : decode cc pc = .ok (.return_, 1)) (hp : post none h) : x_W G F (x_Q G F post a b) a b h pc L [] := fun H locs ls hH hS hL =>
  W.vret hE.1 hE.2.1 hE.2.2.2.2.2.2.2.1 (fun t ht hW => ⟨_, h, rfl, hp, by rw [ht]; exact hH, hS.F ht⟩) hS.2.2 d hE.2.2.2.2.2.2.1
theorem x_aret (hE : x_E G F cc own Ts nL ret rm) (hret : (∃ n, ret = some (.object n)) ∨ ∃ t, ret = some (.array t)) {v : Value} (hv : x_rv v = true) (d : decode cc pc = .ok (.areturn, 1)) (hp : post (some v) h) : x_W G F (x_Q G F post a b) a b h pc L [v] := fun H locs ls hH hS hL => by
  have hr := hE.2.2.2.2.2.2.2.1
  have hv2 : v = .null ∨ ∃ a, v = .ref a := by cases v <;> first | exact Or.inl rfl | exact Or.inr ⟨_, rfl⟩ | cases hv
  rcases hret with ⟨n, rfl⟩ | ⟨n, rfl⟩
  · exact W.aret hE.1 hE.2.1 hr (Or.inl ⟨n, rfl⟩) hv2 (fun t ht hW => ⟨_, h, rfl, hp, by rw [ht]; exact hH, hS.F ht⟩) hS.2.2 d hE.2.2.2.2.2.2.1
  · exact W.aret hE.1 hE.2.1 hr (Or.inr ⟨n, rfl⟩) hv2 (fun t ht hW => ⟨_, h, rfl, hp, by rw [ht]; exact hH, hS.F ht⟩) hS.2.2 d hE.2.2.2.2.2.2.1
theorem x_objinit (hE : x_E G F cc own Ts nL ret rm) {i q : Nat} (h1 : Cond.methodLink own i objectInit ∈ Ts) (h2 : Cond.instanceMethod objectInit ∈ Ts) (h3 : Cond.code objectInit ⟨#[0xb1]⟩ 1 none ∈ Ts) (hL0 : L.length = nL) (hst : (st.map fun v => v.category).sum + 12 ≤ rm.locals) (hfr : 1 ≤ rm.frames) (d : decode cc pc = .ok (.invokespecial i, 3)) (kk : x_W G F Q a b h (pc + 3) L st) : x_W G F Q a b h pc L (.ref q :: st) := fun H locs ls hH hS hL => by
  obtain ⟨hexec, hb, hml, hown, hts, hK, -, -, hR, hA⟩ := hE
  exact W.objInit hexec hb hown (hts _ h1) (hts _ h2) (hts _ h3) rfl (by rw [hml, ← hL0]; exact hL.1) rfl d (by rw [hR]; exact hfr) (by rw [hR]; show 2 * 0 + _ + 12 ≤ _; omega) (kk H locs ls hH hS hL)
/-- behind a call, whatever it answers -/
theorem x_back {mc ms : Nat} {free : Addr → Prop} {Qa : State → Outcome → State → Prop} {st2 : List Value} (hf : ∀ q, free q → g_A G q)
    (hr : ∀ (H : Heap) (locs : List Loc) (ls : Array Slot), x_H G h H → va_S (g_A G) (f_s F).heap H locs → x_loc ls L → va_Run (f_p F) (g_l G) (f_e F) (f_R F) (f_s F) (f_m F) (f_a F) (f_b F) (f_t F) (f_c F) H locs a b mc ms (F0 (f_m F) pc ls st2) st (x_Qc G post (f_a F)) (g_A G))
    (kk : ∀ (v : Option Value) (h' : HM), post v h' → x_W G F Q (a + mc) (b + ms) h' (pc + 3) L (v.toList ++ st)) : x_W G F Q a b h pc L st2 := by
  intro H locs ls hH hS hL T hT X
  obtain ⟨v, st₀, t, T', L1, h0, X', hL1, e1, e2, ⟨v', h', hv, hp, hH', hz, hk⟩, stp⟩ := hr H locs ls hH hS hL T hT X
  cases hv
  rw [h0] at hz hk
  obtain ⟨t2, a1, b1⟩ := kk v h' hp T'.heap (locs ++ L1) ls (by rw [e1]; exact hH') ⟨Nat.le_trans hS.1 (by rw [e1]; exact hz), fun q h1 h2 => by rw [e1, hk q (Nat.lt_of_lt_of_le h1 hS.1) h2]; exact hS.2.1 q h1 h2, fun q hq => by
      rcases List.mem_append.mp hq with h | h
      · exact hS.2.2 q h
      · exact hL1 q h⟩ hL T' rfl X'
  exact ⟨t2, stp t2 a1, b1⟩
theorem x_pre {As : List Value} (hE : x_E G F cc own Ts nL ret rm) {H : Heap} {locs : List Loc} (hH : x_H G h H) (hS : va_S (g_A G) (f_s F).heap H locs) : PreS (f_s F) H (x_Pc G As h) As :=
  ⟨fun a U g mk q => ⟨q.1, q.2.1, va_K.moved (u := U) (U := U.calling g mk a) (Vm.Alike.refl U.vm) q.2.2.1, q.2.2.2⟩, fun U hU hW => ⟨rfl, by rw [hU]; exact hH, va_K.moved hW.alike hE.2.2.2.2.2.1, fun q hq => hE.2.2.2.2.2.2.2.2.2 q (by rw [hU] at hq; exact Nat.le_trans hS.1 hq)⟩⟩
theorem x_callV (hE : x_E G F cc own Ts nL ret rm) {y : MethodName} {C : String} {bytes : ByteArray} {maxL index mc ms q ci : Nat} {ret' : Option FieldType} {ws ws' : List Cond} {rm' : Room} {As fs : List Value} {T : u_T} {N : Nat} (n : Nat)
    (hM : x_M G y ws rm' (.ref q :: As) h post mc ms) (hg : GoodIn Ts (wsV own index C y ws)) (hw : ws = Cond.code y bytes maxL ret' :: ws') (hrc : rm'.cells = mc) (hrs : rm'.slots = ms)
    (hd : y.cls = C ∧ y.cls ≠ "java/lang/invoke/MethodHandle" ∧ y.cls ≠ "java/lang/invoke/VarHandle" ∧ (parseMethodDescriptor y.desc).map (fun d => d.parameters.length) = some n)
    (hR : rm'.frames + 1 ≤ rm.frames ∧ 8 + (maxL + 11) + rm'.locals ≤ rm.locals) (hq : h q = some (.inr (ci, fs))) (hc : vwCl[ci]? = some (C, T, N)) (hn : As.length = n) (hnL : L.length = nL)
    (d : decode cc pc = .ok (.invokevirtual index, 3)) {st2 : List Value} (hst : st2 = As.reverse ++ .ref q :: st) (hcat : (st.map fun v => v.category).sum ≤ 8) (hrm : a + mc ≤ rm.cells ∧ b + ms ≤ rm.slots)
    (kk : ∀ (v : Option Value) (h' : HM), post v h' → x_W G F Q (a + mc) (b + ms) h' (pc + 3) L (v.toList ++ st)) : x_W G F Q a b h pc L st2 := by
  subst hst
  refine x_back (free := g_A G) (Qa := fun _ _ _ => True) (fun _ h => h) (fun H locs ls hH hS hL => ?_) kk
  have hR' := hE.2.2.2.2.2.2.2.2.1
  have hp := x_pre (As := .ref q :: As) hE hH hS
  exact va_runV (As := As) (rest := st) ⟨hE.1, hE.2.1, hE.2.2.1, hE.2.2.2.1, hE.2.2.2.2.1⟩ hM (cwV n hE.2.2.2.2.1 hg hw hrc hrs hd (by rw [hR']; exact hR)) ⟨hp.1, va_recv hE.2.2.2.2.2.1 (x_one (hH q _ hq).1) hc (q0 := 0) rfl, hp.2⟩ rfl hn (by rw [hL.1]; exact hnL) rfl (by show 2 * 0 + _ ≤ 8; omega) d (by rw [hR']; exact hrm)
theorem x_callS (hE : x_E G F cc own Ts nL ret rm) {y : MethodName} {bytes : ByteArray} {maxL index mc ms : Nat} {ret' : Option FieldType} {ws ws' : List Cond} {rm' : Room} {As : List Value} (n : Nat)
    (hM : x_M G y ws rm' As h post mc ms) (hg : GoodIn Ts (va_wsS own index y ws)) (hw : ws = Cond.code y bytes maxL ret' :: ws') (hrc : rm'.cells = mc) (hrs : rm'.slots = ms)
    (hd : y.cls ≠ "java/lang/invoke/MethodHandle" ∧ y.cls ≠ "java/lang/invoke/VarHandle" ∧ (parseMethodDescriptor y.desc).map (fun d => d.parameters.length) = some n)
    (hR : rm'.frames + 1 ≤ rm.frames ∧ 8 + (maxL + 11) + rm'.locals ≤ rm.locals) (hn : As.length = n) (hnL : L.length = nL)
    (d : decode cc pc = .ok (.invokestatic index, 3)) {st2 : List Value} (hst : st2 = As.reverse ++ st) (hcat : (st.map fun v => v.category).sum ≤ 8) (hrm : a + mc ≤ rm.cells ∧ b + ms ≤ rm.slots)
    (kk : ∀ (v : Option Value) (h' : HM), post v h' → x_W G F Q (a + mc) (b + ms) h' (pc + 3) L (v.toList ++ st)) : x_W G F Q a b h pc L st2 := by
  subst hst
  refine x_back (free := g_A G) (Qa := fun _ _ _ => True) (fun _ h => h) (fun H locs ls hH hS hL => ?_) kk
  have hR' := hE.2.2.2.2.2.2.2.2.1
  exact va_runS (As := As) (rest := st) ⟨hE.1, hE.2.1, hE.2.2.1, hE.2.2.2.1, hE.2.2.2.2.1⟩ hM (va_cwS n hE.2.2.2.2.1 hg hw hrc hrs hd (by rw [hR']; exact hR)) (x_pre hE hH hS) rfl hn (by rw [hL.1]; exact hnL) rfl (by show 2 * 0 + _ ≤ 8; omega) d (by rw [hR']; exact hrm)
theorem x_callI (hE : x_E G F cc own Ts nL ret rm) {y : MethodName} {bytes : ByteArray} {maxL index mc ms q : Nat} {ws ws' : List Cond} {rm' : Room} {As : List Value} (n : Nat)
    (hM : x_M G y ws rm' (.ref q :: As) h post mc ms) (hg : GoodIn Ts ws) (hw : ws = Cond.code y bytes maxL none :: ws') (hrc : rm'.cells = mc) (hrs : rm'.slots = ms)
    (hini : Cond.initialized y.cls ∈ Ts) (hl : Cond.methodLink own index y ∈ Ts) (hin : Cond.instanceMethod y ∈ Ts) (hy1 : y.name = "<init>")
    (hd : y.cls ≠ "java/lang/invoke/MethodHandle" ∧ y.cls ≠ "java/lang/invoke/VarHandle" ∧ (parseMethodDescriptor y.desc).map (fun d => d.parameters.length) = some n)
    (hR : rm'.frames + 1 ≤ rm.frames ∧ 8 + (maxL + 11) + rm'.locals ≤ rm.locals) (hn : As.length = n) (hnL : L.length = nL)
    (d : decode cc pc = .ok (.invokespecial index, 3)) {st2 : List Value} (hst : st2 = As.reverse ++ .ref q :: st) (hcat : (st.map fun v => v.category).sum ≤ 8) (hrm : a + mc ≤ rm.cells ∧ b + ms ≤ rm.slots)
    (kk : ∀ (v : Option Value) (h' : HM), post v h' → x_W G F Q (a + mc) (b + ms) h' (pc + 3) L (v.toList ++ st)) : x_W G F Q a b h pc L st2 := by
  subst hst
  refine x_back (free := g_A G) (Qa := fun _ _ _ => True) (fun _ h => h) (fun H locs ls hH hS hL => ?_) kk
  have hR' := hE.2.2.2.2.2.2.2.2.1
  have hts := hE.2.2.2.2.1
  exact va_runI (As := As) (rest := st) ⟨hE.1, hE.2.1, hE.2.2.1, hE.2.2.2.1, hts⟩ hM (cwI n hts hg hw hrc hrs (hts _ hini) (hts _ hl) (hts _ hin) hy1 hd (by rw [hR']; exact hR)) (x_pre (As := .ref q :: As) hE hH hS) rfl hn (by rw [hL.1]; exact hnL) rfl (by show 2 * 0 + _ ≤ 8; omega) d (by rw [hR']; exact hrm)
theorem x_max (hE : x_E G F cc own Ts nL ret rm) {index : Nat} {x y : Int32} (h1 : Cond.methodLink own index Lib.Math.max.name ∈ Ts) (h2 : Cond.static Lib.Math.max.name ∈ Ts) (h3 : Cond.initialized "java/lang/Math" ∈ Ts) (h4 : Cond.code Lib.Math.max.name Lib.Math.max.code 2 (some .int) ∈ Ts) (hnL : L.length = nL) (hfr : 1 ≤ rm.frames) (hlo : (st.map fun v => v.category).sum + 13 ≤ rm.locals) (hrm : a ≤ rm.cells ∧ b ≤ rm.slots) (d : decode cc pc = .ok (.invokestatic index, 3)) (kk : x_W G F Q a b h (pc + 3) L (.int (if x < y then y else x) :: st)) : x_W G F Q a b h pc L (.int y :: .int x :: st) := fun H locs ls hH hS hL => by
  obtain ⟨hexec, hb, hml, hown, hts, hK, -, -, hR, hA⟩ := hE
  exact va_mmax hexec hb (by rw [hml, ← hnL]; exact hL.1.symm) hown (hts _ h1) (hts _ h2) (hts _ h3) (hts _ h4) (by rw [hR]; exact hfr) (by rw [hR]; exact hlo) (by rw [hR]; exact hrm.1) (by rw [hR]; exact hrm.2) d (kk H locs ls hH hS hL)
theorem x_min (hE : x_E G F cc own Ts nL ret rm) {index : Nat} {x y : Int32} (h1 : Cond.methodLink own index Lib.Math.min.name ∈ Ts) (h2 : Cond.static Lib.Math.min.name ∈ Ts) (h3 : Cond.initialized "java/lang/Math" ∈ Ts) (h4 : Cond.code Lib.Math.min.name Lib.Math.min.code 2 (some .int) ∈ Ts) (hnL : L.length = nL) (hfr : 1 ≤ rm.frames) (hlo : (st.map fun v => v.category).sum + 13 ≤ rm.locals) (hrm : a ≤ rm.cells ∧ b ≤ rm.slots) (d : decode cc pc = .ok (.invokestatic index, 3)) (kk : x_W G F Q a b h (pc + 3) L (.int (if y < x then y else x) :: st)) : x_W G F Q a b h pc L (.int y :: .int x :: st) := fun H locs ls hH hS hL => by
  obtain ⟨hexec, hb, hml, hown, hts, hK, -, -, hR, hA⟩ := hE
  exact va_mmin hexec hb (by rw [hml, ← hnL]; exact hL.1.symm) hown (hts _ h1) (hts _ h2) (hts _ h3) (hts _ h4) (by rw [hR]; exact hfr) (by rw [hR]; exact hlo) (by rw [hR]; exact hrm.1) (by rw [hR]; exact hrm.2) d (kk H locs ls hH hS hL)
theorem x_abs (hE : x_E G F cc own Ts nL ret rm) {index : Nat} {x : Int32} (h1 : Cond.methodLink own index Lib.Math.abs.name ∈ Ts) (h2 : Cond.static Lib.Math.abs.name ∈ Ts) (h3 : Cond.initialized "java/lang/Math" ∈ Ts) (h4 : Cond.code Lib.Math.abs.name Lib.Math.abs.code 1 (some .int) ∈ Ts) (hnL : L.length = nL) (hfr : 1 ≤ rm.frames) (hlo : (st.map fun v => v.category).sum + 13 ≤ rm.locals) (hrm : a ≤ rm.cells ∧ b ≤ rm.slots) (d : decode cc pc = .ok (.invokestatic index, 3)) (kk : x_W G F Q a b h (pc + 3) L (.int (if 0 ≤ x then x else 0 - x) :: st)) : x_W G F Q a b h pc L (.int x :: st) := fun H locs ls hH hS hL => by
  obtain ⟨hexec, hb, hml, hown, hts, hK, -, -, hR, hA⟩ := hE
  exact va_mabs hexec hb (by rw [hml, ← hnL]; exact hL.1.symm) hown (hts _ h1) (hts _ h2) (hts _ h3) (hts _ h4) (by rw [hR]; exact hfr) (by rw [hR]; exact hlo) (by rw [hR]; exact hrm.1) (by rw [hR]; exact hrm.2) d (kk H locs ls hH hS hL)
end X4
end
section
/-! plain facts and words for the contracts -/
def x_sel {α : Type} (n : Nat) (f : Nat → α) (i : Int32) (d : α) : α := if 0 ≤ i ∧ ¬ nI n ≤ i then f i.toNatClampNeg else d
theorem x_sel_in {α : Type} {n : Nat} {f : Nat → α} {i : Int32} {d : α} (h1 : 0 ≤ i) (h2 : ¬ nI n ≤ i) : x_sel n f i d = f i.toNatClampNeg := if_pos ⟨h1, h2⟩
theorem x_sel_lo {α : Type} {n : Nat} {f : Nat → α} {i : Int32} {d : α} (h1 : ¬ 0 ≤ i) : x_sel n f i d = d := if_neg (fun h => h1 h.1)
theorem x_sel_hi {α : Type} {n : Nat} {f : Nat → α} {i : Int32} {d : α} (h2 : nI n ≤ i) : x_sel n f i d = d := if_neg (fun h => h.2 h2)
theorem x_ge0 {i : Int32} (h : ¬ i < 0) : 0 ≤ i := by
  rw [Int32.lt_iff_toInt_lt] at h
  rw [Int32.le_iff_toInt_le]
  omega
theorem x_lt0 {i : Int32} (h : i < 0) : ¬ 0 ≤ i := by
  rw [Int32.lt_iff_toInt_lt] at h
  rw [Int32.le_iff_toInt_le]
  omega
theorem x_ixn {i : Int32} {n : Nat} (hn : n < 2 ^ 31) (h1 : 0 ≤ i) (h2 : ¬ nI n ≤ i) : ∃ j : Nat, j < n ∧ i = nI j := by
  rcases pk_ix i hn with h | h | h
  · exact absurd h1 (x_lt0 h)
  · exact absurd h h2
  · exact h
theorem x_inn {i : Int32} {n : Nat} (hn : n < 2 ^ 31) (h1 : 0 ≤ i) (h2 : ¬ nI n ≤ i) : vp_in i n := by
  obtain ⟨j, hj, rfl⟩ := x_ixn hn h1 h2
  exact vp_in_nI hj hn
theorem x_selN {α : Type} {n k : Nat} {f : Nat → α} {d : α} (hk : k < n) (hn : n < 2 ^ 31) : x_sel n f (nI k) d = f k := by
  rw [x_sel_in (nI_pos' (by omega)) (nI_ge hk hn), nI_clamp (by omega)]
theorem x_selO {α : Type} {n k : Nat} {f : Nat → α} {d : α} (hk : n ≤ k) (hn : k < 2 ^ 31) : x_sel n f (nI k) d = d := x_sel_hi (nI_le hk hn)
def b2i (b : Bool) : Int32 := if b = true then 1 else 0
theorem b2i_01 (b : Bool) : b2i b = 0 ∨ b2i b = 1 := by cases b <;> decide
theorem b2i_0 {b : Bool} : b2i b = 0 ↔ b = false := by cases b <;> decide
theorem b2i_n0 {b : Bool} : ¬ b2i b = 0 ↔ b = true := by cases b <;> decide
theorem b2i_t {b : Bool} (h : b = true) : b2i b = nI 1 := by rw [h]; decide
theorem b2i_f {b : Bool} (h : b = false) : b2i b = nI 0 := by rw [h]; decide
theorem x_zt {b : Bool} (h : b = true) : some (Value.int (nI 1)) = some (Value.int (b2i b)) := by rw [b2i_t h]
theorem x_zf {b : Bool} (h : b = false) : some (Value.int (nI 0)) = some (Value.int (b2i b)) := by rw [b2i_f h]
theorem x_nIlt {a b : Nat} (h : nI a < nI b) (ha : a < 2 ^ 31) (hb : b < 2 ^ 31) : a < b := (nI_ltI ha hb).mp h
theorem x_nIle {a b : Nat} (h : nI a ≤ nI b) (ha : a < 2 ^ 31) (hb : b < 2 ^ 31) : a ≤ b := (nI_leI ha hb).mp h
theorem x_nInle {a b : Nat} (h : ¬ nI a ≤ nI b) (ha : a < 2 ^ 31) (hb : b < 2 ^ 31) : b < a := Nat.lt_of_not_le (fun q => h ((nI_leI ha hb).mpr q))
theorem x_nInlt {a b : Nat} (h : ¬ nI a < nI b) (ha : a < 2 ^ 31) (hb : b < 2 ^ 31) : b ≤ a := Nat.le_of_not_lt (fun q => h ((nI_ltI ha hb).mpr q))
theorem x_nIinj {a b : Nat} (h : nI a = nI b) (ha : a < 2 ^ 31) (hb : b < 2 ^ 31) : a = b := (nI_eq ha hb).mp h
theorem x_updN (f : Nat → Int32) {k : Nat} (hk : k < 2 ^ 31) (x : Int32) : upd f (nI k).toNatClampNeg x = upd f k x := by rw [nI_clamp hk]
theorem x_upN {α : Type} (f : Nat → α) {k : Nat} (hk : k < 2 ^ 31) (x : α) : va_up f (nI k).toNatClampNeg x = va_up f k x := by rw [nI_clamp hk]
theorem x_atN {α : Type} (f : Nat → α) {k : Nat} (hk : k < 2 ^ 31) : f (nI k).toNatClampNeg = f k := by rw [nI_clamp hk]
theorem x_none_ne {h : HM} {q a : Nat} {e : va_E} (hq : h q = none) (ha : h a = some e) : a ≠ q := fun z => by rw [z, hq] at ha; cases ha
/-- the cells of a lamp by the model's rows 2 to 7 -/
def lampE (ar : Nat → Nat → Int32) (i : Nat) : va_E := .inr (4, [.int (ar 2 i), .int (ar 3 i), .int (ar 4 i), .int (ar 5 i), .int (ar 6 i), .int (ar 7 i)])
def absI (x : Int32) : Int32 := if 0 ≤ x then x else 0 - x
/-- usable: not dead, its bar there -/
def usV (bars bar dead : Int32) : Bool := decide (dead = 0) && decide ((bars >>> (bar &&& 31)) &&& nI 1 = nI 1)
/-- two heaps alike but where P says -/
def x_fr (P : Nat → Prop) (h h' : HM) : Prop := ∀ (q : Nat) (e : va_E), h q = some e → ¬ P q → h' q = some e
theorem x_fr.refl {P : Nat → Prop} (h : HM) : x_fr P h h := fun _ _ hq _ => hq
theorem x_fr.up {P : Nat → Prop} {h h' : HM} {a : Nat} {e : va_E} (hf : x_fr P h h') (ha : P a) : x_fr P h (x_up h' a e) := fun q e' hq hn => by
  rw [x_up_ne (fun z : q = a => hn (by rw [z]; exact ha))]
  exact hf q e' hq hn
theorem x_fr.new {P : Nat → Prop} {h h' : HM} {a : Nat} {e : va_E} (hf : x_fr P h h') (ha : h' a = none) : x_fr P h (x_up h' a e) := fun q e' hq hn => by
  have h1 := hf q e' hq hn
  rw [x_up_ne (x_none_ne ha h1)]
  exact h1
theorem x_fr.trans {P : Nat → Prop} {h h' h'' : HM} (h1 : x_fr P h h') (h2 : x_fr P h' h'') : x_fr P h h'' := fun q e hq hn => h2 q e (h1 q e hq hn) hn
theorem x_fr.mono {P R : Nat → Prop} {h h' : HM} (h1 : x_fr P h h') (hPR : ∀ q, P q → R q) : x_fr R h h' := fun q e hq hn => h1 q e hq (fun z => hn (hPR q z))
/-- an array's row told by another function that agrees on its places -/
theorem x_refit {G : XG} {F : XF} {Q : State → Prop} {a b : Nat} {h : HM} {pc : Nat} {L : List (Option Value)} {st : List Value} {q n : Nat} {cA : ClassId} {f f' : Nat → Int32} (hq : h q = some (.inl (cA, n, .inl f))) (hf : ∀ i, i < n → f i = f' i) (kk : x_W G F Q a b (x_up h q (.inl (cA, n, .inl f'))) pc L st) : x_W G F Q a b h pc L st := by
  intro H locs ls hH hS hL
  refine kk H locs ls (hH.up (hH q _ hq).2 ?_ (fun _ _ => rfl)) hS hL
  have h1 := (hH q _ hq).1
  have e : vp_cell cA (n, .inl f) = vp_cell cA (n, .inl f') := by
    rw [vp_cell_i, vp_cell_i]
    unfold arrV
    congr 2
    funext j
    dsimp only
    rw [hf j.val j.isLt]
  show H[q]? = some (vp_cell _ _)
  rw [← e]
  exact h1
theorem x_refitq {G : XG} {F : XF} {Q : State → Prop} {a b : Nat} {h : HM} {pc : Nat} {L : List (Option Value)} {st : List Value} {q n : Nat} {cA : ClassId} {f f' : Nat → Option Nat} (hq : h q = some (.inl (cA, n, .inr (.inr (.inr (.inr f)))))) (hf : ∀ i, i < n → f i = f' i) (kk : x_W G F Q a b (x_up h q (.inl (cA, n, .inr (.inr (.inr (.inr f')))))) pc L st) : x_W G F Q a b h pc L st := by
  intro H locs ls hH hS hL
  refine kk H locs ls (hH.up (hH q _ hq).2 ?_ (fun _ _ => rfl)) hS hL
  have h1 := (hH q _ hq).1
  have e : vp_cell cA (n, .inr (.inr (.inr (.inr f)))) = vp_cell cA (n, .inr (.inr (.inr (.inr f')))) := by
    rw [vp_cell_q, vp_cell_q]
    unfold arrV
    congr 2
    funext j
    dsimp only
    rw [hf j.val j.isLt]
  show H[q]? = some (vp_cell _ _)
  rw [← e]
  exact h1
/-- the first place below n where p holds; n if there is none -/
def fst_ (p : Nat → Bool) : Nat → Nat
  | 0 => 0
  | n + 1 => if fst_ p n < n then fst_ p n else if p n then n else n + 1
theorem fst_le (p : Nat → Bool) : ∀ n, fst_ p n ≤ n
  | 0 => Nat.le_refl 0
  | n + 1 => by
    have := fst_le p n
    unfold fst_
    split
    · omega
    · split <;> omega
theorem fst_no (p : Nat → Bool) : ∀ n k, k < fst_ p n → p k = false
  | 0, k, h => absurd h (Nat.not_lt_zero k)
  | n + 1, k, h => by
    have ih := fst_no p n
    have hl := fst_le p n
    unfold fst_ at h
    split at h
    · exact ih k h
    · split at h
      · rcases Nat.lt_or_ge k (fst_ p n) with q | q
        · exact ih k q
        · omega
      · rcases Nat.lt_or_ge k (fst_ p n) with q | q
        · exact ih k q
        · have : k = n := by omega
          subst this
          simpa using ‹¬ p k = true›
theorem fst_yes (p : Nat → Bool) : ∀ n, fst_ p n < n → p (fst_ p n) = true
  | 0, h => absurd h (Nat.not_lt_zero _)
  | n + 1, h => by
    have ih := fst_yes p n
    unfold fst_ at h ⊢
    split
    · exact ih (by assumption)
    · rw [if_neg (by assumption)] at h
      split
      · assumption
      · rw [if_neg (by assumption)] at h; omega
theorem fst_is {p : Nat → Bool} {n k : Nat} (hk : k < n) (hp : p k = true) (hn : ∀ j, j < k → p j = false) : fst_ p n = k := by
  rcases Nat.lt_trichotomy (fst_ p n) k with h | h | h
  · have := fst_yes p n (by omega)
    rw [hn _ h] at this
    cases this
  · exact h
  · have := fst_no p n k h
    rw [hp] at this
    cases this
theorem fst_all {p : Nat → Bool} {n : Nat} (hn : ∀ j, j < n → p j = false) : fst_ p n = n := by
  rcases Nat.lt_or_ge (fst_ p n) n with h | h
  · have := fst_yes p n h
    rw [hn _ h] at this
    cases this
  · have := fst_le p n
    omega
/-- the nearest candidate and its distance, below n -/
def nearF (c : Nat → Bool) (dd : Nat → Int32) : Nat → Int32 × Int32
  | 0 => (-1, nI 0)
  | n + 1 => if c n && (decide ((nearF c dd n).1 = -1) || decide (dd n < (nearF c dd n).2)) then (nI n, dd n) else nearF c dd n
def distS (ar : Nat → Nat → Int32) (m k : Nat) : Int32 := nI 10 * absI (ar 2 m - ar 2 k) + absI (ar 3 m - ar 3 k)
def candS (L : Nat) (ar : Nat → Nat → Int32) (bars : Int32) (told lvl : Nat → Int32) (m k : Nat) : Bool := decide (k < L) && (usV bars (ar 2 k) (ar 7 k) && (decide (ar 4 k = ar 4 m) && (decide (told k = 0) && decide (lvl k = 0))))
def nearS (L : Nat) (ar : Nat → Nat → Int32) (bars : Int32) (told lvl : Nat → Int32) (m : Nat) : Int32 := (nearF (candS L ar bars told lvl m) (distS ar m) 16).1
/-- a cue's shiners and levels, arranged lamp by lamp -/
def arrF (L : Nat) (ar : Nat → Nat → Int32) (bars : Int32) (told : Nat → Int32) : Nat → (Nat → Int32) × (Nat → Int32)
  | 0 => (fun _ => -1, fun _ => 0)
  | n + 1 =>
    if decide (n < L) && !decide (told n = 0) then
      let p := arrF L ar bars told n
      let s := if usV bars (ar 2 n) (ar 7 n) then nI n else nearS L ar bars told p.2 n
      if 0 ≤ s ∧ s < nI 16 then (upd p.1 n s, upd p.2 s.toNatClampNeg (told n)) else p
    else arrF L ar bars told n
theorem x_down {N : Nat} {P : Nat → Prop} (hs : ∀ i, i ≤ N → (∀ j, i < j → j ≤ N → P j) → P i) : ∀ i, i ≤ N → P i := by
  have key : ∀ n i, i ≤ N → N - i ≤ n → P i := by
    intro n
    induction n with
    | zero => exact fun i h1 h2 => hs i h1 (fun j h3 h4 => absurd h4 (by omega))
    | succ n ih => exact fun i h1 h2 => hs i h1 (fun j h3 h4 => ih j h4 (by omega))
  exact fun i hi => key (N - i) i hi (Nat.le_refl _)
theorem x_lt0i {x : Int32} : x < 0 ↔ ¬ 0 ≤ x := ⟨x_lt0, fun h => by
  rw [Int32.le_iff_toInt_le] at h
  rw [Int32.lt_iff_toInt_lt]
  omega⟩
theorem x_lei {x y : Int32} : x < y ↔ ¬ y ≤ x := by
  rw [Int32.le_iff_toInt_le, Int32.lt_iff_toInt_lt]
  omega
end
section
/-! floats: where no NaN comes -/
def mg (x : UInt32) : Nat := x.toNat % 2 ^ 31
theorem fp_nn {r : UInt32} (h : FP.Core.fIsNaN r = false) : vf_n32 r := by
  have h1 := (FP.Core.notNaN_iff32 r).mp h
  have h2 := (FP.Core.ne_nan32 r).mp h1
  show r &&& 0x7fffffff ≤ 0x7f800000
  rw [UInt32.le_iff_toNat_le, FP.Core.mask_toNat32]
  exact h2
theorem fp_lt {r : UInt32} (h : mg r < 255 * 2 ^ 23) : FP.Core.fIsNaN r = false := (FP.Core.notNaN_iff32 r).mpr ((FP.Core.fin_of_lt32 h (Nat.le_refl _)).elim fun s hs => by obtain ⟨c, q, e⟩ := hs; rw [e]; exact fun z => by cases z)
theorem fp_mul {a b : UInt32} {Ka Kb : Nat} (ha : mg a < Ka * 2 ^ 23) (hb : mg b < Kb * 2 ^ 23) (hKa : Ka ≤ 255) (hKb : Kb ≤ 255) (h : Ka + Kb ≤ 381) : vf_n32 (FP.fmul a b) ∧ mg (FP.fmul a b) < (Ka + Kb - 129 + 3) * 2 ^ 23 := by
  have h1 := FP.Core.fmul_mag ha hb hKa hKb
  refine ⟨fp_nn (fp_lt (Nat.lt_of_lt_of_le h1 ?_)), h1⟩
  exact Nat.mul_le_mul_right _ (by omega)
theorem fp_add {a b : UInt32} {K : Nat} (ha : mg a < K * 2 ^ 23) (hb : mg b < K * 2 ^ 23) (hK : K ≤ 253) : vf_n32 (FP.fadd a b) ∧ mg (FP.fadd a b) < (K + 2) * 2 ^ 23 := by
  have h1 := FP.Core.fadd_mag ha hb (by omega)
  exact ⟨fp_nn (fp_lt (Nat.lt_of_lt_of_le h1 (Nat.mul_le_mul_right _ (by omega)))), h1⟩
theorem fp_sub {a b : UInt32} {K : Nat} (ha : mg a < K * 2 ^ 23) (hb : mg b < K * 2 ^ 23) (hK : K ≤ 253) : vf_n32 (FP.fsub a b) ∧ mg (FP.fsub a b) < (K + 2) * 2 ^ 23 := by
  have h1 := FP.Core.fsub_mag ha hb (by omega)
  exact ⟨fp_nn (fp_lt (Nat.lt_of_lt_of_le h1 (Nat.mul_le_mul_right _ (by omega)))), h1⟩
theorem fp_i2f (x : Int32) : mg (FP.i2f x) < 160 * 2 ^ 23 := FP.Core.i2f_mag x
theorem fp_div {t u : Int32} (hu : ¬ u = 0) : vf_n32 (FP.fdiv (FP.i2f t) (FP.i2f u)) ∧ mg (FP.fdiv (FP.i2f t) (FP.i2f u)) < 161 * 2 ^ 23 := by
  have hb := FP.Core.i2f_big (FP.Core.int32_ne hu)
  have h1 := FP.Core.fdiv_mag (FP.Core.i2f_mag t) hb.1 hb.2 (by decide) (by decide)
  exact ⟨fp_nn (fp_lt (Nat.lt_of_lt_of_le h1 (by decide))), h1⟩
theorem fp_le {x : UInt32} {K M : Nat} (h : mg x < K * 2 ^ 23) (hKM : K ≤ M) : mg x < M * 2 ^ 23 := Nat.lt_of_lt_of_le h (Nat.mul_le_mul_right _ hKM)
theorem fp_c0 : mg FP.fconst0 < 1 * 2 ^ 23 := by decide
theorem fp_c1 : mg FP.fconst1 < 128 * 2 ^ 23 := by decide
theorem fp_c2 : mg FP.fconst2 < 129 * 2 ^ 23 := by decide
/-- a master on its way up, and a going's master -/
def masterR (up t : Int32) : UInt32 := if up = 0 then FP.fconst1 else if Op.cmpValue (FP.fcmp (FP.fdiv (FP.i2f t) (FP.i2f up)) FP.fconst1) .g < 0 then FP.fdiv (FP.i2f t) (FP.i2f up) else FP.fconst1
def fallR (dn t : Int32) : UInt32 := FP.fsub FP.fconst1 (FP.fdiv (FP.i2f t) (FP.i2f dn))
def masterG (up dn we re now : Int32) : UInt32 := if re = -1 then masterR up (now - we) else if dn = 0 then FP.fconst0 else FP.fmul (masterR up (re - we)) (fallR dn (now - re))
theorem masterR_mg (up t : Int32) : mg (masterR up t) < 161 * 2 ^ 23 := by
  unfold masterR
  split
  · exact fp_le fp_c1 (by decide)
  · split
    · exact (fp_div (by assumption)).2
    · exact fp_le fp_c1 (by decide)
theorem fallR_mg {dn : Int32} (t : Int32) (h : ¬ dn = 0) : vf_n32 (fallR dn t) ∧ mg (fallR dn t) < 163 * 2 ^ 23 := fp_sub (fp_le fp_c1 (by decide)) (fp_div h).2 (by decide)
theorem masterG_mul {up dn we re now : Int32} (h : ¬ dn = 0) : vf_n32 (FP.fmul (masterR up (re - we)) (fallR dn (now - re))) := (fp_mul (masterR_mg _ _) (fallR_mg _ h).2 (by decide) (by decide) (by decide)).1
end
section
set_option maxHeartbeats 4000000 in
set_option maxRecDepth 100000 in
/-- Lamp(..) -/
theorem c_X4_init (G : XG) {q : Nat} {h : HM} {p0 p1 p2 p3 p4 : Int32} (hq : h q = some (.inr (4, [.int 0, .int 0, .int 0, .int 0, .int 0, .int 0]))) : x_M G yX4_init wsX4_init ({ frames := 1, cells := 0, slots := 0, locals := 20 } : Room) [.ref q, .int p0, .int p1, .int p2, .int p3, .int p4] h (x_is none (x_up h q (.inr (4, [.int p0, .int p1, .int p2, .int p3, .int p4, .int 0])))) 0 0 := by
  refine x_M.of (cc := cX4_init) (maxL := 6) (ret := none) (ent := [some (.ref q), some (.int p0), some (.int p1), some (.int p2), some (.int p3), some (.int p4)]) (by decide +kernel) rfl (Nat.le_of_ble_eq_true rfl) rfl rfl ?_
  intro F hE hname
  have hinX4 : ∀ w ∈ wsX40, w ∈ wsX4_init := by decide +kernel
  refine x_aload_n hE dX4_init_0 rfl rfl ?_
  refine x_objinit hE (List.mem_of_getElem? (i := 1) rfl) (List.mem_of_getElem? (i := 2) rfl) (List.mem_of_getElem? (i := 3) rfl) rfl (Nat.le_of_ble_eq_true rfl) (Nat.le_of_ble_eq_true rfl) dX4_init_1 ?_
  refine x_aload_n hE dX4_init_4 rfl rfl ?_
  refine x_iload_n hE dX4_init_5 rfl ?_
  refine x_putF (fs' := [.int p0, .int 0, .int 0, .int 0, .int 0, .int 0]) hE hinX4 tyX4 tyX4_ok nmX4 hq rfl 0 (by decide) (List.mem_of_getElem? (i := 4) rfl) rfl hname rfl rfl rfl (Nat.le_of_ble_eq_true rfl) rfl dX4_init_6 ?_
  generalize hhh1 : x_up h q (.inr (4, [.int p0, .int 0, .int 0, .int 0, .int 0, .int 0])) = h1
  have hc2 : h1 q = some (.inr (4, [.int p0, .int 0, .int 0, .int 0, .int 0, .int 0])) := by rw [← hhh1]; exact x_up_eq _ _ _
  refine x_aload_n hE dX4_init_9 rfl rfl ?_
  refine x_iload_n hE dX4_init_10 rfl ?_
  refine x_putF (fs' := [.int p0, .int p1, .int 0, .int 0, .int 0, .int 0]) hE hinX4 tyX4 tyX4_ok nmX4 hc2 rfl 1 (by decide) (List.mem_of_getElem? (i := 5) rfl) rfl hname rfl rfl rfl (Nat.le_of_ble_eq_true rfl) rfl dX4_init_11 ?_
  generalize hhh3 : x_up h1 q (.inr (4, [.int p0, .int p1, .int 0, .int 0, .int 0, .int 0])) = h3
  have hc4 : h3 q = some (.inr (4, [.int p0, .int p1, .int 0, .int 0, .int 0, .int 0])) := by rw [← hhh3]; exact x_up_eq _ _ _
  refine x_aload_n hE dX4_init_14 rfl rfl ?_
  refine x_iload_n hE dX4_init_15 rfl ?_
  refine x_putF (fs' := [.int p0, .int p1, .int p2, .int 0, .int 0, .int 0]) hE hinX4 tyX4 tyX4_ok nmX4 hc4 rfl 2 (by decide) (List.mem_of_getElem? (i := 6) rfl) rfl hname rfl rfl rfl (Nat.le_of_ble_eq_true rfl) rfl dX4_init_16 ?_
  generalize hhh5 : x_up h3 q (.inr (4, [.int p0, .int p1, .int p2, .int 0, .int 0, .int 0])) = h5
  have hc6 : h5 q = some (.inr (4, [.int p0, .int p1, .int p2, .int 0, .int 0, .int 0])) := by rw [← hhh5]; exact x_up_eq _ _ _
  refine x_aload_n hE dX4_init_19 rfl rfl ?_
  refine x_iload hE dX4_init_20 rfl ?_
  refine x_putF (fs' := [.int p0, .int p1, .int p2, .int p3, .int 0, .int 0]) hE hinX4 tyX4 tyX4_ok nmX4 hc6 rfl 3 (by decide) (List.mem_of_getElem? (i := 7) rfl) rfl hname rfl rfl rfl (Nat.le_of_ble_eq_true rfl) rfl dX4_init_22 ?_
  generalize hhh7 : x_up h5 q (.inr (4, [.int p0, .int p1, .int p2, .int p3, .int 0, .int 0])) = h7
  have hc8 : h7 q = some (.inr (4, [.int p0, .int p1, .int p2, .int p3, .int 0, .int 0])) := by rw [← hhh7]; exact x_up_eq _ _ _
  refine x_aload_n hE dX4_init_25 rfl rfl ?_
  refine x_iload hE dX4_init_26 rfl ?_
  refine x_putF (fs' := [.int p0, .int p1, .int p2, .int p3, .int p4, .int 0]) hE hinX4 tyX4 tyX4_ok nmX4 hc8 rfl 4 (by decide) (List.mem_of_getElem? (i := 8) rfl) rfl hname rfl rfl rfl (Nat.le_of_ble_eq_true rfl) rfl dX4_init_28 ?_
  generalize hhh9 : x_up h7 q (.inr (4, [.int p0, .int p1, .int p2, .int p3, .int p4, .int 0])) = h9
  have hc10 : h9 q = some (.inr (4, [.int p0, .int p1, .int p2, .int p3, .int p4, .int 0])) := by rw [← hhh9]; exact x_up_eq _ _ _
  exact x_vret hE dX4_init_31 (⟨rfl, by rw [← hhh9]; rw [← hhh7]; rw [← hhh5]; rw [← hhh3]; rw [← hhh1]; rw [x_up_up, x_up_up, x_up_up, x_up_up]⟩)

set_option maxHeartbeats 4000000 in
set_option maxRecDepth 100000 in
/-- distanceTo -/
theorem c_X4_distanceTo (G : XG) {q r : Nat} {h : HM} {p0 p1 p2 p3 p4 p5 r0 r1 r2 r3 r4 r5 : Int32} (hq : h q = some (.inr (4, [.int p0, .int p1, .int p2, .int p3, .int p4, .int p5]))) (hr : h r = some (.inr (4, [.int r0, .int r1, .int r2, .int r3, .int r4, .int r5]))) : x_M G yX4_distanceTo wsX4_distanceTo ({ frames := 1, cells := 0, slots := 0, locals := 21 } : Room) [.ref q, .ref r] h (x_is (some (.int (nI 10 * absI (p0 - r0) + absI (p1 - r1)))) h) 0 0 := by
  refine x_M.of (cc := cX4_distanceTo) (maxL := 2) (ret := (some .int)) (ent := [some (.ref q), some (.ref r)]) (by decide +kernel) rfl (Nat.le_of_ble_eq_true rfl) rfl rfl ?_
  intro F hE hname
  have hinX4 : ∀ w ∈ wsX40, w ∈ wsX4_distanceTo := by decide +kernel
  refine x_bipush (v := nI 10) hE dX4_distanceTo_0 (by decide) ?_
  refine x_aload_n hE dX4_distanceTo_2 rfl rfl ?_
  refine x_get hE hinX4 hq rfl 0 (by decide) (List.mem_of_getElem? (i := 1) rfl) rfl dX4_distanceTo_3 ?_
  refine x_aload_n hE dX4_distanceTo_6 rfl rfl ?_
  refine x_get hE hinX4 hr rfl 0 (by decide) (List.mem_of_getElem? (i := 1) rfl) rfl dX4_distanceTo_7 ?_
  refine x_isub hE dX4_distanceTo_10 ?_
  refine x_abs hE (List.mem_of_getElem? (i := 2) rfl) (List.mem_of_getElem? (i := 3) rfl) (List.mem_of_getElem? (i := 4) rfl) (List.mem_of_getElem? (i := 5) rfl) rfl (Nat.le_of_ble_eq_true rfl) (Nat.le_of_ble_eq_true rfl) ⟨by decide, by decide⟩ dX4_distanceTo_11 ?_
  refine x_imul hE dX4_distanceTo_14 ?_
  refine x_aload_n hE dX4_distanceTo_15 rfl rfl ?_
  refine x_get hE hinX4 hq rfl 1 (by decide) (List.mem_of_getElem? (i := 6) rfl) rfl dX4_distanceTo_16 ?_
  refine x_aload_n hE dX4_distanceTo_19 rfl rfl ?_
  refine x_get hE hinX4 hr rfl 1 (by decide) (List.mem_of_getElem? (i := 6) rfl) rfl dX4_distanceTo_20 ?_
  refine x_isub hE dX4_distanceTo_23 ?_
  refine x_abs hE (List.mem_of_getElem? (i := 2) rfl) (List.mem_of_getElem? (i := 3) rfl) (List.mem_of_getElem? (i := 4) rfl) (List.mem_of_getElem? (i := 5) rfl) rfl (Nat.le_of_ble_eq_true rfl) (Nat.le_of_ble_eq_true rfl) ⟨by decide, by decide⟩ dX4_distanceTo_24 ?_
  refine x_iadd hE dX4_distanceTo_27 ?_
  exact x_iret hE dX4_distanceTo_28 (⟨rfl, rfl⟩)

set_option maxHeartbeats 4000000 in
set_option maxRecDepth 100000 in
/-- lampAt: any number -/
theorem c_X5_lampAt (G : XG) {r la : Nat} {h : HM} {f : Nat → Option Nat} {cn ba : Int32} (hr : h r = some (.inr (5, [.ref la, .int cn, .int ba]))) (hla : h la = some (.inl (g_c G 3, 16, .inr (.inr (.inr (.inr f)))))) (i : Int32) : x_M G yX5_lampAt wsX5_lampAt ({ frames := 0, cells := 0, slots := 0, locals := 0 } : Room) [.ref r, .int i] h (x_is (some (va_rf (x_sel 16 f i none))) h) 0 0 := by
  refine x_M.of (cc := cX5_lampAt) (maxL := 2) (ret := (some (.object "GelBook$Lamp"))) (ent := [some (.ref r), some (.int i)]) (by decide +kernel) rfl (Nat.le_of_ble_eq_true rfl) rfl rfl ?_
  intro F hE hname
  have hinX5 : ∀ w ∈ wsX50, w ∈ wsX5_lampAt := by decide +kernel
  refine x_iload_n hE dX5_lampAt_0 rfl ?_
  refine x_if_lt (tgt := 22) hE dX5_lampAt_1 (by decide) (fun c1 => ?_) (fun c1 => ?_)
  · refine x_null hE dX5_lampAt_22 ?_
    exact x_aret hE (Or.inl ⟨_, rfl⟩) rfl dX5_lampAt_23 (⟨by rw [x_sel_lo (x_lt0 c1)]; rfl, rfl⟩)
  · refine x_iload_n hE dX5_lampAt_4 rfl ?_
    refine x_aload_n hE dX5_lampAt_5 rfl rfl ?_
    refine x_get hE hinX5 hr rfl 0 (by decide) (List.mem_of_getElem? (i := 1) rfl) rfl dX5_lampAt_6 ?_
    refine x_alen (t0 := 3) hE hla rfl dX5_lampAt_9 ?_
    refine x_icmp_ge (tgt := 22) hE dX5_lampAt_10 (by decide) (fun c2 => ?_) (fun c2 => ?_)
    · refine x_null hE dX5_lampAt_22 ?_
      exact x_aret hE (Or.inl ⟨_, rfl⟩) rfl dX5_lampAt_23 (⟨by rw [x_sel_hi c2]; rfl, rfl⟩)
    · refine x_aload_n hE dX5_lampAt_13 rfl rfl ?_
      refine x_get hE hinX5 hr rfl 0 (by decide) (List.mem_of_getElem? (i := 1) rfl) rfl dX5_lampAt_14 ?_
      refine x_iload_n hE dX5_lampAt_17 rfl ?_
      refine x_aald (t0 := 3) (v := f i.toNatClampNeg) hE hla rfl (x_inn (by decide) (x_ge0 c1) c2) rfl dX5_lampAt_18 ?_
      refine x_goto (tgt := 23) hE dX5_lampAt_19 (by decide) ?_
      exact x_aret hE (Or.inl ⟨_, rfl⟩) (x_rv_rf _) dX5_lampAt_23 (⟨by rw [x_sel_in (x_ge0 c1) c2], rfl⟩)

set_option maxHeartbeats 4000000 in
set_option maxRecDepth 100000 in
theorem c_X5_isFull (G : XG) {r la : Nat} {h : HM} {f : Nat → Option Nat} {cn ba : Int32} (hr : h r = some (.inr (5, [.ref la, .int cn, .int ba]))) (hla : h la = some (.inl (g_c G 3, 16, .inr (.inr (.inr (.inr f)))))) : x_M G yX5_isFull wsX5_isFull ({ frames := 0, cells := 0, slots := 0, locals := 0 } : Room) [.ref r] h (x_is (some (.int (b2i (decide (nI 16 ≤ cn))))) h) 0 0 := by
  refine x_M.of (cc := cX5_isFull) (maxL := 1) (ret := (some .boolean)) (ent := [some (.ref r)]) (by decide +kernel) rfl (Nat.le_of_ble_eq_true rfl) rfl rfl ?_
  intro F hE hname
  have hinX5 : ∀ w ∈ wsX50, w ∈ wsX5_isFull := by decide +kernel
  refine x_aload_n hE dX5_isFull_0 rfl rfl ?_
  refine x_get hE hinX5 hr rfl 1 (by decide) (List.mem_of_getElem? (i := 1) rfl) rfl dX5_isFull_1 ?_
  refine x_aload_n hE dX5_isFull_4 rfl rfl ?_
  refine x_get hE hinX5 hr rfl 0 (by decide) (List.mem_of_getElem? (i := 2) rfl) rfl dX5_isFull_5 ?_
  refine x_alen (t0 := 3) hE hla rfl dX5_isFull_8 ?_
  refine x_icmp_lt (tgt := 16) hE dX5_isFull_9 (by decide) (fun c1 => ?_) (fun c1 => ?_)
  · refine x_iconst (v := nI 0) hE dX5_isFull_16 (by decide) ?_
    exact x_zret hE (Or.inl rfl) dX5_isFull_17 (⟨x_zf (by simpa using c1), rfl⟩)
  · refine x_iconst (v := nI 1) hE dX5_isFull_12 (by decide) ?_
    refine x_goto (tgt := 17) hE dX5_isFull_13 (by decide) ?_
    exact x_zret hE (Or.inr rfl) dX5_isFull_17 (⟨x_zt (by simpa using c1), rfl⟩)

set_option maxHeartbeats 4000000 in
set_option maxRecDepth 100000 in
theorem c_X5_isUsable (G : XG) {r la : Nat} {h : HM} {f : Nat → Option Nat} {cn ba : Int32} (hr : h r = some (.inr (5, [.ref la, .int cn, .int ba]))) (hla : h la = some (.inl (g_c G 3, 16, .inr (.inr (.inr (.inr f)))))) {q : Nat} {p0 p1 p2 p3 p4 p5 : Int32} (hq : h q = some (.inr (4, [.int p0, .int p1, .int p2, .int p3, .int p4, .int p5]))) : x_M G yX5_isUsable wsX5_isUsable ({ frames := 0, cells := 0, slots := 0, locals := 0 } : Room) [.ref r, .ref q] h (x_is (some (.int (b2i (usV ba p0 p5)))) h) 0 0 := by
  refine x_M.of (cc := cX5_isUsable) (maxL := 2) (ret := (some .boolean)) (ent := [some (.ref r), some (.ref q)]) (by decide +kernel) rfl (Nat.le_of_ble_eq_true rfl) rfl rfl ?_
  intro F hE hname
  have hinX4 : ∀ w ∈ wsX40, w ∈ wsX5_isUsable := by decide +kernel
  have hinX5 : ∀ w ∈ wsX50, w ∈ wsX5_isUsable := by decide +kernel
  refine x_aload_n hE dX5_isUsable_0 rfl rfl ?_
  refine x_ifnull hE dX5_isUsable_1 ?_
  refine x_aload_n hE dX5_isUsable_4 rfl rfl ?_
  refine x_get hE hinX4 hq rfl 5 (by decide) (List.mem_of_getElem? (i := 1) rfl) rfl dX5_isUsable_5 ?_
  refine x_if_ne (tgt := 30) hE dX5_isUsable_8 (by decide) (fun c1 => ?_) (fun c1 => ?_)
  · refine x_iconst (v := nI 0) hE dX5_isUsable_30 (by decide) ?_
    exact x_zret hE (Or.inl rfl) dX5_isUsable_31 (⟨x_zf (by simp [usV, c1]), rfl⟩)
  · refine x_aload_n hE dX5_isUsable_11 rfl rfl ?_
    refine x_get hE hinX5 hr rfl 2 (by decide) (List.mem_of_getElem? (i := 2) rfl) rfl dX5_isUsable_12 ?_
    refine x_aload_n hE dX5_isUsable_15 rfl rfl ?_
    refine x_get hE hinX4 hq rfl 0 (by decide) (List.mem_of_getElem? (i := 3) rfl) rfl dX5_isUsable_16 ?_
    refine x_ishr hE dX5_isUsable_19 ?_
    refine x_iconst (v := nI 1) hE dX5_isUsable_20 (by decide) ?_
    refine x_iand hE dX5_isUsable_21 ?_
    refine x_iconst (v := nI 1) hE dX5_isUsable_22 (by decide) ?_
    refine x_icmp_ne (tgt := 30) hE dX5_isUsable_23 (by decide) (fun c2 => ?_) (fun c2 => ?_)
    · refine x_iconst (v := nI 0) hE dX5_isUsable_30 (by decide) ?_
      exact x_zret hE (Or.inl rfl) dX5_isUsable_31 (⟨x_zf (by simp only [usV]; rw [decide_eq_false c2, Bool.and_false]), rfl⟩)
    · refine x_iconst (v := nI 1) hE dX5_isUsable_26 (by decide) ?_
      refine x_goto (tgt := 31) hE dX5_isUsable_27 (by decide) ?_
      exact x_zret hE (Or.inr rfl) dX5_isUsable_31 (⟨x_zt (by simp only [usV]; rw [decide_eq_true c1, decide_eq_true c2]; rfl), rfl⟩)

set_option maxHeartbeats 4000000 in
set_option maxRecDepth 100000 in
theorem c_X5_isUsableN (G : XG) {r la : Nat} {h : HM} {f : Nat → Option Nat} {cn ba : Int32} (hr : h r = some (.inr (5, [.ref la, .int cn, .int ba]))) (hla : h la = some (.inl (g_c G 3, 16, .inr (.inr (.inr (.inr f)))))) : x_M G yX5_isUsable wsX5_isUsable ({ frames := 0, cells := 0, slots := 0, locals := 0 } : Room) [.ref r, .null] h (x_is (some (.int 0)) h) 0 0 := by
  refine x_M.of (cc := cX5_isUsable) (maxL := 2) (ret := (some .boolean)) (ent := [some (.ref r), some (.null)]) (by decide +kernel) rfl (Nat.le_of_ble_eq_true rfl) rfl rfl ?_
  intro F hE hname
  have hinX4 : ∀ w ∈ wsX40, w ∈ wsX5_isUsable := by decide +kernel
  have hinX5 : ∀ w ∈ wsX50, w ∈ wsX5_isUsable := by decide +kernel
  refine x_aload_n hE dX5_isUsable_0 rfl rfl ?_
  refine x_ifnullN (tgt := 30) hE dX5_isUsable_1 (by decide) ?_
  refine x_iconst (v := nI 0) hE dX5_isUsable_30 (by decide) ?_
  exact x_zret hE (Or.inl rfl) dX5_isUsable_31 (⟨rfl, rfl⟩)
end
section
set_option maxHeartbeats 4000000 in
set_option maxRecDepth 100000 in
theorem c_X5_hang (G : XG) {r la q c : Nat} {h : HM} {f : Nat → Option Nat} {ba p0 p1 p2 p3 p4 p5 : Int32} (hr : h r = some (.inr (5, [.ref la, .int (nI c), .int ba]))) (hla : h la = some (.inl (g_c G 3, 16, .inr (.inr (.inr (.inr f)))))) (hq : h q = some (.inr (4, [.int p0, .int p1, .int p2, .int p3, .int p4, .int p5]))) (hc : c < 16) : x_M G yX5_hang wsX5_hang ({ frames := 0, cells := 0, slots := 0, locals := 0 } : Room) [.ref r, .ref q] h (x_is (some (.int (nI c))) (x_up (x_up h la (.inl (g_c G 3, 16, .inr (.inr (.inr (.inr (va_up f c (some q)))))))) r (.inr (5, [.ref la, .int (nI (c + 1)), .int ba])))) 0 0 := by
  refine x_M.of (cc := cX5_hang) (maxL := 2) (ret := (some .int)) (ent := [some (.ref r), some (.ref q)]) (by decide +kernel) rfl (Nat.le_of_ble_eq_true rfl) rfl rfl ?_
  intro F hE hname
  have hinX5 : ∀ w ∈ wsX50, w ∈ wsX5_hang := by decide +kernel
  refine x_aload_n hE dX5_hang_0 rfl rfl ?_
  refine x_get hE hinX5 hr rfl 1 (by decide) (List.mem_of_getElem? (i := 1) rfl) rfl dX5_hang_1 ?_
  refine x_aload_n hE dX5_hang_4 rfl rfl ?_
  refine x_get hE hinX5 hr rfl 0 (by decide) (List.mem_of_getElem? (i := 2) rfl) rfl dX5_hang_5 ?_
  refine x_alen (t0 := 3) hE hla rfl dX5_hang_8 ?_
  refine x_icmp_lt (tgt := 14) hE dX5_hang_9 (by decide) (fun c9 => ?_) (fun c9 => ?_)
  · replace c9 := x_nIlt c9 (by omega) (by omega)
    refine x_aload_n hE dX5_hang_14 rfl rfl ?_
    refine x_get hE hinX5 hr rfl 0 (by decide) (List.mem_of_getElem? (i := 2) rfl) rfl dX5_hang_15 ?_
    refine x_aload_n hE dX5_hang_18 rfl rfl ?_
    refine x_get hE hinX5 hr rfl 1 (by decide) (List.mem_of_getElem? (i := 1) rfl) rfl dX5_hang_19 ?_
    refine x_aload_n hE dX5_hang_22 rfl rfl ?_
    refine x_aast (t0 := 3) (f' := va_up f c (some q)) hE hla rfl hq rfl (vp_in_nI (by omega) (by decide)) (x_upN _ (by omega) _) dX5_hang_23 ?_
    generalize hhh1 : x_up h la (.inl (g_c G 3, 16, .inr (.inr (.inr (.inr (va_up f c (some q))))))) = h1
    have hc2 : h1 la = some (.inl (g_c G 3, 16, .inr (.inr (.inr (.inr (va_up f c (some q))))))) := by rw [← hhh1]; exact x_up_eq _ _ _
    have hc3 : h1 r = some (.inr (5, [.ref la, .int (nI c), .int ba])) := by rw [← hhh1, x_up_ne (fun e => by rw [e, hla] at hr; cases hr)]; exact hr
    have hc4 : h1 q = some (.inr (4, [.int p0, .int p1, .int p2, .int p3, .int p4, .int p5])) := by rw [← hhh1, x_up_ne (fun e => by rw [e, hla] at hq; cases hq)]; exact hq
    refine x_aload_n hE dX5_hang_24 rfl rfl ?_
    refine x_dup hE dX5_hang_25 rfl ?_
    refine x_get hE hinX5 hc3 rfl 1 (by decide) (List.mem_of_getElem? (i := 1) rfl) rfl dX5_hang_26 ?_
    refine x_iconst (v := nI 1) hE dX5_hang_29 (by decide) ?_
    refine x_iadd hE dX5_hang_30 ?_
    refine x_ieq (y := nI (c + 1)) (nI_1 _) ?_
    refine x_put (fs' := [.ref la, .int (nI (c + 1)), .int ba]) hE hinX5 tyX5 tyX5_ok nmX5 hc3 rfl 1 (by decide) (List.mem_of_getElem? (i := 1) rfl) rfl rfl rfl (Nat.le_of_ble_eq_true rfl) rfl dX5_hang_31 ?_
    generalize hhh5 : x_up h1 r (.inr (5, [.ref la, .int (nI (c + 1)), .int ba])) = h5
    have hc6 : h5 r = some (.inr (5, [.ref la, .int (nI (c + 1)), .int ba])) := by rw [← hhh5]; exact x_up_eq _ _ _
    have hc7 : h5 la = some (.inl (g_c G 3, 16, .inr (.inr (.inr (.inr (va_up f c (some q))))))) := by rw [← hhh5, x_up_ne (fun e => by rw [e, hc3] at hc2; cases hc2)]; exact hc2
    have hc8 : h5 q = some (.inr (4, [.int p0, .int p1, .int p2, .int p3, .int p4, .int p5])) := by rw [← hhh5, x_up_ne (fun e => by rw [e, hc3] at hc4; cases hc4)]; exact hc4
    refine x_aload_n hE dX5_hang_34 rfl rfl ?_
    refine x_get hE hinX5 hc6 rfl 1 (by decide) (List.mem_of_getElem? (i := 1) rfl) rfl dX5_hang_35 ?_
    refine x_iconst (v := nI 1) hE dX5_hang_38 (by decide) ?_
    refine x_isub hE dX5_hang_39 ?_
    refine x_ieq (y := nI c) (nI_pred c) ?_
    exact x_iret hE dX5_hang_40 (⟨rfl, by rw [← hhh5, ← hhh1]⟩)
  · replace c9 := x_nInlt c9 (by omega) (by omega)
    omega

set_option maxHeartbeats 4000000 in
set_option maxRecDepth 100000 in
theorem c_X0_shinerFor (G : XG) {c tA sA vA : Nat} {h : HM} {nu so up dn de : Int32} {fo : Option Nat} (hc : h c = some (.inr (0, [.int nu, .int so, .int up, .int dn, .ref tA, .ref sA, .ref vA, va_rf fo, .int de]))) {sf : Nat → Int32} (hsA : h sA = some (.inl (g_c G 0, 16, .inl sf))) {k : Nat} (hk : k < 16) : x_M G yX0_shinerFor wsX0_shinerFor ({ frames := 0, cells := 0, slots := 0, locals := 0 } : Room) [.ref c, .int (nI k)] h (x_is (some (.int (sf k))) h) 0 0 := by
  refine x_M.of (cc := cX0_shinerFor) (maxL := 2) (ret := (some .int)) (ent := [some (.ref c), some (.int (nI k))]) (by decide +kernel) rfl (Nat.le_of_ble_eq_true rfl) rfl rfl ?_
  intro F hE hname
  have hinX0 : ∀ w ∈ wsX00, w ∈ wsX0_shinerFor := by decide +kernel
  refine x_iload_n hE dX0_shinerFor_0 rfl ?_
  refine x_if_lt (tgt := 22) hE dX0_shinerFor_1 (by decide) (fun c1 => ?_) (fun c1 => ?_)
  · exact absurd c1 (nI_pos (by omega))
  · refine x_iload_n hE dX0_shinerFor_4 rfl ?_
    refine x_aload_n hE dX0_shinerFor_5 rfl rfl ?_
    refine x_get hE hinX0 hc rfl 5 (by decide) (List.mem_of_getElem? (i := 1) rfl) rfl dX0_shinerFor_6 ?_
    refine x_alen (t0 := 0) hE hsA rfl dX0_shinerFor_9 ?_
    refine x_icmp_ge (tgt := 22) hE dX0_shinerFor_10 (by decide) (fun c10 => ?_) (fun c10 => ?_)
    · replace c10 := x_nIle c10 (by omega) (by omega)
      omega
    · replace c10 := x_nInle c10 (by omega) (by omega)
      refine x_aload_n hE dX0_shinerFor_13 rfl rfl ?_
      refine x_get hE hinX0 hc rfl 5 (by decide) (List.mem_of_getElem? (i := 1) rfl) rfl dX0_shinerFor_14 ?_
      refine x_iload_n hE dX0_shinerFor_17 rfl ?_
      refine x_iald (v := sf k) hE hsA (vp_in_nI (by omega) (by decide)) (x_atN _ (by omega)) dX0_shinerFor_18 ?_
      refine x_goto (tgt := 23) hE dX0_shinerFor_19 (by decide) ?_
      exact x_iret hE dX0_shinerFor_23 (⟨rfl, rfl⟩)

set_option maxHeartbeats 4000000 in
set_option maxRecDepth 100000 in
theorem c_X0_levelFor (G : XG) {c tA sA vA : Nat} {h : HM} {nu so up dn de : Int32} {fo : Option Nat} (hc : h c = some (.inr (0, [.int nu, .int so, .int up, .int dn, .ref tA, .ref sA, .ref vA, va_rf fo, .int de]))) {vf : Nat → Int32} (hvA : h vA = some (.inl (g_c G 0, 16, .inl vf))) {k : Nat} (hk : k < 16) : x_M G yX0_levelFor wsX0_levelFor ({ frames := 0, cells := 0, slots := 0, locals := 0 } : Room) [.ref c, .int (nI k)] h (x_is (some (.int (vf k))) h) 0 0 := by
  refine x_M.of (cc := cX0_levelFor) (maxL := 2) (ret := (some .int)) (ent := [some (.ref c), some (.int (nI k))]) (by decide +kernel) rfl (Nat.le_of_ble_eq_true rfl) rfl rfl ?_
  intro F hE hname
  have hinX0 : ∀ w ∈ wsX00, w ∈ wsX0_levelFor := by decide +kernel
  refine x_iload_n hE dX0_levelFor_0 rfl ?_
  refine x_if_lt (tgt := 22) hE dX0_levelFor_1 (by decide) (fun c1 => ?_) (fun c1 => ?_)
  · exact absurd c1 (nI_pos (by omega))
  · refine x_iload_n hE dX0_levelFor_4 rfl ?_
    refine x_aload_n hE dX0_levelFor_5 rfl rfl ?_
    refine x_get hE hinX0 hc rfl 6 (by decide) (List.mem_of_getElem? (i := 1) rfl) rfl dX0_levelFor_6 ?_
    refine x_alen (t0 := 0) hE hvA rfl dX0_levelFor_9 ?_
    refine x_icmp_ge (tgt := 22) hE dX0_levelFor_10 (by decide) (fun c10 => ?_) (fun c10 => ?_)
    · replace c10 := x_nIle c10 (by omega) (by omega)
      omega
    · replace c10 := x_nInle c10 (by omega) (by omega)
      refine x_aload_n hE dX0_levelFor_13 rfl rfl ?_
      refine x_get hE hinX0 hc rfl 6 (by decide) (List.mem_of_getElem? (i := 1) rfl) rfl dX0_levelFor_14 ?_
      refine x_iload_n hE dX0_levelFor_17 rfl ?_
      refine x_iald (v := vf k) hE hvA (vp_in_nI (by omega) (by decide)) (x_atN _ (by omega)) dX0_levelFor_18 ?_
      refine x_goto (tgt := 23) hE dX0_levelFor_19 (by decide) ?_
      exact x_iret hE dX0_levelFor_23 (⟨rfl, rfl⟩)

set_option maxHeartbeats 4000000 in
set_option maxRecDepth 100000 in
theorem c_X0_tell (G : XG) {c tA sA vA : Nat} {h : HM} {nu so up dn de : Int32} {fo : Option Nat} (hc : h c = some (.inr (0, [.int nu, .int so, .int up, .int dn, .ref tA, .ref sA, .ref vA, va_rf fo, .int de]))) {tf : Nat → Int32} (htA : h tA = some (.inl (g_c G 0, 16, .inl tf))) {k : Nat} {x : Int32} (hk : k < 16) : x_M G yX0_tell wsX0_tell ({ frames := 0, cells := 0, slots := 0, locals := 0 } : Room) [.ref c, .int (nI k), .int x] h (x_is (some (.int (tf k))) (x_up h tA (.inl (g_c G 0, 16, .inl (upd tf k x))))) 0 0 := by
  refine x_M.of (cc := cX0_tell) (maxL := 4) (ret := (some .int)) (ent := [some (.ref c), some (.int (nI k)), some (.int x), none]) (by decide +kernel) rfl (Nat.le_of_ble_eq_true rfl) rfl rfl ?_
  intro F hE hname
  have hinX0 : ∀ w ∈ wsX00, w ∈ wsX0_tell := by decide +kernel
  refine x_iload_n hE dX0_tell_0 rfl ?_
  refine x_if_lt (tgt := 13) hE dX0_tell_1 (by decide) (fun c1 => ?_) (fun c1 => ?_)
  · exact absurd c1 (nI_pos (by omega))
  · refine x_iload_n hE dX0_tell_4 rfl ?_
    refine x_aload_n hE dX0_tell_5 rfl rfl ?_
    refine x_get hE hinX0 hc rfl 4 (by decide) (List.mem_of_getElem? (i := 1) rfl) rfl dX0_tell_6 ?_
    refine x_alen (t0 := 0) hE htA rfl dX0_tell_9 ?_
    refine x_icmp_lt (tgt := 15) hE dX0_tell_10 (by decide) (fun c10 => ?_) (fun c10 => ?_)
    · replace c10 := x_nIlt c10 (by omega) (by omega)
      refine x_aload_n hE dX0_tell_15 rfl rfl ?_
      refine x_get hE hinX0 hc rfl 4 (by decide) (List.mem_of_getElem? (i := 1) rfl) rfl dX0_tell_16 ?_
      refine x_iload_n hE dX0_tell_19 rfl ?_
      refine x_iald (v := tf k) hE htA (vp_in_nI (by omega) (by decide)) (x_atN _ (by omega)) dX0_tell_20 ?_
      refine x_istore_n (L' := [some (.ref c), some (.int (nI k)), some (.int x), some (.int (tf k))]) hE dX0_tell_21 rfl (Nat.le_of_ble_eq_true rfl) rfl ?_
      refine x_aload_n hE dX0_tell_22 rfl rfl ?_
      refine x_get hE hinX0 hc rfl 4 (by decide) (List.mem_of_getElem? (i := 1) rfl) rfl dX0_tell_23 ?_
      refine x_iload_n hE dX0_tell_26 rfl ?_
      refine x_iload_n hE dX0_tell_27 rfl ?_
      refine x_iast (f' := upd tf k x) hE htA (vp_in_nI (by omega) (by decide)) (x_updN _ (by omega) _) dX0_tell_28 ?_
      generalize hhh1 : x_up h tA (.inl (g_c G 0, 16, .inl (upd tf k x))) = h1
      have hc2 : h1 tA = some (.inl (g_c G 0, 16, .inl (upd tf k x))) := by rw [← hhh1]; exact x_up_eq _ _ _
      have hc3 : h1 c = some (.inr (0, [.int nu, .int so, .int up, .int dn, .ref tA, .ref sA, .ref vA, va_rf fo, .int de])) := by rw [← hhh1, x_up_ne (fun e => by rw [e, htA] at hc; cases hc)]; exact hc
      refine x_iload_n hE dX0_tell_29 rfl ?_
      exact x_iret hE dX0_tell_30 (⟨rfl, by rw [← hhh1]⟩)
    · replace c10 := x_nInlt c10 (by omega) (by omega)
      omega

set_option maxHeartbeats 4000000 in
set_option maxRecDepth 100000 in
theorem c_X0_canSpare (G : XG) {c tA sA vA : Nat} {h : HM} {nu so up dn de : Int32} {fo : Option Nat} (hc : h c = some (.inr (0, [.int nu, .int so, .int up, .int dn, .ref tA, .ref sA, .ref vA, va_rf fo, .int de]))) {tf : Nat → Int32} (htA : h tA = some (.inl (g_c G 0, 16, .inl tf))) {vf : Nat → Int32} (hvA : h vA = some (.inl (g_c G 0, 16, .inl vf))) {k : Nat} (hk : k < 16) : x_M G yX0_canSpare wsX0_canSpare ({ frames := 0, cells := 0, slots := 0, locals := 0 } : Room) [.ref c, .int (nI k)] h (x_is (some (.int (b2i (decide (tf k = 0) && decide (vf k = 0))))) h) 0 0 := by
  refine x_M.of (cc := cX0_canSpare) (maxL := 2) (ret := (some .boolean)) (ent := [some (.ref c), some (.int (nI k))]) (by decide +kernel) rfl (Nat.le_of_ble_eq_true rfl) rfl rfl ?_
  intro F hE hname
  have hinX0 : ∀ w ∈ wsX00, w ∈ wsX0_canSpare := by decide +kernel
  refine x_iload_n hE dX0_canSpare_0 rfl ?_
  refine x_if_lt (tgt := 32) hE dX0_canSpare_1 (by decide) (fun c1 => ?_) (fun c1 => ?_)
  · exact absurd c1 (nI_pos (by omega))
  · refine x_iload_n hE dX0_canSpare_4 rfl ?_
    refine x_bipush (v := nI 16) hE dX0_canSpare_5 (by decide) ?_
    refine x_icmp_ge (tgt := 32) hE dX0_canSpare_7 (by decide) (fun c7 => ?_) (fun c7 => ?_)
    · replace c7 := x_nIle c7 (by omega) (by omega)
      omega
    · replace c7 := x_nInle c7 (by omega) (by omega)
      refine x_aload_n hE dX0_canSpare_10 rfl rfl ?_
      refine x_get hE hinX0 hc rfl 4 (by decide) (List.mem_of_getElem? (i := 1) rfl) rfl dX0_canSpare_11 ?_
      refine x_iload_n hE dX0_canSpare_14 rfl ?_
      refine x_iald (v := tf k) hE htA (vp_in_nI (by omega) (by decide)) (x_atN _ (by omega)) dX0_canSpare_15 ?_
      refine x_if_ne (tgt := 32) hE dX0_canSpare_16 (by decide) (fun c16 => ?_) (fun c16 => ?_)
      · refine x_iconst (v := nI 0) hE dX0_canSpare_32 (by decide) ?_
        exact x_zret hE (Or.inl rfl) dX0_canSpare_33 (⟨x_zf (by simp_all), rfl⟩)
      · refine x_aload_n hE dX0_canSpare_19 rfl rfl ?_
        refine x_get hE hinX0 hc rfl 6 (by decide) (List.mem_of_getElem? (i := 2) rfl) rfl dX0_canSpare_20 ?_
        refine x_iload_n hE dX0_canSpare_23 rfl ?_
        refine x_iald (v := vf k) hE hvA (vp_in_nI (by omega) (by decide)) (x_atN _ (by omega)) dX0_canSpare_24 ?_
        refine x_if_ne (tgt := 32) hE dX0_canSpare_25 (by decide) (fun c25 => ?_) (fun c25 => ?_)
        · refine x_iconst (v := nI 0) hE dX0_canSpare_32 (by decide) ?_
          exact x_zret hE (Or.inl rfl) dX0_canSpare_33 (⟨x_zf (by simp_all), rfl⟩)
        · refine x_iconst (v := nI 1) hE dX0_canSpare_28 (by decide) ?_
          refine x_goto (tgt := 33) hE dX0_canSpare_29 (by decide) ?_
          exact x_zret hE (Or.inr rfl) dX0_canSpare_33 (⟨x_zt (by simp_all), rfl⟩)

set_option maxHeartbeats 4000000 in
set_option maxRecDepth 100000 in
theorem c_X1_init (G : XG) {g : Nat} {h : HM} (hg : h g = some (.inr (1, [.null, .int 0, .int 0]))) : x_M G yX1_init wsX1_init ({ frames := 1, cells := 0, slots := 0, locals := 20 } : Room) [.ref g] h (x_is none (x_up h g (.inr (1, [.null, .int 0, .int (-1)])))) 0 0 := by
  refine x_M.of (cc := cX1_init) (maxL := 1) (ret := none) (ent := [some (.ref g)]) (by decide +kernel) rfl (Nat.le_of_ble_eq_true rfl) rfl rfl ?_
  intro F hE hname
  have hinX1 : ∀ w ∈ wsX10, w ∈ wsX1_init := by decide +kernel
  refine x_aload_n hE dX1_init_0 rfl rfl ?_
  refine x_objinit hE (List.mem_of_getElem? (i := 1) rfl) (List.mem_of_getElem? (i := 2) rfl) (List.mem_of_getElem? (i := 3) rfl) rfl (Nat.le_of_ble_eq_true rfl) (Nat.le_of_ble_eq_true rfl) dX1_init_1 ?_
  refine x_aload_n hE dX1_init_4 rfl rfl ?_
  refine x_iconst (v := (-1 : Int32)) hE dX1_init_5 (by decide) ?_
  refine x_put (fs' := [.null, .int 0, .int (-1 : Int32)]) hE hinX1 tyX1 tyX1_ok nmX1 hg rfl 2 (by decide) (List.mem_of_getElem? (i := 4) rfl) rfl rfl rfl (Nat.le_of_ble_eq_true rfl) rfl dX1_init_6 ?_
  generalize hhh1 : x_up h g (.inr (1, [.null, .int 0, .int (-1 : Int32)])) = h1
  have hc2 : h1 g = some (.inr (1, [.null, .int 0, .int (-1 : Int32)])) := by rw [← hhh1]; exact x_up_eq _ _ _
  exact x_vret hE dX1_init_9 (⟨rfl, by rw [← hhh1]⟩)

set_option maxHeartbeats 4000000 in
set_option maxRecDepth 100000 in
theorem c_X1_begin (G : XG) {g : Nat} {h : HM} {cu : Option Nat} {we re : Int32} (hg : h g = some (.inr (1, [va_rf cu, .int we, .int re]))) {b : Nat} {now : Int32} : x_M G yX1_begin wsX1_begin ({ frames := 0, cells := 0, slots := 0, locals := 0 } : Room) [.ref g, .ref b, .int now] h (x_is none (x_up h g (.inr (1, [.ref b, .int now, .int (-1)])))) 0 0 := by
  refine x_M.of (cc := cX1_begin) (maxL := 3) (ret := none) (ent := [some (.ref g), some (.ref b), some (.int now)]) (by decide +kernel) rfl (Nat.le_of_ble_eq_true rfl) rfl rfl ?_
  intro F hE hname
  have hinX1 : ∀ w ∈ wsX10, w ∈ wsX1_begin := by decide +kernel
  refine x_aload_n hE dX1_begin_0 rfl rfl ?_
  refine x_aload_n hE dX1_begin_1 rfl rfl ?_
  refine x_put (fs' := [.ref b, .int we, .int re]) hE hinX1 tyX1 tyX1_ok nmX1 hg rfl 0 (by decide) (List.mem_of_getElem? (i := 1) rfl) rfl rfl rfl (Nat.le_of_ble_eq_true rfl) rfl dX1_begin_2 ?_
  generalize hhh1 : x_up h g (.inr (1, [.ref b, .int we, .int re])) = h1
  have hc2 : h1 g = some (.inr (1, [.ref b, .int we, .int re])) := by rw [← hhh1]; exact x_up_eq _ _ _
  refine x_aload_n hE dX1_begin_5 rfl rfl ?_
  refine x_iload_n hE dX1_begin_6 rfl ?_
  refine x_put (fs' := [.ref b, .int now, .int re]) hE hinX1 tyX1 tyX1_ok nmX1 hc2 rfl 1 (by decide) (List.mem_of_getElem? (i := 2) rfl) rfl rfl rfl (Nat.le_of_ble_eq_true rfl) rfl dX1_begin_7 ?_
  generalize hhh3 : x_up h1 g (.inr (1, [.ref b, .int now, .int re])) = h3
  have hc4 : h3 g = some (.inr (1, [.ref b, .int now, .int re])) := by rw [← hhh3]; exact x_up_eq _ _ _
  refine x_aload_n hE dX1_begin_10 rfl rfl ?_
  refine x_iconst (v := (-1 : Int32)) hE dX1_begin_11 (by decide) ?_
  refine x_put (fs' := [.ref b, .int now, .int (-1 : Int32)]) hE hinX1 tyX1 tyX1_ok nmX1 hc4 rfl 2 (by decide) (List.mem_of_getElem? (i := 3) rfl) rfl rfl rfl (Nat.le_of_ble_eq_true rfl) rfl dX1_begin_12 ?_
  generalize hhh5 : x_up h3 g (.inr (1, [.ref b, .int now, .int (-1 : Int32)])) = h5
  have hc6 : h5 g = some (.inr (1, [.ref b, .int now, .int (-1 : Int32)])) := by rw [← hhh5]; exact x_up_eq _ _ _
  exact x_vret hE dX1_begin_15 (⟨rfl, by rw [← hhh5, ← hhh3, ← hhh1]; rw [x_up_up, x_up_up]⟩)

set_option maxHeartbeats 4000000 in
set_option maxRecDepth 100000 in
theorem c_X1_fall (G : XG) {g : Nat} {h : HM} {cu : Option Nat} {we re : Int32} (hg : h g = some (.inr (1, [va_rf cu, .int we, .int re]))) {now : Int32} : x_M G yX1_fall wsX1_fall ({ frames := 0, cells := 0, slots := 0, locals := 0 } : Room) [.ref g, .int now] h (x_is none (x_up h g (.inr (1, [va_rf cu, .int we, .int now])))) 0 0 := by
  refine x_M.of (cc := cX1_fall) (maxL := 2) (ret := none) (ent := [some (.ref g), some (.int now)]) (by decide +kernel) rfl (Nat.le_of_ble_eq_true rfl) rfl rfl ?_
  intro F hE hname
  have hinX1 : ∀ w ∈ wsX10, w ∈ wsX1_fall := by decide +kernel
  refine x_aload_n hE dX1_fall_0 rfl rfl ?_
  refine x_iload_n hE dX1_fall_1 rfl ?_
  refine x_put (fs' := [va_rf cu, .int we, .int now]) hE hinX1 tyX1 tyX1_ok nmX1 hg rfl 2 (by decide) (List.mem_of_getElem? (i := 1) rfl) rfl rfl rfl (Nat.le_of_ble_eq_true rfl) rfl dX1_fall_2 ?_
  generalize hhh1 : x_up h g (.inr (1, [va_rf cu, .int we, .int now])) = h1
  have hc2 : h1 g = some (.inr (1, [va_rf cu, .int we, .int now])) := by rw [← hhh1]; exact x_up_eq _ _ _
  exact x_vret hE dX1_fall_5 (⟨rfl, by rw [← hhh1]⟩)

set_option maxHeartbeats 4000000 in
set_option maxRecDepth 100000 in
theorem c_X1_isReleased (G : XG) {g : Nat} {h : HM} {cu : Option Nat} {we re : Int32} (hg : h g = some (.inr (1, [va_rf cu, .int we, .int re]))) : x_M G yX1_isReleased wsX1_isReleased ({ frames := 0, cells := 0, slots := 0, locals := 0 } : Room) [.ref g] h (x_is (some (.int (b2i (!decide (re = -1))))) h) 0 0 := by
  refine x_M.of (cc := cX1_isReleased) (maxL := 1) (ret := (some .boolean)) (ent := [some (.ref g)]) (by decide +kernel) rfl (Nat.le_of_ble_eq_true rfl) rfl rfl ?_
  intro F hE hname
  have hinX1 : ∀ w ∈ wsX10, w ∈ wsX1_isReleased := by decide +kernel
  refine x_aload_n hE dX1_isReleased_0 rfl rfl ?_
  refine x_get hE hinX1 hg rfl 2 (by decide) (List.mem_of_getElem? (i := 1) rfl) rfl dX1_isReleased_1 ?_
  refine x_iconst (v := (-1 : Int32)) hE dX1_isReleased_4 (by decide) ?_
  refine x_icmp_eq (tgt := 12) hE dX1_isReleased_5 (by decide) (fun c5 => ?_) (fun c5 => ?_)
  · refine x_iconst (v := nI 0) hE dX1_isReleased_12 (by decide) ?_
    exact x_zret hE (Or.inl rfl) dX1_isReleased_13 (⟨x_zf (by simp_all), rfl⟩)
  · refine x_iconst (v := nI 1) hE dX1_isReleased_8 (by decide) ?_
    refine x_goto (tgt := 13) hE dX1_isReleased_9 (by decide) ?_
    exact x_zret hE (Or.inr rfl) dX1_isReleased_13 (⟨x_zt (by simp_all), rfl⟩)

set_option maxHeartbeats 4000000 in
set_option maxRecDepth 100000 in
theorem c_X1_isOver (G : XG) {g b tA sA vA : Nat} {h : HM} {we re nu so up dn de : Int32} {fo : Option Nat} (hg : h g = some (.inr (1, [.ref b, .int we, .int re]))) (hb : h b = some (.inr (0, [.int nu, .int so, .int up, .int dn, .ref tA, .ref sA, .ref vA, va_rf fo, .int de]))) {now : Int32} : x_M G yX1_isOver wsX1_isOver ({ frames := 1, cells := 0, slots := 0, locals := 20 } : Room) [.ref g, .int now] h (x_is (some (.int (b2i (!decide (re = -1) && !decide (now - re < dn))))) h) 0 0 := by
  refine x_M.of (cc := cX1_isOver) (maxL := 2) (ret := (some .boolean)) (ent := [some (.ref g), some (.int now)]) (by decide +kernel) rfl (Nat.le_of_ble_eq_true rfl) rfl rfl ?_
  intro F hE hname
  have hinX0 : ∀ w ∈ wsX00, w ∈ wsX1_isOver := by decide +kernel
  have hinX1 : ∀ w ∈ wsX10, w ∈ wsX1_isOver := by decide +kernel
  refine x_aload_n hE dX1_isOver_0 rfl rfl ?_
  refine x_get hE hinX1 hg rfl 0 (by decide) (List.mem_of_getElem? (i := 1) rfl) rfl dX1_isOver_1 ?_
  refine x_ifnull hE dX1_isOver_4 ?_
  refine x_aload_n hE dX1_isOver_7 rfl rfl ?_
  refine x_callV (ci := 1) (st := []) hE 0 (c_X1_isReleased G (cu := some b) hg) gX1_isOver_X1_isReleased rfl rfl rfl (by decide +kernel) ⟨Nat.le_of_ble_eq_true rfl, Nat.le_of_ble_eq_true rfl⟩ hg rfl rfl rfl dX1_isOver_8 rfl (Nat.le_of_ble_eq_true rfl) ⟨Nat.le_of_ble_eq_true rfl, Nat.le_of_ble_eq_true rfl⟩ (fun v h9 hp => ?_)
  obtain ⟨rfl, rfl⟩ := hp
  refine x_if_eq (tgt := 34) hE dX1_isOver_11 (by decide) (fun c11 => ?_) (fun c11 => ?_)
  · refine x_iconst (v := nI 0) hE dX1_isOver_34 (by decide) ?_
    exact x_zret hE (Or.inl rfl) dX1_isOver_35 (⟨x_zf (by simp_all [b2i_0, b2i_n0]), rfl⟩)
  · refine x_iload_n hE dX1_isOver_14 rfl ?_
    refine x_aload_n hE dX1_isOver_15 rfl rfl ?_
    refine x_get hE hinX1 hg rfl 2 (by decide) (List.mem_of_getElem? (i := 2) rfl) rfl dX1_isOver_16 ?_
    refine x_isub hE dX1_isOver_19 ?_
    refine x_aload_n hE dX1_isOver_20 rfl rfl ?_
    refine x_get hE hinX1 hg rfl 0 (by decide) (List.mem_of_getElem? (i := 1) rfl) rfl dX1_isOver_21 ?_
    refine x_get hE hinX0 hb rfl 3 (by decide) (List.mem_of_getElem? (i := 3) rfl) rfl dX1_isOver_24 ?_
    refine x_icmp_lt (tgt := 34) hE dX1_isOver_27 (by decide) (fun c27 => ?_) (fun c27 => ?_)
    · refine x_iconst (v := nI 0) hE dX1_isOver_34 (by decide) ?_
      exact x_zret hE (Or.inl rfl) dX1_isOver_35 (⟨x_zf (by simp_all [b2i_0, b2i_n0]), rfl⟩)
    · refine x_iconst (v := nI 1) hE dX1_isOver_30 (by decide) ?_
      refine x_goto (tgt := 35) hE dX1_isOver_31 (by decide) ?_
      exact x_zret hE (Or.inr rfl) dX1_isOver_35 (⟨x_zt (by simp_all [b2i_0, b2i_n0]), rfl⟩)

set_option maxHeartbeats 4000000 in
set_option maxRecDepth 100000 in
theorem c_X1_isOf (G : XG) {g b tA sA vA : Nat} {h : HM} {we re nu so up dn de : Int32} {fo : Option Nat} (hg : h g = some (.inr (1, [.ref b, .int we, .int re]))) (hb : h b = some (.inr (0, [.int nu, .int so, .int up, .int dn, .ref tA, .ref sA, .ref vA, va_rf fo, .int de]))) {x : Int32} : x_M G yX1_isOf wsX1_isOf ({ frames := 0, cells := 0, slots := 0, locals := 0 } : Room) [.ref g, .int x] h (x_is (some (.int (b2i (decide (so = x))))) h) 0 0 := by
  refine x_M.of (cc := cX1_isOf) (maxL := 2) (ret := (some .boolean)) (ent := [some (.ref g), some (.int x)]) (by decide +kernel) rfl (Nat.le_of_ble_eq_true rfl) rfl rfl ?_
  intro F hE hname
  have hinX0 : ∀ w ∈ wsX00, w ∈ wsX1_isOf := by decide +kernel
  have hinX1 : ∀ w ∈ wsX10, w ∈ wsX1_isOf := by decide +kernel
  refine x_aload_n hE dX1_isOf_0 rfl rfl ?_
  refine x_get hE hinX1 hg rfl 0 (by decide) (List.mem_of_getElem? (i := 1) rfl) rfl dX1_isOf_1 ?_
  refine x_ifnull hE dX1_isOf_4 ?_
  refine x_aload_n hE dX1_isOf_7 rfl rfl ?_
  refine x_get hE hinX1 hg rfl 0 (by decide) (List.mem_of_getElem? (i := 1) rfl) rfl dX1_isOf_8 ?_
  refine x_get hE hinX0 hb rfl 1 (by decide) (List.mem_of_getElem? (i := 2) rfl) rfl dX1_isOf_11 ?_
  refine x_iload_n hE dX1_isOf_14 rfl ?_
  refine x_icmp_ne (tgt := 22) hE dX1_isOf_15 (by decide) (fun c15 => ?_) (fun c15 => ?_)
  · refine x_iconst (v := nI 0) hE dX1_isOf_22 (by decide) ?_
    exact x_zret hE (Or.inl rfl) dX1_isOf_23 (⟨x_zf (by simp_all [b2i_0, b2i_n0]), rfl⟩)
  · refine x_iconst (v := nI 1) hE dX1_isOf_18 (by decide) ?_
    refine x_goto (tgt := 23) hE dX1_isOf_19 (by decide) ?_
    exact x_zret hE (Or.inr rfl) dX1_isOf_23 (⟨x_zt (by simp_all [b2i_0, b2i_n0]), rfl⟩)

set_option maxHeartbeats 4000000 in
set_option maxRecDepth 100000 in
theorem c_X1_levelFor (G : XG) {g b tA sA vA : Nat} {h : HM} {we re nu so up dn de : Int32} {fo : Option Nat} (hg : h g = some (.inr (1, [.ref b, .int we, .int re]))) (hb : h b = some (.inr (0, [.int nu, .int so, .int up, .int dn, .ref tA, .ref sA, .ref vA, va_rf fo, .int de]))) {vf : Nat → Int32} (hvA : h vA = some (.inl (g_c G 0, 16, .inl vf))) {k : Nat} (hk : k < 16) : x_M G yX1_levelFor wsX1_levelFor ({ frames := 1, cells := 0, slots := 0, locals := 21 } : Room) [.ref g, .int (nI k)] h (x_is (some (.int (vf k))) h) 0 0 := by
  refine x_M.of (cc := cX1_levelFor) (maxL := 2) (ret := (some .int)) (ent := [some (.ref g), some (.int (nI k))]) (by decide +kernel) rfl (Nat.le_of_ble_eq_true rfl) rfl rfl ?_
  intro F hE hname
  have hinX1 : ∀ w ∈ wsX10, w ∈ wsX1_levelFor := by decide +kernel
  refine x_aload_n hE dX1_levelFor_0 rfl rfl ?_
  refine x_get hE hinX1 hg rfl 0 (by decide) (List.mem_of_getElem? (i := 1) rfl) rfl dX1_levelFor_1 ?_
  refine x_ifnonnull (tgt := 11) hE dX1_levelFor_4 (by decide) ?_
  refine x_aload_n hE dX1_levelFor_11 rfl rfl ?_
  refine x_get hE hinX1 hg rfl 0 (by decide) (List.mem_of_getElem? (i := 1) rfl) rfl dX1_levelFor_12 ?_
  refine x_iload_n hE dX1_levelFor_15 rfl ?_
  refine x_callV (ci := 0) (st := []) hE 1 (c_X0_levelFor G hb hvA hk) gX1_levelFor_X0_levelFor rfl rfl rfl (by decide +kernel) ⟨Nat.le_of_ble_eq_true rfl, Nat.le_of_ble_eq_true rfl⟩ hb rfl rfl rfl dX1_levelFor_16 rfl (Nat.le_of_ble_eq_true rfl) ⟨Nat.le_of_ble_eq_true rfl, Nat.le_of_ble_eq_true rfl⟩ (fun v h9 hp => ?_)
  obtain ⟨rfl, rfl⟩ := hp
  exact x_iret hE dX1_levelFor_19 (⟨rfl, rfl⟩)

set_option maxHeartbeats 4000000 in
set_option maxRecDepth 100000 in
theorem c_X0_masterRisen (G : XG) {c tA sA vA : Nat} {h : HM} {nu so up dn de : Int32} {fo : Option Nat} (hc : h c = some (.inr (0, [.int nu, .int so, .int up, .int dn, .ref tA, .ref sA, .ref vA, va_rf fo, .int de]))) {t : Int32} : x_M G yX0_masterRisen wsX0_masterRisen ({ frames := 0, cells := 0, slots := 0, locals := 0 } : Room) [.ref c, .int t] h (x_is (some (.float (masterR up t))) h) 0 0 := by
  refine x_M.of (cc := cX0_masterRisen) (maxL := 3) (ret := (some .float)) (ent := [some (.ref c), some (.int t), none]) (by decide +kernel) rfl (Nat.le_of_ble_eq_true rfl) rfl rfl ?_
  intro F hE hname
  have hinX0 : ∀ w ∈ wsX00, w ∈ wsX0_masterRisen := by decide +kernel
  refine x_aload_n hE dX0_masterRisen_0 rfl rfl ?_
  refine x_get hE hinX0 hc rfl 2 (by decide) (List.mem_of_getElem? (i := 1) rfl) rfl dX0_masterRisen_1 ?_
  refine x_if_ne (tgt := 9) hE dX0_masterRisen_4 (by decide) (fun c4 => ?_) (fun c4 => ?_)
  · refine x_iload_n hE dX0_masterRisen_9 rfl ?_
    refine x_i2f hE dX0_masterRisen_10 ?_
    refine x_aload_n hE dX0_masterRisen_11 rfl rfl ?_
    refine x_get hE hinX0 hc rfl 2 (by decide) (List.mem_of_getElem? (i := 1) rfl) rfl dX0_masterRisen_12 ?_
    refine x_i2f hE dX0_masterRisen_15 ?_
    refine x_fdiv hE dX0_masterRisen_16 (fp_div c4).1 ?_
    refine x_fstore_n (L' := [some (.ref c), some (.int t), some (.float (FP.fdiv (FP.i2f t) (FP.i2f up)))]) hE dX0_masterRisen_17 rfl (Nat.le_of_ble_eq_true rfl) rfl ?_
    refine x_fload_n hE dX0_masterRisen_18 rfl ?_
    refine x_fconst1 hE dX0_masterRisen_19 ?_
    refine x_fcmp hE dX0_masterRisen_20 ?_
    refine x_if_ge (tgt := 28) hE dX0_masterRisen_21 (by decide) (fun c21 => ?_) (fun c21 => ?_)
    · refine x_fconst1 hE dX0_masterRisen_28 ?_
      exact x_fret hE dX0_masterRisen_29 (⟨by simp only [masterR, x_lt0i]; simp_all, rfl⟩)
    · refine x_fload_n hE dX0_masterRisen_24 rfl ?_
      refine x_goto (tgt := 29) hE dX0_masterRisen_25 (by decide) ?_
      exact x_fret hE dX0_masterRisen_29 (⟨by simp only [masterR, x_lt0i]; simp_all, rfl⟩)
  · refine x_fconst1 hE dX0_masterRisen_7 ?_
    exact x_fret hE dX0_masterRisen_8 (⟨by simp only [masterR, x_lt0i]; simp_all, rfl⟩)

set_option maxHeartbeats 4000000 in
set_option maxRecDepth 100000 in
theorem c_X1_master (G : XG) {g b tA sA vA : Nat} {h : HM} {we re nu so up dn de : Int32} {fo : Option Nat} (hg : h g = some (.inr (1, [.ref b, .int we, .int re]))) (hb : h b = some (.inr (0, [.int nu, .int so, .int up, .int dn, .ref tA, .ref sA, .ref vA, va_rf fo, .int de]))) {now : Int32} : x_M G yX1_master wsX1_master ({ frames := 1, cells := 0, slots := 0, locals := 22 } : Room) [.ref g, .int now] h (x_is (some (.float (masterG up dn we re now))) h) 0 0 := by
  refine x_M.of (cc := cX1_master) (maxL := 2) (ret := (some .float)) (ent := [some (.ref g), some (.int now)]) (by decide +kernel) rfl (Nat.le_of_ble_eq_true rfl) rfl rfl ?_
  intro F hE hname
  have hinX0 : ∀ w ∈ wsX00, w ∈ wsX1_master := by decide +kernel
  have hinX1 : ∀ w ∈ wsX10, w ∈ wsX1_master := by decide +kernel
  refine x_aload_n hE dX1_master_0 rfl rfl ?_
  refine x_get hE hinX1 hg rfl 0 (by decide) (List.mem_of_getElem? (i := 1) rfl) rfl dX1_master_1 ?_
  refine x_ifnonnull (tgt := 9) hE dX1_master_4 (by decide) ?_
  refine x_aload_n hE dX1_master_9 rfl rfl ?_
  refine x_callV (ci := 1) (st := []) hE 0 (c_X1_isReleased G (cu := some b) hg) gX1_master_X1_isReleased rfl rfl rfl (by decide +kernel) ⟨Nat.le_of_ble_eq_true rfl, Nat.le_of_ble_eq_true rfl⟩ hg rfl rfl rfl dX1_master_10 rfl (Nat.le_of_ble_eq_true rfl) ⟨Nat.le_of_ble_eq_true rfl, Nat.le_of_ble_eq_true rfl⟩ (fun v h9 hp => ?_)
  obtain ⟨rfl, rfl⟩ := hp
  refine x_if_ne (tgt := 30) hE dX1_master_13 (by decide) (fun c13 => ?_) (fun c13 => ?_)
  · refine x_aload_n hE dX1_master_30 rfl rfl ?_
    refine x_get hE hinX1 hg rfl 0 (by decide) (List.mem_of_getElem? (i := 1) rfl) rfl dX1_master_31 ?_
    refine x_get hE hinX0 hb rfl 3 (by decide) (List.mem_of_getElem? (i := 3) rfl) rfl dX1_master_34 ?_
    refine x_if_ne (tgt := 42) hE dX1_master_37 (by decide) (fun c37 => ?_) (fun c37 => ?_)
    · refine x_aload_n hE dX1_master_42 rfl rfl ?_
      refine x_get hE hinX1 hg rfl 0 (by decide) (List.mem_of_getElem? (i := 1) rfl) rfl dX1_master_43 ?_
      refine x_aload_n hE dX1_master_46 rfl rfl ?_
      refine x_get hE hinX1 hg rfl 2 (by decide) (List.mem_of_getElem? (i := 4) rfl) rfl dX1_master_47 ?_
      refine x_aload_n hE dX1_master_50 rfl rfl ?_
      refine x_get hE hinX1 hg rfl 1 (by decide) (List.mem_of_getElem? (i := 2) rfl) rfl dX1_master_51 ?_
      refine x_isub hE dX1_master_54 ?_
      refine x_callV (ci := 0) (st := []) hE 1 (c_X0_masterRisen G hb) gX1_master_X0_masterRisen rfl rfl rfl (by decide +kernel) ⟨Nat.le_of_ble_eq_true rfl, Nat.le_of_ble_eq_true rfl⟩ hb rfl rfl rfl dX1_master_55 rfl (Nat.le_of_ble_eq_true rfl) ⟨Nat.le_of_ble_eq_true rfl, Nat.le_of_ble_eq_true rfl⟩ (fun v h9 hp => ?_)
      obtain ⟨rfl, rfl⟩ := hp
      refine x_fconst1 hE dX1_master_58 ?_
      refine x_iload_n hE dX1_master_59 rfl ?_
      refine x_aload_n hE dX1_master_60 rfl rfl ?_
      refine x_get hE hinX1 hg rfl 2 (by decide) (List.mem_of_getElem? (i := 4) rfl) rfl dX1_master_61 ?_
      refine x_isub hE dX1_master_64 ?_
      refine x_i2f hE dX1_master_65 ?_
      refine x_aload_n hE dX1_master_66 rfl rfl ?_
      refine x_get hE hinX1 hg rfl 0 (by decide) (List.mem_of_getElem? (i := 1) rfl) rfl dX1_master_67 ?_
      refine x_get hE hinX0 hb rfl 3 (by decide) (List.mem_of_getElem? (i := 3) rfl) rfl dX1_master_70 ?_
      refine x_i2f hE dX1_master_73 ?_
      refine x_fdiv hE dX1_master_74 (fp_div c37).1 ?_
      refine x_fsub hE dX1_master_75 (fallR_mg _ c37).1 ?_
      refine x_fmul hE dX1_master_76 (masterG_mul c37) ?_
      exact x_fret hE dX1_master_77 (⟨by simp only [masterG, fallR]; simp_all [b2i_0, b2i_n0], rfl⟩)
    · refine x_fconst0 hE dX1_master_40 ?_
      exact x_fret hE dX1_master_41 (⟨by simp only [masterG, fallR]; simp_all [b2i_0, b2i_n0], rfl⟩)
  · refine x_aload_n hE dX1_master_16 rfl rfl ?_
    refine x_get hE hinX1 hg rfl 0 (by decide) (List.mem_of_getElem? (i := 1) rfl) rfl dX1_master_17 ?_
    refine x_iload_n hE dX1_master_20 rfl ?_
    refine x_aload_n hE dX1_master_21 rfl rfl ?_
    refine x_get hE hinX1 hg rfl 1 (by decide) (List.mem_of_getElem? (i := 2) rfl) rfl dX1_master_22 ?_
    refine x_isub hE dX1_master_25 ?_
    refine x_callV (ci := 0) (st := []) hE 1 (c_X0_masterRisen G hb) gX1_master_X0_masterRisen rfl rfl rfl (by decide +kernel) ⟨Nat.le_of_ble_eq_true rfl, Nat.le_of_ble_eq_true rfl⟩ hb rfl rfl rfl dX1_master_26 rfl (Nat.le_of_ble_eq_true rfl) ⟨Nat.le_of_ble_eq_true rfl, Nat.le_of_ble_eq_true rfl⟩ (fun v h9 hp => ?_)
    obtain ⟨rfl, rfl⟩ := hp
    exact x_fret hE dX1_master_29 (⟨by simp only [masterG, fallR]; simp_all [b2i_0, b2i_n0], rfl⟩)
end
