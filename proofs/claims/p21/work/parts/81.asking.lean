/-! the class asked, over the world whole -/
section K1
variable {G : XG} {F : XF} {cc : ByteArray} {own : String} {Ts : List Cond} {nL : Nat} {ret : Option FieldType} {rm : Room} {Q : State → Prop} {a b : Nat} {h : HM} {pc : Nat} {L L' : List (Option Value)} {st st2 : List Value}
theorem k_ask (hE : x_E G F cc own Ts nL ret rm) {y : MethodName} {bytes : ByteArray} {maxL index : Nat} {ret' : Option FieldType} {ws ws' : List Cond} {rm' : Room} {As : List Value} {xa : Nat} {S : PS} {v : Value} (n : Nat)
    (hM : x_M G y ws rm' (.ref xa :: As) h (x_is (some v) h) 0 0) (hb : bW G xa S h) (hg : GoodIn Ts (wsV own index RX7 y ws)) (hw : ws = Cond.code y bytes maxL ret' :: ws') (hrc : rm'.cells = 0) (hrs : rm'.slots = 0)
    (hd : y.cls = RX7 ∧ y.cls ≠ "java/lang/invoke/MethodHandle" ∧ y.cls ≠ "java/lang/invoke/VarHandle" ∧ (parseMethodDescriptor y.desc).map (fun d => d.parameters.length) = some n)
    (hR : rm'.frames + 1 ≤ rm.frames ∧ 8 + (maxL + 11) + rm'.locals ≤ rm.locals) (hn : As.length = n) (hnL : L.length = nL)
    (d : decode cc pc = .ok (.invokevirtual index, 3)) (hst : st2 = As.reverse ++ .ref xa :: st) (hcat : (st.map fun v => v.category).sum ≤ 8) (hrm : a ≤ rm.cells ∧ b ≤ rm.slots)
    (kk : x_W G F Q a b h (pc + 3) L (v :: st)) : x_W G F Q a b h pc L st2 := by
  obtain ⟨ad, ow, eA, A1, P1, c1, A2, P2, c2, RY, rfl, hW⟩ := hb
  exact x_callV (ci := 7) (st := st) hE n hM hg hw hrc hrs hd hR hW.1 rfl hn hnL d hst hcat hrm (fun v' h' hp => by
    obtain ⟨rfl, rfl⟩ := hp
    exact kk)
/-- a static call that changes nothing -/
theorem k_st (hE : x_E G F cc own Ts nL ret rm) {y : MethodName} {bytes : ByteArray} {maxL index : Nat} {ret' : Option FieldType} {ws ws' : List Cond} {rm' : Room} {As : List Value} {v : Value} (n : Nat)
    (hM : x_M G y ws rm' As h (x_is (some v) h) 0 0) (hg : GoodIn Ts (va_wsS own index y ws)) (hw : ws = Cond.code y bytes maxL ret' :: ws') (hrc : rm'.cells = 0) (hrs : rm'.slots = 0)
    (hd : y.cls ≠ "java/lang/invoke/MethodHandle" ∧ y.cls ≠ "java/lang/invoke/VarHandle" ∧ (parseMethodDescriptor y.desc).map (fun d => d.parameters.length) = some n)
    (hR : rm'.frames + 1 ≤ rm.frames ∧ 8 + (maxL + 11) + rm'.locals ≤ rm.locals) (hn : As.length = n) (hnL : L.length = nL)
    (d : decode cc pc = .ok (.invokestatic index, 3)) (hst : st2 = As.reverse ++ st) (hcat : (st.map fun v => v.category).sum ≤ 8) (hrm : a ≤ rm.cells ∧ b ≤ rm.slots)
    (kk : x_W G F Q a b h (pc + 3) L (v :: st)) : x_W G F Q a b h pc L st2 :=
  x_callS (st := st) hE n hM hg hw hrc hrs hd hR hn hnL d hst hcat hrm (fun v' h' hp => by
    obtain ⟨rfl, rfl⟩ := hp
    exact kk)
end K1
section K2
variable {xa : Nat} {S : PS} {h : HM}
theorem Q_shines (G : XG) (hb : bW G xa S h) {c i : Nat} (hc : c < s_C S) (hi : i < s_L S) : x_M G yX7_shines wsX7_shines ({ frames := 6, cells := 0, slots := 0, locals := 90 } : Room) [.ref xa, .int (nI c), .int (nI i)] h (x_is (some (.int (shiP S c i))) h) 0 0 := by
  obtain ⟨ad, ow, eA, A1, P1, c1, A2, P2, c2, RY, rfl, hW⟩ := hb
  exact q_shines G hW hc hi
theorem Q_playing (G : XG) (hb : bW G xa S h) (hf : fI (s_ar S) (s_L S) (s_C S) (s_t S) (s_G S)) {c w : Nat} (hc : c < s_C S) (hw : w ≤ 3) : x_M G yX7_playing wsX7_playing ({ frames := 6, cells := 0, slots := 0, locals := 90 } : Room) [.ref xa, .int (nI c), .int (nI w)] h (x_is (some (.int (playP S c w))) h) 0 0 := by
  obtain ⟨ad, ow, eA, A1, P1, c1, A2, P2, c2, RY, rfl, hW⟩ := hb
  exact q_playing G hW hf hc hw
theorem Q_asks (G : XG) (hb : bW G xa S h) (hg : gI (s_C S) (s_G S)) {c p : Nat} (hc : c < s_C S) (hp : p ≤ 2) : x_M G yX7_asks wsX7_asks ({ frames := 6, cells := 0, slots := 0, locals := 91 } : Room) [.ref xa, .int (nI c), .int (nI p)] h (x_is (some (.int (askP (s_ar S) (s_L S) (s_B S) (s_G S) c (nI p)))) h) 0 0 := by
  obtain ⟨ad, ow, eA, A1, P1, c1, A2, P2, c2, RY, rfl, hW⟩ := hb
  exact q_asks G hW hg hc hp
theorem Q_levelOf (G : XG) (hb : bW G xa S h) (hf : fI (s_ar S) (s_L S) (s_C S) (s_t S) (s_G S)) {i : Nat} (hi : i < s_L S) : x_M G yX7_levelOf wsX7_levelOf ({ frames := 6, cells := 0, slots := 0, locals := 90 } : Room) [.ref xa, .int (nI i)] h (x_is (some (.int (nI (levS S (s_G S) i).toNat))) h) 0 0 := by
  obtain ⟨ad, ow, eA, A1, P1, c1, A2, P2, c2, RY, rfl, hW⟩ := hb
  exact q_levelOf G hW hf hi
theorem Q_loadOf (G : XG) (hb : bW G xa S h) (hf : fI (s_ar S) (s_L S) (s_C S) (s_t S) (s_G S)) {p : Nat} (hp : p ≤ 2) : x_M G yX7_loadOf wsX7_loadOf ({ frames := 6, cells := 0, slots := 0, locals := 93 } : Room) [.ref xa, .int (nI p)] h (x_is (some (.int (nI (ldN (s_ar S) (s_L S) (s_B S) (s_t S) (s_G S) (nI p) 16).toNat))) h) 0 0 := by
  obtain ⟨ad, ow, eA, A1, P1, c1, A2, P2, c2, RY, rfl, hW⟩ := hb
  exact q_loadOf G hW hf hp
theorem Q_watts (G : XG) (hb : bW G xa S h) (hf : fI (s_ar S) (s_L S) (s_C S) (s_t S) (s_G S)) {p : Nat} (hp : p ≤ 2) : x_M G yX7_watts wsX7_watts ({ frames := 6, cells := 0, slots := 0, locals := 93 } : Room) [.ref xa, .int (nI p)] h (x_is (some (.int (FP.f2i (ldN (s_ar S) (s_L S) (s_B S) (s_t S) (s_G S) (nI p) 16)))) h) 0 0 := by
  obtain ⟨ad, ow, eA, A1, P1, c1, A2, P2, c2, RY, rfl, hW⟩ := hb
  exact q_watts G hW hf hp
theorem Q_barred (G : XG) (hb : bW G xa S h) : x_M G yX7_barred wsX7_barred ({ frames := 0, cells := 0, slots := 0, locals := 0 } : Room) [.ref xa] h (x_is (some (.int (nI (s_b S)))) h) 0 0 := by
  obtain ⟨ad, ow, eA, A1, P1, c1, A2, P2, c2, RY, rfl, hW⟩ := hb
  exact c_X7_barred G hW.1
/-- the law asks -/
theorem D_levelBy (G : XG) (hb : bW G xa S h) (hS : lS S) {ca : Nat} {cf : Nat → Int32} (hca : h ca = some (rowI G 5 cf)) (hcc : lRc S cf) {la : Nat} {lf : Nat → Int32} (hla : h la = some (rowI G 60 lf)) (hll : lRl S lf) {c u : Nat} (hc : c < 6) (hu : u < 10) : x_M G yL_levelBy wsL_levelBy ({ frames := 7, cells := 0, slots := 0, locals := 113 } : Room) [.ref xa, .int (nI c), .int (nI u), .ref ca, .ref la] h (x_is (some (.int (levP (s_ar S) (s_L S) (s_B S) c u))) h) 0 0 := by
  obtain ⟨ad, ow, eA, A1, P1, c1, A2, P2, c2, RY, rfl, hW⟩ := hb
  exact c_L_levelBy G hW hS hca hcc hla hll hc hu
theorem D_due (G : XG) (hb : bW G xa S h) (hS : lS S) (hf : fI (s_ar S) (s_L S) (s_C S) (s_t S) (s_G S)) {ca : Nat} {cf : Nat → Int32} (hca : h ca = some (rowI G 5 cf)) (hcc : lRc S cf) {ma : Nat} {mf : Nat → Int32} (hma : h ma = some (rowI G 60 mf)) (hmm : lRm S mf) {la : Nat} {lf : Nat → Int32} (hla : h la = some (rowI G 60 lf)) (hll : lRl S lf) {c p : Nat} (hc : c < 6) (hp : p < 3) : x_M G yL_due wsL_due ({ frames := 8, cells := 0, slots := 0, locals := 139 } : Room) [.ref xa, .int (nI c), .int (nI p), .ref ca, .ref ma, .ref la] h (x_is (some (.int (askP (s_ar S) (s_L S) (s_B S) (s_G S) c (nI p)))) h) 0 0 := by
  obtain ⟨ad, ow, eA, A1, P1, c1, A2, P2, c2, RY, rfl, hW⟩ := hb
  exact c_L_due G hW hS hf hca hcc hma hmm hla hll hc hp
theorem D_areShining (G : XG) (hb : bW G xa S h) (hS : lS S) {ca : Nat} {cf : Nat → Int32} (hca : h ca = some (rowI G 5 cf)) (hcc : lRc S cf) {ma : Nat} {mf : Nat → Int32} (hma : h ma = some (rowI G 60 mf)) (hmm : lRm S mf) {la : Nat} {lf : Nat → Int32} (hla : h la = some (rowI G 60 lf)) (hll : lRl S lf) (ht : toI (s_ar S) (s_C S)) {c : Nat} (hc : c < 6) : x_M G yL_areShining wsL_areShining ({ frames := 7, cells := 0, slots := 0, locals := 113 } : Room) [.ref xa, .int (nI c), .ref ca, .ref ma, .ref la] h (x_is (some (.int (nI 1))) h) 0 0 := by
  obtain ⟨ad, ow, eA, A1, P1, c1, A2, P2, c2, RY, rfl, hW⟩ := hb
  exact c_L_areShining G hW hS hca hcc hma hmm hla hll ht hc
end K2
/-! forgetting cells -/
theorem x_drop {G : XG} {F : XF} {Q : State → Prop} {a b : Nat} {h h2 : HM} {pc : Nat} {L : List (Option Value)} {st : List Value} (hs : ∀ (q : Nat) (e : va_E), h2 q = some e → h q = some e) (kk : x_W G F Q a b h2 pc L st) : x_W G F Q a b h pc L st := fun H locs ls hH hS hL => kk H locs ls (fun q e hq => hH q e (hs q e hq)) hS hL
theorem lH.drop {G : XG} {xa : Nat} {S : PS} {hA h : HM} {q : Nat} {e : va_E} (hh : lH G xa S (x_up hA q e) h) (hq : hA q = none) : ∃ h2, lH G xa S hA h2 ∧ ∀ (a : Nat) (e : va_E), h2 a = some e → h a = some e := by
  obtain ⟨hC, rfl, hd, hb⟩ := hh
  have hd2 : dj hC hA := fun a e' ha => by
    have := hd a e' ha
    by_cases c : a = q
    · rw [c]; exact hq
    · rw [x_up_ne c] at this
      exact this
  refine ⟨jn hC hA, ⟨hC, rfl, hd2, hb⟩, fun a e' ha => ?_⟩
  cases z : hC a with
  | none =>
    rw [jn_n z] at ha ⊢
    rw [x_up_ne (x_none_ne hq ha)]
    exact ha
  | some e2 =>
    rw [jn_l z] at ha ⊢
    exact ha
theorem mxF_ge {it : Nat → Int32} {x0 : Int32} (n : Nat) : x0 ≤ mxF it x0 n := ((mxF_le n).mp (i32_le_rfl _)).1
