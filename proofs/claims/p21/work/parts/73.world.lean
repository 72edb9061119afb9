/-! the law's world: the book's cells and the law's rows -/
def bW (G : XG) (x : Nat) (S : PS) (h : HM) : Prop := ∃ (ad ow : Nat → Nat) (eA : Nat) (A1 P1 : List Nat) (c1 : Nat → GC) (A2 P2 : List Nat) (c2 : Nat → GC) (RY : List Nat), ad 0 = x ∧ cW G ad ow eA A1 P1 c1 A2 P2 c2 RY S h
theorem cW.up {G : XG} {ad ow : Nat → Nat} {eA : Nat} {A1 P1 : List Nat} {c1 : Nat → GC} {A2 P2 : List Nat} {c2 : Nat → GC} {RY : List Nat} {S : PS} {h h' : HM} (hW : cW G ad ow eA A1 P1 c1 A2 P2 c2 RY S h) (hu : ∀ (q : Nat) (e : va_E), h q = some e → h' q = some e) : cW G ad ow eA A1 P1 c1 A2 P2 c2 RY S h' := by
  obtain ⟨hB, hR, hC, hp, hl, hr, hw, hI, hO⟩ := hW
  have hf : frO ow [] h h' := fun q e hq _ => hu q e hq
  exact ⟨cB.fr hO hf hB (by simp), riW.fr hO hf hR (by simp) (by simp) (fun _ _ => by simp), cuW.fr hO hf hC (by simp) (fun _ _ => by simp), poW.fr hO hf hp (by simp), liW.fr hO hf hl (by simp) (by simp) (by simp), goW.fr hf hr (hO.1 7 (by decide)) (hO.1 8 (by decide)) hO.2.2.2.2.2 (by simp) (by simp) (by simp), waW.fr hO hf hw (by simp) (by simp) (by simp) (by simp), hiW.fr hO hf hI (by simp) (by simp), hO⟩
def lH (G : XG) (xa : Nat) (S : PS) (hA h : HM) : Prop := ∃ hC : HM, h = jn hC hA ∧ dj hC hA ∧ bW G xa S hC
theorem lH.bw {G : XG} {xa : Nat} {S : PS} {hA h : HM} (hh : lH G xa S hA h) : bW G xa S h := by
  obtain ⟨hC, rfl, hd, ad, ow, eA, A1, P1, c1, A2, P2, c2, RY, had, hW⟩ := hh
  exact ⟨ad, ow, eA, A1, P1, c1, A2, P2, c2, RY, had, hW.up (fun q e hq => jn_l hq)⟩
theorem lH.at {G : XG} {xa : Nat} {S : PS} {hA h : HM} (hh : lH G xa S hA h) {q : Nat} {e : va_E} (hq : hA q = some e) : h q = some e := by
  obtain ⟨hC, rfl, hd, _⟩ := hh
  exact jn_r hd hq
theorem up_r {h1 h2 : HM} {q : Nat} {e : va_E} (n : h1 q = none) : x_up (jn h1 h2) q e = jn h1 (x_up h2 q e) := by
  funext a
  by_cases c : a = q
  · subst c
    rw [x_up_eq, jn_n n, x_up_eq]
  · rw [x_up_ne c]
    cases z : h1 a with
    | none => rw [jn_n z, jn_n z, x_up_ne c]
    | some e' => rw [jn_l z, jn_l z]
theorem dj_upr {h1 h2 : HM} {q : Nat} {e : va_E} (d : dj h1 h2) (n : h1 q = none) : dj h1 (x_up h2 q e) := fun a e' ha => by
  by_cases c : a = q
  · subst c
    rw [n] at ha
    cases ha
  · rw [x_up_ne c]
    exact d a e' ha
theorem lH.up {G : XG} {xa : Nat} {S : PS} {hA h : HM} (hh : lH G xa S hA h) {q : Nat} {e0 : va_E} (hq : hA q = some e0) (e : va_E) : lH G xa S (x_up hA q e) (x_up h q e) := by
  obtain ⟨hC, rfl, hd, hb⟩ := hh
  have n := hd.n hq
  exact ⟨hC, up_r n, dj_upr hd n, hb⟩
theorem lH.new {G : XG} {xa : Nat} {S : PS} {hA h : HM} (hh : lH G xa S hA h) {q : Nat} (hq : h q = none) (e : va_E) : lH G xa S (x_up hA q e) (x_up h q e) := by
  obtain ⟨hC, rfl, hd, hb⟩ := hh
  have n := (jn_none.mp hq).1
  exact ⟨hC, up_r n, dj_upr hd n, hb⟩
theorem lH.no {G : XG} {xa : Nat} {S : PS} {hA h : HM} (hh : lH G xa S hA h) {q : Nat} (hq : h q = none) : hA q = none := by
  obtain ⟨hC, rfl, hd, hb⟩ := hh
  exact (jn_none.mp hq).2
/-! the class asked, by numbers -/
theorem isN_y {j n : Nat} (h : j < n) (hn : n < 2 ^ 31) : isN (nI j) n = true := by
  unfold isN
  rw [decide_eq_true (nI_pos' (by omega)), decide_eq_false (nI_ge h hn)]
  rfl
theorem isN_no {n : Nat} (hn : n < 2 ^ 31) : ¬ isN (nI n) n = true := by
  unfold isN
  rw [decide_eq_true (show nI n ≤ nI n from i32_le_rfl _)]
  simp
theorem inI_y {j lo hi : Nat} (h1 : lo ≤ j) (h2 : j ≤ hi) (hh : hi < 2 ^ 31) : inI (nI j) lo hi = true := by
  unfold inI
  rw [decide_eq_true ((nI_leI (by omega) (by omega)).mpr h1), decide_eq_true ((nI_leI (by omega) hh).mpr h2)]
  rfl
section QQ
variable {ad ow : Nat → Nat} {eA : Nat} {A1 P1 : List Nat} {c1 : Nat → GC} {A2 P2 : List Nat} {c2 : Nat → GC} {RY : List Nat} {S : PS} {h : HM}
theorem cW.L16 {G : XG} (hW : cW G ad ow eA A1 P1 c1 A2 P2 c2 RY S h) : s_L S ≤ 16 := hW.2.1.2.2.1
theorem cW.C12 {G : XG} (hW : cW G ad ow eA A1 P1 c1 A2 P2 c2 RY S h) : s_C S ≤ 12 := hW.2.2.1.2.1
theorem q_shines (G : XG) (hW : cW G ad ow eA A1 P1 c1 A2 P2 c2 RY S h) {c i : Nat} (hc : c < s_C S) (hi : i < s_L S) : x_M G yX7_shines wsX7_shines ({ frames := 6, cells := 0, slots := 0, locals := 90 } : Room) [.ref (ad 0), .int (nI c), .int (nI i)] h (x_is (some (.int (shiP S c i))) h) 0 0 := by
  have a := hW.L16
  have b := hW.C12
  have k := n_X7_shines G hW (nI c) (nI i) (by unfold fShines; rw [if_pos ⟨isN_y hc (by omega), isN_y hi (by omega)⟩])
  rw [nI_clamp (by omega), nI_clamp (by omega)] at k
  exact k
theorem q_playing (G : XG) (hW : cW G ad ow eA A1 P1 c1 A2 P2 c2 RY S h) (hf : fI (s_ar S) (s_L S) (s_C S) (s_t S) (s_G S)) {c w : Nat} (hc : c < s_C S) (hw : w ≤ 3) : x_M G yX7_playing wsX7_playing ({ frames := 6, cells := 0, slots := 0, locals := 90 } : Room) [.ref (ad 0), .int (nI c), .int (nI w)] h (x_is (some (.int (playP S c w))) h) 0 0 := by
  have b := hW.C12
  have k := n_X7_playing G hW hf (nI c) (nI w) (by unfold fPlay; rw [if_pos (isN_y hc (by omega)), if_pos (inI_y (Nat.zero_le _) hw (by decide))])
  rw [nI_clamp (by omega), nI_clamp (by omega)] at k
  exact k
theorem q_asks (G : XG) (hW : cW G ad ow eA A1 P1 c1 A2 P2 c2 RY S h) (hg : gI (s_C S) (s_G S)) {c p : Nat} (hc : c < s_C S) (hp : p ≤ 2) : x_M G yX7_asks wsX7_asks ({ frames := 6, cells := 0, slots := 0, locals := 91 } : Room) [.ref (ad 0), .int (nI c), .int (nI p)] h (x_is (some (.int (askP (s_ar S) (s_L S) (s_B S) (s_G S) c (nI p)))) h) 0 0 := by
  have b := hW.C12
  have k := n_X7_asks G hW hg (nI c) (nI p) (by unfold fAsks; rw [if_pos ⟨isN_y hc (by omega), inI_y (Nat.zero_le _) hp (by decide)⟩])
  rw [nI_clamp (by omega)] at k
  exact k
theorem q_levelOf (G : XG) (hW : cW G ad ow eA A1 P1 c1 A2 P2 c2 RY S h) (hf : fI (s_ar S) (s_L S) (s_C S) (s_t S) (s_G S)) {i : Nat} (hi : i < s_L S) : x_M G yX7_levelOf wsX7_levelOf ({ frames := 6, cells := 0, slots := 0, locals := 90 } : Room) [.ref (ad 0), .int (nI i)] h (x_is (some (.int (nI (levS S (s_G S) i).toNat))) h) 0 0 := by
  have a := hW.L16
  have k := n_X7_levelOf G hW hf (nI i) (by unfold fLamp; rw [if_pos (isN_y hi (by omega))])
  rw [nI_clamp (by omega)] at k
  exact k
theorem q_loadOf (G : XG) (hW : cW G ad ow eA A1 P1 c1 A2 P2 c2 RY S h) (hf : fI (s_ar S) (s_L S) (s_C S) (s_t S) (s_G S)) {p : Nat} (hp : p ≤ 2) : x_M G yX7_loadOf wsX7_loadOf ({ frames := 6, cells := 0, slots := 0, locals := 93 } : Room) [.ref (ad 0), .int (nI p)] h (x_is (some (.int (nI (ldN (s_ar S) (s_L S) (s_B S) (s_t S) (s_G S) (nI p) 16).toNat))) h) 0 0 :=
  n_X7_loadOf G hW hf (nI p) (by unfold fPhase; rw [if_pos (inI_y (Nat.zero_le _) hp (by decide))])
theorem q_watts (G : XG) (hW : cW G ad ow eA A1 P1 c1 A2 P2 c2 RY S h) (hf : fI (s_ar S) (s_L S) (s_C S) (s_t S) (s_G S)) {p : Nat} (hp : p ≤ 2) : x_M G yX7_watts wsX7_watts ({ frames := 6, cells := 0, slots := 0, locals := 93 } : Room) [.ref (ad 0), .int (nI p)] h (x_is (some (.int (FP.f2i (ldN (s_ar S) (s_L S) (s_B S) (s_t S) (s_G S) (nI p) 16)))) h) 0 0 :=
  n_X7_watts G hW hf (nI p) (by unfold fPhase; rw [if_pos (inI_y (Nat.zero_le _) hp (by decide))])
end QQ
/-! the law's rows beside the book's state -/
def lV (S : PS) : Prop := ∀ k, k < 10 → (∃ b, b ≤ 3 ∧ s_ar S 2 k = nI b) ∧ (∃ p, p ≤ 9 ∧ s_ar S 3 k = nI p) ∧ (∃ p, p ≤ 2 ∧ s_ar S 6 k = nI p) ∧ (s_ar S 7 k = 0 ∨ s_ar S 7 k = 1)
def lS (S : PS) : Prop := s_L S = 10 ∧ s_C S = 6 ∧ lV S
def lRc (S : PS) (cf : Nat → Int32) : Prop := cf 0 = nI 10 ∧ cf 1 = nI 6 ∧ cf 2 = s_B S ∧ cf 3 = nI (s_t S) ∧ ∃ b, b ≤ s_b S ∧ cf 4 = nI b
def lRm (S : PS) (mf : Nat → Int32) : Prop := ∀ k, k < 10 → mf (6 * k) = s_ar S 2 k ∧ mf (6 * k + 1) = s_ar S 3 k ∧ mf (6 * k + 2) = s_ar S 4 k ∧ mf (6 * k + 3) = s_ar S 5 k ∧ mf (6 * k + 4) = s_ar S 6 k ∧ mf (6 * k + 5) = s_ar S 7 k
def lRl (S : PS) (lf : Nat → Int32) : Prop := ∀ c k, c < 6 → k < 10 → lf (10 * c + k) = s_ar S 14 (16 * c + k)
def lRp (S : PS) (pf : Nat → Int32) : Prop := ∀ j, j < 3 → pf j = s_ar S 9 j
def lRt (S : PS) (tf : Nat → Int32) : Prop := ∀ c, c < 6 → tf (3 * c) = s_ar S 11 c ∧ tf (3 * c + 1) = s_ar S 12 c ∧ tf (3 * c + 2) = s_ar S 13 c
abbrev rowI (G : XG) (n : Nat) (f : Nat → Int32) : va_E := .inl (g_c G 0, n, .inl f)
/-- differences both ways -/
def dfN (a b : Nat) : Nat := (a - b) + (b - a)
theorem df_pos {a b : Nat} (ha : a < 2 ^ 30) (hb : b < 2 ^ 30) (h : 0 ≤ nI a - nI b) : nI a - nI b = nI (dfN a b) := by
  rw [Int32.le_iff_toInt_le, pk_sub_toInt ha hb] at h
  have e : (0 : Int32).toInt = 0 := by decide
  have h' : b ≤ a := by omega
  rw [pk_sub h']
  unfold dfN
  congr 1
  omega
theorem df_neg {a b : Nat} (ha : a < 2 ^ 30) (hb : b < 2 ^ 30) (h : ¬ 0 ≤ nI a - nI b) : -(nI a - nI b) = nI (dfN a b) := by
  rw [Int32.le_iff_toInt_le, pk_sub_toInt ha hb] at h
  have e : (0 : Int32).toInt = 0 := by decide
  have h' : a ≤ b := by omega
  rw [Int32.neg_sub, pk_sub h']
  unfold dfN
  congr 1
  omega
def dN (S : PS) (a b : Nat) : Nat := 10 * dfN (s_ar S 2 a).toNatClampNeg (s_ar S 2 b).toNatClampNeg + dfN (s_ar S 3 a).toNatClampNeg (s_ar S 3 b).toNatClampNeg
theorem dN_sym (S : PS) (a b : Nat) : dN S a b = dN S b a := by
  unfold dN dfN
  omega
theorem dN_b {S : PS} (hV : lV S) {a b : Nat} (ha : a < 10) (hb : b < 10) : dN S a b ≤ 39 := by
  obtain ⟨⟨b1, h1, e1⟩, ⟨p1, h2, e2⟩, _⟩ := hV a ha
  obtain ⟨⟨b2, h3, e3⟩, ⟨p2, h4, e4⟩, _⟩ := hV b hb
  unfold dN dfN
  rw [e1, e2, e3, e4, nI_clamp (by omega), nI_clamp (by omega), nI_clamp (by omega), nI_clamp (by omega)]
  omega
theorem abs_df {a b : Nat} (ha : a < 2 ^ 30) (hb : b < 2 ^ 30) : absI (nI a - nI b) = nI (dfN a b) := by
  unfold absI
  split
  · rename_i h
    exact df_pos ha hb h
  · rename_i h
    rw [← df_neg ha hb h, Int32.zero_sub]
theorem dist_is {S : PS} (hV : lV S) {a b : Nat} (ha : a < 10) (hb : b < 10) : distS (s_ar S) a b = nI (dN S a b) := by
  obtain ⟨⟨b1, h1, e1⟩, ⟨p1, h2, e2⟩, _⟩ := hV a ha
  obtain ⟨⟨b2, h3, e3⟩, ⟨p2, h4, e4⟩, _⟩ := hV b hb
  unfold distS dN
  rw [e1, e2, e3, e4, abs_df (by omega) (by omega), abs_df (by omega) (by omega), pk_mul, nI_add, nI_clamp (by omega), nI_clamp (by omega), nI_clamp (by omega), nI_clamp (by omega)]
