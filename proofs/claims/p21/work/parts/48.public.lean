def passK (S : PS) : Nat → PS
  | 0 => S
  | n + 1 => pass1 (passK S n)
def fPass (x : Int32) : Nat := if inI x 1 20 = true then 0 else 1
def passS (x : Int32) (S : PS) : PS := if fPass x = 0 then passK S x.toNatClampNeg else S
/-- what a tick's passing wants -/
def pI (S : PS) : Prop := gI (s_C S) (s_G S) ∧ (∀ x, x ∈ s_N S → x.1 < s_C S ∧ x.2 < 2 ^ 31) ∧ (s_N S).length < 513 ∧ s_t S + 1 < 2 ^ 31 ∧ (∀ i, i < (dueP S).length → bI (stI S i)) ∧ ∀ i, i ≤ (dueP S).length → s_n (stI S i) ≤ s_n (pass1 S)
theorem passK_le {S : PS} {k : Nat} (h : ∀ j, j < k → pI (passK S j)) : ∀ i, i ≤ k → s_n (passK S i) ≤ s_n (passK S k) := by
  have key : ∀ d i, i + d = k → s_n (passK S i) ≤ s_n (passK S k) := by
    intro d
    induction d with
    | zero => intro i hi; rw [show i = k by omega]; exact Nat.le_refl _
    | succ d ih =>
      intro i hi
      have h1 := ih (i + 1) (by omega)
      have h2 := (h i (by omega)).2.2.2.2.2 0 (Nat.zero_le _)
      exact Nat.le_trans h2 h1
  exact fun i hi => key (k - i) i (by omega)
set_option maxHeartbeats 4000000 in
set_option maxRecDepth 100000 in
theorem c_X7_pass (G : XG) {ad ow : Nat → Nat} {eA : Nat} {A1 P1 : List Nat} {c1 : Nat → GC} {A2 P2 : List Nat} {c2 : Nat → GC} {RY : List Nat} {S : PS} {h : HM} (hW : cW G ad ow eA A1 P1 c1 A2 P2 c2 RY S h) (hpI : ∀ j, j < 20 → pI (passK S j)) (x : Int32) : y_M G yX7_pass wsX7_pass ({ frames := 6, cells := s_n (passS x S) - s_n S + 1, slots := 3 * (s_n (passS x S) - s_n S) + 6, locals := 135 } : Room) [.ref (ad 0), .int x] h (fun v h' => fPass x = 0 ∧ v = some (.int (nI (s_t (passS x S)))) ∧ ∃ (ow' : Nat → Nat) (eA' : Nat) (A1' P1' : List Nat) (c1' : Nat → GC) (RY' : List Nat), cW G ad ow' eA' A1' P1' c1' A2 P2 c2 RY' (passS x S) h') (fun E => fPass x = 1 ∧ E = xIA) (s_n (passS x S) - s_n S + 1) (3 * (s_n (passS x S) - s_n S) + 6) := by
  refine y_M.of (cc := cX7_pass) (maxL := 3) (ret := (some .int)) (ent := [some (.ref (ad 0)), some (.int x), none]) (by decide +kernel) rfl (Nat.le_of_ble_eq_true rfl) rfl rfl ?_
  intro F hE hname hT hX
  have hinX7 : ∀ w ∈ wsX70, w ∈ wsX7_pass := by decide +kernel
  have hW0 := hW
  obtain ⟨hB, hR, hC, hp, hl, hr, hw, hI, hO⟩ := hW0
  refine x_iload_n hE dX7_pass_0 rfl ?_
  refine x_iconst (v := nI 1) hE dX7_pass_1 (by decide) ?_
  refine x_bipush (v := nI 20) hE dX7_pass_2 (by decide) ?_
  refine x_callS (st := []) hE 3 (c_X7_isWithin G x (nI 1) (nI 20)) gX7_pass_X7_isWithin rfl rfl rfl (by decide +kernel) ⟨Nat.le_of_ble_eq_true rfl, Nat.le_of_ble_eq_true rfl⟩ rfl rfl dX7_pass_4 rfl (Nat.le_of_ble_eq_true rfl) ⟨by dsimp only; omega, by dsimp only; omega⟩ (fun v h9 hp => ?_)
  obtain ⟨rfl, rfl⟩ := hp
  refine x_if_ne (tgt := 20) hE dX7_pass_7 (by decide) (fun cc => ?_) (fun cc => ?_)
  · have q1 : inI x 1 20 = true := b2i_n0.mp cc
    obtain ⟨k, hk1, hk2, rfl⟩ := inI_is q1 (by decide) (by decide)
    have ek : (nI k).toNatClampNeg = k := nI_clamp (by omega)
    have ef : fPass (nI k) = 0 := by unfold fPass; rw [if_pos q1]
    have es : passS (nI k) S = passK S k := by unfold passS; rw [if_pos ef, ek]
    rw [es] at hE ⊢
    have hmo := passK_le (S := S) (k := k) (fun j hj => hpI j (by omega))
    refine x_iconst (v := nI 0) hE dX7_pass_20 (by decide) ?_
    refine x_istore_n (L' := [some (.ref (ad 0)), some (.int (nI k)), some (.int (nI 0))]) hE dX7_pass_21 rfl (Nat.le_of_ble_eq_true rfl) rfl ?_
    refine x_widen (k := s_n (passK S 0) - s_n S) (n := 3 * (s_n (passK S 0) - s_n S)) (by omega) (by omega) ?_
    refine x_down (N := k) (P := fun i => ∀ (hi : HM) (ow2 : Nat → Nat) (eA2 : Nat) (A12 P12 : List Nat) (c12 : Nat → GC) (RY2 : List Nat), cW G ad ow2 eA2 A12 P12 c12 A2 P2 c2 RY2 (passK S i) hi → x_W G F (y_Q G F (fun v h' => fPass (nI k) = 0 ∧ v = some (.int (nI (s_t (passK S k)))) ∧ ∃ (ow' : Nat → Nat) (eA' : Nat) (A1' P1' : List Nat) (c1' : Nat → GC) (RY' : List Nat), cW G ad ow' eA' A1' P1' c1' A2 P2 c2 RY' (passK S k) h') (fun E => fPass (nI k) = 1 ∧ E = xIA) h (s_n (passK S k) - s_n S + 1) (3 * (s_n (passK S k) - s_n S) + 6)) (s_n (passK S i) - s_n S) (3 * (s_n (passK S i) - s_n S)) hi 22 [some (.ref (ad 0)), some (.int (nI k)), some (.int (nI i))] []) (fun i hiN ih => ?_) 0 (by omega) h ow eA A1 P1 c1 RY hW
    intro hi ow2 eA2 A12 P12 c12 RY2 hWi
    have hWc := hWi
    obtain ⟨hBi, -, -, -, -, -, -, -, -⟩ := hWi
    have hm0 := hmo i (by omega)
    have hm9 := hmo 0 (by omega)
    have hm8 := passK_le (S := S) (k := i) (fun j hj => hpI j (by omega)) 0 (Nat.zero_le _)
    have e00 : s_n (passK S 0) = s_n S := rfl
    refine x_iload_n hE dX7_pass_22 rfl ?_
    refine x_iload_n hE dX7_pass_23 rfl ?_
    refine x_icmp_ge (tgt := 37) hE dX7_pass_24 (by decide) (fun c24 => ?_) (fun c24 => ?_)
    · replace c24 := x_nIle c24 (by omega) (by omega)
      obtain rfl : i = k := by omega
      refine x_aload_n hE dX7_pass_37 rfl rfl ?_
      refine x_get hE hinX7 hBi rfl 8 (by decide) (List.mem_of_getElem? (i := 3) rfl) rfl dX7_pass_38 ?_
      refine x_widen (k := s_n (passK S i) - s_n S + 1) (n := 3 * (s_n (passK S i) - s_n S) + 6) (by omega) (by omega) ?_
      exact y_ret (x_iret hE dX7_pass_41 (⟨ef, rfl, _, _, _, _, _, _, hWc⟩))
    · replace c24 := x_nInle c24 (by omega) (by omega)
      have hm1 := hmo (i + 1) (by omega)
      obtain ⟨p1, p2, p3, p4, p5, p6⟩ := hpI i (by omega)
      have e01 : s_n (passK S (i + 1)) = s_n (pass1 (passK S i)) := rfl
      have hm2 : s_n (passK S i) ≤ s_n (pass1 (passK S i)) := p6 0 (Nat.zero_le _)
      refine x_aload_n hE dX7_pass_27 rfl rfl ?_
      refine x_callV (ci := 7) (st := []) hE 0 (c_X7_passOne G hWc p1 p2 p3 p4 p5 p6) gX7_pass_X7_passOne rfl rfl rfl (by decide +kernel) ⟨Nat.le_of_ble_eq_true rfl, Nat.le_of_ble_eq_true rfl⟩ hBi rfl rfl rfl dX7_pass_28 rfl (Nat.le_of_ble_eq_true rfl) ⟨by dsimp only; omega, by dsimp only; omega⟩ (fun v h4 hp => ?_)
      obtain ⟨rfl, ow4, eA4, A14, P14, c14, hW4⟩ := hp
      refine x_iinc (v := nI (i + 1)) (L' := [some (.ref (ad 0)), some (.int (nI k)), some (.int (nI (i + 1)))]) hE dX7_pass_31 rfl (nI_1 _) rfl ?_
      refine x_goto (tgt := 22) hE dX7_pass_34 (by decide) ?_
      rw [show s_n (passK S i) - s_n S + (s_n (pass1 (passK S i)) - s_n (passK S i)) = s_n (passK S (i + 1)) - s_n S by omega, show 3 * (s_n (passK S i) - s_n S) + 3 * (s_n (pass1 (passK S i)) - s_n (passK S i)) = 3 * (s_n (passK S (i + 1)) - s_n S) by omega]
      exact ih (i + 1) (by omega) (by omega) h4 ow4 eA4 A14 P14 c14 _ hW4
  · exact y_IA hE hT hX (List.mem_of_getElem? (i := 9) rfl) (List.mem_of_getElem? (i := 1) rfl) (List.mem_of_getElem? (i := 2) rfl) (fun w hw => List.mem_cons_of_mem _ (List.mem_append_right _ hw)) rfl dX7_pass_10 dX7_pass_13 dX7_pass_14 dX7_pass_16 dX7_pass_19 (Nat.le_of_ble_eq_true rfl) (Nat.le_of_ble_eq_true rfl) ⟨by dsimp only; omega, by dsimp only; omega⟩ ⟨by omega, by omega⟩ (⟨by unfold fPass; rw [if_neg (by rw [show inI x 1 20 = false from b2i_0.mp cc]; decide)], rfl⟩)
