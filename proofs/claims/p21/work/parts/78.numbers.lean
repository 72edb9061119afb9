/-! the class's calls by numbers -/
def kM (G : XG) (xa : Nat) (S S' : PS) (y : MethodName) (ws : List Cond) (rm : Room) (As : List Value) (w : Option Value) (X : String → Prop) (mc ms : Nat) : Prop := ∀ hC : HM, bW G xa S hC → ∃ (post : Option Value → HM → Prop) (thr : String → Prop), (∀ A : Nat → Prop, y_M (reG G A) y ws rm (.ref xa :: As) hC post thr mc ms) ∧ (∀ v h', post v h' → v = w ∧ bW G xa S' h') ∧ ∀ E, thr E → X E
def kN (G : XG) (xa : Nat) (S : PS) (y : MethodName) (ws : List Cond) (rm : Room) (As : List Value) (X : String → Prop) (mc ms : Nat) : Prop := ∀ hC : HM, bW G xa S hC → ∃ (post : Option Value → HM → Prop) (thr : String → Prop), (∀ A : Nat → Prop, y_M (reG G A) y ws rm (.ref xa :: As) hC post thr mc ms) ∧ (∀ v h', ¬ post v h') ∧ ∀ E, thr E → X E
theorem bW.L16 {G : XG} {xa : Nat} {S : PS} {h : HM} (hb : bW G xa S h) : s_L S ≤ 16 := by
  obtain ⟨ad, ow, eA, A1, P1, c1, A2, P2, c2, RY, rfl, hW⟩ := hb
  exact hW.L16
theorem bW.C12 {G : XG} {xa : Nat} {S : PS} {h : HM} (hb : bW G xa S h) : s_C S ≤ 12 := by
  obtain ⟨ad, ow, eA, A1, P1, c1, A2, P2, c2, RY, rfl, hW⟩ := hb
  exact hW.C12
theorem lH.L16 {G : XG} {xa : Nat} {S : PS} {hA h : HM} (hh : lH G xa S hA h) : s_L S ≤ 16 := hh.bw.L16
theorem lH.C12 {G : XG} {xa : Nat} {S : PS} {hA h : HM} (hh : lH G xa S hA h) : s_C S ≤ 12 := hh.bw.C12
theorem m_die (G : XG) {xa : Nat} {S : PS} {i : Nat} (hi : i < s_L S) : kM G xa S (dieP i S) yX7_die wsX7_die ({ frames := 6, cells := 1, slots := 6, locals := 115 } : Room) [.int (nI i)] (some (.int (s_ar (dieP i S) 7 i))) (fun _ => False) (1) (6) := by
  intro hC hb
  have l16 := hb.L16
  have c12 := hb.C12
  obtain ⟨ad, ow, eA, A1, P1, c1, A2, P2, c2, RY, rfl, hW⟩ := hb
  have hf0 : fLamp S (nI i) = 0 := by unfold fLamp; rw [if_pos (isN_y hi (by omega))]
  refine ⟨(fun v h' => fLamp S (nI i) = 0 ∧ v = some (.int (s_ar (dieP (nI i).toNatClampNeg S) 7 (nI i).toNatClampNeg)) ∧ cW G ad ow eA A1 P1 c1 A2 P2 c2 RY (dieP (nI i).toNatClampNeg S) h'), (fun E => fLamp S (nI i) = 1 ∧ E = xIO), fun A => c_X7_die (reG G A) hW  (nI i), fun v h' hp => ?_, fun E hE => ?_⟩
  · obtain ⟨_, rfl, hW2⟩ := hp
    rw [nI_clamp (by omega)] at hW2 ⊢
    exact ⟨rfl, ⟨ad, ow, eA, A1, P1, c1, A2, P2, c2, RY, rfl, hW2⟩⟩
  · have f0 : fLamp S (nI i) = 0 := hf0
    have z := hE.1
    rw [f0] at z
    exact absurd z (by decide)
theorem m_house (G : XG) {xa : Nat} {S : PS} {x : Nat} (hx : x ≤ 15) : kM G xa S (houseP (nI x) S) yX7_house wsX7_house ({ frames := 6, cells := 1, slots := 6, locals := 115 } : Room) [.int (nI x)] (some (.int (nI (cnt_ (usL (s_L S) (s_ar S) (nI x)) 16)))) (fun _ => False) (1) (6) := by
  intro hC hb
  have l16 := hb.L16
  have c12 := hb.C12
  obtain ⟨ad, ow, eA, A1, P1, c1, A2, P2, c2, RY, rfl, hW⟩ := hb
  have hf0 : fHouse (nI x) = 0 := by unfold fHouse; rw [if_pos (inI_y (Nat.zero_le _) hx (by decide))]
  refine ⟨(fun v h' => fHouse (nI x) = 0 ∧ v = some (.int (nI (cnt_ (usL (s_L S) (s_ar S) (nI x)) 16))) ∧ cW G ad ow eA A1 P1 c1 A2 P2 c2 RY (houseP (nI x) S) h'), (fun E => fHouse (nI x) = 1 ∧ E = xIA), fun A => c_X7_house (reG G A) hW  (nI x), fun v h' hp => ?_, fun E hE => ?_⟩
  · obtain ⟨_, rfl, hW2⟩ := hp
    exact ⟨rfl, ⟨ad, ow, eA, A1, P1, c1, A2, P2, c2, RY, rfl, hW2⟩⟩
  · have f0 : fHouse (nI x) = 0 := hf0
    have z := hE.1
    rw [f0] at z
    exact absurd z (by decide)
theorem m_power (G : XG) {xa : Nat} {S : PS} {p x : Nat} (hp2 : p ≤ 2) (hx : x ≤ 20000) : kM G xa S (powerP (nI p) (nI x) S) yX7_power wsX7_power ({ frames := 6, cells := 1, slots := 6, locals := 90 } : Room) [.int (nI p), .int (nI x)] (some (.int (s_ar S 9 p))) (fun _ => False) (1) (6) := by
  intro hC hb
  have l16 := hb.L16
  have c12 := hb.C12
  obtain ⟨ad, ow, eA, A1, P1, c1, A2, P2, c2, RY, rfl, hW⟩ := hb
  have hf0 : fPower (nI p) (nI x) = 0 := by unfold fPower; rw [if_pos (inI_y (Nat.zero_le _) hp2 (by decide)), if_pos (inI_y (Nat.zero_le _) hx (by decide))]
  refine ⟨(fun v h' => fPower (nI p) (nI x) = 0 ∧ v = some (.int (s_ar S 9 (nI p).toNatClampNeg)) ∧ cW G ad ow eA A1 P1 c1 A2 P2 c2 RY (powerP (nI p) (nI x) S) h'), (fun E => (fPower (nI p) (nI x) = 1 ∧ E = xIO) ∨ (fPower (nI p) (nI x) = 2 ∧ E = xIA)), fun A => c_X7_power (reG G A) hW  (nI p) (nI x), fun v h' hp => ?_, fun E hE => ?_⟩
  · obtain ⟨_, rfl, hW2⟩ := hp
    rw [nI_clamp (by omega)]
    exact ⟨rfl, ⟨ad, ow, eA, A1, P1, c1, A2, P2, c2, RY, rfl, hW2⟩⟩
  · have f0 : fPower (nI p) (nI x) = 0 := hf0
    rcases hE with ⟨z, _⟩ | ⟨z, _⟩ <;> (rw [f0] at z; exact absurd z (by decide))
theorem m_level (G : XG) {xa : Nat} {S : PS} {c i x : Nat} (hc : c < s_C S) (hi : i < s_L S) (hx : x ≤ 100) : kM G xa S (levelP c i (nI x) S) yX7_level wsX7_level ({ frames := 6, cells := 1, slots := 6, locals := 93 } : Room) [.int (nI c), .int (nI i), .int (nI x)] (some (.int (s_ar S 14 (16 * c + i)))) (fun _ => False) (1) (6) := by
  intro hC hb
  have l16 := hb.L16
  have c12 := hb.C12
  obtain ⟨ad, ow, eA, A1, P1, c1, A2, P2, c2, RY, rfl, hW⟩ := hb
  have hf0 : fLevel S (nI c) (nI i) (nI x) = 0 := by unfold fLevel; rw [if_pos ⟨isN_y hc (by omega), isN_y hi (by omega)⟩, if_pos (inI_y (Nat.zero_le _) hx (by decide))]
  refine ⟨(fun v h' => fLevel S (nI c) (nI i) (nI x) = 0 ∧ v = some (.int (s_ar S 14 (16 * (nI c).toNatClampNeg + (nI i).toNatClampNeg))) ∧ cW G ad ow eA A1 P1 c1 A2 P2 c2 RY (levelP (nI c).toNatClampNeg (nI i).toNatClampNeg (nI x) S) h'), (fun E => (fLevel S (nI c) (nI i) (nI x) = 1 ∧ E = xIO) ∨ (fLevel S (nI c) (nI i) (nI x) = 2 ∧ E = xIA)), fun A => c_X7_level (reG G A) hW  (nI c) (nI i) (nI x), fun v h' hp => ?_, fun E hE => ?_⟩
  · obtain ⟨_, rfl, hW2⟩ := hp
    rw [nI_clamp (by omega), nI_clamp (by omega)] at hW2 ⊢
    exact ⟨rfl, ⟨ad, ow, eA, A1, P1, c1, A2, P2, c2, RY, rfl, hW2⟩⟩
  · have f0 : fLevel S (nI c) (nI i) (nI x) = 0 := hf0
    rcases hE with ⟨z, _⟩ | ⟨z, _⟩ <;> (rw [f0] at z; exact absurd z (by decide))
theorem m_follow (G : XG) {xa : Nat} {S : PS} {c t : Nat} {o : Int32} (hcu : cuI (s_ar S) (s_C S)) (hc : c < s_C S) (ho : isN o (s_C S) = true ∨ o = -1) (h1 : 1 ≤ t) (h2 : t ≤ 60) : kM G xa S (followP c o (nI t) S) yX7_follow wsX7_follow ({ frames := 6, cells := 1, slots := 6, locals := 90 } : Room) [.int (nI c), .int (o), .int (nI t)] (some (.int (s_ar S 15 c))) (fun _ => False) (1) (6) := by
  intro hC hb
  have l16 := hb.L16
  have c12 := hb.C12
  obtain ⟨ad, ow, eA, A1, P1, c1, A2, P2, c2, RY, rfl, hW⟩ := hb
  have hf0 : fFollow S (nI c) o (nI t) = 0 := by unfold fFollow; rw [if_pos ⟨isN_y hc (by omega), ho⟩, if_pos (inI_y h1 h2 (by decide))]
  refine ⟨(fun v h' => fFollow S (nI c) (o) (nI t) = 0 ∧ v = some (.int (s_ar S 15 (nI c).toNatClampNeg)) ∧ cW G ad ow eA A1 P1 c1 A2 P2 c2 RY (followP (nI c).toNatClampNeg (o) (nI t) S) h'), (fun E => (fFollow S (nI c) (o) (nI t) = 1 ∧ E = xIO) ∨ (fFollow S (nI c) (o) (nI t) = 2 ∧ E = xIA)), fun A => c_X7_follow (reG G A) hW hcu (nI c) (o) (nI t), fun v h' hp => ?_, fun E hE => ?_⟩
  · obtain ⟨_, rfl, hW2⟩ := hp
    rw [nI_clamp (by omega)] at hW2 ⊢
    exact ⟨rfl, ⟨ad, ow, eA, A1, P1, c1, A2, P2, c2, RY, rfl, hW2⟩⟩
  · have f0 : fFollow S (nI c) o (nI t) = 0 := hf0
    rcases hE with ⟨z, _⟩ | ⟨z, _⟩ <;> (rw [f0] at z; exact absurd z (by decide))
theorem m_levelAnew (G : XG) {xa : Nat} {S : PS} {i : Nat} (hf : fI (s_ar S) (s_L S) (s_C S) (s_t S) ((rtP (s_H S)).filter (fun g => !ovP (s_ar S) (s_t S) g))) (heI : eI (s_C S) (s_H S)) (hi : i < s_L S) : kM G xa S (S) yX7_levelAnew wsX7_levelAnew ({ frames := 6, cells := 1, slots := 6, locals := 111 } : Room) [.int (nI i)] (some (.int (nI (levS S ((rtP (s_H S)).filter (fun g => !ovP (s_ar S) (s_t S) g)) i).toNat))) (fun _ => False) (1) (6) := by
  intro hC hb
  have l16 := hb.L16
  have c12 := hb.C12
  obtain ⟨ad, ow, eA, A1, P1, c1, A2, P2, c2, RY, rfl, hW⟩ := hb
  have hf0 : fLamp S (nI i) = 0 := by unfold fLamp; rw [if_pos (isN_y hi (by omega))]
  refine ⟨(fun v h' => fLamp S (nI i) = 0 ∧ v = some (.int (nI (levS S ((rtP (s_H S)).filter (fun g => !ovP (s_ar S) (s_t S) g)) (nI i).toNatClampNeg).toNat)) ∧ ∃ (A2' P2' : List Nat) (c2' : Nat → GC), cW G ad ow eA A1 P1 c1 A2' P2' c2' RY S h'), (fun E => fLamp S (nI i) = 1 ∧ E = xIO), fun A => c_X7_levelAnew (reG G A) hW hf heI (nI i), fun v h' hp => ?_, fun E hE => ?_⟩
  · obtain ⟨_, rfl, A3, P3, c3, hW2⟩ := hp
    rw [nI_clamp (by omega)]
    exact ⟨rfl, ad, ow, eA, A1, P1, c1, A3, P3, c3, RY, rfl, hW2⟩
  · have f0 : fLamp S (nI i) = 0 := hf0
    have z := hE.1
    rw [f0] at z
    exact absurd z (by decide)
theorem m_cue (G : XG) {xa : Nat} {S : PS} {so up dn : Nat} (hg : gI (s_C S) (s_G S)) (hcu : cuI (s_ar S) (s_C S)) (hNC : ∀ x, x ∈ s_N S → x.1 < s_C S) (hz0 : zI (s_ar S) (s_L S) (s_C S)) (hC12 : s_C S < 12) (h1 : so ≤ 1) (h2 : up ≤ 60) (h3 : dn ≤ 60) : kM G xa S (cueP (nI so) (nI up) (nI dn) S) yX7_cue wsX7_cue ({ frames := 6, cells := 4, slots := 57, locals := 90 } : Room) [.int (nI so), .int (nI up), .int (nI dn)] (some (.int (nI (s_C S)))) (fun _ => False) (4) (57) := by
  intro hC hb
  have l16 := hb.L16
  have c12 := hb.C12
  obtain ⟨ad, ow, eA, A1, P1, c1, A2, P2, c2, RY, rfl, hW⟩ := hb
  have hf0 : fCue S (nI so) (nI up) (nI dn) = 0 := by unfold fCue; rw [if_pos ⟨inI_y (Nat.zero_le _) h1 (by decide), inI_y (Nat.zero_le _) h2 (by decide), inI_y (Nat.zero_le _) h3 (by decide)⟩, if_neg (by omega)]
  refine ⟨(fun v h' => fCue S (nI so) (nI up) (nI dn) = 0 ∧ v = some (.int (nI (s_C S))) ∧ ∃ ad' ow' : Nat → Nat, ad' 0 = ad 0 ∧ cW G ad' ow' eA A1 P1 c1 A2 P2 c2 RY (cueP (nI so) (nI up) (nI dn) S) h'), (fun E => (fCue S (nI so) (nI up) (nI dn) = 1 ∧ E = xIA) ∨ (fCue S (nI so) (nI up) (nI dn) = 2 ∧ E = xIS)), fun A => c_X7_cue (reG G A) hW hg hcu hNC hz0 (nI so) (nI up) (nI dn), fun v h' hp => ?_, fun E hE => ?_⟩
  · obtain ⟨_, rfl, ad', ow', had, hW2⟩ := hp
    exact ⟨rfl, ad', ow', eA, A1, P1, c1, A2, P2, c2, RY, had, hW2⟩
  · have f0 : fCue S (nI so) (nI up) (nI dn) = 0 := hf0
    rcases hE with ⟨z, _⟩ | ⟨z, _⟩ <;> (rw [f0] at z; exact absurd z (by decide))
theorem m_lamp (G : XG) {xa : Nat} {S : PS} {b p g wa ph : Nat} (hg : gI (s_C S) (s_G S)) (hcu : cuI (s_ar S) (s_C S)) (hNC : ∀ x, x ∈ s_N S → x.1 < s_C S) (hz0 : zI (s_ar S) (s_L S) (s_C S)) (hL16 : s_L S < 16) (h1 : b ≤ 3) (h2 : p ≤ 9) (h3 : glI (nI g) = true) (h4 : 100 ≤ wa) (h5 : wa ≤ 2000) (h6 : ph ≤ 2) : kM G xa S (hangP (nI b) (nI p) (nI g) (nI wa) (nI ph) S) yX7_lamp wsX7_lamp ({ frames := 6, cells := 1, slots := 6, locals := 115 } : Room) [.int (nI b), .int (nI p), .int (nI g), .int (nI wa), .int (nI ph)] (some (.int (nI (s_L S)))) (fun _ => False) (1) (6) := by
  intro hC hb
  have l16 := hb.L16
  have c12 := hb.C12
  obtain ⟨ad, ow, eA, A1, P1, c1, A2, P2, c2, RY, rfl, hW⟩ := hb
  have hf0 : fHang S (nI b) (nI p) (nI g) (nI wa) (nI ph) = 0 := by unfold fHang; rw [if_pos ⟨inI_y (Nat.zero_le _) h1 (by decide), inI_y (Nat.zero_le _) h2 (by decide), h3, inI_y h4 h5 (by decide), inI_y (Nat.zero_le _) h6 (by decide)⟩, if_neg (by omega)]
  refine ⟨(fun v h' => fHang S (nI b) (nI p) (nI g) (nI wa) (nI ph) = 0 ∧ v = some (.int (nI (s_L S))) ∧ ∃ ad' ow' : Nat → Nat, ad' 0 = ad 0 ∧ cW G ad' ow' eA A1 P1 c1 A2 P2 c2 RY (hangP (nI b) (nI p) (nI g) (nI wa) (nI ph) S) h'), (fun E => (fHang S (nI b) (nI p) (nI g) (nI wa) (nI ph) = 1 ∧ E = xIA) ∨ (fHang S (nI b) (nI p) (nI g) (nI wa) (nI ph) = 2 ∧ E = xIS)), fun A => c_X7_lamp (reG G A) hW hg hcu hNC hz0 (nI b) (nI p) (nI g) (nI wa) (nI ph), fun v h' hp => ?_, fun E hE => ?_⟩
  · obtain ⟨_, rfl, ad', ow', had, hW2⟩ := hp
    exact ⟨rfl, ad', ow', eA, A1, P1, c1, A2, P2, c2, RY, had, hW2⟩
  · have f0 : fHang S (nI b) (nI p) (nI g) (nI wa) (nI ph) = 0 := hf0
    rcases hE with ⟨z, _⟩ | ⟨z, _⟩ <;> (rw [f0] at z; exact absurd z (by decide))
theorem m_pass (G : XG) {xa : Nat} {S : PS} {x : Nat} (hpI : ∀ j, j < 20 → pI (passK S j)) (h1 : 1 ≤ x) (h2 : x ≤ 20) : kM G xa S (passK S x) yX7_pass wsX7_pass ({ frames := 6, cells := s_n (passK S x) - s_n S + 1, slots := 3 * (s_n (passK S x) - s_n S) + 6, locals := 135 } : Room) [.int (nI x)] (some (.int (nI (s_t (passK S x))))) (fun _ => False) (s_n (passK S x) - s_n S + 1) (3 * (s_n (passK S x) - s_n S) + 6) := by
  intro hC hb
  have l16 := hb.L16
  have c12 := hb.C12
  obtain ⟨ad, ow, eA, A1, P1, c1, A2, P2, c2, RY, rfl, hW⟩ := hb
  have hf0 : fPass (nI x) = 0 := by unfold fPass; rw [if_pos (inI_y h1 h2 (by decide))]
  have eS : passS (nI x) S = passK S x := by unfold passS; rw [if_pos hf0, nI_clamp (by omega)]
  rw [← eS]
  refine ⟨(fun v h' => fPass (nI x) = 0 ∧ v = some (.int (nI (s_t (passS (nI x) S)))) ∧ ∃ (ow' : Nat → Nat) (eA' : Nat) (A1' P1' : List Nat) (c1' : Nat → GC) (RY' : List Nat), cW G ad ow' eA' A1' P1' c1' A2 P2 c2 RY' (passS (nI x) S) h'), (fun E => fPass (nI x) = 1 ∧ E = xIA), fun A => c_X7_pass (reG G A) hW hpI (nI x), fun v h' hp => ?_, fun E hE => ?_⟩
  · obtain ⟨_, rfl, ow', eA', A1', P1', c1', RY', hW2⟩ := hp
    rw [eS] at hW2 ⊢
    exact ⟨rfl, ad, ow', eA', A1', P1', c1', A2, P2, c2, RY', rfl, hW2⟩
  · have z := hE.1
    rw [hf0] at z
    exact absurd z (by decide)
theorem m_go_y (G : XG) {xa : Nat} {S : PS} {c : Nat} (hb9 : bI S) (hc : c < s_C S) (hcan : canP (s_ar S) (s_L S) (s_B S) (s_G S) c = true) : kM G xa S (begP c S) yX7_go wsX7_go ({ frames := 6, cells := s_n (begP c S) - s_n S + 1, slots := 3 * (s_n (begP c S) - s_n S) + 6, locals := 113 } : Room) [.int (nI c)] (some (.int (nI (s_G (begP c S)).length))) (fun _ => False) (s_n (begP c S) - s_n S + 1) (3 * (s_n (begP c S) - s_n S) + 6) := by
  intro hC hb
  have l16 := hb.L16
  have c12 := hb.C12
  obtain ⟨ad, ow, eA, A1, P1, c1, A2, P2, c2, RY, rfl, hW⟩ := hb
  have hf0 : fGo S (nI c) = 0 := by unfold fGo; rw [if_pos (isN_y hc (by omega)), nI_clamp (by omega), if_pos hcan]
  have eS : goS (nI c) S = begP c S := by unfold goS; rw [if_pos hf0, nI_clamp (by omega)]
  rw [← eS]
  refine ⟨(fun v h' => fGo S (nI c) = 0 ∧ v = some (.int (nI (s_G (goS (nI c) S)).length)) ∧ ∃ (ow' : Nat → Nat) (eA' : Nat) (A1' P1' : List Nat) (c1' : Nat → GC), cW G ad ow' eA' A1' P1' c1' A2 P2 c2 RY (goS (nI c) S) h'), (fun E => (fGo S (nI c) = 1 ∧ E = xIO) ∨ (fGo S (nI c) = 2 ∧ E = xIS)), fun A => c_X7_go (reG G A) hW hb9 (nI c), fun v h' hp => ?_, fun E hE => ?_⟩
  · obtain ⟨_, rfl, ow', eA', A1', P1', c1', hW2⟩ := hp
    rw [eS] at hW2 ⊢
    exact ⟨rfl, ad, ow', eA', A1', P1', c1', A2, P2, c2, RY, rfl, hW2⟩
  · rcases hE with ⟨z, _⟩ | ⟨z, _⟩ <;> (rw [hf0] at z; exact absurd z (by decide))
theorem m_go_n (G : XG) {xa : Nat} {S : PS} {c : Nat} (hb9 : bI S) (hc : c < s_C S) (hcan : ¬ canP (s_ar S) (s_L S) (s_B S) (s_G S) c = true) : kN G xa S yX7_go wsX7_go ({ frames := 6, cells := 1, slots := 6, locals := 113 } : Room) [.int (nI c)] (fun E => E = xIS) (1) (6) := by
  intro hC hb
  have l16 := hb.L16
  have c12 := hb.C12
  obtain ⟨ad, ow, eA, A1, P1, c1, A2, P2, c2, RY, rfl, hW⟩ := hb
  have hf0 : fGo S (nI c) = 2 := by unfold fGo; rw [if_pos (isN_y hc (by omega)), nI_clamp (by omega), if_neg hcan]
  have eS : goS (nI c) S = S := by unfold goS; rw [if_neg (by rw [hf0]; decide)]
  have e1 : s_n (goS (nI c) S) - s_n S + 1 = 1 := by rw [eS]; omega
  have e2 : 3 * (s_n (goS (nI c) S) - s_n S) + 6 = 6 := by rw [eS]; omega
  have hcc := fun A => c_X7_go (reG G A) hW hb9 (nI c)
  rw [e1, e2] at hcc
  refine ⟨(fun v h' => fGo S (nI c) = 0 ∧ v = some (.int (nI (s_G (goS (nI c) S)).length)) ∧ ∃ (ow' : Nat → Nat) (eA' : Nat) (A1' P1' : List Nat) (c1' : Nat → GC), cW G ad ow' eA' A1' P1' c1' A2 P2 c2 RY (goS (nI c) S) h'), (fun E => (fGo S (nI c) = 1 ∧ E = xIO) ∨ (fGo S (nI c) = 2 ∧ E = xIS)), hcc, fun v h' hp => ?_, fun E hE => ?_⟩
  · have z := hp.1
    rw [hf0] at z
    exact absurd z (by decide)
  · rcases hE with ⟨z, _⟩ | ⟨_, z⟩
    · rw [hf0] at z; exact absurd z (by decide)
    · exact z
theorem m_release_y (G : XG) {xa : Nat} {S : PS} {c : Nat} {g : GG} (hg : gI (s_C S) (s_G S)) (hlen : (s_H S).length < 122880) (hcap : capP (s_n S)) (hc : c < s_C S) (hgo : goF (s_G S) c = some g) (hr : relI g.2.2 = -1) : kM G xa S (relP c S) yX7_release wsX7_release ({ frames := 6, cells := s_n (relP c S) - s_n S + 1, slots := 3 * (s_n (relP c S) - s_n S) + 6, locals := 90 } : Room) [.int (nI c)] (some (.int (b2i (goF (s_G (relP c S)) c).isSome))) (fun _ => False) (s_n (relP c S) - s_n S + 1) (3 * (s_n (relP c S) - s_n S) + 6) := by
  intro hC hb
  have l16 := hb.L16
  have c12 := hb.C12
  obtain ⟨ad, ow, eA, A1, P1, c1, A2, P2, c2, RY, rfl, hW⟩ := hb
  have hf0 : fRel S (nI c) = 0 := by unfold fRel; rw [if_pos (isN_y hc (by omega)), nI_clamp (by omega), hgo]; exact if_pos hr
  have eS : relS (nI c) S = relP c S := by unfold relS; rw [if_pos hf0, nI_clamp (by omega)]
  rw [← eS]
  refine ⟨(fun v h' => fRel S (nI c) = 0 ∧ v = some (.int (b2i (goF (s_G (relS (nI c) S)) (nI c).toNatClampNeg).isSome)) ∧ ∃ (ow' : Nat → Nat) (eA' : Nat) (A1' P1' : List Nat) (c1' : Nat → GC), cW G ad ow' eA' A1' P1' c1' A2 P2 c2 RY (relS (nI c) S) h'), (fun E => (fRel S (nI c) = 1 ∧ E = xIO) ∨ (fRel S (nI c) = 2 ∧ E = xIS)), fun A => c_X7_release (reG G A) hW hg hlen hcap (nI c), fun v h' hp => ?_, fun E hE => ?_⟩
  · obtain ⟨_, rfl, ow', eA', A1', P1', c1', hW2⟩ := hp
    rw [eS] at hW2 ⊢
    exact ⟨by rw [nI_clamp (by omega)], ad, ow', eA', A1', P1', c1', A2, P2, c2, RY, rfl, hW2⟩
  · rcases hE with ⟨z, _⟩ | ⟨z, _⟩ <;> (rw [hf0] at z; exact absurd z (by decide))
theorem m_release_n (G : XG) {xa : Nat} {S : PS} {c : Nat} (hg : gI (s_C S) (s_G S)) (hlen : (s_H S).length < 122880) (hcap : capP (s_n S)) (hc : c < s_C S) (hno : ∀ g, goF (s_G S) c = some g → ¬ relI g.2.2 = -1) : kN G xa S yX7_release wsX7_release ({ frames := 6, cells := 1, slots := 6, locals := 90 } : Room) [.int (nI c)] (fun E => E = xIS) (1) (6) := by
  intro hC hb
  have l16 := hb.L16
  have c12 := hb.C12
  obtain ⟨ad, ow, eA, A1, P1, c1, A2, P2, c2, RY, rfl, hW⟩ := hb
  have hf0 : fRel S (nI c) = 2 := by
    unfold fRel
    rw [if_pos (isN_y hc (by omega)), nI_clamp (by omega)]
    cases z : goF (s_G S) c with
    | none => rfl
    | some g => exact if_neg (hno g z)
  have eS : relS (nI c) S = S := by unfold relS; rw [if_neg (by rw [hf0]; decide)]
  have e1 : s_n (relS (nI c) S) - s_n S + 1 = 1 := by rw [eS]; omega
  have e2 : 3 * (s_n (relS (nI c) S) - s_n S) + 6 = 6 := by rw [eS]; omega
  have hcc := fun A => c_X7_release (reG G A) hW hg hlen hcap (nI c)
  rw [e1, e2] at hcc
  refine ⟨(fun v h' => fRel S (nI c) = 0 ∧ v = some (.int (b2i (goF (s_G (relS (nI c) S)) (nI c).toNatClampNeg).isSome)) ∧ ∃ (ow' : Nat → Nat) (eA' : Nat) (A1' P1' : List Nat) (c1' : Nat → GC), cW G ad ow' eA' A1' P1' c1' A2 P2 c2 RY (relS (nI c) S) h'), (fun E => (fRel S (nI c) = 1 ∧ E = xIO) ∨ (fRel S (nI c) = 2 ∧ E = xIS)), hcc, fun v h' hp => ?_, fun E hE => ?_⟩
  · have z := hp.1
    rw [hf0] at z
    exact absurd z (by decide)
  · rcases hE with ⟨z, _⟩ | ⟨_, z⟩
    · rw [hf0] at z; exact absurd z (by decide)
    · exact z
theorem m_playing_n (G : XG) {xa : Nat} {S : PS} (hf : fI (s_ar S) (s_L S) (s_C S) (s_t S) (s_G S)) : kN G xa S yX7_playing wsX7_playing ({ frames := 6, cells := 1, slots := 6, locals := 90 } : Room) [.int (nI (s_C S)), .int (nI 0)] (fun E => E = xIO) (1) (6) := by
  intro hC hb
  have l16 := hb.L16
  have c12 := hb.C12
  obtain ⟨ad, ow, eA, A1, P1, c1, A2, P2, c2, RY, rfl, hW⟩ := hb
  have hf0 : fPlay S (nI (s_C S)) (nI 0) = 1 := by unfold fPlay; rw [if_neg (isN_no (by omega))]
  refine ⟨(fun v h' => fPlay S (nI (s_C S)) (nI 0) = 0 ∧ v = some (.int (playP S (nI (s_C S)).toNatClampNeg (nI 0).toNatClampNeg)) ∧ cW G ad ow eA A1 P1 c1 A2 P2 c2 RY S h'), (fun E => (fPlay S (nI (s_C S)) (nI 0) = 1 ∧ E = xIO) ∨ (fPlay S (nI (s_C S)) (nI 0) = 2 ∧ E = xIA)), fun A => c_X7_playing (reG G A) hW hf (nI (s_C S)) (nI 0), fun v h' hp => ?_, fun E hE => ?_⟩
  · have z := hp.1
    rw [hf0] at z
    exact absurd z (by decide)
  · rcases hE with ⟨_, z⟩ | ⟨z, _⟩
    · exact z
    · rw [hf0] at z; exact absurd z (by decide)
theorem m_levelOf_n (G : XG) {xa : Nat} {S : PS} (hf : fI (s_ar S) (s_L S) (s_C S) (s_t S) (s_G S)) : kN G xa S yX7_levelOf wsX7_levelOf ({ frames := 6, cells := 1, slots := 6, locals := 90 } : Room) [.int (nI (s_L S))] (fun E => E = xIO) (1) (6) := by
  intro hC hb
  have l16 := hb.L16
  have c12 := hb.C12
  obtain ⟨ad, ow, eA, A1, P1, c1, A2, P2, c2, RY, rfl, hW⟩ := hb
  have hf0 : fLamp S (nI (s_L S)) = 1 := by unfold fLamp; rw [if_neg (isN_no (by omega))]
  refine ⟨(fun v h' => fLamp S (nI (s_L S)) = 0 ∧ v = some (.int (nI (levS S (s_G S) (nI (s_L S)).toNatClampNeg).toNat)) ∧ cW G ad ow eA A1 P1 c1 A2 P2 c2 RY S h'), (fun E => fLamp S (nI (s_L S)) = 1 ∧ E = xIO), fun A => c_X7_levelOf (reG G A) hW hf (nI (s_L S)), fun v h' hp => ?_, fun E hE => ?_⟩
  · have z := hp.1
    rw [hf0] at z
    exact absurd z (by decide)
  · exact hE.2
