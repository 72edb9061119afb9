/-! the law's frame; what holds at the head of its loop -/
def lwE (G : XG) (F : XF) (b L : Nat) (xs : Nat → Int32) : Prop := x_E G F cL_law RL wsL_law 7 (some .boolean) room_1 ∧ x_TF G (f_s F) (f_s F).heap ∧ va_X b L xs (f_s F) (f_s F).heap ∧ b < (f_s F).heap.size ∧ ¬ g_A G b ∧ L ≤ 3072
def CC (k : Nat) (S : PS) : Nat := 70 + 4 * k + (s_n S - 64)
def SS (k : Nat) (S : PS) : Nat := 4400 + 57 * k + 3 * (s_n S - 64)
def lI (G : XG) (xa m oa k : Nat) (S : PS) (h : HM) : Prop := ∃ (hC hM : HM) (u : Nat → Int64) (ma ow : Nat → Nat) (sc : Nat → Int32) (R : Nat → Nat → Int32) (gn : Nat), h = jn (jn hC (oM G oa u)) hM ∧ dj hC (oM G oa u) ∧ dj (jn hC (oM G oa u)) hM ∧ bW G xa S hC ∧ ma 30 = m ∧ mM G ma ow sc R hM ∧ mS S gn sc R ∧ iI S k ∧ gn ≤ 10221 * k
theorem x_sld {G : XG} {F : XF} {cc : ByteArray} {own : String} {Ts : List Cond} {nL : Nat} {ret : Option FieldType} {rm : Room} {Q : State → Prop} {a n : Nat} {h : HM} {pc : Nat} {Lo : List (Option Value)} {st : List Value} (hE : x_E G F cc own Ts nL ret rm) {b L : Nat} {xs : Nat → Int32} (hX : va_X b L xs (f_s F) (f_s F).heap) (hbl : b < (f_s F).heap.size) (hbA : ¬ g_A G b) {j : Nat} (hj : j < L) (hL : L < 2 ^ 31) (d : decode cc pc = .ok (.iaload, 1)) (kk : x_W G F Q a n h (pc + 1) Lo (.int (xs j) :: st)) : x_W G F Q a n h pc Lo (.int (nI j) :: .ref b :: st) := fun H locs ls hH hS hL' => va_sld hE.1 hE.2.1 hX hbl hbA hS (vp_in_nI hj hL) d (by rw [nI_clamp (by omega)]; exact kk H locs ls hH hS hL')
theorem x_slen {G : XG} {F : XF} {cc : ByteArray} {own : String} {Ts : List Cond} {nL : Nat} {ret : Option FieldType} {rm : Room} {Q : State → Prop} {a n : Nat} {h : HM} {pc : Nat} {Lo : List (Option Value)} {st : List Value} (hE : x_E G F cc own Ts nL ret rm) {b L : Nat} {xs : Nat → Int32} (hX : va_X b L xs (f_s F) (f_s F).heap) (hbl : b < (f_s F).heap.size) (hbA : ¬ g_A G b) (d : decode cc pc = .ok (.arraylength, 1)) (kk : x_W G F Q a n h (pc + 1) Lo (.int (nI L) :: st)) : x_W G F Q a n h pc Lo (.ref b :: st) := fun H locs ls hH hS hL' => va_slen hE.1 hE.2.1 hX hbl hbA hS d (kk H locs ls hH hS hL')
theorem lg_self (x : Int64) : lg_cmp x x = 0 := by
  unfold lg_cmp
  rw [if_neg (by simp), if_pos rfl]
/-! the faults' numbers -/
theorem fPower_le {ph wa : Int32} : fPower ph wa ≤ 2 := by
  unfold fPower
  split
  · split <;> decide
  · decide
theorem fPhase_le {ph : Int32} : fPhase ph ≤ 2 := by unfold fPhase; split <;> decide
theorem fLamp_le {S : PS} {i : Int32} : fLamp S i ≤ 2 := by unfold fLamp; split <;> decide
theorem fAsks_le {S : PS} {c ph : Int32} : fAsks S c ph ≤ 2 := by unfold fAsks; split <;> decide
theorem fShines_le {S : PS} {c i : Int32} : fShines S c i ≤ 2 := by unfold fShines; split <;> decide
theorem fPlay_le {S : PS} {c wh : Int32} : fPlay S c wh ≤ 2 := by
  unfold fPlay
  split
  · split <;> decide
  · decide
theorem fHouse_le {x : Int32} : fHouse x ≤ 2 := by unfold fHouse; split <;> decide
theorem fLevel_le {S : PS} {c i x : Int32} : fLevel S c i x ≤ 2 := by
  unfold fLevel
  split
  · split <;> decide
  · decide
theorem fFollow_le {S : PS} {c o t : Int32} : fFollow S c o t ≤ 2 := by
  unfold fFollow
  split
  · split <;> decide
  · decide
theorem fCue_le {S : PS} {so up dn : Int32} : fCue S so up dn ≤ 2 := by
  unfold fCue
  split
  · split <;> decide
  · decide
theorem fHang_le {S : PS} {b p g w ph : Int32} : fHang S b p g w ph ≤ 2 := by
  unfold fHang
  split
  · split <;> decide
  · decide
theorem fGo_le {S : PS} {c : Int32} : fGo S c ≤ 2 := by
  unfold fGo
  split
  · split <;> decide
  · decide
theorem fRel_le {S : PS} {c : Int32} : fRel S c ≤ 2 := by
  unfold fRel
  split
  · split
    · decide
    · split <;> decide
  · decide
theorem fPass_le {x : Int32} : fPass x ≤ 2 := by unfold fPass; split <;> decide
/-! the row's length only grows -/
theorem capP.b {n : Nat} (h : capP n) : 64 ≤ n ∧ n ≤ 122880 := by rcases h with rfl | rfl | rfl | rfl | rfl | rfl | rfl | rfl | rfl | rfl | rfl | rfl <;> decide
theorem iI.cap {S : PS} {k : Nat} (h : iI S k) : 64 ≤ s_n S ∧ s_n S ≤ 122880 := h.1.2.2.2.2.2.2.1.b
theorem iff0_n' {f : Nat} {S S' : PS} (h : s_n S' = s_n S) : s_n S ≤ s_n (iff0 f S' S) := by
  unfold iff0
  split
  · rw [h]; exact Nat.le_refl _
  · exact Nat.le_refl _
theorem iff0_m {f : Nat} {S S' : PS} (h : s_n S ≤ s_n S') : s_n S ≤ s_n (iff0 f S' S) := by
  unfold iff0
  split
  · exact h
  · exact Nat.le_refl _
theorem pass_mono {S : PS} {k : Nat} (h : iI S k) (hk : k ≤ 511) {x : Int32} : s_n S ≤ s_n (iff0 (fPass x) (passK S x.toNatClampNeg) S) := by
  unfold iff0
  split
  · rename_i hf
    unfold fPass at hf
    by_cases q : inI x 1 20 = true
    · obtain ⟨j, _, hj, rfl⟩ := inI_is q (by decide) (by decide)
      rw [nI_clamp (by omega)]
      exact passK_le (k := j) (fun i hi => (iI_pI h hk i (by omega)).1) 0 (Nat.zero_le _)
    · rw [if_neg q] at hf
      cases hf
  · exact Nat.le_refl _
theorem nI_f0 {f : Nat} (h : f ≤ 2) (e : nI f = 0) : f = 0 := x_nIinj (a := f) (b := 0) e (by omega) (by omega)
