/-! the law's arithmetic: longs in small numbers -/
/-! lN n to 2^64, shifts and masks (kit/laws/BITS: families wb_ and pf_) -/
theorem wb_tb (n : Nat) : (lN n).toBitVec = BitVec.ofNat 64 n := rfl
theorem wb_inj {a b : Int64} (h : a.toBitVec = b.toBitVec) : a = b := Int64.toBitVec_inj.mp h
theorem wb_c : ∀ k, k < 64 → ((nI k).toInt64 &&& 63) = lN k := by decide +kernel
theorem wb_sm : ∀ k, k < 64 → (BitVec.ofNat 64 k).smod 64 = BitVec.ofNat 64 k := by decide +kernel
theorem wb_shl (n : Nat) {k : Nat} (hk : k < 64) : lN n <<< ((nI k).toInt64 &&& 63) = lN (n * 2 ^ k) := by
  rw [wb_c k hk]
  apply wb_inj
  rw [Int64.toBitVec_shiftLeft, wb_tb, wb_tb, wb_tb, wb_sm k hk]
  apply BitVec.eq_of_toNat_eq
  rw [BitVec.shiftLeft_eq', BitVec.toNat_shiftLeft, BitVec.toNat_ofNat, BitVec.toNat_ofNat, BitVec.toNat_ofNat, Nat.mod_eq_of_lt (show k < 2 ^ 64 by omega), Nat.shiftLeft_eq, Nat.mul_mod, Nat.mod_mod, ← Nat.mul_mod]
theorem wb_and {a b : Nat} (ha : a < 2 ^ 64) (hb : b < 2 ^ 64) : lN a &&& lN b = lN (a &&& b) := by
  apply wb_inj
  rw [Int64.toBitVec_and, wb_tb, wb_tb, wb_tb]
  apply BitVec.eq_of_toNat_eq
  rw [BitVec.toNat_and, BitVec.toNat_ofNat, BitVec.toNat_ofNat, BitVec.toNat_ofNat, Nat.mod_eq_of_lt ha, Nat.mod_eq_of_lt hb, Nat.mod_eq_of_lt (Nat.and_lt_two_pow _ hb)]
theorem pf_shr {a d : Nat} {D : Int64} (hD : (D.toBitVec.smod 64).toNat = d) (h : a < 2 ^ 62) : lN a >>> D = lN (a / 2 ^ d) := by
  have hd : a / 2 ^ d ≤ a := Nat.div_le_self _ _
  apply Int64.toInt_inj.mp
  have e : (lN a >>> D).toInt = (lN a).toInt >>> d := by
    rw [← hD]
    exact BitVec.toInt_sshiftRight ..
  rw [e, Int.shiftRight_eq_div_pow, pk_lT (by omega), pk_lT (by omega)]
  rfl
theorem l_shrK {a k : Nat} (hk : k < 64) (h : a < 2 ^ 62) : lN a >>> ((nI k).toInt64 &&& 63) = lN (a / 2 ^ k) := by
  rw [wb_c k hk]
  refine pf_shr ?_ h
  rw [wb_tb, wb_sm k hk, BitVec.toNat_ofNat, Nat.mod_eq_of_lt (by omega)]
theorem l_shr1 {n : Nat} (h : n < 2 ^ 62) : lN n >>> ((nI 1).toInt64 &&& 63) = lN (n / 2) := l_shrK (k := 1) (by decide) h
theorem l_shl1 {n : Nat} : lN n <<< ((nI 1).toInt64 &&& 63) = lN (n * 2) := wb_shl n (k := 1) (by decide)
theorem l_and1 {n : Nat} (h : n < 2 ^ 63) : lN n &&& lN 1 = lN (n % 2) := by
  rw [wb_and (by omega) (by decide), show (1 : Nat) = 2 ^ 1 - 1 from rfl, Nat.and_two_pow_sub_one_eq_mod]
theorem l_or1 : ∀ a b : Nat, a < 2 → b < 2 → lN a ||| lN b = lN (if a = 0 ∧ b = 0 then 0 else 1) := by
  have key : ∀ a, a < 2 → ∀ b, b < 2 → lN a ||| lN b = lN (if a = 0 ∧ b = 0 then 0 else 1) := by decide
  exact fun a b ha hb => key a ha b hb
theorem l_cmp0 {a b : Nat} (ha : a < 2 ^ 63) (hb : b < 2 ^ 63) : (lg_cmp (lN a) (lN b) = 0 ↔ a = b) ∧ (lg_cmp (lN a) (lN b) < 0 ↔ a < b) ∧ (0 ≤ lg_cmp (lN a) (lN b) ↔ b ≤ a) := by
  unfold lg_cmp
  rcases Nat.lt_trichotomy a b with c | c | c
  · have n1 : ¬ lN b < lN a := fun z => by have := (pk_lLT hb ha).mp z; omega
    have n2 : ¬ lN a = lN b := fun z => by have := (pk_lEQ ha hb).mp z; omega
    rw [if_neg n1, if_neg n2]
    refine ⟨⟨fun z => absurd z (by decide), fun z => by omega⟩, ⟨fun _ => c, fun _ => by decide⟩, ⟨fun z => absurd z (by decide), fun z => by omega⟩⟩
  · subst c
    have n1 : ¬ lN a < lN a := fun z => by have := (pk_lLT hb ha).mp z; omega
    rw [if_neg n1, if_pos rfl]
    exact ⟨⟨fun _ => rfl, fun _ => rfl⟩, ⟨fun z => absurd z (by decide), fun z => by omega⟩, ⟨fun _ => Nat.le_refl _, fun _ => by decide⟩⟩
  · have n1 : lN b < lN a := (pk_lLT hb ha).mpr c
    rw [if_pos n1]
    refine ⟨⟨fun z => absurd z (by decide), fun z => by omega⟩, ⟨fun z => absurd z (by decide), fun z => by omega⟩, ⟨fun _ => by omega, fun _ => by decide⟩⟩
theorem o_add (a b : Int) : Int32.ofInt a + Int32.ofInt b = Int32.ofInt (a + b) := (Int32.ofInt_add a b).symm
theorem o_nI {a : Int} {n : Nat} (h : a = (n : Int)) : Int32.ofInt a = nI n := by
  subst h
  rfl
theorem l_le {n j : Nat} (h : n ≠ 0) : 2 ^ 25 ≤ n / 2 ^ j ↔ j < n.log2 - 24 := by
  rw [pow_div_le, log2_le h]
  omega
theorem l_rest {n j : Nat} : (if (if n % 2 ^ j = 0 then 0 else 1) = 0 ∧ n / 2 ^ j % 2 = 0 then 0 else 1) = if n % 2 ^ (j + 1) = 0 then 0 else 1 := by
  have e : n % 2 ^ (j + 1) = 2 ^ j * (n / 2 ^ j % 2) + n % 2 ^ j := by
    have hM := Nat.two_pow_pos j
    rw [Nat.pow_succ]
    generalize 2 ^ j = M at hM
    have d1 := Nat.div_add_mod n M
    have d2 := Nat.div_add_mod (n / M) 2
    have d3 := Nat.div_add_mod n (M * 2)
    rw [← Nat.div_div_eq_div_mul] at d3
    have q : M * 2 * (n / M / 2) + M * (n / M % 2) = M * (n / M) := by
      rw [Nat.mul_assoc, ← Nat.mul_add, d2]
    omega
  rw [e]
  have hM := Nat.two_pow_pos j
  rcases (show n / 2 ^ j % 2 = 0 ∨ n / 2 ^ j % 2 = 1 by omega) with z | z
  · rw [z, Nat.mul_zero, Nat.zero_add]
    split <;> split <;> simp_all
  · rw [z, Nat.mul_one]
    rw [if_neg (by omega), if_neg (by omega)]
theorem l_up {n i : Nat} (h : n ≠ 0) : n / 2 ^ (n.log2 - 24) * 2 ^ i < 2 ^ 24 ↔ i < 24 - n.log2 := by
  have l1 := Nat.log2_self_le h
  have l2 : n < 2 ^ (n.log2 + 1) := Nat.lt_log2_self
  rcases Nat.lt_or_ge n.log2 24 with c | c
  · rw [show n.log2 - 24 = 0 by omega, Nat.pow_zero, Nat.div_one]
    refine ⟨fun z => ?_, fun z => ?_⟩
    · refine Nat.lt_of_not_le (fun y => ?_)
      have := Nat.mul_le_mul l1 (Nat.pow_le_pow_right (n := 2) (by decide) y)
      rw [← Nat.pow_add, show n.log2 + (24 - n.log2) = 24 by omega] at this
      omega
    · have := Nat.mul_lt_mul_of_pos_right l2 (Nat.two_pow_pos i)
      rw [← Nat.pow_add] at this
      exact Nat.lt_of_lt_of_le this (Nat.pow_le_pow_right (by decide) (by omega))
  · refine ⟨fun z => ?_, fun z => by omega⟩
    have : 2 ^ 24 ≤ n / 2 ^ (n.log2 - 24) := pow_div_le.mpr (by rw [show 24 + (n.log2 - 24) = n.log2 by omega]; exact l1)
    have := Nat.mul_le_mul this (Nat.two_pow_pos i)
    omega
set_option maxHeartbeats 4000000 in
set_option maxRecDepth 100000 in
theorem c_L_packed (G : XG) {h : HM} {n : Nat} {p : Int} (hn : n < 2 ^ 61) (hp1 : n ≠ 0 → -149 ≤ (n.log2 : Int) + p - 23) (hp2 : n ≠ 0 → (n.log2 : Int) + p - 22 ≤ 104) : x_M G yL_packed wsL_packed ({ frames := 0, cells := 0, slots := 0, locals := 0 } : Room) [.int (nI 0), .long (lN n), .int (Int32.ofInt p)] h (x_is (some (.int (nI (pkF n p)))) h) 0 0 := by
  refine g_M.of (cc := cL_packed) (maxL := 11) (ret := (some .int)) (ent := [(0, .int (nI 0)), (1, .long (lN n)), (3, .int (Int32.ofInt p))]) (by decide +kernel) rfl (Nat.le_of_ble_eq_true rfl) rfl ?_
  intro F hE
  refine g_lload_n hE 1 dL_packed_0 rfl ?_
  refine g_lconst (v := lN 0) hE dL_packed_1 rfl ?_
  refine g_lcmp hE dL_packed_2 ?_
  refine g_if_ne (tgt := 8) hE dL_packed_3 (by decide) (fun c3 => ?_) (fun c3 => ?_)
  · have h0 : n ≠ 0 := fun z => c3 ((l_cmp0 (by omega) (by decide)).1.mpr z)
    refine g_lload_n hE 1 dL_packed_8 rfl ?_
    refine g_lstore (lv' := [(4, .long (lN n)), (0, .int (nI 0)), (1, .long (lN n)), (3, .int (Int32.ofInt p))]) hE dL_packed_9 (Nat.le_of_ble_eq_true rfl) rfl ?_
    refine g_iload_n hE 3 dL_packed_11 rfl ?_
    refine g_istore (lv' := [(6, .int (Int32.ofInt p)), (4, .long (lN n)), (0, .int (nI 0)), (1, .long (lN n)), (3, .int (Int32.ofInt p))]) hE dL_packed_12 (Nat.le_of_ble_eq_true rfl) rfl ?_
    refine g_lconst (v := lN 0) hE dL_packed_14 rfl ?_
    refine g_lstore (lv' := [(7, .long (lN 0)), (6, .int (Int32.ofInt p)), (4, .long (lN n)), (0, .int (nI 0)), (1, .long (lN n)), (3, .int (Int32.ofInt p))]) hE dL_packed_15 (Nat.le_of_ble_eq_true rfl) rfl ?_
    have hI := pkI_b h0
    have hC := pkC_b h0
    have hL : n.log2 ≤ 61 := by have := (log2_lt (k := 62) h0).mp (by omega); omega
    have tail : ∀ (q : Int), q = (n.log2 : Int) + p - 24 → g_W G F (x_Q G F (x_is (some (.int (nI (pkF n p)))) h) 0 0) 0 0 h 68 (g_L 11 [(7, .long (lN (pkR n))), (6, .int (Int32.ofInt q)), (4, .long (lN (pkI n))), (0, .int (nI 0)), (1, .long (lN n)), (3, .int (Int32.ofInt p))]) [] := by
      intro q hq
      have hR : pkR n < 2 := by unfold pkR; split <;> decide
      refine g_lload hE 2 dL_packed_68 rfl ?_
      refine g_lconst (v := lN 1) hE dL_packed_70 rfl ?_
      refine g_land hE dL_packed_71 ?_
      refine g_leq (y := lN (pkI n % 2)) (l_and1 (by omega)) ?_
      refine g_lstore (lv' := [(9, .long (lN (pkI n % 2))), (7, .long (lN (pkR n))), (6, .int (Int32.ofInt q)), (4, .long (lN (pkI n))), (0, .int (nI 0)), (1, .long (lN n)), (3, .int (Int32.ofInt p))]) hE dL_packed_72 (Nat.le_of_ble_eq_true rfl) rfl ?_
      refine g_lload hE 3 dL_packed_74 rfl ?_
      refine g_iconst (v := nI 1) hE dL_packed_76 (by decide) ?_
      refine g_lshr (v := lN (pkI n / 2)) hE dL_packed_77 (l_shr1 (by omega)) ?_
      refine g_lstore (lv' := [(4, .long (lN (pkI n / 2))), (9, .long (lN (pkI n % 2))), (7, .long (lN (pkR n))), (6, .int (Int32.ofInt q)), (0, .int (nI 0)), (1, .long (lN n)), (3, .int (Int32.ofInt p))]) hE dL_packed_78 (Nat.le_of_ble_eq_true rfl) rfl ?_
      refine g_iinc (v := Int32.ofInt (q + 1)) (lv' := [(6, .int (Int32.ofInt (q + 1))), (4, .long (lN (pkI n / 2))), (9, .long (lN (pkI n % 2))), (7, .long (lN (pkR n))), (0, .int (nI 0)), (1, .long (lN n)), (3, .int (Int32.ofInt p))]) hE 3 dL_packed_80 rfl (o_add _ _) (Nat.le_of_ble_eq_true rfl) rfl ?_
      refine g_lload hE 1 dL_packed_83 rfl ?_
      refine g_lload hE 2 dL_packed_85 rfl ?_
      refine g_lconst (v := lN 1) hE dL_packed_87 rfl ?_
      refine g_lcmp hE dL_packed_88 ?_
      refine g_if_ne (tgt := 112) hE dL_packed_89 (by decide) (fun c89 => ?_) (fun c89 => ?_)
      · have z0 : ¬ pkI n % 2 = 1 := fun z => c89 ((l_cmp0 (by omega) (by decide)).1.mpr z)
        refine g_lconst (v := lN 0) hE dL_packed_112 rfl ?_
        refine g_ladd hE dL_packed_113 ?_
        refine g_leq (y := lN (pkC n)) (by rw [lN_add]; unfold pkC; rw [if_neg (fun z => z0 z.1)]) ?_
        refine g_lstore (lv' := [(4, .long (lN (pkC n))), (6, .int (Int32.ofInt (q + 1))), (9, .long (lN (pkI n % 2))), (7, .long (lN (pkR n))), (0, .int (nI 0)), (1, .long (lN n)), (3, .int (Int32.ofInt p))]) hE dL_packed_114 (Nat.le_of_ble_eq_true rfl) rfl ?_
        refine g_lload hE 0 dL_packed_116 rfl ?_
        refine g_ldc2 (v := lN 16777216) hE (List.mem_of_getElem? (i := 2) rfl) dL_packed_118 ?_
        refine g_lcmp hE dL_packed_121 ?_
        refine g_if_ne (tgt := 134) hE dL_packed_122 (by decide) (fun c122 => ?_) (fun c122 => ?_)
        · have ne : pkC n ≠ 2 ^ 24 := fun z => c122 ((l_cmp0 (by omega) (by decide)).1.mpr z)
          refine g_iload_n hE 4 dL_packed_134 rfl ?_
          refine g_if_ne (tgt := 142) hE dL_packed_135 (by decide) (fun c135 => absurd rfl c135) (fun c135 => ?_)
          refine g_iconst (v := nI 0) hE dL_packed_138 (by decide) ?_
          refine g_goto (tgt := 144) hE dL_packed_139 (by decide) ?_
          refine g_iload hE 1 dL_packed_144 rfl ?_
          refine g_sipush (v := nI 150) hE dL_packed_146 (by decide) ?_
          refine g_iadd hE dL_packed_149 ?_
          refine g_ieq (y := nI ((q + 1) + 150).toNat) (by rw [show nI 150 = Int32.ofInt 150 from rfl, o_add]; exact o_nI (by omega)) ?_
          refine g_bipush (v := nI 23) hE dL_packed_150 (by decide) ?_
          refine g_ishl hE dL_packed_152 ?_
          refine g_ieq (y := nI (((q + 1) + 150).toNat * 2 ^ 23)) (shl23 (by omega)) ?_
          refine g_iadd hE dL_packed_153 ?_
          refine g_ieq (y := nI (((q + 1) + 150).toNat * 2 ^ 23)) (by rw [nI_add, Nat.zero_add]) ?_
          refine g_lload hE 0 dL_packed_154 rfl ?_
          refine g_ldc2 (v := lN 8388608) hE (List.mem_of_getElem? (i := 4) rfl) dL_packed_156 ?_
          refine g_lsub hE dL_packed_159 ?_
          refine g_leq (y := lN ((pkC n) - 8388608)) (lN_sub (b := 8388608) (by omega)) ?_
          refine g_l2i (v := nI ((pkC n) - 8388608)) hE dL_packed_160 (lN_i _) ?_
          refine g_iadd hE dL_packed_161 ?_
          refine g_ieq (y := nI (((q + 1) + 150).toNat * 2 ^ 23 + ((pkC n) - 8388608))) (nI_add _ _) ?_
          exact g_iret hE dL_packed_162 (⟨by rw [show pkF n p = ((q + 1) + 150).toNat * 2 ^ 23 + ((pkC n) - 8388608) from by unfold pkF; rw [if_neg h0, if_neg ne]; unfold pkB; rw [show (n.log2 : Int) + p - 23 = q + 1 by omega] <;> omega], rfl⟩)
        · have ye : pkC n = 2 ^ 24 := (l_cmp0 (by omega) (by decide)).1.mp (by simpa using c122)
          refine g_lload hE 0 dL_packed_125 rfl ?_
          refine g_iconst (v := nI 1) hE dL_packed_127 (by decide) ?_
          refine g_lshr (v := lN (pkC n / 2)) hE dL_packed_128 (l_shr1 (by omega)) ?_
          refine g_lstore (lv' := [(4, .long (lN (pkC n / 2))), (6, .int (Int32.ofInt (q + 1))), (9, .long (lN (pkI n % 2))), (7, .long (lN (pkR n))), (0, .int (nI 0)), (1, .long (lN n)), (3, .int (Int32.ofInt p))]) hE dL_packed_129 (Nat.le_of_ble_eq_true rfl) rfl ?_
          refine g_iinc (v := Int32.ofInt (q + 1 + 1)) (lv' := [(6, .int (Int32.ofInt (q + 1 + 1))), (4, .long (lN (pkC n / 2))), (9, .long (lN (pkI n % 2))), (7, .long (lN (pkR n))), (0, .int (nI 0)), (1, .long (lN n)), (3, .int (Int32.ofInt p))]) hE 1 dL_packed_131 rfl (o_add _ _) (Nat.le_of_ble_eq_true rfl) rfl ?_
          refine g_iload_n hE 4 dL_packed_134 rfl ?_
          refine g_if_ne (tgt := 142) hE dL_packed_135 (by decide) (fun c135 => absurd rfl c135) (fun c135 => ?_)
          refine g_iconst (v := nI 0) hE dL_packed_138 (by decide) ?_
          refine g_goto (tgt := 144) hE dL_packed_139 (by decide) ?_
          refine g_iload hE 0 dL_packed_144 rfl ?_
          refine g_sipush (v := nI 150) hE dL_packed_146 (by decide) ?_
          refine g_iadd hE dL_packed_149 ?_
          refine g_ieq (y := nI ((q + 1 + 1) + 150).toNat) (by rw [show nI 150 = Int32.ofInt 150 from rfl, o_add]; exact o_nI (by omega)) ?_
          refine g_bipush (v := nI 23) hE dL_packed_150 (by decide) ?_
          refine g_ishl hE dL_packed_152 ?_
          refine g_ieq (y := nI (((q + 1 + 1) + 150).toNat * 2 ^ 23)) (shl23 (by omega)) ?_
          refine g_iadd hE dL_packed_153 ?_
          refine g_ieq (y := nI (((q + 1 + 1) + 150).toNat * 2 ^ 23)) (by rw [nI_add, Nat.zero_add]) ?_
          refine g_lload hE 1 dL_packed_154 rfl ?_
          refine g_ldc2 (v := lN 8388608) hE (List.mem_of_getElem? (i := 4) rfl) dL_packed_156 ?_
          refine g_lsub hE dL_packed_159 ?_
          refine g_leq (y := lN ((pkC n / 2) - 8388608)) (lN_sub (b := 8388608) (by omega)) ?_
          refine g_l2i (v := nI ((pkC n / 2) - 8388608)) hE dL_packed_160 (lN_i _) ?_
          refine g_iadd hE dL_packed_161 ?_
          refine g_ieq (y := nI (((q + 1 + 1) + 150).toNat * 2 ^ 23 + ((pkC n / 2) - 8388608))) (nI_add _ _) ?_
          exact g_iret hE dL_packed_162 (⟨by rw [show pkF n p = ((q + 1 + 1) + 150).toNat * 2 ^ 23 + ((pkC n / 2) - 8388608) from by unfold pkF; rw [if_neg h0, if_pos ye]; unfold pkB; rw [show (n.log2 : Int) + p - 22 = q + 1 + 1 by omega, ye]], rfl⟩)
      · have z1 : pkI n % 2 = 1 := (l_cmp0 (by omega) (by decide)).1.mp (by simpa using c89)
        refine g_lload hE 3 dL_packed_92 rfl ?_
        refine g_lconst (v := lN 1) hE dL_packed_94 rfl ?_
        refine g_lcmp hE dL_packed_95 ?_
        refine g_if_eq (tgt := 108) hE dL_packed_96 (by decide) (fun c96 => ?_) (fun c96 => ?_)
        · have y1 : pkR n = 1 := (l_cmp0 (by omega) (by decide)).1.mp c96
          refine g_lconst (v := lN 1) hE dL_packed_108 rfl ?_
          refine g_goto (tgt := 113) hE dL_packed_109 (by decide) ?_
          refine g_ladd hE dL_packed_113 ?_
          refine g_leq (y := lN (pkC n)) (by rw [lN_add]; unfold pkC; rw [if_pos ⟨z1, Or.inl y1⟩]) ?_
          refine g_lstore (lv' := [(4, .long (lN (pkC n))), (6, .int (Int32.ofInt (q + 1))), (9, .long (lN (pkI n % 2))), (7, .long (lN (pkR n))), (0, .int (nI 0)), (1, .long (lN n)), (3, .int (Int32.ofInt p))]) hE dL_packed_114 (Nat.le_of_ble_eq_true rfl) rfl ?_
          refine g_lload hE 0 dL_packed_116 rfl ?_
          refine g_ldc2 (v := lN 16777216) hE (List.mem_of_getElem? (i := 2) rfl) dL_packed_118 ?_
          refine g_lcmp hE dL_packed_121 ?_
          refine g_if_ne (tgt := 134) hE dL_packed_122 (by decide) (fun c122 => ?_) (fun c122 => ?_)
          · have ne : pkC n ≠ 2 ^ 24 := fun z => c122 ((l_cmp0 (by omega) (by decide)).1.mpr z)
            refine g_iload_n hE 4 dL_packed_134 rfl ?_
            refine g_if_ne (tgt := 142) hE dL_packed_135 (by decide) (fun c135 => absurd rfl c135) (fun c135 => ?_)
            refine g_iconst (v := nI 0) hE dL_packed_138 (by decide) ?_
            refine g_goto (tgt := 144) hE dL_packed_139 (by decide) ?_
            refine g_iload hE 1 dL_packed_144 rfl ?_
            refine g_sipush (v := nI 150) hE dL_packed_146 (by decide) ?_
            refine g_iadd hE dL_packed_149 ?_
            refine g_ieq (y := nI ((q + 1) + 150).toNat) (by rw [show nI 150 = Int32.ofInt 150 from rfl, o_add]; exact o_nI (by omega)) ?_
            refine g_bipush (v := nI 23) hE dL_packed_150 (by decide) ?_
            refine g_ishl hE dL_packed_152 ?_
            refine g_ieq (y := nI (((q + 1) + 150).toNat * 2 ^ 23)) (shl23 (by omega)) ?_
            refine g_iadd hE dL_packed_153 ?_
            refine g_ieq (y := nI (((q + 1) + 150).toNat * 2 ^ 23)) (by rw [nI_add, Nat.zero_add]) ?_
            refine g_lload hE 0 dL_packed_154 rfl ?_
            refine g_ldc2 (v := lN 8388608) hE (List.mem_of_getElem? (i := 4) rfl) dL_packed_156 ?_
            refine g_lsub hE dL_packed_159 ?_
            refine g_leq (y := lN ((pkC n) - 8388608)) (lN_sub (b := 8388608) (by omega)) ?_
            refine g_l2i (v := nI ((pkC n) - 8388608)) hE dL_packed_160 (lN_i _) ?_
            refine g_iadd hE dL_packed_161 ?_
            refine g_ieq (y := nI (((q + 1) + 150).toNat * 2 ^ 23 + ((pkC n) - 8388608))) (nI_add _ _) ?_
            exact g_iret hE dL_packed_162 (⟨by rw [show pkF n p = ((q + 1) + 150).toNat * 2 ^ 23 + ((pkC n) - 8388608) from by unfold pkF; rw [if_neg h0, if_neg ne]; unfold pkB; rw [show (n.log2 : Int) + p - 23 = q + 1 by omega] <;> omega], rfl⟩)
          · have ye : pkC n = 2 ^ 24 := (l_cmp0 (by omega) (by decide)).1.mp (by simpa using c122)
            refine g_lload hE 0 dL_packed_125 rfl ?_
            refine g_iconst (v := nI 1) hE dL_packed_127 (by decide) ?_
            refine g_lshr (v := lN (pkC n / 2)) hE dL_packed_128 (l_shr1 (by omega)) ?_
            refine g_lstore (lv' := [(4, .long (lN (pkC n / 2))), (6, .int (Int32.ofInt (q + 1))), (9, .long (lN (pkI n % 2))), (7, .long (lN (pkR n))), (0, .int (nI 0)), (1, .long (lN n)), (3, .int (Int32.ofInt p))]) hE dL_packed_129 (Nat.le_of_ble_eq_true rfl) rfl ?_
            refine g_iinc (v := Int32.ofInt (q + 1 + 1)) (lv' := [(6, .int (Int32.ofInt (q + 1 + 1))), (4, .long (lN (pkC n / 2))), (9, .long (lN (pkI n % 2))), (7, .long (lN (pkR n))), (0, .int (nI 0)), (1, .long (lN n)), (3, .int (Int32.ofInt p))]) hE 1 dL_packed_131 rfl (o_add _ _) (Nat.le_of_ble_eq_true rfl) rfl ?_
            refine g_iload_n hE 4 dL_packed_134 rfl ?_
            refine g_if_ne (tgt := 142) hE dL_packed_135 (by decide) (fun c135 => absurd rfl c135) (fun c135 => ?_)
            refine g_iconst (v := nI 0) hE dL_packed_138 (by decide) ?_
            refine g_goto (tgt := 144) hE dL_packed_139 (by decide) ?_
            refine g_iload hE 0 dL_packed_144 rfl ?_
            refine g_sipush (v := nI 150) hE dL_packed_146 (by decide) ?_
            refine g_iadd hE dL_packed_149 ?_
            refine g_ieq (y := nI ((q + 1 + 1) + 150).toNat) (by rw [show nI 150 = Int32.ofInt 150 from rfl, o_add]; exact o_nI (by omega)) ?_
            refine g_bipush (v := nI 23) hE dL_packed_150 (by decide) ?_
            refine g_ishl hE dL_packed_152 ?_
            refine g_ieq (y := nI (((q + 1 + 1) + 150).toNat * 2 ^ 23)) (shl23 (by omega)) ?_
            refine g_iadd hE dL_packed_153 ?_
            refine g_ieq (y := nI (((q + 1 + 1) + 150).toNat * 2 ^ 23)) (by rw [nI_add, Nat.zero_add]) ?_
            refine g_lload hE 1 dL_packed_154 rfl ?_
            refine g_ldc2 (v := lN 8388608) hE (List.mem_of_getElem? (i := 4) rfl) dL_packed_156 ?_
            refine g_lsub hE dL_packed_159 ?_
            refine g_leq (y := lN ((pkC n / 2) - 8388608)) (lN_sub (b := 8388608) (by omega)) ?_
            refine g_l2i (v := nI ((pkC n / 2) - 8388608)) hE dL_packed_160 (lN_i _) ?_
            refine g_iadd hE dL_packed_161 ?_
            refine g_ieq (y := nI (((q + 1 + 1) + 150).toNat * 2 ^ 23 + ((pkC n / 2) - 8388608))) (nI_add _ _) ?_
            exact g_iret hE dL_packed_162 (⟨by rw [show pkF n p = ((q + 1 + 1) + 150).toNat * 2 ^ 23 + ((pkC n / 2) - 8388608) from by unfold pkF; rw [if_neg h0, if_pos ye]; unfold pkB; rw [show (n.log2 : Int) + p - 22 = q + 1 + 1 by omega, ye]], rfl⟩)
        · have y0 : ¬ pkR n = 1 := fun z => c96 ((l_cmp0 (by omega) (by decide)).1.mpr z)
          refine g_lload hE 1 dL_packed_99 rfl ?_
          refine g_lconst (v := lN 1) hE dL_packed_101 rfl ?_
          refine g_land hE dL_packed_102 ?_
          refine g_leq (y := lN (pkI n / 2 % 2)) (l_and1 (by omega)) ?_
          refine g_lconst (v := lN 1) hE dL_packed_103 rfl ?_
          refine g_lcmp hE dL_packed_104 ?_
          refine g_if_ne (tgt := 112) hE dL_packed_105 (by decide) (fun c105 => ?_) (fun c105 => ?_)
          · have x0 : ¬ pkI n / 2 % 2 = 1 := fun z => c105 ((l_cmp0 (by omega) (by decide)).1.mpr z)
            refine g_lconst (v := lN 0) hE dL_packed_112 rfl ?_
            refine g_ladd hE dL_packed_113 ?_
            refine g_leq (y := lN (pkC n)) (by rw [lN_add]; unfold pkC; rw [if_neg (fun z => z.2.elim y0 x0)]) ?_
            refine g_lstore (lv' := [(4, .long (lN (pkC n))), (6, .int (Int32.ofInt (q + 1))), (9, .long (lN (pkI n % 2))), (7, .long (lN (pkR n))), (0, .int (nI 0)), (1, .long (lN n)), (3, .int (Int32.ofInt p))]) hE dL_packed_114 (Nat.le_of_ble_eq_true rfl) rfl ?_
            refine g_lload hE 0 dL_packed_116 rfl ?_
            refine g_ldc2 (v := lN 16777216) hE (List.mem_of_getElem? (i := 2) rfl) dL_packed_118 ?_
            refine g_lcmp hE dL_packed_121 ?_
            refine g_if_ne (tgt := 134) hE dL_packed_122 (by decide) (fun c122 => ?_) (fun c122 => ?_)
            · have ne : pkC n ≠ 2 ^ 24 := fun z => c122 ((l_cmp0 (by omega) (by decide)).1.mpr z)
              refine g_iload_n hE 4 dL_packed_134 rfl ?_
              refine g_if_ne (tgt := 142) hE dL_packed_135 (by decide) (fun c135 => absurd rfl c135) (fun c135 => ?_)
              refine g_iconst (v := nI 0) hE dL_packed_138 (by decide) ?_
              refine g_goto (tgt := 144) hE dL_packed_139 (by decide) ?_
              refine g_iload hE 1 dL_packed_144 rfl ?_
              refine g_sipush (v := nI 150) hE dL_packed_146 (by decide) ?_
              refine g_iadd hE dL_packed_149 ?_
              refine g_ieq (y := nI ((q + 1) + 150).toNat) (by rw [show nI 150 = Int32.ofInt 150 from rfl, o_add]; exact o_nI (by omega)) ?_
              refine g_bipush (v := nI 23) hE dL_packed_150 (by decide) ?_
              refine g_ishl hE dL_packed_152 ?_
              refine g_ieq (y := nI (((q + 1) + 150).toNat * 2 ^ 23)) (shl23 (by omega)) ?_
              refine g_iadd hE dL_packed_153 ?_
              refine g_ieq (y := nI (((q + 1) + 150).toNat * 2 ^ 23)) (by rw [nI_add, Nat.zero_add]) ?_
              refine g_lload hE 0 dL_packed_154 rfl ?_
              refine g_ldc2 (v := lN 8388608) hE (List.mem_of_getElem? (i := 4) rfl) dL_packed_156 ?_
              refine g_lsub hE dL_packed_159 ?_
              refine g_leq (y := lN ((pkC n) - 8388608)) (lN_sub (b := 8388608) (by omega)) ?_
              refine g_l2i (v := nI ((pkC n) - 8388608)) hE dL_packed_160 (lN_i _) ?_
              refine g_iadd hE dL_packed_161 ?_
              refine g_ieq (y := nI (((q + 1) + 150).toNat * 2 ^ 23 + ((pkC n) - 8388608))) (nI_add _ _) ?_
              exact g_iret hE dL_packed_162 (⟨by rw [show pkF n p = ((q + 1) + 150).toNat * 2 ^ 23 + ((pkC n) - 8388608) from by unfold pkF; rw [if_neg h0, if_neg ne]; unfold pkB; rw [show (n.log2 : Int) + p - 23 = q + 1 by omega] <;> omega], rfl⟩)
            · have ye : pkC n = 2 ^ 24 := (l_cmp0 (by omega) (by decide)).1.mp (by simpa using c122)
              refine g_lload hE 0 dL_packed_125 rfl ?_
              refine g_iconst (v := nI 1) hE dL_packed_127 (by decide) ?_
              refine g_lshr (v := lN (pkC n / 2)) hE dL_packed_128 (l_shr1 (by omega)) ?_
              refine g_lstore (lv' := [(4, .long (lN (pkC n / 2))), (6, .int (Int32.ofInt (q + 1))), (9, .long (lN (pkI n % 2))), (7, .long (lN (pkR n))), (0, .int (nI 0)), (1, .long (lN n)), (3, .int (Int32.ofInt p))]) hE dL_packed_129 (Nat.le_of_ble_eq_true rfl) rfl ?_
              refine g_iinc (v := Int32.ofInt (q + 1 + 1)) (lv' := [(6, .int (Int32.ofInt (q + 1 + 1))), (4, .long (lN (pkC n / 2))), (9, .long (lN (pkI n % 2))), (7, .long (lN (pkR n))), (0, .int (nI 0)), (1, .long (lN n)), (3, .int (Int32.ofInt p))]) hE 1 dL_packed_131 rfl (o_add _ _) (Nat.le_of_ble_eq_true rfl) rfl ?_
              refine g_iload_n hE 4 dL_packed_134 rfl ?_
              refine g_if_ne (tgt := 142) hE dL_packed_135 (by decide) (fun c135 => absurd rfl c135) (fun c135 => ?_)
              refine g_iconst (v := nI 0) hE dL_packed_138 (by decide) ?_
              refine g_goto (tgt := 144) hE dL_packed_139 (by decide) ?_
              refine g_iload hE 0 dL_packed_144 rfl ?_
              refine g_sipush (v := nI 150) hE dL_packed_146 (by decide) ?_
              refine g_iadd hE dL_packed_149 ?_
              refine g_ieq (y := nI ((q + 1 + 1) + 150).toNat) (by rw [show nI 150 = Int32.ofInt 150 from rfl, o_add]; exact o_nI (by omega)) ?_
              refine g_bipush (v := nI 23) hE dL_packed_150 (by decide) ?_
              refine g_ishl hE dL_packed_152 ?_
              refine g_ieq (y := nI (((q + 1 + 1) + 150).toNat * 2 ^ 23)) (shl23 (by omega)) ?_
              refine g_iadd hE dL_packed_153 ?_
              refine g_ieq (y := nI (((q + 1 + 1) + 150).toNat * 2 ^ 23)) (by rw [nI_add, Nat.zero_add]) ?_
              refine g_lload hE 1 dL_packed_154 rfl ?_
              refine g_ldc2 (v := lN 8388608) hE (List.mem_of_getElem? (i := 4) rfl) dL_packed_156 ?_
              refine g_lsub hE dL_packed_159 ?_
              refine g_leq (y := lN ((pkC n / 2) - 8388608)) (lN_sub (b := 8388608) (by omega)) ?_
              refine g_l2i (v := nI ((pkC n / 2) - 8388608)) hE dL_packed_160 (lN_i _) ?_
              refine g_iadd hE dL_packed_161 ?_
              refine g_ieq (y := nI (((q + 1 + 1) + 150).toNat * 2 ^ 23 + ((pkC n / 2) - 8388608))) (nI_add _ _) ?_
              exact g_iret hE dL_packed_162 (⟨by rw [show pkF n p = ((q + 1 + 1) + 150).toNat * 2 ^ 23 + ((pkC n / 2) - 8388608) from by unfold pkF; rw [if_neg h0, if_pos ye]; unfold pkB; rw [show (n.log2 : Int) + p - 22 = q + 1 + 1 by omega, ye]], rfl⟩)
          · have x1 : pkI n / 2 % 2 = 1 := (l_cmp0 (by omega) (by decide)).1.mp (by simpa using c105)
            refine g_lconst (v := lN 1) hE dL_packed_108 rfl ?_
            refine g_goto (tgt := 113) hE dL_packed_109 (by decide) ?_
            refine g_ladd hE dL_packed_113 ?_
            refine g_leq (y := lN (pkC n)) (by rw [lN_add]; unfold pkC; rw [if_pos ⟨z1, Or.inr x1⟩]) ?_
            refine g_lstore (lv' := [(4, .long (lN (pkC n))), (6, .int (Int32.ofInt (q + 1))), (9, .long (lN (pkI n % 2))), (7, .long (lN (pkR n))), (0, .int (nI 0)), (1, .long (lN n)), (3, .int (Int32.ofInt p))]) hE dL_packed_114 (Nat.le_of_ble_eq_true rfl) rfl ?_
            refine g_lload hE 0 dL_packed_116 rfl ?_
            refine g_ldc2 (v := lN 16777216) hE (List.mem_of_getElem? (i := 2) rfl) dL_packed_118 ?_
            refine g_lcmp hE dL_packed_121 ?_
            refine g_if_ne (tgt := 134) hE dL_packed_122 (by decide) (fun c122 => ?_) (fun c122 => ?_)
            · have ne : pkC n ≠ 2 ^ 24 := fun z => c122 ((l_cmp0 (by omega) (by decide)).1.mpr z)
              refine g_iload_n hE 4 dL_packed_134 rfl ?_
              refine g_if_ne (tgt := 142) hE dL_packed_135 (by decide) (fun c135 => absurd rfl c135) (fun c135 => ?_)
              refine g_iconst (v := nI 0) hE dL_packed_138 (by decide) ?_
              refine g_goto (tgt := 144) hE dL_packed_139 (by decide) ?_
              refine g_iload hE 1 dL_packed_144 rfl ?_
              refine g_sipush (v := nI 150) hE dL_packed_146 (by decide) ?_
              refine g_iadd hE dL_packed_149 ?_
              refine g_ieq (y := nI ((q + 1) + 150).toNat) (by rw [show nI 150 = Int32.ofInt 150 from rfl, o_add]; exact o_nI (by omega)) ?_
              refine g_bipush (v := nI 23) hE dL_packed_150 (by decide) ?_
              refine g_ishl hE dL_packed_152 ?_
              refine g_ieq (y := nI (((q + 1) + 150).toNat * 2 ^ 23)) (shl23 (by omega)) ?_
              refine g_iadd hE dL_packed_153 ?_
              refine g_ieq (y := nI (((q + 1) + 150).toNat * 2 ^ 23)) (by rw [nI_add, Nat.zero_add]) ?_
              refine g_lload hE 0 dL_packed_154 rfl ?_
              refine g_ldc2 (v := lN 8388608) hE (List.mem_of_getElem? (i := 4) rfl) dL_packed_156 ?_
              refine g_lsub hE dL_packed_159 ?_
              refine g_leq (y := lN ((pkC n) - 8388608)) (lN_sub (b := 8388608) (by omega)) ?_
              refine g_l2i (v := nI ((pkC n) - 8388608)) hE dL_packed_160 (lN_i _) ?_
              refine g_iadd hE dL_packed_161 ?_
              refine g_ieq (y := nI (((q + 1) + 150).toNat * 2 ^ 23 + ((pkC n) - 8388608))) (nI_add _ _) ?_
              exact g_iret hE dL_packed_162 (⟨by rw [show pkF n p = ((q + 1) + 150).toNat * 2 ^ 23 + ((pkC n) - 8388608) from by unfold pkF; rw [if_neg h0, if_neg ne]; unfold pkB; rw [show (n.log2 : Int) + p - 23 = q + 1 by omega] <;> omega], rfl⟩)
            · have ye : pkC n = 2 ^ 24 := (l_cmp0 (by omega) (by decide)).1.mp (by simpa using c122)
              refine g_lload hE 0 dL_packed_125 rfl ?_
              refine g_iconst (v := nI 1) hE dL_packed_127 (by decide) ?_
              refine g_lshr (v := lN (pkC n / 2)) hE dL_packed_128 (l_shr1 (by omega)) ?_
              refine g_lstore (lv' := [(4, .long (lN (pkC n / 2))), (6, .int (Int32.ofInt (q + 1))), (9, .long (lN (pkI n % 2))), (7, .long (lN (pkR n))), (0, .int (nI 0)), (1, .long (lN n)), (3, .int (Int32.ofInt p))]) hE dL_packed_129 (Nat.le_of_ble_eq_true rfl) rfl ?_
              refine g_iinc (v := Int32.ofInt (q + 1 + 1)) (lv' := [(6, .int (Int32.ofInt (q + 1 + 1))), (4, .long (lN (pkC n / 2))), (9, .long (lN (pkI n % 2))), (7, .long (lN (pkR n))), (0, .int (nI 0)), (1, .long (lN n)), (3, .int (Int32.ofInt p))]) hE 1 dL_packed_131 rfl (o_add _ _) (Nat.le_of_ble_eq_true rfl) rfl ?_
              refine g_iload_n hE 4 dL_packed_134 rfl ?_
              refine g_if_ne (tgt := 142) hE dL_packed_135 (by decide) (fun c135 => absurd rfl c135) (fun c135 => ?_)
              refine g_iconst (v := nI 0) hE dL_packed_138 (by decide) ?_
              refine g_goto (tgt := 144) hE dL_packed_139 (by decide) ?_
              refine g_iload hE 0 dL_packed_144 rfl ?_
              refine g_sipush (v := nI 150) hE dL_packed_146 (by decide) ?_
              refine g_iadd hE dL_packed_149 ?_
              refine g_ieq (y := nI ((q + 1 + 1) + 150).toNat) (by rw [show nI 150 = Int32.ofInt 150 from rfl, o_add]; exact o_nI (by omega)) ?_
              refine g_bipush (v := nI 23) hE dL_packed_150 (by decide) ?_
              refine g_ishl hE dL_packed_152 ?_
              refine g_ieq (y := nI (((q + 1 + 1) + 150).toNat * 2 ^ 23)) (shl23 (by omega)) ?_
              refine g_iadd hE dL_packed_153 ?_
              refine g_ieq (y := nI (((q + 1 + 1) + 150).toNat * 2 ^ 23)) (by rw [nI_add, Nat.zero_add]) ?_
              refine g_lload hE 1 dL_packed_154 rfl ?_
              refine g_ldc2 (v := lN 8388608) hE (List.mem_of_getElem? (i := 4) rfl) dL_packed_156 ?_
              refine g_lsub hE dL_packed_159 ?_
              refine g_leq (y := lN ((pkC n / 2) - 8388608)) (lN_sub (b := 8388608) (by omega)) ?_
              refine g_l2i (v := nI ((pkC n / 2) - 8388608)) hE dL_packed_160 (lN_i _) ?_
              refine g_iadd hE dL_packed_161 ?_
              refine g_ieq (y := nI (((q + 1 + 1) + 150).toNat * 2 ^ 23 + ((pkC n / 2) - 8388608))) (nI_add _ _) ?_
              exact g_iret hE dL_packed_162 (⟨by rw [show pkF n p = ((q + 1 + 1) + 150).toNat * 2 ^ 23 + ((pkC n / 2) - 8388608) from by unfold pkF; rw [if_neg h0, if_pos ye]; unfold pkB; rw [show (n.log2 : Int) + p - 22 = q + 1 + 1 by omega, ye]], rfl⟩)
    have lp2 : ∀ i, i ≤ 24 - n.log2 → ∀ (q : Int), q = p + ((n.log2 - 24 : Nat) : Int) - (i : Int) → g_W G F (x_Q G F (x_is (some (.int (nI (pkF n p)))) h) 0 0) 0 0 h 47 (g_L 11 [(7, .long (lN (pkR n))), (6, .int (Int32.ofInt q)), (4, .long (lN (n / 2 ^ (n.log2 - 24) * 2 ^ i))), (0, .int (nI 0)), (1, .long (lN n)), (3, .int (Int32.ofInt p))]) [] := by
      refine x_down (N := 24 - n.log2) (P := fun i => ∀ (q : Int), q = p + ((n.log2 - 24 : Nat) : Int) - (i : Int) → g_W G F (x_Q G F (x_is (some (.int (nI (pkF n p)))) h) 0 0) 0 0 h 47 (g_L 11 [(7, .long (lN (pkR n))), (6, .int (Int32.ofInt q)), (4, .long (lN (n / 2 ^ (n.log2 - 24) * 2 ^ i))), (0, .int (nI 0)), (1, .long (lN n)), (3, .int (Int32.ofInt p))]) []) (fun i hi ih => ?_)
      intro q hq
      have hb : n / 2 ^ (n.log2 - 24) * 2 ^ i < 2 ^ 25 := by
        have h2 := hI.2
        unfold pkI at h2
        exact Nat.lt_of_le_of_lt (Nat.mul_le_mul_left _ (Nat.pow_le_pow_right (by decide) hi)) h2
      refine g_lload hE 2 dL_packed_47 rfl ?_
      refine g_ldc2 (v := lN 16777216) hE (List.mem_of_getElem? (i := 2) rfl) dL_packed_49 ?_
      refine g_lcmp hE dL_packed_52 ?_
      refine g_if_ge (tgt := 68) hE dL_packed_53 (by decide) (fun c53 => ?_) (fun c53 => ?_)
      · have e1 : i = 24 - n.log2 := by have := (not_congr (l_up (i := i) h0)).mp (fun z => by have := (l_cmp0 (a := n / 2 ^ (n.log2 - 24) * 2 ^ i) (b := 16777216) (by omega) (by decide)).2.2.mp c53; omega); omega
        subst e1
        exact tail q (by omega)
      · have e1 : i < 24 - n.log2 := (l_up h0).mp (Nat.lt_of_not_le (fun z => c53 ((l_cmp0 (a := n / 2 ^ (n.log2 - 24) * 2 ^ i) (b := 16777216) (by omega) (by decide)).2.2.mpr z)))
        refine g_lload hE 2 dL_packed_56 rfl ?_
        refine g_iconst (v := nI 1) hE dL_packed_58 (by decide) ?_
        refine g_lshl (v := lN (n / 2 ^ (n.log2 - 24) * 2 ^ i * 2)) hE dL_packed_59 (l_shl1) ?_
        refine g_lstore (lv' := [(4, .long (lN (n / 2 ^ (n.log2 - 24) * 2 ^ i * 2))), (7, .long (lN (pkR n))), (6, .int (Int32.ofInt q)), (0, .int (nI 0)), (1, .long (lN n)), (3, .int (Int32.ofInt p))]) hE dL_packed_60 (Nat.le_of_ble_eq_true rfl) rfl ?_
        refine g_iinc (v := Int32.ofInt (q - 1)) (lv' := [(6, .int (Int32.ofInt (q - 1))), (4, .long (lN (n / 2 ^ (n.log2 - 24) * 2 ^ i * 2))), (7, .long (lN (pkR n))), (0, .int (nI 0)), (1, .long (lN n)), (3, .int (Int32.ofInt p))]) hE 2 dL_packed_62 rfl (o_add _ _) (Nat.le_of_ble_eq_true rfl) rfl ?_
        refine g_goto (tgt := 47) hE dL_packed_65 (by decide) ?_
        rw [show n / 2 ^ (n.log2 - 24) * 2 ^ i * 2 = n / 2 ^ (n.log2 - 24) * 2 ^ (i + 1) by rw [Nat.pow_succ, Nat.mul_assoc]]
        refine g_sub [2, 0, 1, 3, 4, 5] rfl ?_
        exact ih (i + 1) (by omega) (by omega) (q - 1) (by omega)
    have lp1 : ∀ j, j ≤ n.log2 - 24 → ∀ (q : Int), q = p + (j : Int) → g_W G F (x_Q G F (x_is (some (.int (nI (pkF n p)))) h) 0 0) 0 0 h 17 (g_L 11 [(7, .long (lN (if n % 2 ^ j = 0 then 0 else 1))), (6, .int (Int32.ofInt q)), (4, .long (lN (n / 2 ^ j))), (0, .int (nI 0)), (1, .long (lN n)), (3, .int (Int32.ofInt p))]) [] := by
      refine x_down (N := n.log2 - 24) (P := fun j => ∀ (q : Int), q = p + (j : Int) → g_W G F (x_Q G F (x_is (some (.int (nI (pkF n p)))) h) 0 0) 0 0 h 17 (g_L 11 [(7, .long (lN (if n % 2 ^ j = 0 then 0 else 1))), (6, .int (Int32.ofInt q)), (4, .long (lN (n / 2 ^ j))), (0, .int (nI 0)), (1, .long (lN n)), (3, .int (Int32.ofInt p))]) []) (fun j hj ih => ?_)
      intro q hq
      have hb : n / 2 ^ j ≤ n := Nat.div_le_self _ _
      refine g_lload hE 2 dL_packed_17 rfl ?_
      refine g_ldc2 (v := lN 33554432) hE (List.mem_of_getElem? (i := 1) rfl) dL_packed_19 ?_
      refine g_lcmp hE dL_packed_22 ?_
      refine g_if_lt (tgt := 47) hE dL_packed_23 (by decide) (fun c23 => ?_) (fun c23 => ?_)
      · have e1 : j = n.log2 - 24 := by have := (not_congr (l_le (j := j) h0)).mp (fun z => by have := (l_cmp0 (a := n / 2 ^ j) (b := 33554432) (by omega) (by decide)).2.1.mp c23; omega); omega
        subst e1
        have k := lp2 0 (Nat.zero_le _) q (by omega)
        rw [Nat.pow_zero, Nat.mul_one] at k
        exact k
      · have e1 : j < n.log2 - 24 := (l_le h0).mp (Nat.le_of_not_lt (fun z => c23 ((l_cmp0 (a := n / 2 ^ j) (b := 33554432) (by omega) (by decide)).2.1.mpr z)))
        refine g_lload hE 0 dL_packed_26 rfl ?_
        refine g_lload hE 2 dL_packed_28 rfl ?_
        refine g_lconst (v := lN 1) hE dL_packed_30 rfl ?_
        refine g_land hE dL_packed_31 ?_
        refine g_leq (y := lN (n / 2 ^ j % 2)) (l_and1 (by omega)) ?_
        refine g_lor hE dL_packed_32 ?_
        refine g_leq (y := lN (if n % 2 ^ (j + 1) = 0 then 0 else 1)) (by rw [l_or1 _ _ (by split <;> decide) (by omega), l_rest]) ?_
        refine g_lstore (lv' := [(7, .long (lN (if n % 2 ^ (j + 1) = 0 then 0 else 1))), (6, .int (Int32.ofInt q)), (4, .long (lN (n / 2 ^ j))), (0, .int (nI 0)), (1, .long (lN n)), (3, .int (Int32.ofInt p))]) hE dL_packed_33 (Nat.le_of_ble_eq_true rfl) rfl ?_
        refine g_lload hE 2 dL_packed_35 rfl ?_
        refine g_iconst (v := nI 1) hE dL_packed_37 (by decide) ?_
        refine g_lshr (v := lN (n / 2 ^ j / 2)) hE dL_packed_38 (l_shr1 (by omega)) ?_
        refine g_lstore (lv' := [(4, .long (lN (n / 2 ^ j / 2))), (7, .long (lN (if n % 2 ^ (j + 1) = 0 then 0 else 1))), (6, .int (Int32.ofInt q)), (0, .int (nI 0)), (1, .long (lN n)), (3, .int (Int32.ofInt p))]) hE dL_packed_39 (Nat.le_of_ble_eq_true rfl) rfl ?_
        refine g_iinc (v := Int32.ofInt (q + 1)) (lv' := [(6, .int (Int32.ofInt (q + 1))), (4, .long (lN (n / 2 ^ j / 2))), (7, .long (lN (if n % 2 ^ (j + 1) = 0 then 0 else 1))), (0, .int (nI 0)), (1, .long (lN n)), (3, .int (Int32.ofInt p))]) hE 2 dL_packed_41 rfl (o_add _ _) (Nat.le_of_ble_eq_true rfl) rfl ?_
        refine g_goto (tgt := 17) hE dL_packed_44 (by decide) ?_
        rw [Nat.div_div_eq_div_mul, ← Nat.pow_succ]
        refine g_sub [2, 0, 1, 3, 4, 5] rfl ?_
        exact ih (j + 1) (by omega) (by omega) (q + 1) (by omega)
    have k := lp1 0 (Nat.zero_le _) p (by omega)
    rw [Nat.pow_zero, Nat.mod_one, Nat.div_one, if_pos rfl] at k
    refine g_sub [0, 1, 2, 3, 4, 5] rfl ?_
    exact k
  · refine g_iconst (v := nI 0) hE dL_packed_6 (by decide) ?_
    exact g_iret hE dL_packed_7 (⟨by unfold pkF; rw [if_pos ((l_cmp0 (by omega) (by decide)).1.mp (by simpa using c3))], rfl⟩)
