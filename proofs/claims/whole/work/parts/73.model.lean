/-! the model's beginning -/
def pW (G : XG) (g : Nat) (fs : List Value) (K : List (Nat × Nat)) (h : HM) : Prop := h g = some (.inr (8, fs)) ∧ (∀ p, p ∈ K → h p.2 = some (arrM G p.1 (fun _ => 0)) ∧ p.2 ≠ g) ∧ (K.map Prod.snd).Nodup
theorem pW_new {G : XG} {g k q : Nat} {fs : List Value} {K : List (Nat × Nat)} {h : HM} (hP : pW G g fs K h) (hq : h q = none) : pW G g fs ((k, q) :: K) (x_up h q (arrM G k (fun _ => 0))) := by
  obtain ⟨h1, h2, h3⟩ := hP
  refine ⟨?_, fun p hp => ?_, ?_⟩
  · rw [x_up_ne (x_none_ne hq h1)]
    exact h1
  · rcases List.mem_cons.mp hp with rfl | hp
    · exact ⟨x_up_eq _ _ _, fun z => x_none_ne hq h1 z.symm⟩
    · rw [x_up_ne (x_none_ne hq (h2 p hp).1)]
      exact h2 p hp
  · rw [List.map_cons]
    refine List.nodup_cons.mpr ⟨fun z => ?_, h3⟩
    obtain ⟨p, hp, e⟩ := List.mem_map.mp z
    exact x_none_ne hq (h2 p hp).1 e
theorem pW_put {G : XG} {g : Nat} {fs : List Value} {K : List (Nat × Nat)} {h : HM} (hP : pW G g fs K h) (fs' : List Value) : pW G g fs' K (x_up h g (.inr (8, fs'))) := ⟨x_up_eq _ _ _, fun p hp => ⟨by rw [x_up_ne (hP.2.1 p hp).2]; exact (hP.2.1 p hp).1, (hP.2.1 p hp).2⟩, hP.2.2⟩
theorem asc_ex : ∀ {K : List (Nat × Nat)}, (K.map Prod.fst).Nodup → (K.map Prod.snd).Nodup → ∃ ma ow : Nat → Nat, ∀ p, p ∈ K → ma p.1 = p.2 ∧ ow p.2 = p.1
  | [], _, _ => ⟨fun _ => 0, fun _ => 0, fun p hp => by simp at hp⟩
  | a :: K, h1, h2 => by
    rw [List.map_cons] at h1 h2
    obtain ⟨a1, a2⟩ := List.nodup_cons.mp h1
    obtain ⟨b1, b2⟩ := List.nodup_cons.mp h2
    obtain ⟨ma, ow, hm⟩ := asc_ex a2 b2
    refine ⟨fun z => if z = a.1 then a.2 else ma z, fun z => if z = a.2 then a.1 else ow z, fun p hp => ?_⟩
    rcases List.mem_cons.mp hp with rfl | hp
    · exact ⟨if_pos rfl, if_pos rfl⟩
    · have n1 : ¬ p.1 = a.1 := fun z => a1 (List.mem_map.mpr ⟨p, hp, z⟩)
      have n2 : ¬ p.2 = a.2 := fun z => b1 (List.mem_map.mpr ⟨p, hp, z⟩)
      exact ⟨(if_neg n1).trans (hm p hp).1, (if_neg n2).trans (hm p hp).2⟩
theorem pW_asc {G : XG} {g : Nat} {fs : List Value} {K : List (Nat × Nat)} {h : HM} (hP : pW G g fs K h) (hk : ((30, g) :: K).map Prod.fst = 30 :: [29, 27, 26, 24, 23, 20, 19, 18, 17, 16, 15, 14, 13, 12, 11, 9, 7, 6, 5, 4, 3, 2]) : ∃ ma ow : Nat → Nat, (∀ p, p ∈ (30, g) :: K → ma p.1 = p.2 ∧ ow p.2 = p.1) ∧ (∀ k, k ∈ mA → h (ma k) = some (arrM G k (fun _ => 0))) ∧ ∀ k, k ∈ 30 :: mA → ow (ma k) = k := by
  have hn : (((30, g) :: K).map Prod.snd).Nodup := by
    rw [List.map_cons]
    refine List.nodup_cons.mpr ⟨fun z => ?_, hP.2.2⟩
    obtain ⟨p, hp, e⟩ := List.mem_map.mp z
    exact (hP.2.1 p hp).2 e
  obtain ⟨ma, ow, hm⟩ := asc_ex (K := (30, g) :: K) (by rw [hk]; decide) hn
  have key : ∀ k, k ∈ 30 :: mA → ∃ p, p ∈ (30, g) :: K ∧ p.1 = k := fun k hk2 => by
    have : k ∈ ((30, g) :: K).map Prod.fst := by
      rw [hk]
      revert k
      decide
    obtain ⟨p, hp, e⟩ := List.mem_map.mp this
    exact ⟨p, hp, e⟩
  refine ⟨ma, ow, hm, fun k hk2 => ?_, fun k hk2 => ?_⟩
  · obtain ⟨p, hp, e⟩ := key k (List.mem_cons_of_mem _ hk2)
    subst e
    rw [(hm p hp).1]
    rcases List.mem_cons.mp hp with rfl | hp
    · exact absurd hk2 (show ¬ 30 ∈ mA by decide)
    · exact (hP.2.1 p hp).1
  · obtain ⟨p, hp, e⟩ := key k hk2
    subst e
    rw [(hm p hp).1]
    exact (hm p hp).2
def sc0 : Nat → Int32 := fun k => if k = 8 then nI 15 else 0
theorem mS_0 : mS PS0 0 sc0 ar0 := by
  refine ⟨⟨rfl, rfl, rfl, rfl, rfl, rfl, fun k _ => rfl, ⟨fun c hc => absurd hc (Nat.not_lt_zero c), fun g hg => ?_, fun _ => 0, fun g hg => ?_, List.Pairwise.nil⟩, fun k _ => rfl⟩, rfl, fun j x hx => ?_⟩
  · exact absurd hg (by show ¬ g ∈ []; simp)
  · exact absurd hg (by show ¬ g ∈ []; simp)
  · have hx' : ([] : List (Nat × Nat))[j]? = some x := hx
    simp at hx' 
set_option maxHeartbeats 4000000 in
set_option maxRecDepth 100000 in
theorem c_X8_init (G : XG) {g : Nat} {h : HM} (hg : h g = some (.inr (8, [.int 0, .int 0, .null, .null, .null, .null, .null, .null, .int 0, .null, .int 0, .null, .null, .null, .null, .null, .null, .null, .null, .null, .null, .int 0, .int 0, .null, .null, .int 0, .null, .null, .int 0, .null]))) : x_M G yX8_init wsX8_init ({ frames := 1, cells := 22, slots := 2495, locals := 20 } : Room) [.ref g] h (fun v h' => v = none ∧ ∃ ma ow : Nat → Nat, ma 30 = g ∧ mM G ma ow sc0 ar0 h') 22 2495 := by
  refine x_M.of (cc := cX8_init) (maxL := 2) (ret := none) (ent := [some (.ref g), none]) (by decide +kernel) rfl (Nat.le_of_ble_eq_true rfl) rfl rfl ?_
  intro F hE hname
  have hinX8 : ∀ w ∈ wsX80, w ∈ wsX8_init := by decide +kernel
  have hP0 : pW G g [.int 0, .int 0, .null, .null, .null, .null, .null, .null, .int 0, .null, .int 0, .null, .null, .null, .null, .null, .null, .null, .null, .null, .null, .int 0, .int 0, .null, .null, .int 0, .null, .null, .int 0, .null] [] h := ⟨hg, fun p hp => by simp at hp, List.nodup_nil⟩
  refine x_aload_n hE dX8_init_0 rfl rfl ?_
  refine x_objinit hE (List.mem_of_getElem? (i := 1) rfl) (List.mem_of_getElem? (i := 2) rfl) (List.mem_of_getElem? (i := 3) rfl) rfl (Nat.le_of_ble_eq_true rfl) (Nat.le_of_ble_eq_true rfl) dX8_init_1 ?_
  refine x_aload_n hE dX8_init_4 rfl rfl ?_
  refine x_bipush (v := nI 16) hE dX8_init_5 (by decide) ?_
  refine x_newa (t0 := 0) (cA := g_c G 0) (a0 := (16, .inl (fun _ => 0))) hE (List.mem_of_getElem? (i := 4) rfl) rfl rfl (fun C e => by cases e) (fun cA => rfl) (nI_pos (by decide)) (nI_clamp (by decide)) (by decide) (Nat.le_of_ble_eq_true rfl) (Nat.le_of_ble_eq_true rfl) dX8_init_7 (fun q2 hq2 => ?_)
  generalize ehA2 : x_up h q2 (.inl (g_c G 0, 16, .inl (fun _ => 0))) = hA2
  have pA2 : pW G g [.int 0, .int 0, .null, .null, .null, .null, .null, .null, .int 0, .null, .int 0, .null, .null, .null, .null, .null, .null, .null, .null, .null, .null, .int 0, .int 0, .null, .null, .int 0, .null, .null, .int 0, .null] [(2, q2)] hA2 := by rw [← ehA2]; exact pW_new (k := 2) hP0 hq2
  clear ehA2
  refine x_widen (k := 1) (n := 16) (Nat.le_of_ble_eq_true rfl) (Nat.le_of_ble_eq_true rfl) ?_
  refine x_putF (fs' := [.int 0, .int 0, .ref q2, .null, .null, .null, .null, .null, .int 0, .null, .int 0, .null, .null, .null, .null, .null, .null, .null, .null, .null, .null, .int 0, .int 0, .null, .null, .int 0, .null, .null, .int 0, .null]) hE hinX8 tyX8 tyX8_ok nmX8 pA2.1 rfl 2 (by decide) (List.mem_of_getElem? (i := 5) rfl) rfl hname rfl rfl rfl (Nat.le_of_ble_eq_true rfl) rfl dX8_init_9 ?_
  generalize ehB2 : x_up hA2 g (.inr (8, [.int 0, .int 0, .ref q2, .null, .null, .null, .null, .null, .int 0, .null, .int 0, .null, .null, .null, .null, .null, .null, .null, .null, .null, .null, .int 0, .int 0, .null, .null, .int 0, .null, .null, .int 0, .null])) = hB2
  have pB2 : pW G g [.int 0, .int 0, .ref q2, .null, .null, .null, .null, .null, .int 0, .null, .int 0, .null, .null, .null, .null, .null, .null, .null, .null, .null, .null, .int 0, .int 0, .null, .null, .int 0, .null, .null, .int 0, .null] [(2, q2)] hB2 := by rw [← ehB2]; exact pW_put pA2 _
  clear pA2 ehB2
  refine x_aload_n hE dX8_init_12 rfl rfl ?_
  refine x_bipush (v := nI 16) hE dX8_init_13 (by decide) ?_
  refine x_newa (t0 := 0) (cA := g_c G 0) (a0 := (16, .inl (fun _ => 0))) hE (List.mem_of_getElem? (i := 4) rfl) rfl rfl (fun C e => by cases e) (fun cA => rfl) (nI_pos (by decide)) (nI_clamp (by decide)) (by decide) (Nat.le_of_ble_eq_true rfl) (Nat.le_of_ble_eq_true rfl) dX8_init_15 (fun q3 hq3 => ?_)
  generalize ehA3 : x_up hB2 q3 (.inl (g_c G 0, 16, .inl (fun _ => 0))) = hA3
  have pA3 : pW G g [.int 0, .int 0, .ref q2, .null, .null, .null, .null, .null, .int 0, .null, .int 0, .null, .null, .null, .null, .null, .null, .null, .null, .null, .null, .int 0, .int 0, .null, .null, .int 0, .null, .null, .int 0, .null] [(3, q3), (2, q2)] hA3 := by rw [← ehA3]; exact pW_new (k := 3) pB2 hq3
  clear pB2 ehA3
  refine x_widen (k := 2) (n := 32) (Nat.le_of_ble_eq_true rfl) (Nat.le_of_ble_eq_true rfl) ?_
  refine x_putF (fs' := [.int 0, .int 0, .ref q2, .ref q3, .null, .null, .null, .null, .int 0, .null, .int 0, .null, .null, .null, .null, .null, .null, .null, .null, .null, .null, .int 0, .int 0, .null, .null, .int 0, .null, .null, .int 0, .null]) hE hinX8 tyX8 tyX8_ok nmX8 pA3.1 rfl 3 (by decide) (List.mem_of_getElem? (i := 6) rfl) rfl hname rfl rfl rfl (Nat.le_of_ble_eq_true rfl) rfl dX8_init_17 ?_
  generalize ehB3 : x_up hA3 g (.inr (8, [.int 0, .int 0, .ref q2, .ref q3, .null, .null, .null, .null, .int 0, .null, .int 0, .null, .null, .null, .null, .null, .null, .null, .null, .null, .null, .int 0, .int 0, .null, .null, .int 0, .null, .null, .int 0, .null])) = hB3
  have pB3 : pW G g [.int 0, .int 0, .ref q2, .ref q3, .null, .null, .null, .null, .int 0, .null, .int 0, .null, .null, .null, .null, .null, .null, .null, .null, .null, .null, .int 0, .int 0, .null, .null, .int 0, .null, .null, .int 0, .null] [(3, q3), (2, q2)] hB3 := by rw [← ehB3]; exact pW_put pA3 _
  clear pA3 ehB3
  refine x_aload_n hE dX8_init_20 rfl rfl ?_
  refine x_bipush (v := nI 16) hE dX8_init_21 (by decide) ?_
  refine x_newa (t0 := 0) (cA := g_c G 0) (a0 := (16, .inl (fun _ => 0))) hE (List.mem_of_getElem? (i := 4) rfl) rfl rfl (fun C e => by cases e) (fun cA => rfl) (nI_pos (by decide)) (nI_clamp (by decide)) (by decide) (Nat.le_of_ble_eq_true rfl) (Nat.le_of_ble_eq_true rfl) dX8_init_23 (fun q4 hq4 => ?_)
  generalize ehA4 : x_up hB3 q4 (.inl (g_c G 0, 16, .inl (fun _ => 0))) = hA4
  have pA4 : pW G g [.int 0, .int 0, .ref q2, .ref q3, .null, .null, .null, .null, .int 0, .null, .int 0, .null, .null, .null, .null, .null, .null, .null, .null, .null, .null, .int 0, .int 0, .null, .null, .int 0, .null, .null, .int 0, .null] [(4, q4), (3, q3), (2, q2)] hA4 := by rw [← ehA4]; exact pW_new (k := 4) pB3 hq4
  clear pB3 ehA4
  refine x_widen (k := 3) (n := 48) (Nat.le_of_ble_eq_true rfl) (Nat.le_of_ble_eq_true rfl) ?_
  refine x_putF (fs' := [.int 0, .int 0, .ref q2, .ref q3, .ref q4, .null, .null, .null, .int 0, .null, .int 0, .null, .null, .null, .null, .null, .null, .null, .null, .null, .null, .int 0, .int 0, .null, .null, .int 0, .null, .null, .int 0, .null]) hE hinX8 tyX8 tyX8_ok nmX8 pA4.1 rfl 4 (by decide) (List.mem_of_getElem? (i := 7) rfl) rfl hname rfl rfl rfl (Nat.le_of_ble_eq_true rfl) rfl dX8_init_25 ?_
  generalize ehB4 : x_up hA4 g (.inr (8, [.int 0, .int 0, .ref q2, .ref q3, .ref q4, .null, .null, .null, .int 0, .null, .int 0, .null, .null, .null, .null, .null, .null, .null, .null, .null, .null, .int 0, .int 0, .null, .null, .int 0, .null, .null, .int 0, .null])) = hB4
  have pB4 : pW G g [.int 0, .int 0, .ref q2, .ref q3, .ref q4, .null, .null, .null, .int 0, .null, .int 0, .null, .null, .null, .null, .null, .null, .null, .null, .null, .null, .int 0, .int 0, .null, .null, .int 0, .null, .null, .int 0, .null] [(4, q4), (3, q3), (2, q2)] hB4 := by rw [← ehB4]; exact pW_put pA4 _
  clear pA4 ehB4
  refine x_aload_n hE dX8_init_28 rfl rfl ?_
  refine x_bipush (v := nI 16) hE dX8_init_29 (by decide) ?_
  refine x_newa (t0 := 0) (cA := g_c G 0) (a0 := (16, .inl (fun _ => 0))) hE (List.mem_of_getElem? (i := 4) rfl) rfl rfl (fun C e => by cases e) (fun cA => rfl) (nI_pos (by decide)) (nI_clamp (by decide)) (by decide) (Nat.le_of_ble_eq_true rfl) (Nat.le_of_ble_eq_true rfl) dX8_init_31 (fun q5 hq5 => ?_)
  generalize ehA5 : x_up hB4 q5 (.inl (g_c G 0, 16, .inl (fun _ => 0))) = hA5
  have pA5 : pW G g [.int 0, .int 0, .ref q2, .ref q3, .ref q4, .null, .null, .null, .int 0, .null, .int 0, .null, .null, .null, .null, .null, .null, .null, .null, .null, .null, .int 0, .int 0, .null, .null, .int 0, .null, .null, .int 0, .null] [(5, q5), (4, q4), (3, q3), (2, q2)] hA5 := by rw [← ehA5]; exact pW_new (k := 5) pB4 hq5
  clear pB4 ehA5
  refine x_widen (k := 4) (n := 64) (Nat.le_of_ble_eq_true rfl) (Nat.le_of_ble_eq_true rfl) ?_
  refine x_putF (fs' := [.int 0, .int 0, .ref q2, .ref q3, .ref q4, .ref q5, .null, .null, .int 0, .null, .int 0, .null, .null, .null, .null, .null, .null, .null, .null, .null, .null, .int 0, .int 0, .null, .null, .int 0, .null, .null, .int 0, .null]) hE hinX8 tyX8 tyX8_ok nmX8 pA5.1 rfl 5 (by decide) (List.mem_of_getElem? (i := 8) rfl) rfl hname rfl rfl rfl (Nat.le_of_ble_eq_true rfl) rfl dX8_init_33 ?_
  generalize ehB5 : x_up hA5 g (.inr (8, [.int 0, .int 0, .ref q2, .ref q3, .ref q4, .ref q5, .null, .null, .int 0, .null, .int 0, .null, .null, .null, .null, .null, .null, .null, .null, .null, .null, .int 0, .int 0, .null, .null, .int 0, .null, .null, .int 0, .null])) = hB5
  have pB5 : pW G g [.int 0, .int 0, .ref q2, .ref q3, .ref q4, .ref q5, .null, .null, .int 0, .null, .int 0, .null, .null, .null, .null, .null, .null, .null, .null, .null, .null, .int 0, .int 0, .null, .null, .int 0, .null, .null, .int 0, .null] [(5, q5), (4, q4), (3, q3), (2, q2)] hB5 := by rw [← ehB5]; exact pW_put pA5 _
  clear pA5 ehB5
  refine x_aload_n hE dX8_init_36 rfl rfl ?_
  refine x_bipush (v := nI 16) hE dX8_init_37 (by decide) ?_
  refine x_newa (t0 := 0) (cA := g_c G 0) (a0 := (16, .inl (fun _ => 0))) hE (List.mem_of_getElem? (i := 4) rfl) rfl rfl (fun C e => by cases e) (fun cA => rfl) (nI_pos (by decide)) (nI_clamp (by decide)) (by decide) (Nat.le_of_ble_eq_true rfl) (Nat.le_of_ble_eq_true rfl) dX8_init_39 (fun q6 hq6 => ?_)
  generalize ehA6 : x_up hB5 q6 (.inl (g_c G 0, 16, .inl (fun _ => 0))) = hA6
  have pA6 : pW G g [.int 0, .int 0, .ref q2, .ref q3, .ref q4, .ref q5, .null, .null, .int 0, .null, .int 0, .null, .null, .null, .null, .null, .null, .null, .null, .null, .null, .int 0, .int 0, .null, .null, .int 0, .null, .null, .int 0, .null] [(6, q6), (5, q5), (4, q4), (3, q3), (2, q2)] hA6 := by rw [← ehA6]; exact pW_new (k := 6) pB5 hq6
  clear pB5 ehA6
  refine x_widen (k := 5) (n := 80) (Nat.le_of_ble_eq_true rfl) (Nat.le_of_ble_eq_true rfl) ?_
  refine x_putF (fs' := [.int 0, .int 0, .ref q2, .ref q3, .ref q4, .ref q5, .ref q6, .null, .int 0, .null, .int 0, .null, .null, .null, .null, .null, .null, .null, .null, .null, .null, .int 0, .int 0, .null, .null, .int 0, .null, .null, .int 0, .null]) hE hinX8 tyX8 tyX8_ok nmX8 pA6.1 rfl 6 (by decide) (List.mem_of_getElem? (i := 9) rfl) rfl hname rfl rfl rfl (Nat.le_of_ble_eq_true rfl) rfl dX8_init_41 ?_
  generalize ehB6 : x_up hA6 g (.inr (8, [.int 0, .int 0, .ref q2, .ref q3, .ref q4, .ref q5, .ref q6, .null, .int 0, .null, .int 0, .null, .null, .null, .null, .null, .null, .null, .null, .null, .null, .int 0, .int 0, .null, .null, .int 0, .null, .null, .int 0, .null])) = hB6
  have pB6 : pW G g [.int 0, .int 0, .ref q2, .ref q3, .ref q4, .ref q5, .ref q6, .null, .int 0, .null, .int 0, .null, .null, .null, .null, .null, .null, .null, .null, .null, .null, .int 0, .int 0, .null, .null, .int 0, .null, .null, .int 0, .null] [(6, q6), (5, q5), (4, q4), (3, q3), (2, q2)] hB6 := by rw [← ehB6]; exact pW_put pA6 _
  clear pA6 ehB6
  refine x_aload_n hE dX8_init_44 rfl rfl ?_
  refine x_bipush (v := nI 16) hE dX8_init_45 (by decide) ?_
  refine x_newa (t0 := 1) (cA := g_c G 1) (a0 := (16, .inl (fun _ => 0))) hE (List.mem_of_getElem? (i := 10) rfl) rfl rfl (fun C e => by cases e) (fun cA => rfl) (nI_pos (by decide)) (nI_clamp (by decide)) (by decide) (Nat.le_of_ble_eq_true rfl) (Nat.le_of_ble_eq_true rfl) dX8_init_47 (fun q7 hq7 => ?_)
  generalize ehA7 : x_up hB6 q7 (.inl (g_c G 1, 16, .inl (fun _ => 0))) = hA7
  have pA7 : pW G g [.int 0, .int 0, .ref q2, .ref q3, .ref q4, .ref q5, .ref q6, .null, .int 0, .null, .int 0, .null, .null, .null, .null, .null, .null, .null, .null, .null, .null, .int 0, .int 0, .null, .null, .int 0, .null, .null, .int 0, .null] [(7, q7), (6, q6), (5, q5), (4, q4), (3, q3), (2, q2)] hA7 := by rw [← ehA7]; exact pW_new (k := 7) pB6 hq7
  clear pB6 ehA7
  refine x_widen (k := 6) (n := 96) (Nat.le_of_ble_eq_true rfl) (Nat.le_of_ble_eq_true rfl) ?_
  refine x_putF (fs' := [.int 0, .int 0, .ref q2, .ref q3, .ref q4, .ref q5, .ref q6, .ref q7, .int 0, .null, .int 0, .null, .null, .null, .null, .null, .null, .null, .null, .null, .null, .int 0, .int 0, .null, .null, .int 0, .null, .null, .int 0, .null]) hE hinX8 tyX8 tyX8_ok nmX8 pA7.1 rfl 7 (by decide) (List.mem_of_getElem? (i := 11) rfl) rfl hname rfl rfl rfl (Nat.le_of_ble_eq_true rfl) rfl dX8_init_49 ?_
  generalize ehB7 : x_up hA7 g (.inr (8, [.int 0, .int 0, .ref q2, .ref q3, .ref q4, .ref q5, .ref q6, .ref q7, .int 0, .null, .int 0, .null, .null, .null, .null, .null, .null, .null, .null, .null, .null, .int 0, .int 0, .null, .null, .int 0, .null, .null, .int 0, .null])) = hB7
  have pB7 : pW G g [.int 0, .int 0, .ref q2, .ref q3, .ref q4, .ref q5, .ref q6, .ref q7, .int 0, .null, .int 0, .null, .null, .null, .null, .null, .null, .null, .null, .null, .null, .int 0, .int 0, .null, .null, .int 0, .null, .null, .int 0, .null] [(7, q7), (6, q6), (5, q5), (4, q4), (3, q3), (2, q2)] hB7 := by rw [← ehB7]; exact pW_put pA7 _
  clear pA7 ehB7
  refine x_aload_n hE dX8_init_52 rfl rfl ?_
  refine x_bipush (v := nI 15) hE dX8_init_53 (by decide) ?_
  refine x_put (fs' := [.int 0, .int 0, .ref q2, .ref q3, .ref q4, .ref q5, .ref q6, .ref q7, .int (nI 15), .null, .int 0, .null, .null, .null, .null, .null, .null, .null, .null, .null, .null, .int 0, .int 0, .null, .null, .int 0, .null, .null, .int 0, .null]) hE hinX8 tyX8 tyX8_ok nmX8 pB7.1 rfl 8 (by decide) (List.mem_of_getElem? (i := 12) rfl) rfl rfl rfl (Nat.le_of_ble_eq_true rfl) rfl dX8_init_55 ?_
  generalize ehB8 : x_up hB7 g (.inr (8, [.int 0, .int 0, .ref q2, .ref q3, .ref q4, .ref q5, .ref q6, .ref q7, .int (nI 15), .null, .int 0, .null, .null, .null, .null, .null, .null, .null, .null, .null, .null, .int 0, .int 0, .null, .null, .int 0, .null, .null, .int 0, .null])) = hB8
  have pB8 : pW G g [.int 0, .int 0, .ref q2, .ref q3, .ref q4, .ref q5, .ref q6, .ref q7, .int (nI 15), .null, .int 0, .null, .null, .null, .null, .null, .null, .null, .null, .null, .null, .int 0, .int 0, .null, .null, .int 0, .null, .null, .int 0, .null] [(7, q7), (6, q6), (5, q5), (4, q4), (3, q3), (2, q2)] hB8 := by rw [← ehB8]; exact pW_put pB7 _
  clear pB7 ehB8
  refine x_aload_n hE dX8_init_58 rfl rfl ?_
  refine x_iconst (v := nI 3) hE dX8_init_59 (by decide) ?_
  refine x_newa (t0 := 0) (cA := g_c G 0) (a0 := (3, .inl (fun _ => 0))) hE (List.mem_of_getElem? (i := 4) rfl) rfl rfl (fun C e => by cases e) (fun cA => rfl) (nI_pos (by decide)) (nI_clamp (by decide)) (by decide) (Nat.le_of_ble_eq_true rfl) (Nat.le_of_ble_eq_true rfl) dX8_init_60 (fun q9 hq9 => ?_)
  generalize ehA9 : x_up hB8 q9 (.inl (g_c G 0, 3, .inl (fun _ => 0))) = hA9
  have pA9 : pW G g [.int 0, .int 0, .ref q2, .ref q3, .ref q4, .ref q5, .ref q6, .ref q7, .int (nI 15), .null, .int 0, .null, .null, .null, .null, .null, .null, .null, .null, .null, .null, .int 0, .int 0, .null, .null, .int 0, .null, .null, .int 0, .null] [(9, q9), (7, q7), (6, q6), (5, q5), (4, q4), (3, q3), (2, q2)] hA9 := by rw [← ehA9]; exact pW_new (k := 9) pB8 hq9
  clear pB8 ehA9
  refine x_widen (k := 7) (n := 99) (Nat.le_of_ble_eq_true rfl) (Nat.le_of_ble_eq_true rfl) ?_
  refine x_putF (fs' := [.int 0, .int 0, .ref q2, .ref q3, .ref q4, .ref q5, .ref q6, .ref q7, .int (nI 15), .ref q9, .int 0, .null, .null, .null, .null, .null, .null, .null, .null, .null, .null, .int 0, .int 0, .null, .null, .int 0, .null, .null, .int 0, .null]) hE hinX8 tyX8 tyX8_ok nmX8 pA9.1 rfl 9 (by decide) (List.mem_of_getElem? (i := 13) rfl) rfl hname rfl rfl rfl (Nat.le_of_ble_eq_true rfl) rfl dX8_init_62 ?_
  generalize ehB9 : x_up hA9 g (.inr (8, [.int 0, .int 0, .ref q2, .ref q3, .ref q4, .ref q5, .ref q6, .ref q7, .int (nI 15), .ref q9, .int 0, .null, .null, .null, .null, .null, .null, .null, .null, .null, .null, .int 0, .int 0, .null, .null, .int 0, .null, .null, .int 0, .null])) = hB9
  have pB9 : pW G g [.int 0, .int 0, .ref q2, .ref q3, .ref q4, .ref q5, .ref q6, .ref q7, .int (nI 15), .ref q9, .int 0, .null, .null, .null, .null, .null, .null, .null, .null, .null, .null, .int 0, .int 0, .null, .null, .int 0, .null, .null, .int 0, .null] [(9, q9), (7, q7), (6, q6), (5, q5), (4, q4), (3, q3), (2, q2)] hB9 := by rw [← ehB9]; exact pW_put pA9 _
  clear pA9 ehB9
  refine x_aload_n hE dX8_init_65 rfl rfl ?_
  refine x_bipush (v := nI 12) hE dX8_init_66 (by decide) ?_
  refine x_newa (t0 := 0) (cA := g_c G 0) (a0 := (12, .inl (fun _ => 0))) hE (List.mem_of_getElem? (i := 4) rfl) rfl rfl (fun C e => by cases e) (fun cA => rfl) (nI_pos (by decide)) (nI_clamp (by decide)) (by decide) (Nat.le_of_ble_eq_true rfl) (Nat.le_of_ble_eq_true rfl) dX8_init_68 (fun q11 hq11 => ?_)
  generalize ehA11 : x_up hB9 q11 (.inl (g_c G 0, 12, .inl (fun _ => 0))) = hA11
  have pA11 : pW G g [.int 0, .int 0, .ref q2, .ref q3, .ref q4, .ref q5, .ref q6, .ref q7, .int (nI 15), .ref q9, .int 0, .null, .null, .null, .null, .null, .null, .null, .null, .null, .null, .int 0, .int 0, .null, .null, .int 0, .null, .null, .int 0, .null] [(11, q11), (9, q9), (7, q7), (6, q6), (5, q5), (4, q4), (3, q3), (2, q2)] hA11 := by rw [← ehA11]; exact pW_new (k := 11) pB9 hq11
  clear pB9 ehA11
  refine x_widen (k := 8) (n := 111) (Nat.le_of_ble_eq_true rfl) (Nat.le_of_ble_eq_true rfl) ?_
  refine x_putF (fs' := [.int 0, .int 0, .ref q2, .ref q3, .ref q4, .ref q5, .ref q6, .ref q7, .int (nI 15), .ref q9, .int 0, .ref q11, .null, .null, .null, .null, .null, .null, .null, .null, .null, .int 0, .int 0, .null, .null, .int 0, .null, .null, .int 0, .null]) hE hinX8 tyX8 tyX8_ok nmX8 pA11.1 rfl 11 (by decide) (List.mem_of_getElem? (i := 14) rfl) rfl hname rfl rfl rfl (Nat.le_of_ble_eq_true rfl) rfl dX8_init_70 ?_
  generalize ehB11 : x_up hA11 g (.inr (8, [.int 0, .int 0, .ref q2, .ref q3, .ref q4, .ref q5, .ref q6, .ref q7, .int (nI 15), .ref q9, .int 0, .ref q11, .null, .null, .null, .null, .null, .null, .null, .null, .null, .int 0, .int 0, .null, .null, .int 0, .null, .null, .int 0, .null])) = hB11
  have pB11 : pW G g [.int 0, .int 0, .ref q2, .ref q3, .ref q4, .ref q5, .ref q6, .ref q7, .int (nI 15), .ref q9, .int 0, .ref q11, .null, .null, .null, .null, .null, .null, .null, .null, .null, .int 0, .int 0, .null, .null, .int 0, .null, .null, .int 0, .null] [(11, q11), (9, q9), (7, q7), (6, q6), (5, q5), (4, q4), (3, q3), (2, q2)] hB11 := by rw [← ehB11]; exact pW_put pA11 _
  clear pA11 ehB11
  refine x_aload_n hE dX8_init_73 rfl rfl ?_
  refine x_bipush (v := nI 12) hE dX8_init_74 (by decide) ?_
  refine x_newa (t0 := 0) (cA := g_c G 0) (a0 := (12, .inl (fun _ => 0))) hE (List.mem_of_getElem? (i := 4) rfl) rfl rfl (fun C e => by cases e) (fun cA => rfl) (nI_pos (by decide)) (nI_clamp (by decide)) (by decide) (Nat.le_of_ble_eq_true rfl) (Nat.le_of_ble_eq_true rfl) dX8_init_76 (fun q12 hq12 => ?_)
  generalize ehA12 : x_up hB11 q12 (.inl (g_c G 0, 12, .inl (fun _ => 0))) = hA12
  have pA12 : pW G g [.int 0, .int 0, .ref q2, .ref q3, .ref q4, .ref q5, .ref q6, .ref q7, .int (nI 15), .ref q9, .int 0, .ref q11, .null, .null, .null, .null, .null, .null, .null, .null, .null, .int 0, .int 0, .null, .null, .int 0, .null, .null, .int 0, .null] [(12, q12), (11, q11), (9, q9), (7, q7), (6, q6), (5, q5), (4, q4), (3, q3), (2, q2)] hA12 := by rw [← ehA12]; exact pW_new (k := 12) pB11 hq12
  clear pB11 ehA12
  refine x_widen (k := 9) (n := 123) (Nat.le_of_ble_eq_true rfl) (Nat.le_of_ble_eq_true rfl) ?_
  refine x_putF (fs' := [.int 0, .int 0, .ref q2, .ref q3, .ref q4, .ref q5, .ref q6, .ref q7, .int (nI 15), .ref q9, .int 0, .ref q11, .ref q12, .null, .null, .null, .null, .null, .null, .null, .null, .int 0, .int 0, .null, .null, .int 0, .null, .null, .int 0, .null]) hE hinX8 tyX8 tyX8_ok nmX8 pA12.1 rfl 12 (by decide) (List.mem_of_getElem? (i := 15) rfl) rfl hname rfl rfl rfl (Nat.le_of_ble_eq_true rfl) rfl dX8_init_78 ?_
  generalize ehB12 : x_up hA12 g (.inr (8, [.int 0, .int 0, .ref q2, .ref q3, .ref q4, .ref q5, .ref q6, .ref q7, .int (nI 15), .ref q9, .int 0, .ref q11, .ref q12, .null, .null, .null, .null, .null, .null, .null, .null, .int 0, .int 0, .null, .null, .int 0, .null, .null, .int 0, .null])) = hB12
  have pB12 : pW G g [.int 0, .int 0, .ref q2, .ref q3, .ref q4, .ref q5, .ref q6, .ref q7, .int (nI 15), .ref q9, .int 0, .ref q11, .ref q12, .null, .null, .null, .null, .null, .null, .null, .null, .int 0, .int 0, .null, .null, .int 0, .null, .null, .int 0, .null] [(12, q12), (11, q11), (9, q9), (7, q7), (6, q6), (5, q5), (4, q4), (3, q3), (2, q2)] hB12 := by rw [← ehB12]; exact pW_put pA12 _
  clear pA12 ehB12
  refine x_aload_n hE dX8_init_81 rfl rfl ?_
  refine x_bipush (v := nI 12) hE dX8_init_82 (by decide) ?_
  refine x_newa (t0 := 0) (cA := g_c G 0) (a0 := (12, .inl (fun _ => 0))) hE (List.mem_of_getElem? (i := 4) rfl) rfl rfl (fun C e => by cases e) (fun cA => rfl) (nI_pos (by decide)) (nI_clamp (by decide)) (by decide) (Nat.le_of_ble_eq_true rfl) (Nat.le_of_ble_eq_true rfl) dX8_init_84 (fun q13 hq13 => ?_)
  generalize ehA13 : x_up hB12 q13 (.inl (g_c G 0, 12, .inl (fun _ => 0))) = hA13
  have pA13 : pW G g [.int 0, .int 0, .ref q2, .ref q3, .ref q4, .ref q5, .ref q6, .ref q7, .int (nI 15), .ref q9, .int 0, .ref q11, .ref q12, .null, .null, .null, .null, .null, .null, .null, .null, .int 0, .int 0, .null, .null, .int 0, .null, .null, .int 0, .null] [(13, q13), (12, q12), (11, q11), (9, q9), (7, q7), (6, q6), (5, q5), (4, q4), (3, q3), (2, q2)] hA13 := by rw [← ehA13]; exact pW_new (k := 13) pB12 hq13
  clear pB12 ehA13
  refine x_widen (k := 10) (n := 135) (Nat.le_of_ble_eq_true rfl) (Nat.le_of_ble_eq_true rfl) ?_
  refine x_putF (fs' := [.int 0, .int 0, .ref q2, .ref q3, .ref q4, .ref q5, .ref q6, .ref q7, .int (nI 15), .ref q9, .int 0, .ref q11, .ref q12, .ref q13, .null, .null, .null, .null, .null, .null, .null, .int 0, .int 0, .null, .null, .int 0, .null, .null, .int 0, .null]) hE hinX8 tyX8 tyX8_ok nmX8 pA13.1 rfl 13 (by decide) (List.mem_of_getElem? (i := 16) rfl) rfl hname rfl rfl rfl (Nat.le_of_ble_eq_true rfl) rfl dX8_init_86 ?_
  generalize ehB13 : x_up hA13 g (.inr (8, [.int 0, .int 0, .ref q2, .ref q3, .ref q4, .ref q5, .ref q6, .ref q7, .int (nI 15), .ref q9, .int 0, .ref q11, .ref q12, .ref q13, .null, .null, .null, .null, .null, .null, .null, .int 0, .int 0, .null, .null, .int 0, .null, .null, .int 0, .null])) = hB13
  have pB13 : pW G g [.int 0, .int 0, .ref q2, .ref q3, .ref q4, .ref q5, .ref q6, .ref q7, .int (nI 15), .ref q9, .int 0, .ref q11, .ref q12, .ref q13, .null, .null, .null, .null, .null, .null, .null, .int 0, .int 0, .null, .null, .int 0, .null, .null, .int 0, .null] [(13, q13), (12, q12), (11, q11), (9, q9), (7, q7), (6, q6), (5, q5), (4, q4), (3, q3), (2, q2)] hB13 := by rw [← ehB13]; exact pW_put pA13 _
  clear pA13 ehB13
  refine x_aload_n hE dX8_init_89 rfl rfl ?_
  refine x_sipush (v := nI 192) hE dX8_init_90 (by decide) ?_
  refine x_newa (t0 := 0) (cA := g_c G 0) (a0 := (192, .inl (fun _ => 0))) hE (List.mem_of_getElem? (i := 4) rfl) rfl rfl (fun C e => by cases e) (fun cA => rfl) (nI_pos (by decide)) (nI_clamp (by decide)) (by decide) (Nat.le_of_ble_eq_true rfl) (Nat.le_of_ble_eq_true rfl) dX8_init_93 (fun q14 hq14 => ?_)
  generalize ehA14 : x_up hB13 q14 (.inl (g_c G 0, 192, .inl (fun _ => 0))) = hA14
  have pA14 : pW G g [.int 0, .int 0, .ref q2, .ref q3, .ref q4, .ref q5, .ref q6, .ref q7, .int (nI 15), .ref q9, .int 0, .ref q11, .ref q12, .ref q13, .null, .null, .null, .null, .null, .null, .null, .int 0, .int 0, .null, .null, .int 0, .null, .null, .int 0, .null] [(14, q14), (13, q13), (12, q12), (11, q11), (9, q9), (7, q7), (6, q6), (5, q5), (4, q4), (3, q3), (2, q2)] hA14 := by rw [← ehA14]; exact pW_new (k := 14) pB13 hq14
  clear pB13 ehA14
  refine x_widen (k := 11) (n := 327) (Nat.le_of_ble_eq_true rfl) (Nat.le_of_ble_eq_true rfl) ?_
  refine x_putF (fs' := [.int 0, .int 0, .ref q2, .ref q3, .ref q4, .ref q5, .ref q6, .ref q7, .int (nI 15), .ref q9, .int 0, .ref q11, .ref q12, .ref q13, .ref q14, .null, .null, .null, .null, .null, .null, .int 0, .int 0, .null, .null, .int 0, .null, .null, .int 0, .null]) hE hinX8 tyX8 tyX8_ok nmX8 pA14.1 rfl 14 (by decide) (List.mem_of_getElem? (i := 17) rfl) rfl hname rfl rfl rfl (Nat.le_of_ble_eq_true rfl) rfl dX8_init_95 ?_
  generalize ehB14 : x_up hA14 g (.inr (8, [.int 0, .int 0, .ref q2, .ref q3, .ref q4, .ref q5, .ref q6, .ref q7, .int (nI 15), .ref q9, .int 0, .ref q11, .ref q12, .ref q13, .ref q14, .null, .null, .null, .null, .null, .null, .int 0, .int 0, .null, .null, .int 0, .null, .null, .int 0, .null])) = hB14
  have pB14 : pW G g [.int 0, .int 0, .ref q2, .ref q3, .ref q4, .ref q5, .ref q6, .ref q7, .int (nI 15), .ref q9, .int 0, .ref q11, .ref q12, .ref q13, .ref q14, .null, .null, .null, .null, .null, .null, .int 0, .int 0, .null, .null, .int 0, .null, .null, .int 0, .null] [(14, q14), (13, q13), (12, q12), (11, q11), (9, q9), (7, q7), (6, q6), (5, q5), (4, q4), (3, q3), (2, q2)] hB14 := by rw [← ehB14]; exact pW_put pA14 _
  clear pA14 ehB14
  refine x_aload_n hE dX8_init_98 rfl rfl ?_
  refine x_bipush (v := nI 12) hE dX8_init_99 (by decide) ?_
  refine x_newa (t0 := 0) (cA := g_c G 0) (a0 := (12, .inl (fun _ => 0))) hE (List.mem_of_getElem? (i := 4) rfl) rfl rfl (fun C e => by cases e) (fun cA => rfl) (nI_pos (by decide)) (nI_clamp (by decide)) (by decide) (Nat.le_of_ble_eq_true rfl) (Nat.le_of_ble_eq_true rfl) dX8_init_101 (fun q15 hq15 => ?_)
  generalize ehA15 : x_up hB14 q15 (.inl (g_c G 0, 12, .inl (fun _ => 0))) = hA15
  have pA15 : pW G g [.int 0, .int 0, .ref q2, .ref q3, .ref q4, .ref q5, .ref q6, .ref q7, .int (nI 15), .ref q9, .int 0, .ref q11, .ref q12, .ref q13, .ref q14, .null, .null, .null, .null, .null, .null, .int 0, .int 0, .null, .null, .int 0, .null, .null, .int 0, .null] [(15, q15), (14, q14), (13, q13), (12, q12), (11, q11), (9, q9), (7, q7), (6, q6), (5, q5), (4, q4), (3, q3), (2, q2)] hA15 := by rw [← ehA15]; exact pW_new (k := 15) pB14 hq15
  clear pB14 ehA15
  refine x_widen (k := 12) (n := 339) (Nat.le_of_ble_eq_true rfl) (Nat.le_of_ble_eq_true rfl) ?_
  refine x_putF (fs' := [.int 0, .int 0, .ref q2, .ref q3, .ref q4, .ref q5, .ref q6, .ref q7, .int (nI 15), .ref q9, .int 0, .ref q11, .ref q12, .ref q13, .ref q14, .ref q15, .null, .null, .null, .null, .null, .int 0, .int 0, .null, .null, .int 0, .null, .null, .int 0, .null]) hE hinX8 tyX8 tyX8_ok nmX8 pA15.1 rfl 15 (by decide) (List.mem_of_getElem? (i := 18) rfl) rfl hname rfl rfl rfl (Nat.le_of_ble_eq_true rfl) rfl dX8_init_103 ?_
  generalize ehB15 : x_up hA15 g (.inr (8, [.int 0, .int 0, .ref q2, .ref q3, .ref q4, .ref q5, .ref q6, .ref q7, .int (nI 15), .ref q9, .int 0, .ref q11, .ref q12, .ref q13, .ref q14, .ref q15, .null, .null, .null, .null, .null, .int 0, .int 0, .null, .null, .int 0, .null, .null, .int 0, .null])) = hB15
  have pB15 : pW G g [.int 0, .int 0, .ref q2, .ref q3, .ref q4, .ref q5, .ref q6, .ref q7, .int (nI 15), .ref q9, .int 0, .ref q11, .ref q12, .ref q13, .ref q14, .ref q15, .null, .null, .null, .null, .null, .int 0, .int 0, .null, .null, .int 0, .null, .null, .int 0, .null] [(15, q15), (14, q14), (13, q13), (12, q12), (11, q11), (9, q9), (7, q7), (6, q6), (5, q5), (4, q4), (3, q3), (2, q2)] hB15 := by rw [← ehB15]; exact pW_put pA15 _
  clear pA15 ehB15
  refine x_aload_n hE dX8_init_106 rfl rfl ?_
  refine x_bipush (v := nI 12) hE dX8_init_107 (by decide) ?_
  refine x_newa (t0 := 0) (cA := g_c G 0) (a0 := (12, .inl (fun _ => 0))) hE (List.mem_of_getElem? (i := 4) rfl) rfl rfl (fun C e => by cases e) (fun cA => rfl) (nI_pos (by decide)) (nI_clamp (by decide)) (by decide) (Nat.le_of_ble_eq_true rfl) (Nat.le_of_ble_eq_true rfl) dX8_init_109 (fun q16 hq16 => ?_)
  generalize ehA16 : x_up hB15 q16 (.inl (g_c G 0, 12, .inl (fun _ => 0))) = hA16
  have pA16 : pW G g [.int 0, .int 0, .ref q2, .ref q3, .ref q4, .ref q5, .ref q6, .ref q7, .int (nI 15), .ref q9, .int 0, .ref q11, .ref q12, .ref q13, .ref q14, .ref q15, .null, .null, .null, .null, .null, .int 0, .int 0, .null, .null, .int 0, .null, .null, .int 0, .null] [(16, q16), (15, q15), (14, q14), (13, q13), (12, q12), (11, q11), (9, q9), (7, q7), (6, q6), (5, q5), (4, q4), (3, q3), (2, q2)] hA16 := by rw [← ehA16]; exact pW_new (k := 16) pB15 hq16
  clear pB15 ehA16
  refine x_widen (k := 13) (n := 351) (Nat.le_of_ble_eq_true rfl) (Nat.le_of_ble_eq_true rfl) ?_
  refine x_putF (fs' := [.int 0, .int 0, .ref q2, .ref q3, .ref q4, .ref q5, .ref q6, .ref q7, .int (nI 15), .ref q9, .int 0, .ref q11, .ref q12, .ref q13, .ref q14, .ref q15, .ref q16, .null, .null, .null, .null, .int 0, .int 0, .null, .null, .int 0, .null, .null, .int 0, .null]) hE hinX8 tyX8 tyX8_ok nmX8 pA16.1 rfl 16 (by decide) (List.mem_of_getElem? (i := 19) rfl) rfl hname rfl rfl rfl (Nat.le_of_ble_eq_true rfl) rfl dX8_init_111 ?_
  generalize ehB16 : x_up hA16 g (.inr (8, [.int 0, .int 0, .ref q2, .ref q3, .ref q4, .ref q5, .ref q6, .ref q7, .int (nI 15), .ref q9, .int 0, .ref q11, .ref q12, .ref q13, .ref q14, .ref q15, .ref q16, .null, .null, .null, .null, .int 0, .int 0, .null, .null, .int 0, .null, .null, .int 0, .null])) = hB16
  have pB16 : pW G g [.int 0, .int 0, .ref q2, .ref q3, .ref q4, .ref q5, .ref q6, .ref q7, .int (nI 15), .ref q9, .int 0, .ref q11, .ref q12, .ref q13, .ref q14, .ref q15, .ref q16, .null, .null, .null, .null, .int 0, .int 0, .null, .null, .int 0, .null, .null, .int 0, .null] [(16, q16), (15, q15), (14, q14), (13, q13), (12, q12), (11, q11), (9, q9), (7, q7), (6, q6), (5, q5), (4, q4), (3, q3), (2, q2)] hB16 := by rw [← ehB16]; exact pW_put pA16 _
  clear pA16 ehB16
  refine x_aload_n hE dX8_init_114 rfl rfl ?_
  refine x_bipush (v := nI 12) hE dX8_init_115 (by decide) ?_
  refine x_newa (t0 := 1) (cA := g_c G 1) (a0 := (12, .inl (fun _ => 0))) hE (List.mem_of_getElem? (i := 10) rfl) rfl rfl (fun C e => by cases e) (fun cA => rfl) (nI_pos (by decide)) (nI_clamp (by decide)) (by decide) (Nat.le_of_ble_eq_true rfl) (Nat.le_of_ble_eq_true rfl) dX8_init_117 (fun q17 hq17 => ?_)
  generalize ehA17 : x_up hB16 q17 (.inl (g_c G 1, 12, .inl (fun _ => 0))) = hA17
  have pA17 : pW G g [.int 0, .int 0, .ref q2, .ref q3, .ref q4, .ref q5, .ref q6, .ref q7, .int (nI 15), .ref q9, .int 0, .ref q11, .ref q12, .ref q13, .ref q14, .ref q15, .ref q16, .null, .null, .null, .null, .int 0, .int 0, .null, .null, .int 0, .null, .null, .int 0, .null] [(17, q17), (16, q16), (15, q15), (14, q14), (13, q13), (12, q12), (11, q11), (9, q9), (7, q7), (6, q6), (5, q5), (4, q4), (3, q3), (2, q2)] hA17 := by rw [← ehA17]; exact pW_new (k := 17) pB16 hq17
  clear pB16 ehA17
  refine x_widen (k := 14) (n := 363) (Nat.le_of_ble_eq_true rfl) (Nat.le_of_ble_eq_true rfl) ?_
  refine x_putF (fs' := [.int 0, .int 0, .ref q2, .ref q3, .ref q4, .ref q5, .ref q6, .ref q7, .int (nI 15), .ref q9, .int 0, .ref q11, .ref q12, .ref q13, .ref q14, .ref q15, .ref q16, .ref q17, .null, .null, .null, .int 0, .int 0, .null, .null, .int 0, .null, .null, .int 0, .null]) hE hinX8 tyX8 tyX8_ok nmX8 pA17.1 rfl 17 (by decide) (List.mem_of_getElem? (i := 20) rfl) rfl hname rfl rfl rfl (Nat.le_of_ble_eq_true rfl) rfl dX8_init_119 ?_
  generalize ehB17 : x_up hA17 g (.inr (8, [.int 0, .int 0, .ref q2, .ref q3, .ref q4, .ref q5, .ref q6, .ref q7, .int (nI 15), .ref q9, .int 0, .ref q11, .ref q12, .ref q13, .ref q14, .ref q15, .ref q16, .ref q17, .null, .null, .null, .int 0, .int 0, .null, .null, .int 0, .null, .null, .int 0, .null])) = hB17
  have pB17 : pW G g [.int 0, .int 0, .ref q2, .ref q3, .ref q4, .ref q5, .ref q6, .ref q7, .int (nI 15), .ref q9, .int 0, .ref q11, .ref q12, .ref q13, .ref q14, .ref q15, .ref q16, .ref q17, .null, .null, .null, .int 0, .int 0, .null, .null, .int 0, .null, .null, .int 0, .null] [(17, q17), (16, q16), (15, q15), (14, q14), (13, q13), (12, q12), (11, q11), (9, q9), (7, q7), (6, q6), (5, q5), (4, q4), (3, q3), (2, q2)] hB17 := by rw [← ehB17]; exact pW_put pA17 _
  clear pA17 ehB17
  refine x_aload_n hE dX8_init_122 rfl rfl ?_
  refine x_bipush (v := nI 12) hE dX8_init_123 (by decide) ?_
  refine x_newa (t0 := 0) (cA := g_c G 0) (a0 := (12, .inl (fun _ => 0))) hE (List.mem_of_getElem? (i := 4) rfl) rfl rfl (fun C e => by cases e) (fun cA => rfl) (nI_pos (by decide)) (nI_clamp (by decide)) (by decide) (Nat.le_of_ble_eq_true rfl) (Nat.le_of_ble_eq_true rfl) dX8_init_125 (fun q18 hq18 => ?_)
  generalize ehA18 : x_up hB17 q18 (.inl (g_c G 0, 12, .inl (fun _ => 0))) = hA18
  have pA18 : pW G g [.int 0, .int 0, .ref q2, .ref q3, .ref q4, .ref q5, .ref q6, .ref q7, .int (nI 15), .ref q9, .int 0, .ref q11, .ref q12, .ref q13, .ref q14, .ref q15, .ref q16, .ref q17, .null, .null, .null, .int 0, .int 0, .null, .null, .int 0, .null, .null, .int 0, .null] [(18, q18), (17, q17), (16, q16), (15, q15), (14, q14), (13, q13), (12, q12), (11, q11), (9, q9), (7, q7), (6, q6), (5, q5), (4, q4), (3, q3), (2, q2)] hA18 := by rw [← ehA18]; exact pW_new (k := 18) pB17 hq18
  clear pB17 ehA18
  refine x_widen (k := 15) (n := 375) (Nat.le_of_ble_eq_true rfl) (Nat.le_of_ble_eq_true rfl) ?_
  refine x_putF (fs' := [.int 0, .int 0, .ref q2, .ref q3, .ref q4, .ref q5, .ref q6, .ref q7, .int (nI 15), .ref q9, .int 0, .ref q11, .ref q12, .ref q13, .ref q14, .ref q15, .ref q16, .ref q17, .ref q18, .null, .null, .int 0, .int 0, .null, .null, .int 0, .null, .null, .int 0, .null]) hE hinX8 tyX8 tyX8_ok nmX8 pA18.1 rfl 18 (by decide) (List.mem_of_getElem? (i := 21) rfl) rfl hname rfl rfl rfl (Nat.le_of_ble_eq_true rfl) rfl dX8_init_127 ?_
  generalize ehB18 : x_up hA18 g (.inr (8, [.int 0, .int 0, .ref q2, .ref q3, .ref q4, .ref q5, .ref q6, .ref q7, .int (nI 15), .ref q9, .int 0, .ref q11, .ref q12, .ref q13, .ref q14, .ref q15, .ref q16, .ref q17, .ref q18, .null, .null, .int 0, .int 0, .null, .null, .int 0, .null, .null, .int 0, .null])) = hB18
  have pB18 : pW G g [.int 0, .int 0, .ref q2, .ref q3, .ref q4, .ref q5, .ref q6, .ref q7, .int (nI 15), .ref q9, .int 0, .ref q11, .ref q12, .ref q13, .ref q14, .ref q15, .ref q16, .ref q17, .ref q18, .null, .null, .int 0, .int 0, .null, .null, .int 0, .null, .null, .int 0, .null] [(18, q18), (17, q17), (16, q16), (15, q15), (14, q14), (13, q13), (12, q12), (11, q11), (9, q9), (7, q7), (6, q6), (5, q5), (4, q4), (3, q3), (2, q2)] hB18 := by rw [← ehB18]; exact pW_put pA18 _
  clear pA18 ehB18
  refine x_aload_n hE dX8_init_130 rfl rfl ?_
  refine x_bipush (v := nI 12) hE dX8_init_131 (by decide) ?_
  refine x_newa (t0 := 0) (cA := g_c G 0) (a0 := (12, .inl (fun _ => 0))) hE (List.mem_of_getElem? (i := 4) rfl) rfl rfl (fun C e => by cases e) (fun cA => rfl) (nI_pos (by decide)) (nI_clamp (by decide)) (by decide) (Nat.le_of_ble_eq_true rfl) (Nat.le_of_ble_eq_true rfl) dX8_init_133 (fun q19 hq19 => ?_)
  generalize ehA19 : x_up hB18 q19 (.inl (g_c G 0, 12, .inl (fun _ => 0))) = hA19
  have pA19 : pW G g [.int 0, .int 0, .ref q2, .ref q3, .ref q4, .ref q5, .ref q6, .ref q7, .int (nI 15), .ref q9, .int 0, .ref q11, .ref q12, .ref q13, .ref q14, .ref q15, .ref q16, .ref q17, .ref q18, .null, .null, .int 0, .int 0, .null, .null, .int 0, .null, .null, .int 0, .null] [(19, q19), (18, q18), (17, q17), (16, q16), (15, q15), (14, q14), (13, q13), (12, q12), (11, q11), (9, q9), (7, q7), (6, q6), (5, q5), (4, q4), (3, q3), (2, q2)] hA19 := by rw [← ehA19]; exact pW_new (k := 19) pB18 hq19
  clear pB18 ehA19
  refine x_widen (k := 16) (n := 387) (Nat.le_of_ble_eq_true rfl) (Nat.le_of_ble_eq_true rfl) ?_
  refine x_putF (fs' := [.int 0, .int 0, .ref q2, .ref q3, .ref q4, .ref q5, .ref q6, .ref q7, .int (nI 15), .ref q9, .int 0, .ref q11, .ref q12, .ref q13, .ref q14, .ref q15, .ref q16, .ref q17, .ref q18, .ref q19, .null, .int 0, .int 0, .null, .null, .int 0, .null, .null, .int 0, .null]) hE hinX8 tyX8 tyX8_ok nmX8 pA19.1 rfl 19 (by decide) (List.mem_of_getElem? (i := 22) rfl) rfl hname rfl rfl rfl (Nat.le_of_ble_eq_true rfl) rfl dX8_init_135 ?_
  generalize ehB19 : x_up hA19 g (.inr (8, [.int 0, .int 0, .ref q2, .ref q3, .ref q4, .ref q5, .ref q6, .ref q7, .int (nI 15), .ref q9, .int 0, .ref q11, .ref q12, .ref q13, .ref q14, .ref q15, .ref q16, .ref q17, .ref q18, .ref q19, .null, .int 0, .int 0, .null, .null, .int 0, .null, .null, .int 0, .null])) = hB19
  have pB19 : pW G g [.int 0, .int 0, .ref q2, .ref q3, .ref q4, .ref q5, .ref q6, .ref q7, .int (nI 15), .ref q9, .int 0, .ref q11, .ref q12, .ref q13, .ref q14, .ref q15, .ref q16, .ref q17, .ref q18, .ref q19, .null, .int 0, .int 0, .null, .null, .int 0, .null, .null, .int 0, .null] [(19, q19), (18, q18), (17, q17), (16, q16), (15, q15), (14, q14), (13, q13), (12, q12), (11, q11), (9, q9), (7, q7), (6, q6), (5, q5), (4, q4), (3, q3), (2, q2)] hB19 := by rw [← ehB19]; exact pW_put pA19 _
  clear pA19 ehB19
  refine x_aload_n hE dX8_init_138 rfl rfl ?_
  refine x_bipush (v := nI 12) hE dX8_init_139 (by decide) ?_
  refine x_newa (t0 := 0) (cA := g_c G 0) (a0 := (12, .inl (fun _ => 0))) hE (List.mem_of_getElem? (i := 4) rfl) rfl rfl (fun C e => by cases e) (fun cA => rfl) (nI_pos (by decide)) (nI_clamp (by decide)) (by decide) (Nat.le_of_ble_eq_true rfl) (Nat.le_of_ble_eq_true rfl) dX8_init_141 (fun q20 hq20 => ?_)
  generalize ehA20 : x_up hB19 q20 (.inl (g_c G 0, 12, .inl (fun _ => 0))) = hA20
  have pA20 : pW G g [.int 0, .int 0, .ref q2, .ref q3, .ref q4, .ref q5, .ref q6, .ref q7, .int (nI 15), .ref q9, .int 0, .ref q11, .ref q12, .ref q13, .ref q14, .ref q15, .ref q16, .ref q17, .ref q18, .ref q19, .null, .int 0, .int 0, .null, .null, .int 0, .null, .null, .int 0, .null] [(20, q20), (19, q19), (18, q18), (17, q17), (16, q16), (15, q15), (14, q14), (13, q13), (12, q12), (11, q11), (9, q9), (7, q7), (6, q6), (5, q5), (4, q4), (3, q3), (2, q2)] hA20 := by rw [← ehA20]; exact pW_new (k := 20) pB19 hq20
  clear pB19 ehA20
  refine x_widen (k := 17) (n := 399) (Nat.le_of_ble_eq_true rfl) (Nat.le_of_ble_eq_true rfl) ?_
  refine x_putF (fs' := [.int 0, .int 0, .ref q2, .ref q3, .ref q4, .ref q5, .ref q6, .ref q7, .int (nI 15), .ref q9, .int 0, .ref q11, .ref q12, .ref q13, .ref q14, .ref q15, .ref q16, .ref q17, .ref q18, .ref q19, .ref q20, .int 0, .int 0, .null, .null, .int 0, .null, .null, .int 0, .null]) hE hinX8 tyX8 tyX8_ok nmX8 pA20.1 rfl 20 (by decide) (List.mem_of_getElem? (i := 23) rfl) rfl hname rfl rfl rfl (Nat.le_of_ble_eq_true rfl) rfl dX8_init_143 ?_
  generalize ehB20 : x_up hA20 g (.inr (8, [.int 0, .int 0, .ref q2, .ref q3, .ref q4, .ref q5, .ref q6, .ref q7, .int (nI 15), .ref q9, .int 0, .ref q11, .ref q12, .ref q13, .ref q14, .ref q15, .ref q16, .ref q17, .ref q18, .ref q19, .ref q20, .int 0, .int 0, .null, .null, .int 0, .null, .null, .int 0, .null])) = hB20
  have pB20 : pW G g [.int 0, .int 0, .ref q2, .ref q3, .ref q4, .ref q5, .ref q6, .ref q7, .int (nI 15), .ref q9, .int 0, .ref q11, .ref q12, .ref q13, .ref q14, .ref q15, .ref q16, .ref q17, .ref q18, .ref q19, .ref q20, .int 0, .int 0, .null, .null, .int 0, .null, .null, .int 0, .null] [(20, q20), (19, q19), (18, q18), (17, q17), (16, q16), (15, q15), (14, q14), (13, q13), (12, q12), (11, q11), (9, q9), (7, q7), (6, q6), (5, q5), (4, q4), (3, q3), (2, q2)] hB20 := by rw [← ehB20]; exact pW_put pA20 _
  clear pA20 ehB20
  refine x_aload_n hE dX8_init_146 rfl rfl ?_
  refine x_sipush (v := nI 1024) hE dX8_init_147 (by decide) ?_
  refine x_newa (t0 := 0) (cA := g_c G 0) (a0 := (1024, .inl (fun _ => 0))) hE (List.mem_of_getElem? (i := 4) rfl) rfl rfl (fun C e => by cases e) (fun cA => rfl) (nI_pos (by decide)) (nI_clamp (by decide)) (by decide) (Nat.le_of_ble_eq_true rfl) (Nat.le_of_ble_eq_true rfl) dX8_init_150 (fun q23 hq23 => ?_)
  generalize ehA23 : x_up hB20 q23 (.inl (g_c G 0, 1024, .inl (fun _ => 0))) = hA23
  have pA23 : pW G g [.int 0, .int 0, .ref q2, .ref q3, .ref q4, .ref q5, .ref q6, .ref q7, .int (nI 15), .ref q9, .int 0, .ref q11, .ref q12, .ref q13, .ref q14, .ref q15, .ref q16, .ref q17, .ref q18, .ref q19, .ref q20, .int 0, .int 0, .null, .null, .int 0, .null, .null, .int 0, .null] [(23, q23), (20, q20), (19, q19), (18, q18), (17, q17), (16, q16), (15, q15), (14, q14), (13, q13), (12, q12), (11, q11), (9, q9), (7, q7), (6, q6), (5, q5), (4, q4), (3, q3), (2, q2)] hA23 := by rw [← ehA23]; exact pW_new (k := 23) pB20 hq23
  clear pB20 ehA23
  refine x_widen (k := 18) (n := 1423) (Nat.le_of_ble_eq_true rfl) (Nat.le_of_ble_eq_true rfl) ?_
  refine x_putF (fs' := [.int 0, .int 0, .ref q2, .ref q3, .ref q4, .ref q5, .ref q6, .ref q7, .int (nI 15), .ref q9, .int 0, .ref q11, .ref q12, .ref q13, .ref q14, .ref q15, .ref q16, .ref q17, .ref q18, .ref q19, .ref q20, .int 0, .int 0, .ref q23, .null, .int 0, .null, .null, .int 0, .null]) hE hinX8 tyX8 tyX8_ok nmX8 pA23.1 rfl 23 (by decide) (List.mem_of_getElem? (i := 24) rfl) rfl hname rfl rfl rfl (Nat.le_of_ble_eq_true rfl) rfl dX8_init_152 ?_
  generalize ehB23 : x_up hA23 g (.inr (8, [.int 0, .int 0, .ref q2, .ref q3, .ref q4, .ref q5, .ref q6, .ref q7, .int (nI 15), .ref q9, .int 0, .ref q11, .ref q12, .ref q13, .ref q14, .ref q15, .ref q16, .ref q17, .ref q18, .ref q19, .ref q20, .int 0, .int 0, .ref q23, .null, .int 0, .null, .null, .int 0, .null])) = hB23
  have pB23 : pW G g [.int 0, .int 0, .ref q2, .ref q3, .ref q4, .ref q5, .ref q6, .ref q7, .int (nI 15), .ref q9, .int 0, .ref q11, .ref q12, .ref q13, .ref q14, .ref q15, .ref q16, .ref q17, .ref q18, .ref q19, .ref q20, .int 0, .int 0, .ref q23, .null, .int 0, .null, .null, .int 0, .null] [(23, q23), (20, q20), (19, q19), (18, q18), (17, q17), (16, q16), (15, q15), (14, q14), (13, q13), (12, q12), (11, q11), (9, q9), (7, q7), (6, q6), (5, q5), (4, q4), (3, q3), (2, q2)] hB23 := by rw [← ehB23]; exact pW_put pA23 _
  clear pA23 ehB23
  refine x_aload_n hE dX8_init_155 rfl rfl ?_
  refine x_sipush (v := nI 1024) hE dX8_init_156 (by decide) ?_
  refine x_newa (t0 := 0) (cA := g_c G 0) (a0 := (1024, .inl (fun _ => 0))) hE (List.mem_of_getElem? (i := 4) rfl) rfl rfl (fun C e => by cases e) (fun cA => rfl) (nI_pos (by decide)) (nI_clamp (by decide)) (by decide) (Nat.le_of_ble_eq_true rfl) (Nat.le_of_ble_eq_true rfl) dX8_init_159 (fun q24 hq24 => ?_)
  generalize ehA24 : x_up hB23 q24 (.inl (g_c G 0, 1024, .inl (fun _ => 0))) = hA24
  have pA24 : pW G g [.int 0, .int 0, .ref q2, .ref q3, .ref q4, .ref q5, .ref q6, .ref q7, .int (nI 15), .ref q9, .int 0, .ref q11, .ref q12, .ref q13, .ref q14, .ref q15, .ref q16, .ref q17, .ref q18, .ref q19, .ref q20, .int 0, .int 0, .ref q23, .null, .int 0, .null, .null, .int 0, .null] [(24, q24), (23, q23), (20, q20), (19, q19), (18, q18), (17, q17), (16, q16), (15, q15), (14, q14), (13, q13), (12, q12), (11, q11), (9, q9), (7, q7), (6, q6), (5, q5), (4, q4), (3, q3), (2, q2)] hA24 := by rw [← ehA24]; exact pW_new (k := 24) pB23 hq24
  clear pB23 ehA24
  refine x_widen (k := 19) (n := 2447) (Nat.le_of_ble_eq_true rfl) (Nat.le_of_ble_eq_true rfl) ?_
  refine x_putF (fs' := [.int 0, .int 0, .ref q2, .ref q3, .ref q4, .ref q5, .ref q6, .ref q7, .int (nI 15), .ref q9, .int 0, .ref q11, .ref q12, .ref q13, .ref q14, .ref q15, .ref q16, .ref q17, .ref q18, .ref q19, .ref q20, .int 0, .int 0, .ref q23, .ref q24, .int 0, .null, .null, .int 0, .null]) hE hinX8 tyX8 tyX8_ok nmX8 pA24.1 rfl 24 (by decide) (List.mem_of_getElem? (i := 25) rfl) rfl hname rfl rfl rfl (Nat.le_of_ble_eq_true rfl) rfl dX8_init_161 ?_
  generalize ehB24 : x_up hA24 g (.inr (8, [.int 0, .int 0, .ref q2, .ref q3, .ref q4, .ref q5, .ref q6, .ref q7, .int (nI 15), .ref q9, .int 0, .ref q11, .ref q12, .ref q13, .ref q14, .ref q15, .ref q16, .ref q17, .ref q18, .ref q19, .ref q20, .int 0, .int 0, .ref q23, .ref q24, .int 0, .null, .null, .int 0, .null])) = hB24
  have pB24 : pW G g [.int 0, .int 0, .ref q2, .ref q3, .ref q4, .ref q5, .ref q6, .ref q7, .int (nI 15), .ref q9, .int 0, .ref q11, .ref q12, .ref q13, .ref q14, .ref q15, .ref q16, .ref q17, .ref q18, .ref q19, .ref q20, .int 0, .int 0, .ref q23, .ref q24, .int 0, .null, .null, .int 0, .null] [(24, q24), (23, q23), (20, q20), (19, q19), (18, q18), (17, q17), (16, q16), (15, q15), (14, q14), (13, q13), (12, q12), (11, q11), (9, q9), (7, q7), (6, q6), (5, q5), (4, q4), (3, q3), (2, q2)] hB24 := by rw [← ehB24]; exact pW_put pA24 _
  clear pA24 ehB24
  refine x_aload_n hE dX8_init_164 rfl rfl ?_
  refine x_bipush (v := nI 16) hE dX8_init_165 (by decide) ?_
  refine x_newa (t0 := 0) (cA := g_c G 0) (a0 := (16, .inl (fun _ => 0))) hE (List.mem_of_getElem? (i := 4) rfl) rfl rfl (fun C e => by cases e) (fun cA => rfl) (nI_pos (by decide)) (nI_clamp (by decide)) (by decide) (Nat.le_of_ble_eq_true rfl) (Nat.le_of_ble_eq_true rfl) dX8_init_167 (fun q26 hq26 => ?_)
  generalize ehA26 : x_up hB24 q26 (.inl (g_c G 0, 16, .inl (fun _ => 0))) = hA26
  have pA26 : pW G g [.int 0, .int 0, .ref q2, .ref q3, .ref q4, .ref q5, .ref q6, .ref q7, .int (nI 15), .ref q9, .int 0, .ref q11, .ref q12, .ref q13, .ref q14, .ref q15, .ref q16, .ref q17, .ref q18, .ref q19, .ref q20, .int 0, .int 0, .ref q23, .ref q24, .int 0, .null, .null, .int 0, .null] [(26, q26), (24, q24), (23, q23), (20, q20), (19, q19), (18, q18), (17, q17), (16, q16), (15, q15), (14, q14), (13, q13), (12, q12), (11, q11), (9, q9), (7, q7), (6, q6), (5, q5), (4, q4), (3, q3), (2, q2)] hA26 := by rw [← ehA26]; exact pW_new (k := 26) pB24 hq26
  clear pB24 ehA26
  refine x_widen (k := 20) (n := 2463) (Nat.le_of_ble_eq_true rfl) (Nat.le_of_ble_eq_true rfl) ?_
  refine x_putF (fs' := [.int 0, .int 0, .ref q2, .ref q3, .ref q4, .ref q5, .ref q6, .ref q7, .int (nI 15), .ref q9, .int 0, .ref q11, .ref q12, .ref q13, .ref q14, .ref q15, .ref q16, .ref q17, .ref q18, .ref q19, .ref q20, .int 0, .int 0, .ref q23, .ref q24, .int 0, .ref q26, .null, .int 0, .null]) hE hinX8 tyX8 tyX8_ok nmX8 pA26.1 rfl 26 (by decide) (List.mem_of_getElem? (i := 26) rfl) rfl hname rfl rfl rfl (Nat.le_of_ble_eq_true rfl) rfl dX8_init_169 ?_
  generalize ehB26 : x_up hA26 g (.inr (8, [.int 0, .int 0, .ref q2, .ref q3, .ref q4, .ref q5, .ref q6, .ref q7, .int (nI 15), .ref q9, .int 0, .ref q11, .ref q12, .ref q13, .ref q14, .ref q15, .ref q16, .ref q17, .ref q18, .ref q19, .ref q20, .int 0, .int 0, .ref q23, .ref q24, .int 0, .ref q26, .null, .int 0, .null])) = hB26
  have pB26 : pW G g [.int 0, .int 0, .ref q2, .ref q3, .ref q4, .ref q5, .ref q6, .ref q7, .int (nI 15), .ref q9, .int 0, .ref q11, .ref q12, .ref q13, .ref q14, .ref q15, .ref q16, .ref q17, .ref q18, .ref q19, .ref q20, .int 0, .int 0, .ref q23, .ref q24, .int 0, .ref q26, .null, .int 0, .null] [(26, q26), (24, q24), (23, q23), (20, q20), (19, q19), (18, q18), (17, q17), (16, q16), (15, q15), (14, q14), (13, q13), (12, q12), (11, q11), (9, q9), (7, q7), (6, q6), (5, q5), (4, q4), (3, q3), (2, q2)] hB26 := by rw [← ehB26]; exact pW_put pA26 _
  clear pA26 ehB26
  refine x_aload_n hE dX8_init_172 rfl rfl ?_
  refine x_bipush (v := nI 16) hE dX8_init_173 (by decide) ?_
  refine x_newa (t0 := 0) (cA := g_c G 0) (a0 := (16, .inl (fun _ => 0))) hE (List.mem_of_getElem? (i := 4) rfl) rfl rfl (fun C e => by cases e) (fun cA => rfl) (nI_pos (by decide)) (nI_clamp (by decide)) (by decide) (Nat.le_of_ble_eq_true rfl) (Nat.le_of_ble_eq_true rfl) dX8_init_175 (fun q27 hq27 => ?_)
  generalize ehA27 : x_up hB26 q27 (.inl (g_c G 0, 16, .inl (fun _ => 0))) = hA27
  have pA27 : pW G g [.int 0, .int 0, .ref q2, .ref q3, .ref q4, .ref q5, .ref q6, .ref q7, .int (nI 15), .ref q9, .int 0, .ref q11, .ref q12, .ref q13, .ref q14, .ref q15, .ref q16, .ref q17, .ref q18, .ref q19, .ref q20, .int 0, .int 0, .ref q23, .ref q24, .int 0, .ref q26, .null, .int 0, .null] [(27, q27), (26, q26), (24, q24), (23, q23), (20, q20), (19, q19), (18, q18), (17, q17), (16, q16), (15, q15), (14, q14), (13, q13), (12, q12), (11, q11), (9, q9), (7, q7), (6, q6), (5, q5), (4, q4), (3, q3), (2, q2)] hA27 := by rw [← ehA27]; exact pW_new (k := 27) pB26 hq27
  clear pB26 ehA27
  refine x_widen (k := 21) (n := 2479) (Nat.le_of_ble_eq_true rfl) (Nat.le_of_ble_eq_true rfl) ?_
  refine x_putF (fs' := [.int 0, .int 0, .ref q2, .ref q3, .ref q4, .ref q5, .ref q6, .ref q7, .int (nI 15), .ref q9, .int 0, .ref q11, .ref q12, .ref q13, .ref q14, .ref q15, .ref q16, .ref q17, .ref q18, .ref q19, .ref q20, .int 0, .int 0, .ref q23, .ref q24, .int 0, .ref q26, .ref q27, .int 0, .null]) hE hinX8 tyX8 tyX8_ok nmX8 pA27.1 rfl 27 (by decide) (List.mem_of_getElem? (i := 27) rfl) rfl hname rfl rfl rfl (Nat.le_of_ble_eq_true rfl) rfl dX8_init_177 ?_
  generalize ehB27 : x_up hA27 g (.inr (8, [.int 0, .int 0, .ref q2, .ref q3, .ref q4, .ref q5, .ref q6, .ref q7, .int (nI 15), .ref q9, .int 0, .ref q11, .ref q12, .ref q13, .ref q14, .ref q15, .ref q16, .ref q17, .ref q18, .ref q19, .ref q20, .int 0, .int 0, .ref q23, .ref q24, .int 0, .ref q26, .ref q27, .int 0, .null])) = hB27
  have pB27 : pW G g [.int 0, .int 0, .ref q2, .ref q3, .ref q4, .ref q5, .ref q6, .ref q7, .int (nI 15), .ref q9, .int 0, .ref q11, .ref q12, .ref q13, .ref q14, .ref q15, .ref q16, .ref q17, .ref q18, .ref q19, .ref q20, .int 0, .int 0, .ref q23, .ref q24, .int 0, .ref q26, .ref q27, .int 0, .null] [(27, q27), (26, q26), (24, q24), (23, q23), (20, q20), (19, q19), (18, q18), (17, q17), (16, q16), (15, q15), (14, q14), (13, q13), (12, q12), (11, q11), (9, q9), (7, q7), (6, q6), (5, q5), (4, q4), (3, q3), (2, q2)] hB27 := by rw [← ehB27]; exact pW_put pA27 _
  clear pA27 ehB27
  refine x_aload_n hE dX8_init_180 rfl rfl ?_
  refine x_bipush (v := nI 16) hE dX8_init_181 (by decide) ?_
  refine x_newa (t0 := 0) (cA := g_c G 0) (a0 := (16, .inl (fun _ => 0))) hE (List.mem_of_getElem? (i := 4) rfl) rfl rfl (fun C e => by cases e) (fun cA => rfl) (nI_pos (by decide)) (nI_clamp (by decide)) (by decide) (Nat.le_of_ble_eq_true rfl) (Nat.le_of_ble_eq_true rfl) dX8_init_183 (fun q29 hq29 => ?_)
  generalize ehA29 : x_up hB27 q29 (.inl (g_c G 0, 16, .inl (fun _ => 0))) = hA29
  have pA29 : pW G g [.int 0, .int 0, .ref q2, .ref q3, .ref q4, .ref q5, .ref q6, .ref q7, .int (nI 15), .ref q9, .int 0, .ref q11, .ref q12, .ref q13, .ref q14, .ref q15, .ref q16, .ref q17, .ref q18, .ref q19, .ref q20, .int 0, .int 0, .ref q23, .ref q24, .int 0, .ref q26, .ref q27, .int 0, .null] [(29, q29), (27, q27), (26, q26), (24, q24), (23, q23), (20, q20), (19, q19), (18, q18), (17, q17), (16, q16), (15, q15), (14, q14), (13, q13), (12, q12), (11, q11), (9, q9), (7, q7), (6, q6), (5, q5), (4, q4), (3, q3), (2, q2)] hA29 := by rw [← ehA29]; exact pW_new (k := 29) pB27 hq29
  clear pB27 ehA29
  refine x_widen (k := 22) (n := 2495) (Nat.le_of_ble_eq_true rfl) (Nat.le_of_ble_eq_true rfl) ?_
  refine x_putF (fs' := [.int 0, .int 0, .ref q2, .ref q3, .ref q4, .ref q5, .ref q6, .ref q7, .int (nI 15), .ref q9, .int 0, .ref q11, .ref q12, .ref q13, .ref q14, .ref q15, .ref q16, .ref q17, .ref q18, .ref q19, .ref q20, .int 0, .int 0, .ref q23, .ref q24, .int 0, .ref q26, .ref q27, .int 0, .ref q29]) hE hinX8 tyX8 tyX8_ok nmX8 pA29.1 rfl 29 (by decide) (List.mem_of_getElem? (i := 28) rfl) rfl hname rfl rfl rfl (Nat.le_of_ble_eq_true rfl) rfl dX8_init_185 ?_
  generalize ehB29 : x_up hA29 g (.inr (8, [.int 0, .int 0, .ref q2, .ref q3, .ref q4, .ref q5, .ref q6, .ref q7, .int (nI 15), .ref q9, .int 0, .ref q11, .ref q12, .ref q13, .ref q14, .ref q15, .ref q16, .ref q17, .ref q18, .ref q19, .ref q20, .int 0, .int 0, .ref q23, .ref q24, .int 0, .ref q26, .ref q27, .int 0, .ref q29])) = hB29
  have pB29 : pW G g [.int 0, .int 0, .ref q2, .ref q3, .ref q4, .ref q5, .ref q6, .ref q7, .int (nI 15), .ref q9, .int 0, .ref q11, .ref q12, .ref q13, .ref q14, .ref q15, .ref q16, .ref q17, .ref q18, .ref q19, .ref q20, .int 0, .int 0, .ref q23, .ref q24, .int 0, .ref q26, .ref q27, .int 0, .ref q29] [(29, q29), (27, q27), (26, q26), (24, q24), (23, q23), (20, q20), (19, q19), (18, q18), (17, q17), (16, q16), (15, q15), (14, q14), (13, q13), (12, q12), (11, q11), (9, q9), (7, q7), (6, q6), (5, q5), (4, q4), (3, q3), (2, q2)] hB29 := by rw [← ehB29]; exact pW_put pA29 _
  clear pA29 ehB29
  obtain ⟨ma, ow, hma, hmr, hmo⟩ := pW_asc pB29 rfl
  have m30 : ma 30 = g := (hma (30, g) List.mem_cons_self).1
  have m29 : ma 29 = q29 := (hma (29, q29) (by simp)).1
  have m27 : ma 27 = q27 := (hma (27, q27) (by simp)).1
  have m26 : ma 26 = q26 := (hma (26, q26) (by simp)).1
  have m24 : ma 24 = q24 := (hma (24, q24) (by simp)).1
  have m23 : ma 23 = q23 := (hma (23, q23) (by simp)).1
  have m20 : ma 20 = q20 := (hma (20, q20) (by simp)).1
  have m19 : ma 19 = q19 := (hma (19, q19) (by simp)).1
  have m18 : ma 18 = q18 := (hma (18, q18) (by simp)).1
  have m17 : ma 17 = q17 := (hma (17, q17) (by simp)).1
  have m16 : ma 16 = q16 := (hma (16, q16) (by simp)).1
  have m15 : ma 15 = q15 := (hma (15, q15) (by simp)).1
  have m14 : ma 14 = q14 := (hma (14, q14) (by simp)).1
  have m13 : ma 13 = q13 := (hma (13, q13) (by simp)).1
  have m12 : ma 12 = q12 := (hma (12, q12) (by simp)).1
  have m11 : ma 11 = q11 := (hma (11, q11) (by simp)).1
  have m9 : ma 9 = q9 := (hma (9, q9) (by simp)).1
  have m7 : ma 7 = q7 := (hma (7, q7) (by simp)).1
  have m6 : ma 6 = q6 := (hma (6, q6) (by simp)).1
  have m5 : ma 5 = q5 := (hma (5, q5) (by simp)).1
  have m4 : ma 4 = q4 := (hma (4, q4) (by simp)).1
  have m3 : ma 3 = q3 := (hma (3, q3) (by simp)).1
  have m2 : ma 2 = q2 := (hma (2, q2) (by simp)).1
  have hM : mM G ma ow sc0 (fun _ _ => 0) hB29 := ⟨by unfold mObj; rw [m30, m2, m3, m4, m5, m6, m7, m9, m11, m12, m13, m14, m15, m16, m17, m18, m19, m20, m23, m24, m26, m27, m29]; exact pB29.1, hmr, hmo⟩
  clear m29 m27 m26 m24 m23 m20 m19 m18 m17 m16 m15 m14 m13 m12 m11 m9 m7 m6 m5 m4 m3 m2
  rw [← m30]
  clear pB29 hmr hmo hma
  refine x_iconst (v := nI 0) hE dX8_init_188 (by decide) ?_
  refine x_istore_n (L' := [some (.ref (ma 30)), some (.int (nI 0))]) hE dX8_init_189 rfl (Nat.le_of_ble_eq_true rfl) rfl ?_
  refine x_Leq (L' := [some (.ref (ma 30)), some (.int (nI 0))]) rfl ?_
  refine x_iload_n hE dX8_init_190 rfl ?_
  refine x_iconst (v := nI 3) hE dX8_init_191 (by decide) ?_
  refine x_icmp_ge (tgt := 210) hE dX8_init_192 (by decide) (fun c192 => absurd c192 (by decide)) (fun _ => ?_)
  refine x_aload_n hE dX8_init_195 rfl rfl ?_
  refine x_get hE hinX8 hM.o rfl 9 (by decide) (List.mem_of_getElem? (i := 13) rfl) rfl dX8_init_196 ?_
  refine x_iload_n hE dX8_init_199 rfl ?_
  refine x_sipush (v := nI 5000) hE dX8_init_200 (by decide) ?_
  refine x_ieq (y := nI 5000) (rfl) ?_
  refine x_iast (f' := (upd ((fun _ _ => 0) 9) 0 (nI 5000))) hE hM.a9 (vp_in_nI (by omega) (by decide)) (x_updN _ (by omega) _) dX8_init_203 ?_
  generalize hhh1 : x_up hB29 (ma 9) (.inl (g_c G 0, 3, .inl (upd ((fun _ _ => 0) 9) 0 (nI 5000)))) = h1
  have hM2 : mM G ma ow sc0 (set2 (fun _ _ => 0) 9 0 (nI 5000)) h1 := by rw [← hhh1]; exact hM.set (k := 9) (by decide) _
  refine x_iinc (v := nI (0 + 1)) (L' := [some (.ref (ma 30)), some (.int (nI (0 + 1)))]) hE dX8_init_204 rfl (nI_1 _) rfl ?_
  refine x_goto (tgt := 190) hE dX8_init_207 (by decide) ?_
  refine x_Leq (L' := [some (.ref (ma 30)), some (.int (nI 1))]) rfl ?_
  refine x_iload_n hE dX8_init_190 rfl ?_
  refine x_iconst (v := nI 3) hE dX8_init_191 (by decide) ?_
  refine x_icmp_ge (tgt := 210) hE dX8_init_192 (by decide) (fun c192 => absurd c192 (by decide)) (fun _ => ?_)
  refine x_aload_n hE dX8_init_195 rfl rfl ?_
  refine x_get hE hinX8 hM2.o rfl 9 (by decide) (List.mem_of_getElem? (i := 13) rfl) rfl dX8_init_196 ?_
  refine x_iload_n hE dX8_init_199 rfl ?_
  refine x_sipush (v := nI 5000) hE dX8_init_200 (by decide) ?_
  refine x_ieq (y := nI 5000) (rfl) ?_
  refine x_iast (f' := (upd ((set2 (fun _ _ => 0) 9 0 (nI 5000)) 9) 1 (nI 5000))) hE hM2.a9 (vp_in_nI (by omega) (by decide)) (x_updN _ (by omega) _) dX8_init_203 ?_
  generalize hhh3 : x_up h1 (ma 9) (.inl (g_c G 0, 3, .inl (upd ((set2 (fun _ _ => 0) 9 0 (nI 5000)) 9) 1 (nI 5000)))) = h3
  have hM4 : mM G ma ow sc0 (set2 (set2 (fun _ _ => 0) 9 0 (nI 5000)) 9 1 (nI 5000)) h3 := by rw [← hhh3]; exact hM2.set (k := 9) (by decide) _
  refine x_iinc (v := nI (1 + 1)) (L' := [some (.ref (ma 30)), some (.int (nI (1 + 1)))]) hE dX8_init_204 rfl (nI_1 _) rfl ?_
  refine x_goto (tgt := 190) hE dX8_init_207 (by decide) ?_
  refine x_Leq (L' := [some (.ref (ma 30)), some (.int (nI 2))]) rfl ?_
  refine x_iload_n hE dX8_init_190 rfl ?_
  refine x_iconst (v := nI 3) hE dX8_init_191 (by decide) ?_
  refine x_icmp_ge (tgt := 210) hE dX8_init_192 (by decide) (fun c192 => absurd c192 (by decide)) (fun _ => ?_)
  refine x_aload_n hE dX8_init_195 rfl rfl ?_
  refine x_get hE hinX8 hM4.o rfl 9 (by decide) (List.mem_of_getElem? (i := 13) rfl) rfl dX8_init_196 ?_
  refine x_iload_n hE dX8_init_199 rfl ?_
  refine x_sipush (v := nI 5000) hE dX8_init_200 (by decide) ?_
  refine x_ieq (y := nI 5000) (rfl) ?_
  refine x_iast (f' := (upd ((set2 (set2 (fun _ _ => 0) 9 0 (nI 5000)) 9 1 (nI 5000)) 9) 2 (nI 5000))) hE hM4.a9 (vp_in_nI (by omega) (by decide)) (x_updN _ (by omega) _) dX8_init_203 ?_
  generalize hhh5 : x_up h3 (ma 9) (.inl (g_c G 0, 3, .inl (upd ((set2 (set2 (fun _ _ => 0) 9 0 (nI 5000)) 9 1 (nI 5000)) 9) 2 (nI 5000)))) = h5
  have hM6 : mM G ma ow sc0 (set2 (set2 (set2 (fun _ _ => 0) 9 0 (nI 5000)) 9 1 (nI 5000)) 9 2 (nI 5000)) h5 := by rw [← hhh5]; exact hM4.set (k := 9) (by decide) _
  refine x_iinc (v := nI (2 + 1)) (L' := [some (.ref (ma 30)), some (.int (nI (2 + 1)))]) hE dX8_init_204 rfl (nI_1 _) rfl ?_
  refine x_goto (tgt := 190) hE dX8_init_207 (by decide) ?_
  refine x_Leq (L' := [some (.ref (ma 30)), some (.int (nI 3))]) rfl ?_
  refine x_iload_n hE dX8_init_190 rfl ?_
  refine x_iconst (v := nI 3) hE dX8_init_191 (by decide) ?_
  refine x_icmp_ge (tgt := 210) hE dX8_init_192 (by decide) (fun _ => ?_) (fun c192 => absurd (by decide) c192)
  exact x_vret hE dX8_init_210 (⟨rfl, ma, ow, rfl, hM6⟩)
