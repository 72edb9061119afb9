/-! the law from its entry -/
theorem up_jn {h : HM} {q : Nat} {e : va_E} : x_up h q e = jn (x_up emp q e) h := by
  funext a
  by_cases c : a = q
  · subst c
    rw [x_up_eq, jn_l (x_up_eq _ _ _)]
  · rw [x_up_ne c, jn_n (by rw [x_up_ne c]; rfl)]
theorem up_dj {h : HM} {q : Nat} {e : va_E} (hq : h q = none) : dj (x_up emp q e) h := fun a e' ha => by
  by_cases c : a = q
  · rw [c]; exact hq
  · rw [x_up_ne c] at ha
    cases ha
theorem up_oM {G : XG} {hM hC : HM} {oa : Nat} {u : Nat → Int64} (hn : jn hM hC oa = none) (d : dj hM hC) : x_up (jn hM hC) oa (.inl (g_c G 2, 1, .inr (.inl u))) = jn (jn hC (oM G oa u)) hM ∧ dj hC (oM G oa u) ∧ dj (jn hC (oM G oa u)) hM := by
  obtain ⟨n1, n2⟩ := jn_none.mp hn
  have d1 : dj hC (oM G oa u) := (up_dj n2).symm
  have d2 : dj (oM G oa u) hM := up_dj n1
  refine ⟨?_, d1, dj_j d.symm d2⟩
  rw [up_jn, jn_comm d, ← jn_assoc]
  congr 1
  exact (jn_comm d1).symm
set_option maxHeartbeats 4000000 in
set_option maxRecDepth 100000 in
/-- the law's walk, from the entry: true at its end, for every script -/
theorem whole_start {p : Program} {e : Env} {s : State} {m : MethodId} {below : List Frame} {meth : Method} {c : Code} (l : Launch) (hflags : l.flags = flags0) {b L : Nat} {xs : Nat → Int32} (hL : L ≤ 3072) (C0 : lw_At p s m meth c b L xs) : W p l e room_1 s m #[Value.ref b] below meth c s.heap [] 0 0 (lw_Z below #[Value.ref b] s) (entryFrame m ([Value.ref b] : List Value).toArray 7) := by
  obtain ⟨hx, hb, hr, hml, hown, hts, hX, hbl, hlocks, hgv⟩ := id C0
  obtain ⟨D, cc, hK, hAO⟩ := st_K hts
  obtain ⟨G, hG⟩ : ∃ G : XG, G = (l, D, cc, fun q : Nat => s.heap.size ≤ q) := ⟨_, rfl⟩
  obtain ⟨F, hF⟩ : ∃ F : XF, F = (p, e, room_1, s, m, #[Value.ref b], below, meth, c) := ⟨_, rfl⟩
  have hE : x_E G F cL_law RL wsL_law 7 (some .boolean) room_1 := by rw [hG, hF]; exact ⟨hx, hb, hml, hown, fun w h => hts w (wsL_law_in w h), hK, ⟨hlocks, hAO⟩, hr, rfl, fun q h => h⟩
  have hT : x_TF G (f_s F) (f_s F).heap := by rw [hG, hF]; exact st_TF hflags hts hgv (fun a h => Nat.not_le.mpr h)
  have hl : lwE G F b L xs := ⟨hE, hT, by rw [hF]; exact hX, by rw [hF]; exact hbl, by rw [hG]; exact Nat.not_le.mpr hbl, hL⟩
  suffices hmain : x_W G F (lw_Z below #[Value.ref b] s) 0 0 emp 0 [some (.ref b), none, none, none, none, none, none] [] by
    rw [entry_eq m [Value.ref b] (fun v hv => by rw [List.mem_singleton.mp hv]; rfl) 7]
    have h1 := hmain s.heap [] _ (fun q e h => by cases h) (by rw [hF]; exact va_S.rf) (x_ent_loc (As := [Value.ref b]) (n := 7) (Nat.le_of_ble_eq_true rfl) (fun v hv => by rw [List.mem_singleton.mp hv]; rfl))
    rw [hG, hF] at h1
    exact h1
  have hend : ∀ (xa m0 oa k : Nat) (S : PS) (h : HM), k ≤ 512 → lI G xa m0 oa k S h → x_W G F (lw_Z below #[Value.ref b] s) (CC k S) (SS k S) h 1281 [some (.ref b), some (.ref xa), some (.ref m0), some (.ref oa), some (.int (nI (6 * k))), none, none] [] := by
    intro xa m0 oa k S h hk hI H locs ls hH hS hL9
    have hcap := (lI_k hI).cap
    rw [hG, hF] at hS ⊢
    refine va_forget (fun q hq => hS.2.2 q hq) ?_
    refine W.widen (k := 601024) (n := 7293034) (by unfold CC; omega) (by unfold SS; omega) ?_
    refine lv_iconst (v := 1) hx hb dL_law_1281 (by decide) ?_
    exact lw_ret (d0 := s.drawn) (Drawn.sameBut.refl s.drawn lw_cs) hx hb hr hlocks dL_law_1282
  refine x_new (ci := 7) (fs := [.null, .null, .null, .null, .null, .null, .null, .int 0, .int 0, .int 0]) hE inlX7 tyX7 tyX7_ok (List.mem_of_getElem? (i := 0) rfl) (List.mem_of_getElem? (i := 1) rfl) (List.mem_of_getElem? (i := 2) rfl) rfl (fun j hj => by rcases (show j = 0 ∨ j = 1 ∨ j = 2 ∨ j = 3 ∨ j = 4 ∨ j = 5 ∨ j = 6 ∨ j = 7 ∨ j = 8 ∨ j = 9 by omega) with rfl | rfl | rfl | rfl | rfl | rfl | rfl | rfl | rfl | rfl <;> rfl) (Nat.le_of_ble_eq_true rfl) (Nat.le_of_ble_eq_true rfl) dL_law_0 (fun xa hxa => ?_)
  refine x_dup hE dL_law_3 rfl ?_
  have hci : ∀ A : Nat → Prop, x_M (reG G A) yX7_init wsX7_init ({ frames := 3, cells := 38, slots := 1741, locals := 61 } : Room) [.ref xa] (x_up emp xa (.inr (7, [.null, .null, .null, .null, .null, .null, .null, .int 0, .int 0, .int 0]))) (fun v h' => v = none ∧ ∃ (ad ow : Nat → Nat) (eA : Nat) (P1 P2 : List Nat), ad 0 = xa ∧ cW G ad ow eA [] P1 (fun _ => (none, 0, -1)) [] P2 (fun _ => (none, 0, -1)) [] PS0 h') 38 1741 := fun A => c_X7_init (reG G A) (x_up_eq _ _ _)
  refine x_heq (jn_e _).symm ?_
  refine z_callI (st := [.ref xa]) hE 0 hci (dj_e _) gL_law_X7_init rfl rfl rfl (List.mem_of_getElem? (i := 2) rfl) (List.mem_of_getElem? (i := 7) rfl) (List.mem_of_getElem? (i := 8) rfl) rfl (by decide +kernel) ⟨(Nat.le_of_ble_eq_true rfl), (Nat.le_of_ble_eq_true rfl)⟩ rfl rfl dL_law_4 rfl (Nat.le_of_ble_eq_true rfl) ⟨(Nat.le_of_ble_eq_true rfl), (Nat.le_of_ble_eq_true rfl)⟩ (fun v hC hp dC0 => ?_)
  obtain ⟨rfl, ad, ow, eA, P1, P2, had, hW⟩ := hp
  have hb0 : bW G xa PS0 hC := ⟨ad, ow, eA, [], P1, _, [], P2, _, [], had, hW⟩
  refine x_heq (jn_e hC) ?_
  refine x_astore_n (L' := [some (.ref b), some (.ref xa), none, none, none, none, none]) hE dL_law_7 rfl (Nat.le_of_ble_eq_true rfl) rfl rfl ?_
  refine x_new (ci := 8) (fs := [.int 0, .int 0, .null, .null, .null, .null, .null, .null, .int 0, .null, .int 0, .null, .null, .null, .null, .null, .null, .null, .null, .null, .null, .int 0, .int 0, .null, .null, .int 0, .null, .null, .int 0, .null]) hE inlX8 tyX8 tyX8_ok (List.mem_of_getElem? (i := 3) rfl) (List.mem_of_getElem? (i := 4) rfl) (List.mem_of_getElem? (i := 5) rfl) rfl (fun j hj => by rcases (show j = 0 ∨ j = 1 ∨ j = 2 ∨ j = 3 ∨ j = 4 ∨ j = 5 ∨ j = 6 ∨ j = 7 ∨ j = 8 ∨ j = 9 ∨ j = 10 ∨ j = 11 ∨ j = 12 ∨ j = 13 ∨ j = 14 ∨ j = 15 ∨ j = 16 ∨ j = 17 ∨ j = 18 ∨ j = 19 ∨ j = 20 ∨ j = 21 ∨ j = 22 ∨ j = 23 ∨ j = 24 ∨ j = 25 ∨ j = 26 ∨ j = 27 ∨ j = 28 ∨ j = 29 by omega) with rfl | rfl | rfl | rfl | rfl | rfl | rfl | rfl | rfl | rfl | rfl | rfl | rfl | rfl | rfl | rfl | rfl | rfl | rfl | rfl | rfl | rfl | rfl | rfl | rfl | rfl | rfl | rfl | rfl | rfl <;> rfl) (Nat.le_of_ble_eq_true rfl) (Nat.le_of_ble_eq_true rfl) dL_law_8 (fun m0 hm0 => ?_)
  refine x_dup hE dL_law_11 rfl ?_
  have hci8 : ∀ A : Nat → Prop, x_M (reG G A) yX8_init wsX8_init ({ frames := 1, cells := 22, slots := 2495, locals := 20 } : Room) [.ref m0] (x_up emp m0 (.inr (8, [.int 0, .int 0, .null, .null, .null, .null, .null, .null, .int 0, .null, .int 0, .null, .null, .null, .null, .null, .null, .null, .null, .null, .null, .int 0, .int 0, .null, .null, .int 0, .null, .null, .int 0, .null]))) (fun v h' => v = none ∧ ∃ ma ow : Nat → Nat, ma 30 = m0 ∧ mM G ma ow sc0 ar0 h') 22 2495 := fun A => c_X8_init (reG G A) (x_up_eq _ _ _)
  refine x_heq up_jn ?_
  refine z_callI (st := [.ref m0]) hE 0 hci8 (up_dj hm0) gL_law_X8_init rfl rfl rfl (List.mem_of_getElem? (i := 5) rfl) (List.mem_of_getElem? (i := 71) rfl) (List.mem_of_getElem? (i := 72) rfl) rfl (by decide +kernel) ⟨(Nat.le_of_ble_eq_true rfl), (Nat.le_of_ble_eq_true rfl)⟩ rfl rfl dL_law_12 rfl (Nat.le_of_ble_eq_true rfl) ⟨(Nat.le_of_ble_eq_true rfl), (Nat.le_of_ble_eq_true rfl)⟩ (fun v hM hp dM0 => ?_)
  obtain ⟨rfl, ma, ow8, hma, hMM⟩ := hp
  refine x_astore_n (L' := [some (.ref b), some (.ref xa), some (.ref m0), none, none, none, none]) hE dL_law_15 rfl (Nat.le_of_ble_eq_true rfl) rfl rfl ?_
  refine x_iconst (v := nI 1) hE dL_law_16 (by decide) ?_
  refine x_newa (t0 := 2) (cA := g_c G 2) (a0 := (1, .inr (.inl (fun _ => 0)))) hE (List.mem_of_getElem? (i := 6) rfl) rfl rfl (fun C e => by cases e) (fun cA => rfl) (nI_pos (by decide)) (nI_clamp (by decide)) (by decide) (Nat.le_of_ble_eq_true rfl) (Nat.le_of_ble_eq_true rfl) dL_law_17 (fun oa hoa => ?_)
  obtain ⟨e9, d1, d2⟩ := up_oM (G := G) (u := fun _ => 0) hoa dM0
  refine x_heq e9 ?_
  refine x_astore_n (L' := [some (.ref b), some (.ref xa), some (.ref m0), some (.ref oa), none, none, none]) hE dL_law_19 rfl (Nat.le_of_ble_eq_true rfl) rfl rfl ?_
  refine x_iconst (v := nI 0) hE dL_law_20 (by decide) ?_
  refine x_istore (L' := [some (.ref b), some (.ref xa), some (.ref m0), some (.ref oa), some (.int (nI 0)), none, none]) hE dL_law_21 (Nat.le_of_ble_eq_true rfl) rfl ?_
  refine x_widen (k := CC 0 PS0) (n := SS 0 PS0) (Nat.le_of_ble_eq_true rfl) (Nat.le_of_ble_eq_true rfl) ?_
  exact law_loop G hl (hend xa m0 oa) 0 (by decide) PS0 _ ⟨hC, hM, fun _ => 0, ma, ow8, sc0, ar0, 0, rfl, d1, d2, hb0, hma, hMM, mS_0, iI_0, by omega⟩