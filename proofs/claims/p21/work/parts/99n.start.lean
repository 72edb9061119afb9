/-! the law from its entry -/
set_option maxHeartbeats 4000000 in
set_option maxRecDepth 100000 in
/-- the law's walk, from the entry: true at its end, for every script -/
theorem whole_start {p : Program} {e : Env} {s : State} {m : MethodId} {below : List Frame} {meth : Method} {c : Code} (l : Launch) (hflags : l.flags = flags0) {b L : Nat} {xs : Nat → Int32} (hL : L ≤ 260) (C0 : lw_At p s m meth c b L xs) : W p l e room_1 s m #[Value.ref b] below meth c s.heap [] 0 0 (lw_Z below #[Value.ref b] s) (entryFrame m ([Value.ref b] : List Value).toArray 1) := by
  obtain ⟨hx, hb, hr, hml, hown, hts, hX, hbl, hlocks, hgv⟩ := id C0
  obtain ⟨D, cc, hK, hAO⟩ := st_K hts
  obtain ⟨G, hG⟩ : ∃ G : XG, G = (l, D, cc, fun q : Nat => s.heap.size ≤ q) := ⟨_, rfl⟩
  obtain ⟨F, hF⟩ : ∃ F : XF, F = (p, e, room_1, s, m, #[Value.ref b], below, meth, c) := ⟨_, rfl⟩
  have hE : x_E G F cL_law RL wsL_law 1 (some .boolean) room_1 := by rw [hG, hF]; exact ⟨hx, hb, hml, hown, fun w h => hts w (wsL_law_in w h), hK, ⟨hlocks, hAO⟩, hr, rfl, fun q h => h⟩
  have hT : x_TF G (f_s F) (f_s F).heap := by rw [hG, hF]; exact st_TF hflags hts hgv (fun a h => Nat.not_le.mpr h)
  have hZ : scr G b L xs (f_s F) (f_s F).heap := ⟨hT, by rw [hF]; exact hX, by rw [hF]; exact hbl, by rw [hG]; exact Nat.not_le.mpr hbl⟩
  have hLb : L < 2 ^ 31 := by omega
  suffices hmain : x_W G F (lw_Z below #[Value.ref b] s) 0 0 emp 0 [some (.ref b)] [] by
    rw [entry_eq m [Value.ref b] (fun v hv => by rw [List.mem_singleton.mp hv]; rfl) 1]
    have h1 := hmain s.heap [] _ (fun q e h => by cases h) (by rw [hF]; exact va_S.rf) (x_ent_loc (As := [Value.ref b]) (n := 1) (Nat.le_of_ble_eq_true rfl) (fun v hv => by rw [List.mem_singleton.mp hv]; rfl))
    rw [hG, hF] at h1
    exact h1
  refine x_aload_n hE dL_law_0 rfl rfl ?_
  refine x_iconst (v := nI 0) hE dL_law_1 (by decide) ?_
  refine w_callS (st := []) hE (zS_S G b L xs) hZ 2 (c_L_book G hLb (at_ := 0) (by decide)) gL_law_L_book rfl rfl rfl (by decide +kernel) ⟨(Nat.le_of_ble_eq_true rfl), (Nat.le_of_ble_eq_true rfl)⟩ rfl rfl dL_law_2 rfl (Nat.le_of_ble_eq_true rfl) ⟨(Nat.le_of_ble_eq_true rfl), (Nat.le_of_ble_eq_true rfl)⟩ (fun v h2 hp => ?_)
  obtain rfl := hp
  refine x_less (h2 := emp) (fun q e z => by cases z) ?_
  refine x_if_eq (tgt := 31) hE dL_law_5 (by decide) (fun c => absurd c (by decide)) (fun c => ?_)
  refine x_aload_n hE dL_law_8 rfl rfl ?_
  refine x_bipush (v := nI 116) hE dL_law_9 (by decide) ?_
  refine w_callS (st := []) hE (zS_S G b L xs) hZ 2 (c_L_book G hLb (at_ := 116) (by decide)) gL_law_L_book rfl rfl rfl (by decide +kernel) ⟨(Nat.le_of_ble_eq_true rfl), (Nat.le_of_ble_eq_true rfl)⟩ rfl rfl dL_law_11 rfl (Nat.le_of_ble_eq_true rfl) ⟨(Nat.le_of_ble_eq_true rfl), (Nat.le_of_ble_eq_true rfl)⟩ (fun v h2 hp => ?_)
  obtain rfl := hp
  refine x_less (h2 := emp) (fun q e z => by cases z) ?_
  refine x_if_eq (tgt := 31) hE dL_law_14 (by decide) (fun c => absurd c (by decide)) (fun c => ?_)
  refine x_aload_n hE dL_law_17 rfl rfl ?_
  refine x_sipush (v := nI 232) hE dL_law_18 (by decide) ?_
  refine w_callS (st := []) hE (zS_S G b L xs) hZ 2 (c_L_book G hLb (at_ := 232) (by decide)) gL_law_L_book rfl rfl rfl (by decide +kernel) ⟨(Nat.le_of_ble_eq_true rfl), (Nat.le_of_ble_eq_true rfl)⟩ rfl rfl dL_law_21 rfl (Nat.le_of_ble_eq_true rfl) ⟨(Nat.le_of_ble_eq_true rfl), (Nat.le_of_ble_eq_true rfl)⟩ (fun v h2 hp => ?_)
  obtain rfl := hp
  refine x_less (h2 := emp) (fun q e z => by cases z) ?_
  refine x_if_eq (tgt := 31) hE dL_law_24 (by decide) (fun c => absurd c (by decide)) (fun c => ?_)
  refine x_iconst (v := 1) hE dL_law_27 (by decide) ?_
  refine x_goto (tgt := 32) hE dL_law_28 (by decide) ?_
  intro H locs ls hH hS hL9
  rw [hG, hF] at hS ⊢
  refine va_forget (fun q hq => hS.2.2 q hq) ?_
  refine W.widen (k := 600086) (n := 7301442) (Nat.le_of_ble_eq_true rfl) (Nat.le_of_ble_eq_true rfl) ?_
  exact lw_ret (d0 := s.drawn) (Drawn.sameBut.refl s.drawn lw_cs) hx hb hr hlocks dL_law_32
