set_option maxHeartbeats 4000000 in
set_option maxRecDepth 100000 in
theorem c_X5_hang (G : XG) {r la q c : Nat} {h : HM} {f : Nat → Option Nat} {ba p0 p1 p2 p3 p4 p5 : Int32} (hr : h r = some (.inr (5, [.ref la, .int (nI c), .int ba]))) (hla : h la = some (.inl (g_c G 3, 16, .inr (.inr (.inr (.inr f)))))) (hq : h q = some (.inr (4, [.int p0, .int p1, .int p2, .int p3, .int p4, .int p5]))) (hc : c < 16) : x_M G yX5_hang wsX5_hang ({ frames := 0, cells := 0, slots := 0, locals := 0 } : Room) [.ref r, .ref q] h (x_is (some (.int (nI c))) (x_up (x_up h la (.inl (g_c G 3, 16, .inr (.inr (.inr (.inr (va_up f c (some q)))))))) r (.inr (5, [.ref la, .int (nI (c + 1)), .int ba])))) 0 0 := by
  refine x_M.of (cc := cX5_hang) (maxL := 2) (ret := (some .int)) (ent := [some (.ref r), some (.ref q)]) (by decide +kernel) rfl (Nat.le_of_ble_eq_true rfl) rfl rfl ?_
  intro F hE hname
  have hinX5 : ∀ w ∈ wsX50, w ∈ wsX5_hang := by decide +kernel
  refine x_aload_n hE dX5_hang_0 rfl rfl ?_
  refine x_get hE hinX5 hr rfl 1 (by decide) (List.mem_of_getElem? (i := 1) rfl) rfl dX5_hang_1 ?_
  refine x_aload_n hE dX5_hang_4 rfl rfl ?_
  refine x_get hE hinX5 hr rfl 0 (by decide) (List.mem_of_getElem? (i := 2) rfl) rfl dX5_hang_5 ?_
  refine x_alen (t0 := 3) hE hla rfl dX5_hang_8 ?_
  refine x_icmp_lt (tgt := 14) hE dX5_hang_9 (by decide) (fun c9 => ?_) (fun c9 => ?_)
  · replace c9 := x_nIlt c9 (by omega) (by omega)
    refine x_aload_n hE dX5_hang_14 rfl rfl ?_
    refine x_get hE hinX5 hr rfl 0 (by decide) (List.mem_of_getElem? (i := 2) rfl) rfl dX5_hang_15 ?_
    refine x_aload_n hE dX5_hang_18 rfl rfl ?_
    refine x_get hE hinX5 hr rfl 1 (by decide) (List.mem_of_getElem? (i := 1) rfl) rfl dX5_hang_19 ?_
    refine x_aload_n hE dX5_hang_22 rfl rfl ?_
    refine x_aast (t0 := 3) (f' := va_up f c (some q)) hE hla rfl hq rfl (vp_in_nI (by omega) (by decide)) (x_upN _ (by omega) _) dX5_hang_23 ?_
    generalize hhh1 : x_up h la (.inl (g_c G 3, 16, .inr (.inr (.inr (.inr (va_up f c (some q))))))) = h1
    have hc2 : h1 la = some (.inl (g_c G 3, 16, .inr (.inr (.inr (.inr (va_up f c (some q))))))) := by rw [← hhh1]; exact x_up_eq _ _ _
    have hc3 : h1 r = some (.inr (5, [.ref la, .int (nI c), .int ba])) := by rw [← hhh1, x_up_ne (fun e => by have z1 := hr; rw [e, hla] at z1; simp [lampE] at z1)]; exact hr
    have hc4 : h1 q = some (.inr (4, [.int p0, .int p1, .int p2, .int p3, .int p4, .int p5])) := by rw [← hhh1, x_up_ne (fun e => by have z1 := hq; rw [e, hla] at z1; simp [lampE] at z1)]; exact hq
    refine x_aload_n hE dX5_hang_24 rfl rfl ?_
    refine x_dup hE dX5_hang_25 rfl ?_
    refine x_get hE hinX5 hc3 rfl 1 (by decide) (List.mem_of_getElem? (i := 1) rfl) rfl dX5_hang_26 ?_
    refine x_iconst (v := nI 1) hE dX5_hang_29 (by decide) ?_
    refine x_iadd hE dX5_hang_30 ?_
    refine x_ieq (y := nI (c + 1)) (nI_1 _) ?_
    refine x_put (fs' := [.ref la, .int (nI (c + 1)), .int ba]) hE hinX5 tyX5 tyX5_ok nmX5 hc3 rfl 1 (by decide) (List.mem_of_getElem? (i := 1) rfl) rfl rfl rfl (Nat.le_of_ble_eq_true rfl) rfl dX5_hang_31 ?_
    generalize hhh5 : x_up h1 r (.inr (5, [.ref la, .int (nI (c + 1)), .int ba])) = h5
    have hc6 : h5 r = some (.inr (5, [.ref la, .int (nI (c + 1)), .int ba])) := by rw [← hhh5]; exact x_up_eq _ _ _
    have hc7 : h5 la = some (.inl (g_c G 3, 16, .inr (.inr (.inr (.inr (va_up f c (some q))))))) := by rw [← hhh5, x_up_ne (fun e => by have z1 := hc2; rw [e, hc3] at z1; simp [lampE] at z1)]; exact hc2
    have hc8 : h5 q = some (.inr (4, [.int p0, .int p1, .int p2, .int p3, .int p4, .int p5])) := by rw [← hhh5, x_up_ne (fun e => by have z1 := hc4; rw [e, hc3] at z1; simp [lampE] at z1)]; exact hc4
    refine x_aload_n hE dX5_hang_34 rfl rfl ?_
    refine x_get hE hinX5 hc6 rfl 1 (by decide) (List.mem_of_getElem? (i := 1) rfl) rfl dX5_hang_35 ?_
    refine x_iconst (v := nI 1) hE dX5_hang_38 (by decide) ?_
    refine x_isub hE dX5_hang_39 ?_
    refine x_ieq (y := nI c) (nI_pred c) ?_
    exact x_iret hE dX5_hang_40 (⟨rfl, by rw [← hhh5, ← hhh1]⟩)
  · replace c9 := x_nInlt c9 (by omega) (by omega)
    omega

set_option maxHeartbeats 4000000 in
set_option maxRecDepth 100000 in
theorem c_X0_shinerFor (G : XG) {c tA sA vA : Nat} {h : HM} {nu so up dn de : Int32} {fo : Option Nat} (hc : h c = some (.inr (0, [.int nu, .int so, .int up, .int dn, .ref tA, .ref sA, .ref vA, va_rf fo, .int de]))) {sf : Nat → Int32} (hsA : h sA = some (.inl (g_c G 0, 16, .inl sf))) {k : Nat} (hk : k < 16) : x_M G yX0_shinerFor wsX0_shinerFor ({ frames := 0, cells := 0, slots := 0, locals := 0 } : Room) [.ref c, .int (nI k)] h (x_is (some (.int (sf k))) h) 0 0 := by
  refine x_M.of (cc := cX0_shinerFor) (maxL := 2) (ret := (some .int)) (ent := [some (.ref c), some (.int (nI k))]) (by decide +kernel) rfl (Nat.le_of_ble_eq_true rfl) rfl rfl ?_
  intro F hE hname
  have hinX0 : ∀ w ∈ wsX00, w ∈ wsX0_shinerFor := by decide +kernel
  refine x_iload_n hE dX0_shinerFor_0 rfl ?_
  refine x_if_lt (tgt := 22) hE dX0_shinerFor_1 (by decide) (fun c1 => ?_) (fun c1 => ?_)
  · exact absurd c1 (nI_pos (by omega))
  · refine x_iload_n hE dX0_shinerFor_4 rfl ?_
    refine x_aload_n hE dX0_shinerFor_5 rfl rfl ?_
    refine x_get hE hinX0 hc rfl 5 (by decide) (List.mem_of_getElem? (i := 1) rfl) rfl dX0_shinerFor_6 ?_
    refine x_alen (t0 := 0) hE hsA rfl dX0_shinerFor_9 ?_
    refine x_icmp_ge (tgt := 22) hE dX0_shinerFor_10 (by decide) (fun c10 => ?_) (fun c10 => ?_)
    · replace c10 := x_nIle c10 (by omega) (by omega)
      omega
    · replace c10 := x_nInle c10 (by omega) (by omega)
      refine x_aload_n hE dX0_shinerFor_13 rfl rfl ?_
      refine x_get hE hinX0 hc rfl 5 (by decide) (List.mem_of_getElem? (i := 1) rfl) rfl dX0_shinerFor_14 ?_
      refine x_iload_n hE dX0_shinerFor_17 rfl ?_
      refine x_iald (v := sf k) hE hsA (vp_in_nI (by omega) (by decide)) (x_atN _ (by omega)) dX0_shinerFor_18 ?_
      refine x_goto (tgt := 23) hE dX0_shinerFor_19 (by decide) ?_
      exact x_iret hE dX0_shinerFor_23 (⟨rfl, rfl⟩)

set_option maxHeartbeats 4000000 in
set_option maxRecDepth 100000 in
theorem c_X0_levelFor (G : XG) {c tA sA vA : Nat} {h : HM} {nu so up dn de : Int32} {fo : Option Nat} (hc : h c = some (.inr (0, [.int nu, .int so, .int up, .int dn, .ref tA, .ref sA, .ref vA, va_rf fo, .int de]))) {vf : Nat → Int32} (hvA : h vA = some (.inl (g_c G 0, 16, .inl vf))) {k : Nat} (hk : k < 16) : x_M G yX0_levelFor wsX0_levelFor ({ frames := 0, cells := 0, slots := 0, locals := 0 } : Room) [.ref c, .int (nI k)] h (x_is (some (.int (vf k))) h) 0 0 := by
  refine x_M.of (cc := cX0_levelFor) (maxL := 2) (ret := (some .int)) (ent := [some (.ref c), some (.int (nI k))]) (by decide +kernel) rfl (Nat.le_of_ble_eq_true rfl) rfl rfl ?_
  intro F hE hname
  have hinX0 : ∀ w ∈ wsX00, w ∈ wsX0_levelFor := by decide +kernel
  refine x_iload_n hE dX0_levelFor_0 rfl ?_
  refine x_if_lt (tgt := 22) hE dX0_levelFor_1 (by decide) (fun c1 => ?_) (fun c1 => ?_)
  · exact absurd c1 (nI_pos (by omega))
  · refine x_iload_n hE dX0_levelFor_4 rfl ?_
    refine x_aload_n hE dX0_levelFor_5 rfl rfl ?_
    refine x_get hE hinX0 hc rfl 6 (by decide) (List.mem_of_getElem? (i := 1) rfl) rfl dX0_levelFor_6 ?_
    refine x_alen (t0 := 0) hE hvA rfl dX0_levelFor_9 ?_
    refine x_icmp_ge (tgt := 22) hE dX0_levelFor_10 (by decide) (fun c10 => ?_) (fun c10 => ?_)
    · replace c10 := x_nIle c10 (by omega) (by omega)
      omega
    · replace c10 := x_nInle c10 (by omega) (by omega)
      refine x_aload_n hE dX0_levelFor_13 rfl rfl ?_
      refine x_get hE hinX0 hc rfl 6 (by decide) (List.mem_of_getElem? (i := 1) rfl) rfl dX0_levelFor_14 ?_
      refine x_iload_n hE dX0_levelFor_17 rfl ?_
      refine x_iald (v := vf k) hE hvA (vp_in_nI (by omega) (by decide)) (x_atN _ (by omega)) dX0_levelFor_18 ?_
      refine x_goto (tgt := 23) hE dX0_levelFor_19 (by decide) ?_
      exact x_iret hE dX0_levelFor_23 (⟨rfl, rfl⟩)

set_option maxHeartbeats 4000000 in
set_option maxRecDepth 100000 in
theorem c_X0_tell (G : XG) {c tA sA vA : Nat} {h : HM} {nu so up dn de : Int32} {fo : Option Nat} (hc : h c = some (.inr (0, [.int nu, .int so, .int up, .int dn, .ref tA, .ref sA, .ref vA, va_rf fo, .int de]))) {tf : Nat → Int32} (htA : h tA = some (.inl (g_c G 0, 16, .inl tf))) {k : Nat} {x : Int32} (hk : k < 16) : x_M G yX0_tell wsX0_tell ({ frames := 0, cells := 0, slots := 0, locals := 0 } : Room) [.ref c, .int (nI k), .int x] h (x_is (some (.int (tf k))) (x_up h tA (.inl (g_c G 0, 16, .inl (upd tf k x))))) 0 0 := by
  refine x_M.of (cc := cX0_tell) (maxL := 4) (ret := (some .int)) (ent := [some (.ref c), some (.int (nI k)), some (.int x), none]) (by decide +kernel) rfl (Nat.le_of_ble_eq_true rfl) rfl rfl ?_
  intro F hE hname
  have hinX0 : ∀ w ∈ wsX00, w ∈ wsX0_tell := by decide +kernel
  refine x_iload_n hE dX0_tell_0 rfl ?_
  refine x_if_lt (tgt := 13) hE dX0_tell_1 (by decide) (fun c1 => ?_) (fun c1 => ?_)
  · exact absurd c1 (nI_pos (by omega))
  · refine x_iload_n hE dX0_tell_4 rfl ?_
    refine x_aload_n hE dX0_tell_5 rfl rfl ?_
    refine x_get hE hinX0 hc rfl 4 (by decide) (List.mem_of_getElem? (i := 1) rfl) rfl dX0_tell_6 ?_
    refine x_alen (t0 := 0) hE htA rfl dX0_tell_9 ?_
    refine x_icmp_lt (tgt := 15) hE dX0_tell_10 (by decide) (fun c10 => ?_) (fun c10 => ?_)
    · replace c10 := x_nIlt c10 (by omega) (by omega)
      refine x_aload_n hE dX0_tell_15 rfl rfl ?_
      refine x_get hE hinX0 hc rfl 4 (by decide) (List.mem_of_getElem? (i := 1) rfl) rfl dX0_tell_16 ?_
      refine x_iload_n hE dX0_tell_19 rfl ?_
      refine x_iald (v := tf k) hE htA (vp_in_nI (by omega) (by decide)) (x_atN _ (by omega)) dX0_tell_20 ?_
      refine x_istore_n (L' := [some (.ref c), some (.int (nI k)), some (.int x), some (.int (tf k))]) hE dX0_tell_21 rfl (Nat.le_of_ble_eq_true rfl) rfl ?_
      refine x_aload_n hE dX0_tell_22 rfl rfl ?_
      refine x_get hE hinX0 hc rfl 4 (by decide) (List.mem_of_getElem? (i := 1) rfl) rfl dX0_tell_23 ?_
      refine x_iload_n hE dX0_tell_26 rfl ?_
      refine x_iload_n hE dX0_tell_27 rfl ?_
      refine x_iast (f' := upd tf k x) hE htA (vp_in_nI (by omega) (by decide)) (x_updN _ (by omega) _) dX0_tell_28 ?_
      generalize hhh1 : x_up h tA (.inl (g_c G 0, 16, .inl (upd tf k x))) = h1
      have hc2 : h1 tA = some (.inl (g_c G 0, 16, .inl (upd tf k x))) := by rw [← hhh1]; exact x_up_eq _ _ _
      have hc3 : h1 c = some (.inr (0, [.int nu, .int so, .int up, .int dn, .ref tA, .ref sA, .ref vA, va_rf fo, .int de])) := by rw [← hhh1, x_up_ne (fun e => by have z1 := hc; rw [e, htA] at z1; simp [lampE] at z1)]; exact hc
      refine x_iload_n hE dX0_tell_29 rfl ?_
      exact x_iret hE dX0_tell_30 (⟨rfl, by rw [← hhh1]⟩)
    · replace c10 := x_nInlt c10 (by omega) (by omega)
      omega

set_option maxHeartbeats 4000000 in
set_option maxRecDepth 100000 in
theorem c_X0_canSpare (G : XG) {c tA sA vA : Nat} {h : HM} {nu so up dn de : Int32} {fo : Option Nat} (hc : h c = some (.inr (0, [.int nu, .int so, .int up, .int dn, .ref tA, .ref sA, .ref vA, va_rf fo, .int de]))) {tf : Nat → Int32} (htA : h tA = some (.inl (g_c G 0, 16, .inl tf))) {vf : Nat → Int32} (hvA : h vA = some (.inl (g_c G 0, 16, .inl vf))) {k : Nat} (hk : k < 16) : x_M G yX0_canSpare wsX0_canSpare ({ frames := 0, cells := 0, slots := 0, locals := 0 } : Room) [.ref c, .int (nI k)] h (x_is (some (.int (b2i (decide (tf k = 0) && decide (vf k = 0))))) h) 0 0 := by
  refine x_M.of (cc := cX0_canSpare) (maxL := 2) (ret := (some .boolean)) (ent := [some (.ref c), some (.int (nI k))]) (by decide +kernel) rfl (Nat.le_of_ble_eq_true rfl) rfl rfl ?_
  intro F hE hname
  have hinX0 : ∀ w ∈ wsX00, w ∈ wsX0_canSpare := by decide +kernel
  refine x_iload_n hE dX0_canSpare_0 rfl ?_
  refine x_if_lt (tgt := 32) hE dX0_canSpare_1 (by decide) (fun c1 => ?_) (fun c1 => ?_)
  · exact absurd c1 (nI_pos (by omega))
  · refine x_iload_n hE dX0_canSpare_4 rfl ?_
    refine x_bipush (v := nI 16) hE dX0_canSpare_5 (by decide) ?_
    refine x_icmp_ge (tgt := 32) hE dX0_canSpare_7 (by decide) (fun c7 => ?_) (fun c7 => ?_)
    · replace c7 := x_nIle c7 (by omega) (by omega)
      omega
    · replace c7 := x_nInle c7 (by omega) (by omega)
      refine x_aload_n hE dX0_canSpare_10 rfl rfl ?_
      refine x_get hE hinX0 hc rfl 4 (by decide) (List.mem_of_getElem? (i := 1) rfl) rfl dX0_canSpare_11 ?_
      refine x_iload_n hE dX0_canSpare_14 rfl ?_
      refine x_iald (v := tf k) hE htA (vp_in_nI (by omega) (by decide)) (x_atN _ (by omega)) dX0_canSpare_15 ?_
      refine x_if_ne (tgt := 32) hE dX0_canSpare_16 (by decide) (fun c16 => ?_) (fun c16 => ?_)
      · refine x_iconst (v := nI 0) hE dX0_canSpare_32 (by decide) ?_
        exact x_zret hE (Or.inl rfl) dX0_canSpare_33 (⟨x_zf (by simp_all), rfl⟩)
      · refine x_aload_n hE dX0_canSpare_19 rfl rfl ?_
        refine x_get hE hinX0 hc rfl 6 (by decide) (List.mem_of_getElem? (i := 2) rfl) rfl dX0_canSpare_20 ?_
        refine x_iload_n hE dX0_canSpare_23 rfl ?_
        refine x_iald (v := vf k) hE hvA (vp_in_nI (by omega) (by decide)) (x_atN _ (by omega)) dX0_canSpare_24 ?_
        refine x_if_ne (tgt := 32) hE dX0_canSpare_25 (by decide) (fun c25 => ?_) (fun c25 => ?_)
        · refine x_iconst (v := nI 0) hE dX0_canSpare_32 (by decide) ?_
          exact x_zret hE (Or.inl rfl) dX0_canSpare_33 (⟨x_zf (by simp_all), rfl⟩)
        · refine x_iconst (v := nI 1) hE dX0_canSpare_28 (by decide) ?_
          refine x_goto (tgt := 33) hE dX0_canSpare_29 (by decide) ?_
          exact x_zret hE (Or.inr rfl) dX0_canSpare_33 (⟨x_zt (by simp_all), rfl⟩)

set_option maxHeartbeats 4000000 in
set_option maxRecDepth 100000 in
theorem c_X1_init (G : XG) {g : Nat} {h : HM} (hg : h g = some (.inr (1, [.null, .int 0, .int 0]))) : x_M G yX1_init wsX1_init ({ frames := 1, cells := 0, slots := 0, locals := 20 } : Room) [.ref g] h (x_is none (x_up h g (.inr (1, [.null, .int 0, .int (-1)])))) 0 0 := by
  refine x_M.of (cc := cX1_init) (maxL := 1) (ret := none) (ent := [some (.ref g)]) (by decide +kernel) rfl (Nat.le_of_ble_eq_true rfl) rfl rfl ?_
  intro F hE hname
  have hinX1 : ∀ w ∈ wsX10, w ∈ wsX1_init := by decide +kernel
  refine x_aload_n hE dX1_init_0 rfl rfl ?_
  refine x_objinit hE (List.mem_of_getElem? (i := 1) rfl) (List.mem_of_getElem? (i := 2) rfl) (List.mem_of_getElem? (i := 3) rfl) rfl (Nat.le_of_ble_eq_true rfl) (Nat.le_of_ble_eq_true rfl) dX1_init_1 ?_
  refine x_aload_n hE dX1_init_4 rfl rfl ?_
  refine x_iconst (v := (-1 : Int32)) hE dX1_init_5 (by decide) ?_
  refine x_put (fs' := [.null, .int 0, .int (-1 : Int32)]) hE hinX1 tyX1 tyX1_ok nmX1 hg rfl 2 (by decide) (List.mem_of_getElem? (i := 4) rfl) rfl rfl rfl (Nat.le_of_ble_eq_true rfl) rfl dX1_init_6 ?_
  generalize hhh1 : x_up h g (.inr (1, [.null, .int 0, .int (-1 : Int32)])) = h1
  have hc2 : h1 g = some (.inr (1, [.null, .int 0, .int (-1 : Int32)])) := by rw [← hhh1]; exact x_up_eq _ _ _
  exact x_vret hE dX1_init_9 (⟨rfl, by rw [← hhh1]⟩)

set_option maxHeartbeats 4000000 in
set_option maxRecDepth 100000 in
theorem c_X1_begin (G : XG) {g : Nat} {h : HM} {cu : Option Nat} {we re : Int32} (hg : h g = some (.inr (1, [va_rf cu, .int we, .int re]))) {b : Nat} {now : Int32} : x_M G yX1_begin wsX1_begin ({ frames := 0, cells := 0, slots := 0, locals := 0 } : Room) [.ref g, .ref b, .int now] h (x_is none (x_up h g (.inr (1, [.ref b, .int now, .int (-1)])))) 0 0 := by
  refine x_M.of (cc := cX1_begin) (maxL := 3) (ret := none) (ent := [some (.ref g), some (.ref b), some (.int now)]) (by decide +kernel) rfl (Nat.le_of_ble_eq_true rfl) rfl rfl ?_
  intro F hE hname
  have hinX1 : ∀ w ∈ wsX10, w ∈ wsX1_begin := by decide +kernel
  refine x_aload_n hE dX1_begin_0 rfl rfl ?_
  refine x_aload_n hE dX1_begin_1 rfl rfl ?_
  refine x_put (fs' := [.ref b, .int we, .int re]) hE hinX1 tyX1 tyX1_ok nmX1 hg rfl 0 (by decide) (List.mem_of_getElem? (i := 1) rfl) rfl rfl rfl (Nat.le_of_ble_eq_true rfl) rfl dX1_begin_2 ?_
  generalize hhh1 : x_up h g (.inr (1, [.ref b, .int we, .int re])) = h1
  have hc2 : h1 g = some (.inr (1, [.ref b, .int we, .int re])) := by rw [← hhh1]; exact x_up_eq _ _ _
  refine x_aload_n hE dX1_begin_5 rfl rfl ?_
  refine x_iload_n hE dX1_begin_6 rfl ?_
  refine x_put (fs' := [.ref b, .int now, .int re]) hE hinX1 tyX1 tyX1_ok nmX1 hc2 rfl 1 (by decide) (List.mem_of_getElem? (i := 2) rfl) rfl rfl rfl (Nat.le_of_ble_eq_true rfl) rfl dX1_begin_7 ?_
  generalize hhh3 : x_up h1 g (.inr (1, [.ref b, .int now, .int re])) = h3
  have hc4 : h3 g = some (.inr (1, [.ref b, .int now, .int re])) := by rw [← hhh3]; exact x_up_eq _ _ _
  refine x_aload_n hE dX1_begin_10 rfl rfl ?_
  refine x_iconst (v := (-1 : Int32)) hE dX1_begin_11 (by decide) ?_
  refine x_put (fs' := [.ref b, .int now, .int (-1 : Int32)]) hE hinX1 tyX1 tyX1_ok nmX1 hc4 rfl 2 (by decide) (List.mem_of_getElem? (i := 3) rfl) rfl rfl rfl (Nat.le_of_ble_eq_true rfl) rfl dX1_begin_12 ?_
  generalize hhh5 : x_up h3 g (.inr (1, [.ref b, .int now, .int (-1 : Int32)])) = h5
  have hc6 : h5 g = some (.inr (1, [.ref b, .int now, .int (-1 : Int32)])) := by rw [← hhh5]; exact x_up_eq _ _ _
  exact x_vret hE dX1_begin_15 (⟨rfl, by rw [← hhh5, ← hhh3, ← hhh1]; rw [x_up_up, x_up_up]⟩)

set_option maxHeartbeats 4000000 in
set_option maxRecDepth 100000 in
theorem c_X1_fall (G : XG) {g : Nat} {h : HM} {cu : Option Nat} {we re : Int32} (hg : h g = some (.inr (1, [va_rf cu, .int we, .int re]))) {now : Int32} : x_M G yX1_fall wsX1_fall ({ frames := 0, cells := 0, slots := 0, locals := 0 } : Room) [.ref g, .int now] h (x_is none (x_up h g (.inr (1, [va_rf cu, .int we, .int now])))) 0 0 := by
  refine x_M.of (cc := cX1_fall) (maxL := 2) (ret := none) (ent := [some (.ref g), some (.int now)]) (by decide +kernel) rfl (Nat.le_of_ble_eq_true rfl) rfl rfl ?_
  intro F hE hname
  have hinX1 : ∀ w ∈ wsX10, w ∈ wsX1_fall := by decide +kernel
  refine x_aload_n hE dX1_fall_0 rfl rfl ?_
  refine x_iload_n hE dX1_fall_1 rfl ?_
  refine x_put (fs' := [va_rf cu, .int we, .int now]) hE hinX1 tyX1 tyX1_ok nmX1 hg rfl 2 (by decide) (List.mem_of_getElem? (i := 1) rfl) rfl rfl rfl (Nat.le_of_ble_eq_true rfl) rfl dX1_fall_2 ?_
  generalize hhh1 : x_up h g (.inr (1, [va_rf cu, .int we, .int now])) = h1
  have hc2 : h1 g = some (.inr (1, [va_rf cu, .int we, .int now])) := by rw [← hhh1]; exact x_up_eq _ _ _
  exact x_vret hE dX1_fall_5 (⟨rfl, by rw [← hhh1]⟩)

set_option maxHeartbeats 4000000 in
set_option maxRecDepth 100000 in
theorem c_X1_isReleased (G : XG) {g : Nat} {h : HM} {cu : Option Nat} {we re : Int32} (hg : h g = some (.inr (1, [va_rf cu, .int we, .int re]))) : x_M G yX1_isReleased wsX1_isReleased ({ frames := 0, cells := 0, slots := 0, locals := 0 } : Room) [.ref g] h (x_is (some (.int (b2i (!decide (re = -1))))) h) 0 0 := by
  refine x_M.of (cc := cX1_isReleased) (maxL := 1) (ret := (some .boolean)) (ent := [some (.ref g)]) (by decide +kernel) rfl (Nat.le_of_ble_eq_true rfl) rfl rfl ?_
  intro F hE hname
  have hinX1 : ∀ w ∈ wsX10, w ∈ wsX1_isReleased := by decide +kernel
  refine x_aload_n hE dX1_isReleased_0 rfl rfl ?_
  refine x_get hE hinX1 hg rfl 2 (by decide) (List.mem_of_getElem? (i := 1) rfl) rfl dX1_isReleased_1 ?_
  refine x_iconst (v := (-1 : Int32)) hE dX1_isReleased_4 (by decide) ?_
  refine x_icmp_eq (tgt := 12) hE dX1_isReleased_5 (by decide) (fun c5 => ?_) (fun c5 => ?_)
  · refine x_iconst (v := nI 0) hE dX1_isReleased_12 (by decide) ?_
    exact x_zret hE (Or.inl rfl) dX1_isReleased_13 (⟨x_zf (by simp_all), rfl⟩)
  · refine x_iconst (v := nI 1) hE dX1_isReleased_8 (by decide) ?_
    refine x_goto (tgt := 13) hE dX1_isReleased_9 (by decide) ?_
    exact x_zret hE (Or.inr rfl) dX1_isReleased_13 (⟨x_zt (by simp_all), rfl⟩)

set_option maxHeartbeats 4000000 in
set_option maxRecDepth 100000 in
theorem c_X1_isOver (G : XG) {g b tA sA vA : Nat} {h : HM} {we re nu so up dn de : Int32} {fo : Option Nat} (hg : h g = some (.inr (1, [.ref b, .int we, .int re]))) (hb : h b = some (.inr (0, [.int nu, .int so, .int up, .int dn, .ref tA, .ref sA, .ref vA, va_rf fo, .int de]))) {now : Int32} : x_M G yX1_isOver wsX1_isOver ({ frames := 1, cells := 0, slots := 0, locals := 20 } : Room) [.ref g, .int now] h (x_is (some (.int (b2i (!decide (re = -1) && !decide (now - re < dn))))) h) 0 0 := by
  refine x_M.of (cc := cX1_isOver) (maxL := 2) (ret := (some .boolean)) (ent := [some (.ref g), some (.int now)]) (by decide +kernel) rfl (Nat.le_of_ble_eq_true rfl) rfl rfl ?_
  intro F hE hname
  have hinX0 : ∀ w ∈ wsX00, w ∈ wsX1_isOver := by decide +kernel
  have hinX1 : ∀ w ∈ wsX10, w ∈ wsX1_isOver := by decide +kernel
  refine x_aload_n hE dX1_isOver_0 rfl rfl ?_
  refine x_get hE hinX1 hg rfl 0 (by decide) (List.mem_of_getElem? (i := 1) rfl) rfl dX1_isOver_1 ?_
  refine x_ifnull hE dX1_isOver_4 ?_
  refine x_aload_n hE dX1_isOver_7 rfl rfl ?_
  refine x_callV (ci := 1) (st := []) hE 0 (c_X1_isReleased G (cu := some b) hg) gX1_isOver_X1_isReleased rfl rfl rfl (by decide +kernel) ⟨Nat.le_of_ble_eq_true rfl, Nat.le_of_ble_eq_true rfl⟩ hg rfl rfl rfl dX1_isOver_8 rfl (Nat.le_of_ble_eq_true rfl) ⟨Nat.le_of_ble_eq_true rfl, Nat.le_of_ble_eq_true rfl⟩ (fun v h9 hp => ?_)
  obtain ⟨rfl, rfl⟩ := hp
  refine x_if_eq (tgt := 34) hE dX1_isOver_11 (by decide) (fun c11 => ?_) (fun c11 => ?_)
  · refine x_iconst (v := nI 0) hE dX1_isOver_34 (by decide) ?_
    exact x_zret hE (Or.inl rfl) dX1_isOver_35 (⟨x_zf (by simp_all [b2i_0, b2i_n0]), rfl⟩)
  · refine x_iload_n hE dX1_isOver_14 rfl ?_
    refine x_aload_n hE dX1_isOver_15 rfl rfl ?_
    refine x_get hE hinX1 hg rfl 2 (by decide) (List.mem_of_getElem? (i := 2) rfl) rfl dX1_isOver_16 ?_
    refine x_isub hE dX1_isOver_19 ?_
    refine x_aload_n hE dX1_isOver_20 rfl rfl ?_
    refine x_get hE hinX1 hg rfl 0 (by decide) (List.mem_of_getElem? (i := 1) rfl) rfl dX1_isOver_21 ?_
    refine x_get hE hinX0 hb rfl 3 (by decide) (List.mem_of_getElem? (i := 3) rfl) rfl dX1_isOver_24 ?_
    refine x_icmp_lt (tgt := 34) hE dX1_isOver_27 (by decide) (fun c27 => ?_) (fun c27 => ?_)
    · refine x_iconst (v := nI 0) hE dX1_isOver_34 (by decide) ?_
      exact x_zret hE (Or.inl rfl) dX1_isOver_35 (⟨x_zf (by simp_all [b2i_0, b2i_n0]), rfl⟩)
    · refine x_iconst (v := nI 1) hE dX1_isOver_30 (by decide) ?_
      refine x_goto (tgt := 35) hE dX1_isOver_31 (by decide) ?_
      exact x_zret hE (Or.inr rfl) dX1_isOver_35 (⟨x_zt (by simp_all [b2i_0, b2i_n0]), rfl⟩)

set_option maxHeartbeats 4000000 in
set_option maxRecDepth 100000 in
theorem c_X1_isOf (G : XG) {g b tA sA vA : Nat} {h : HM} {we re nu so up dn de : Int32} {fo : Option Nat} (hg : h g = some (.inr (1, [.ref b, .int we, .int re]))) (hb : h b = some (.inr (0, [.int nu, .int so, .int up, .int dn, .ref tA, .ref sA, .ref vA, va_rf fo, .int de]))) {x : Int32} : x_M G yX1_isOf wsX1_isOf ({ frames := 0, cells := 0, slots := 0, locals := 0 } : Room) [.ref g, .int x] h (x_is (some (.int (b2i (decide (so = x))))) h) 0 0 := by
  refine x_M.of (cc := cX1_isOf) (maxL := 2) (ret := (some .boolean)) (ent := [some (.ref g), some (.int x)]) (by decide +kernel) rfl (Nat.le_of_ble_eq_true rfl) rfl rfl ?_
  intro F hE hname
  have hinX0 : ∀ w ∈ wsX00, w ∈ wsX1_isOf := by decide +kernel
  have hinX1 : ∀ w ∈ wsX10, w ∈ wsX1_isOf := by decide +kernel
  refine x_aload_n hE dX1_isOf_0 rfl rfl ?_
  refine x_get hE hinX1 hg rfl 0 (by decide) (List.mem_of_getElem? (i := 1) rfl) rfl dX1_isOf_1 ?_
  refine x_ifnull hE dX1_isOf_4 ?_
  refine x_aload_n hE dX1_isOf_7 rfl rfl ?_
  refine x_get hE hinX1 hg rfl 0 (by decide) (List.mem_of_getElem? (i := 1) rfl) rfl dX1_isOf_8 ?_
  refine x_get hE hinX0 hb rfl 1 (by decide) (List.mem_of_getElem? (i := 2) rfl) rfl dX1_isOf_11 ?_
  refine x_iload_n hE dX1_isOf_14 rfl ?_
  refine x_icmp_ne (tgt := 22) hE dX1_isOf_15 (by decide) (fun c15 => ?_) (fun c15 => ?_)
  · refine x_iconst (v := nI 0) hE dX1_isOf_22 (by decide) ?_
    exact x_zret hE (Or.inl rfl) dX1_isOf_23 (⟨x_zf (by simp_all [b2i_0, b2i_n0]), rfl⟩)
  · refine x_iconst (v := nI 1) hE dX1_isOf_18 (by decide) ?_
    refine x_goto (tgt := 23) hE dX1_isOf_19 (by decide) ?_
    exact x_zret hE (Or.inr rfl) dX1_isOf_23 (⟨x_zt (by simp_all [b2i_0, b2i_n0]), rfl⟩)

set_option maxHeartbeats 4000000 in
set_option maxRecDepth 100000 in
theorem c_X1_levelFor (G : XG) {g b tA sA vA : Nat} {h : HM} {we re nu so up dn de : Int32} {fo : Option Nat} (hg : h g = some (.inr (1, [.ref b, .int we, .int re]))) (hb : h b = some (.inr (0, [.int nu, .int so, .int up, .int dn, .ref tA, .ref sA, .ref vA, va_rf fo, .int de]))) {vf : Nat → Int32} (hvA : h vA = some (.inl (g_c G 0, 16, .inl vf))) {k : Nat} (hk : k < 16) : x_M G yX1_levelFor wsX1_levelFor ({ frames := 1, cells := 0, slots := 0, locals := 21 } : Room) [.ref g, .int (nI k)] h (x_is (some (.int (vf k))) h) 0 0 := by
  refine x_M.of (cc := cX1_levelFor) (maxL := 2) (ret := (some .int)) (ent := [some (.ref g), some (.int (nI k))]) (by decide +kernel) rfl (Nat.le_of_ble_eq_true rfl) rfl rfl ?_
  intro F hE hname
  have hinX1 : ∀ w ∈ wsX10, w ∈ wsX1_levelFor := by decide +kernel
  refine x_aload_n hE dX1_levelFor_0 rfl rfl ?_
  refine x_get hE hinX1 hg rfl 0 (by decide) (List.mem_of_getElem? (i := 1) rfl) rfl dX1_levelFor_1 ?_
  refine x_ifnonnull (tgt := 11) hE dX1_levelFor_4 (by decide) ?_
  refine x_aload_n hE dX1_levelFor_11 rfl rfl ?_
  refine x_get hE hinX1 hg rfl 0 (by decide) (List.mem_of_getElem? (i := 1) rfl) rfl dX1_levelFor_12 ?_
  refine x_iload_n hE dX1_levelFor_15 rfl ?_
  refine x_callV (ci := 0) (st := []) hE 1 (c_X0_levelFor G hb hvA hk) gX1_levelFor_X0_levelFor rfl rfl rfl (by decide +kernel) ⟨Nat.le_of_ble_eq_true rfl, Nat.le_of_ble_eq_true rfl⟩ hb rfl rfl rfl dX1_levelFor_16 rfl (Nat.le_of_ble_eq_true rfl) ⟨Nat.le_of_ble_eq_true rfl, Nat.le_of_ble_eq_true rfl⟩ (fun v h9 hp => ?_)
  obtain ⟨rfl, rfl⟩ := hp
  exact x_iret hE dX1_levelFor_19 (⟨rfl, rfl⟩)

set_option maxHeartbeats 4000000 in
set_option maxRecDepth 100000 in
theorem c_X0_masterRisen (G : XG) {c tA sA vA : Nat} {h : HM} {nu so up dn de : Int32} {fo : Option Nat} (hc : h c = some (.inr (0, [.int nu, .int so, .int up, .int dn, .ref tA, .ref sA, .ref vA, va_rf fo, .int de]))) {t : Int32} : x_M G yX0_masterRisen wsX0_masterRisen ({ frames := 0, cells := 0, slots := 0, locals := 0 } : Room) [.ref c, .int t] h (x_is (some (.float (masterR up t))) h) 0 0 := by
  refine x_M.of (cc := cX0_masterRisen) (maxL := 3) (ret := (some .float)) (ent := [some (.ref c), some (.int t), none]) (by decide +kernel) rfl (Nat.le_of_ble_eq_true rfl) rfl rfl ?_
  intro F hE hname
  have hinX0 : ∀ w ∈ wsX00, w ∈ wsX0_masterRisen := by decide +kernel
  refine x_aload_n hE dX0_masterRisen_0 rfl rfl ?_
  refine x_get hE hinX0 hc rfl 2 (by decide) (List.mem_of_getElem? (i := 1) rfl) rfl dX0_masterRisen_1 ?_
  refine x_if_ne (tgt := 9) hE dX0_masterRisen_4 (by decide) (fun c4 => ?_) (fun c4 => ?_)
  · refine x_iload_n hE dX0_masterRisen_9 rfl ?_
    refine x_i2f hE dX0_masterRisen_10 ?_
    refine x_aload_n hE dX0_masterRisen_11 rfl rfl ?_
    refine x_get hE hinX0 hc rfl 2 (by decide) (List.mem_of_getElem? (i := 1) rfl) rfl dX0_masterRisen_12 ?_
    refine x_i2f hE dX0_masterRisen_15 ?_
    refine x_fdiv hE dX0_masterRisen_16 (fp_div c4).1 ?_
    refine x_fstore_n (L' := [some (.ref c), some (.int t), some (.float (FP.fdiv (FP.i2f t) (FP.i2f up)))]) hE dX0_masterRisen_17 rfl (Nat.le_of_ble_eq_true rfl) rfl ?_
    refine x_fload_n hE dX0_masterRisen_18 rfl ?_
    refine x_fconst1 hE dX0_masterRisen_19 ?_
    refine x_fcmp hE dX0_masterRisen_20 ?_
    refine x_if_ge (tgt := 28) hE dX0_masterRisen_21 (by decide) (fun c21 => ?_) (fun c21 => ?_)
    · refine x_fconst1 hE dX0_masterRisen_28 ?_
      exact x_fret hE dX0_masterRisen_29 (⟨by simp only [masterR, x_lt0i]; simp_all, rfl⟩)
    · refine x_fload_n hE dX0_masterRisen_24 rfl ?_
      refine x_goto (tgt := 29) hE dX0_masterRisen_25 (by decide) ?_
      exact x_fret hE dX0_masterRisen_29 (⟨by simp only [masterR, x_lt0i]; simp_all, rfl⟩)
  · refine x_fconst1 hE dX0_masterRisen_7 ?_
    exact x_fret hE dX0_masterRisen_8 (⟨by simp only [masterR, x_lt0i]; simp_all, rfl⟩)

set_option maxHeartbeats 4000000 in
set_option maxRecDepth 100000 in
theorem c_X1_master (G : XG) {g b tA sA vA : Nat} {h : HM} {we re nu so up dn de : Int32} {fo : Option Nat} (hg : h g = some (.inr (1, [.ref b, .int we, .int re]))) (hb : h b = some (.inr (0, [.int nu, .int so, .int up, .int dn, .ref tA, .ref sA, .ref vA, va_rf fo, .int de]))) {now : Int32} : x_M G yX1_master wsX1_master ({ frames := 1, cells := 0, slots := 0, locals := 22 } : Room) [.ref g, .int now] h (x_is (some (.float (masterG up dn we re now))) h) 0 0 := by
  refine x_M.of (cc := cX1_master) (maxL := 2) (ret := (some .float)) (ent := [some (.ref g), some (.int now)]) (by decide +kernel) rfl (Nat.le_of_ble_eq_true rfl) rfl rfl ?_
  intro F hE hname
  have hinX0 : ∀ w ∈ wsX00, w ∈ wsX1_master := by decide +kernel
  have hinX1 : ∀ w ∈ wsX10, w ∈ wsX1_master := by decide +kernel
  refine x_aload_n hE dX1_master_0 rfl rfl ?_
  refine x_get hE hinX1 hg rfl 0 (by decide) (List.mem_of_getElem? (i := 1) rfl) rfl dX1_master_1 ?_
  refine x_ifnonnull (tgt := 9) hE dX1_master_4 (by decide) ?_
  refine x_aload_n hE dX1_master_9 rfl rfl ?_
  refine x_callV (ci := 1) (st := []) hE 0 (c_X1_isReleased G (cu := some b) hg) gX1_master_X1_isReleased rfl rfl rfl (by decide +kernel) ⟨Nat.le_of_ble_eq_true rfl, Nat.le_of_ble_eq_true rfl⟩ hg rfl rfl rfl dX1_master_10 rfl (Nat.le_of_ble_eq_true rfl) ⟨Nat.le_of_ble_eq_true rfl, Nat.le_of_ble_eq_true rfl⟩ (fun v h9 hp => ?_)
  obtain ⟨rfl, rfl⟩ := hp
  refine x_if_ne (tgt := 30) hE dX1_master_13 (by decide) (fun c13 => ?_) (fun c13 => ?_)
  · refine x_aload_n hE dX1_master_30 rfl rfl ?_
    refine x_get hE hinX1 hg rfl 0 (by decide) (List.mem_of_getElem? (i := 1) rfl) rfl dX1_master_31 ?_
    refine x_get hE hinX0 hb rfl 3 (by decide) (List.mem_of_getElem? (i := 3) rfl) rfl dX1_master_34 ?_
    refine x_if_ne (tgt := 42) hE dX1_master_37 (by decide) (fun c37 => ?_) (fun c37 => ?_)
    · refine x_aload_n hE dX1_master_42 rfl rfl ?_
      refine x_get hE hinX1 hg rfl 0 (by decide) (List.mem_of_getElem? (i := 1) rfl) rfl dX1_master_43 ?_
      refine x_aload_n hE dX1_master_46 rfl rfl ?_
      refine x_get hE hinX1 hg rfl 2 (by decide) (List.mem_of_getElem? (i := 4) rfl) rfl dX1_master_47 ?_
      refine x_aload_n hE dX1_master_50 rfl rfl ?_
      refine x_get hE hinX1 hg rfl 1 (by decide) (List.mem_of_getElem? (i := 2) rfl) rfl dX1_master_51 ?_
      refine x_isub hE dX1_master_54 ?_
      refine x_callV (ci := 0) (st := []) hE 1 (c_X0_masterRisen G hb) gX1_master_X0_masterRisen rfl rfl rfl (by decide +kernel) ⟨Nat.le_of_ble_eq_true rfl, Nat.le_of_ble_eq_true rfl⟩ hb rfl rfl rfl dX1_master_55 rfl (Nat.le_of_ble_eq_true rfl) ⟨Nat.le_of_ble_eq_true rfl, Nat.le_of_ble_eq_true rfl⟩ (fun v h9 hp => ?_)
      obtain ⟨rfl, rfl⟩ := hp
      refine x_fconst1 hE dX1_master_58 ?_
      refine x_iload_n hE dX1_master_59 rfl ?_
      refine x_aload_n hE dX1_master_60 rfl rfl ?_
      refine x_get hE hinX1 hg rfl 2 (by decide) (List.mem_of_getElem? (i := 4) rfl) rfl dX1_master_61 ?_
      refine x_isub hE dX1_master_64 ?_
      refine x_i2f hE dX1_master_65 ?_
      refine x_aload_n hE dX1_master_66 rfl rfl ?_
      refine x_get hE hinX1 hg rfl 0 (by decide) (List.mem_of_getElem? (i := 1) rfl) rfl dX1_master_67 ?_
      refine x_get hE hinX0 hb rfl 3 (by decide) (List.mem_of_getElem? (i := 3) rfl) rfl dX1_master_70 ?_
      refine x_i2f hE dX1_master_73 ?_
      refine x_fdiv hE dX1_master_74 (fp_div c37).1 ?_
      refine x_fsub hE dX1_master_75 (fallR_mg _ c37).1 ?_
      refine x_fmul hE dX1_master_76 (masterG_mul c37) ?_
      exact x_fret hE dX1_master_77 (⟨by simp only [masterG, fallR]; simp_all [b2i_0, b2i_n0], rfl⟩)
    · refine x_fconst0 hE dX1_master_40 ?_
      exact x_fret hE dX1_master_41 (⟨by simp only [masterG, fallR]; simp_all [b2i_0, b2i_n0], rfl⟩)
  · refine x_aload_n hE dX1_master_16 rfl rfl ?_
    refine x_get hE hinX1 hg rfl 0 (by decide) (List.mem_of_getElem? (i := 1) rfl) rfl dX1_master_17 ?_
    refine x_iload_n hE dX1_master_20 rfl ?_
    refine x_aload_n hE dX1_master_21 rfl rfl ?_
    refine x_get hE hinX1 hg rfl 1 (by decide) (List.mem_of_getElem? (i := 2) rfl) rfl dX1_master_22 ?_
    refine x_isub hE dX1_master_25 ?_
    refine x_callV (ci := 0) (st := []) hE 1 (c_X0_masterRisen G hb) gX1_master_X0_masterRisen rfl rfl rfl (by decide +kernel) ⟨Nat.le_of_ble_eq_true rfl, Nat.le_of_ble_eq_true rfl⟩ hb rfl rfl rfl dX1_master_26 rfl (Nat.le_of_ble_eq_true rfl) ⟨Nat.le_of_ble_eq_true rfl, Nat.le_of_ble_eq_true rfl⟩ (fun v h9 hp => ?_)
    obtain ⟨rfl, rfl⟩ := hp
    exact x_fret hE dX1_master_29 (⟨by simp only [masterG, fallR]; simp_all [b2i_0, b2i_n0], rfl⟩)
