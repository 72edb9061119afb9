/-! plain facts and words for the contracts -/
def x_sel {α : Type} (n : Nat) (f : Nat → α) (i : Int32) (d : α) : α := if 0 ≤ i ∧ ¬ nI n ≤ i then f i.toNatClampNeg else d
theorem x_sel_in {α : Type} {n : Nat} {f : Nat → α} {i : Int32} {d : α} (h1 : 0 ≤ i) (h2 : ¬ nI n ≤ i) : x_sel n f i d = f i.toNatClampNeg := if_pos ⟨h1, h2⟩
theorem x_sel_lo {α : Type} {n : Nat} {f : Nat → α} {i : Int32} {d : α} (h1 : ¬ 0 ≤ i) : x_sel n f i d = d := if_neg (fun h => h1 h.1)
theorem x_sel_hi {α : Type} {n : Nat} {f : Nat → α} {i : Int32} {d : α} (h2 : nI n ≤ i) : x_sel n f i d = d := if_neg (fun h => h.2 h2)
theorem x_ge0 {i : Int32} (h : ¬ i < 0) : 0 ≤ i := by
  rw [Int32.lt_iff_toInt_lt] at h
  rw [Int32.le_iff_toInt_le]
  omega
theorem x_lt0 {i : Int32} (h : i < 0) : ¬ 0 ≤ i := by
  rw [Int32.lt_iff_toInt_lt] at h
  rw [Int32.le_iff_toInt_le]
  omega
theorem x_ixn {i : Int32} {n : Nat} (hn : n < 2 ^ 31) (h1 : 0 ≤ i) (h2 : ¬ nI n ≤ i) : ∃ j : Nat, j < n ∧ i = nI j := by
  rcases pk_ix i hn with h | h | h
  · exact absurd h1 (x_lt0 h)
  · exact absurd h h2
  · exact h
theorem x_inn {i : Int32} {n : Nat} (hn : n < 2 ^ 31) (h1 : 0 ≤ i) (h2 : ¬ nI n ≤ i) : vp_in i n := by
  obtain ⟨j, hj, rfl⟩ := x_ixn hn h1 h2
  exact vp_in_nI hj hn
theorem x_selN {α : Type} {n k : Nat} {f : Nat → α} {d : α} (hk : k < n) (hn : n < 2 ^ 31) : x_sel n f (nI k) d = f k := by
  rw [x_sel_in (nI_pos' (by omega)) (nI_ge hk hn), nI_clamp (by omega)]
theorem x_selO {α : Type} {n k : Nat} {f : Nat → α} {d : α} (hk : n ≤ k) (hn : k < 2 ^ 31) : x_sel n f (nI k) d = d := x_sel_hi (nI_le hk hn)
def b2i (b : Bool) : Int32 := if b = true then 1 else 0
theorem b2i_01 (b : Bool) : b2i b = 0 ∨ b2i b = 1 := by cases b <;> decide
theorem b2i_0 {b : Bool} : b2i b = 0 ↔ b = false := by cases b <;> decide
theorem b2i_n0 {b : Bool} : ¬ b2i b = 0 ↔ b = true := by cases b <;> decide
theorem b2i_t {b : Bool} (h : b = true) : b2i b = nI 1 := by rw [h]; decide
theorem b2i_f {b : Bool} (h : b = false) : b2i b = nI 0 := by rw [h]; decide
theorem x_zt {b : Bool} (h : b = true) : some (Value.int (nI 1)) = some (Value.int (b2i b)) := by rw [b2i_t h]
theorem x_zf {b : Bool} (h : b = false) : some (Value.int (nI 0)) = some (Value.int (b2i b)) := by rw [b2i_f h]
theorem x_nIlt {a b : Nat} (h : nI a < nI b) (ha : a < 2 ^ 31) (hb : b < 2 ^ 31) : a < b := (nI_ltI ha hb).mp h
theorem x_nIle {a b : Nat} (h : nI a ≤ nI b) (ha : a < 2 ^ 31) (hb : b < 2 ^ 31) : a ≤ b := (nI_leI ha hb).mp h
theorem x_nInle {a b : Nat} (h : ¬ nI a ≤ nI b) (ha : a < 2 ^ 31) (hb : b < 2 ^ 31) : b < a := Nat.lt_of_not_le (fun q => h ((nI_leI ha hb).mpr q))
theorem x_nInlt {a b : Nat} (h : ¬ nI a < nI b) (ha : a < 2 ^ 31) (hb : b < 2 ^ 31) : b ≤ a := Nat.le_of_not_lt (fun q => h ((nI_ltI ha hb).mpr q))
theorem x_nIinj {a b : Nat} (h : nI a = nI b) (ha : a < 2 ^ 31) (hb : b < 2 ^ 31) : a = b := (nI_eq ha hb).mp h
theorem x_updN (f : Nat → Int32) {k : Nat} (hk : k < 2 ^ 31) (x : Int32) : upd f (nI k).toNatClampNeg x = upd f k x := by rw [nI_clamp hk]
theorem x_upN {α : Type} (f : Nat → α) {k : Nat} (hk : k < 2 ^ 31) (x : α) : va_up f (nI k).toNatClampNeg x = va_up f k x := by rw [nI_clamp hk]
theorem x_atN {α : Type} (f : Nat → α) {k : Nat} (hk : k < 2 ^ 31) : f (nI k).toNatClampNeg = f k := by rw [nI_clamp hk]
theorem x_none_ne {h : HM} {q a : Nat} {e : va_E} (hq : h q = none) (ha : h a = some e) : a ≠ q := fun z => by rw [z, hq] at ha; cases ha
/-- the cells of a lamp by the model's rows 2 to 7 -/
def lampE (ar : Nat → Nat → Int32) (i : Nat) : va_E := .inr (4, [.int (ar 2 i), .int (ar 3 i), .int (ar 4 i), .int (ar 5 i), .int (ar 6 i), .int (ar 7 i)])
def absI (x : Int32) : Int32 := if 0 ≤ x then x else 0 - x
/-- usable: not dead, its bar there -/
def usV (bars bar dead : Int32) : Bool := decide (dead = 0) && decide ((bars >>> (bar &&& 31)) &&& nI 1 = nI 1)
/-- two heaps alike but where P says -/
def x_fr (P : Nat → Prop) (h h' : HM) : Prop := ∀ (q : Nat) (e : va_E), h q = some e → ¬ P q → h' q = some e
theorem x_fr.refl {P : Nat → Prop} (h : HM) : x_fr P h h := fun _ _ hq _ => hq
theorem x_fr.up {P : Nat → Prop} {h h' : HM} {a : Nat} {e : va_E} (hf : x_fr P h h') (ha : P a) : x_fr P h (x_up h' a e) := fun q e' hq hn => by
  rw [x_up_ne (fun z : q = a => hn (by rw [z]; exact ha))]
  exact hf q e' hq hn
theorem x_fr.new {P : Nat → Prop} {h h' : HM} {a : Nat} {e : va_E} (hf : x_fr P h h') (ha : h' a = none) : x_fr P h (x_up h' a e) := fun q e' hq hn => by
  have h1 := hf q e' hq hn
  rw [x_up_ne (x_none_ne ha h1)]
  exact h1
theorem x_fr.trans {P : Nat → Prop} {h h' h'' : HM} (h1 : x_fr P h h') (h2 : x_fr P h' h'') : x_fr P h h'' := fun q e hq hn => h2 q e (h1 q e hq hn) hn
theorem x_fr.mono {P R : Nat → Prop} {h h' : HM} (h1 : x_fr P h h') (hPR : ∀ q, P q → R q) : x_fr R h h' := fun q e hq hn => h1 q e hq (fun z => hn (hPR q z))
/-- an array's row told by another function that agrees on its places -/
theorem x_refit {G : XG} {F : XF} {Q : State → Prop} {a b : Nat} {h : HM} {pc : Nat} {L : List (Option Value)} {st : List Value} {q n : Nat} {cA : ClassId} {f f' : Nat → Int32} (hq : h q = some (.inl (cA, n, .inl f))) (hf : ∀ i, i < n → f i = f' i) (kk : x_W G F Q a b (x_up h q (.inl (cA, n, .inl f'))) pc L st) : x_W G F Q a b h pc L st := by
  intro H locs ls hH hS hL
  refine kk H locs ls (hH.up (hH q _ hq).2 ?_ (fun _ _ => rfl)) hS hL
  have h1 := (hH q _ hq).1
  have e : vp_cell cA (n, .inl f) = vp_cell cA (n, .inl f') := by
    rw [vp_cell_i, vp_cell_i]
    unfold arrV
    congr 2
    funext j
    dsimp only
    rw [hf j.val j.isLt]
  show H[q]? = some (vp_cell _ _)
  rw [← e]
  exact h1
theorem x_refitq {G : XG} {F : XF} {Q : State → Prop} {a b : Nat} {h : HM} {pc : Nat} {L : List (Option Value)} {st : List Value} {q n : Nat} {cA : ClassId} {f f' : Nat → Option Nat} (hq : h q = some (.inl (cA, n, .inr (.inr (.inr (.inr f)))))) (hf : ∀ i, i < n → f i = f' i) (kk : x_W G F Q a b (x_up h q (.inl (cA, n, .inr (.inr (.inr (.inr f')))))) pc L st) : x_W G F Q a b h pc L st := by
  intro H locs ls hH hS hL
  refine kk H locs ls (hH.up (hH q _ hq).2 ?_ (fun _ _ => rfl)) hS hL
  have h1 := (hH q _ hq).1
  have e : vp_cell cA (n, .inr (.inr (.inr (.inr f)))) = vp_cell cA (n, .inr (.inr (.inr (.inr f')))) := by
    rw [vp_cell_q, vp_cell_q]
    unfold arrV
    congr 2
    funext j
    dsimp only
    rw [hf j.val j.isLt]
  show H[q]? = some (vp_cell _ _)
  rw [← e]
  exact h1
/-- the first place below n where p holds; n if there is none -/
def fst_ (p : Nat → Bool) : Nat → Nat
  | 0 => 0
  | n + 1 => if fst_ p n < n then fst_ p n else if p n then n else n + 1
theorem fst_le (p : Nat → Bool) : ∀ n, fst_ p n ≤ n
  | 0 => Nat.le_refl 0
  | n + 1 => by
    have := fst_le p n
    unfold fst_
    split
    · omega
    · split <;> omega
theorem fst_no (p : Nat → Bool) : ∀ n k, k < fst_ p n → p k = false
  | 0, k, h => absurd h (Nat.not_lt_zero k)
  | n + 1, k, h => by
    have ih := fst_no p n
    have hl := fst_le p n
    unfold fst_ at h
    split at h
    · exact ih k h
    · split at h
      · rcases Nat.lt_or_ge k (fst_ p n) with q | q
        · exact ih k q
        · omega
      · rcases Nat.lt_or_ge k (fst_ p n) with q | q
        · exact ih k q
        · have : k = n := by omega
          subst this
          simpa using ‹¬ p k = true›
theorem fst_yes (p : Nat → Bool) : ∀ n, fst_ p n < n → p (fst_ p n) = true
  | 0, h => absurd h (Nat.not_lt_zero _)
  | n + 1, h => by
    have ih := fst_yes p n
    unfold fst_ at h ⊢
    split
    · exact ih (by assumption)
    · rw [if_neg (by assumption)] at h
      split
      · assumption
      · rw [if_neg (by assumption)] at h; omega
theorem fst_is {p : Nat → Bool} {n k : Nat} (hk : k < n) (hp : p k = true) (hn : ∀ j, j < k → p j = false) : fst_ p n = k := by
  rcases Nat.lt_trichotomy (fst_ p n) k with h | h | h
  · have := fst_yes p n (by omega)
    rw [hn _ h] at this
    cases this
  · exact h
  · have := fst_no p n k h
    rw [hp] at this
    cases this
theorem fst_all {p : Nat → Bool} {n : Nat} (hn : ∀ j, j < n → p j = false) : fst_ p n = n := by
  rcases Nat.lt_or_ge (fst_ p n) n with h | h
  · have := fst_yes p n h
    rw [hn _ h] at this
    cases this
  · have := fst_le p n
    omega
/-- the nearest candidate and its distance, below n -/
def nearF (c : Nat → Bool) (dd : Nat → Int32) : Nat → Int32 × Int32
  | 0 => (-1, nI 0)
  | n + 1 => if c n && (decide ((nearF c dd n).1 = -1) || decide (dd n < (nearF c dd n).2)) then (nI n, dd n) else nearF c dd n
def distS (ar : Nat → Nat → Int32) (m k : Nat) : Int32 := nI 10 * absI (ar 2 m - ar 2 k) + absI (ar 3 m - ar 3 k)
def candS (L : Nat) (ar : Nat → Nat → Int32) (bars : Int32) (told lvl : Nat → Int32) (m k : Nat) : Bool := decide (k < L) && (usV bars (ar 2 k) (ar 7 k) && (decide (ar 4 k = ar 4 m) && (decide (told k = 0) && decide (lvl k = 0))))
def nearS (L : Nat) (ar : Nat → Nat → Int32) (bars : Int32) (told lvl : Nat → Int32) (m : Nat) : Int32 := (nearF (candS L ar bars told lvl m) (distS ar m) 16).1
/-- a cue's shiners and levels, arranged lamp by lamp -/
def arrF (L : Nat) (ar : Nat → Nat → Int32) (bars : Int32) (told : Nat → Int32) : Nat → (Nat → Int32) × (Nat → Int32)
  | 0 => (fun _ => -1, fun _ => 0)
  | n + 1 =>
    if decide (n < L) && !decide (told n = 0) then
      let p := arrF L ar bars told n
      let s := if usV bars (ar 2 n) (ar 7 n) then nI n else nearS L ar bars told p.2 n
      if 0 ≤ s ∧ s < nI 16 then (upd p.1 n s, upd p.2 s.toNatClampNeg (told n)) else p
    else arrF L ar bars told n
theorem x_down {N : Nat} {P : Nat → Prop} (hs : ∀ i, i ≤ N → (∀ j, i < j → j ≤ N → P j) → P i) : ∀ i, i ≤ N → P i := by
  have key : ∀ n i, i ≤ N → N - i ≤ n → P i := by
    intro n
    induction n with
    | zero => exact fun i h1 h2 => hs i h1 (fun j h3 h4 => absurd h4 (by omega))
    | succ n ih => exact fun i h1 h2 => hs i h1 (fun j h3 h4 => ih j h4 (by omega))
  exact fun i hi => key (N - i) i hi (Nat.le_refl _)
theorem x_lt0i {x : Int32} : x < 0 ↔ ¬ 0 ≤ x := ⟨x_lt0, fun h => by
  rw [Int32.le_iff_toInt_le] at h
  rw [Int32.lt_iff_toInt_lt]
  omega⟩
theorem x_lei {x y : Int32} : x < y ↔ ¬ y ≤ x := by
  rw [Int32.le_iff_toInt_le, Int32.lt_iff_toInt_lt]
  omega
def x_sub : List (Option Value) → List (Option Value) → Prop
  | [], [] => True
  | none :: l, _ :: m => x_sub l m
  | some v :: l, w :: m => some v = w ∧ x_sub l m
  | _, _ => False
theorem x_sub_len : ∀ {L' L : List (Option Value)}, x_sub L' L → L'.length = L.length
  | [], [], _ => rfl
  | none :: l, w :: m, h => by rw [List.length_cons, List.length_cons, x_sub_len (L' := l) (L := m) h]
  | some v :: l, w :: m, h => by rw [List.length_cons, List.length_cons, x_sub_len (L' := l) (L := m) h.2]
  | [], _ :: _, h => h.elim
  | none :: _, [], h => h.elim
  | some _ :: _, [], h => h.elim
theorem x_sub_at : ∀ {L' L : List (Option Value)}, x_sub L' L → ∀ (i : Nat) (v : Value), L'[i]? = some (some v) → L[i]? = some (some v)
  | [], [], _, i, v, hi => by simp at hi
  | none :: l, w :: m, h, 0, v, hi => by simp at hi
  | none :: l, w :: m, h, i + 1, v, hi => by
    rw [List.getElem?_cons_succ] at hi ⊢
    exact x_sub_at (L' := l) (L := m) h i v hi
  | some u :: l, w :: m, h, 0, v, hi => by
    rw [List.getElem?_cons_zero] at hi ⊢
    rw [← h.1]
    exact hi
  | some u :: l, w :: m, h, i + 1, v, hi => by
    rw [List.getElem?_cons_succ] at hi ⊢
    exact x_sub_at (L' := l) (L := m) h.2 i v hi
  | [], _ :: _, h, _, _, _ => h.elim
  | none :: _, [], h, _, _, _ => h.elim
  | some _ :: _, [], h, _, _, _ => h.elim
theorem x_forget {G : XG} {F : XF} {Q : State → Prop} {a b : Nat} {h : HM} {pc : Nat} {L L' : List (Option Value)} {st : List Value} (hs : x_sub L' L) (kk : x_W G F Q a b h pc L' st) : x_W G F Q a b h pc L st := fun H locs ls hH hS hL =>
  kk H locs ls hH hS ⟨hL.1.trans (x_sub_len hs).symm, hL.2.1, fun i v hi => hL.2.2 i v (x_sub_at hs i v hi)⟩
theorem x_qref {G : XG} {F : XF} {Q : State → Prop} {a b : Nat} {h : HM} {pc : Nat} {L : List (Option Value)} {st : List Value} {r : Option Nat} {q : Nat} (e : r = some q) (kk : x_W G F Q a b h pc L (.ref q :: st)) : x_W G F Q a b h pc L (va_rf r :: st) := by subst e; exact kk
theorem x_qnull {G : XG} {F : XF} {Q : State → Prop} {a b : Nat} {h : HM} {pc : Nat} {L : List (Option Value)} {st : List Value} {r : Option Nat} (e : r = none) (kk : x_W G F Q a b h pc L (.null :: st)) : x_W G F Q a b h pc L (va_rf r :: st) := by subst e; exact kk
def filF (v : Int32) (f : Nat → Int32) (i : Nat) : Nat → Int32 := fun j => if j < i then v else f j
theorem filF_0 (v : Int32) (f : Nat → Int32) : filF v f 0 = f := by funext j; simp [filF]
theorem filF_s (v : Int32) (f : Nat → Int32) (i : Nat) : upd (filF v f i) i v = filF v f (i + 1) := by
  funext j
  unfold upd filF
  by_cases c : j = i
  · subst c; simp
  · rw [if_neg c]
    by_cases c2 : j < i
    · rw [if_pos c2, if_pos (by omega)]
    · rw [if_neg c2, if_neg (by omega)]
theorem filF_n {v : Int32} {f : Nat → Int32} {n i : Nat} (h : i < n) : filF v f n i = v := by simp [filF, h]
/-- the lamps' row -/
def lampF (L : Nat) (aL : Nat → Nat) : Nat → Option Nat := fun i => if i < L then some (aL i) else none
theorem lampF_in {L : Nat} {aL : Nat → Nat} {i : Nat} (h : i < L) : lampF L aL i = some (aL i) := if_pos h
theorem lampF_out {L : Nat} {aL : Nat → Nat} {i : Nat} (h : L ≤ i) : lampF L aL i = none := if_neg (Nat.not_lt.mpr h)
theorem lampF_sel {L n : Nat} {aL : Nat → Nat} {i : Nat} (h : i < n) (hn : n < 2 ^ 31) : x_sel n (lampF L aL) (nI i) none = lampF L aL i := x_selN h hn
def rigW (G : XG) (r la L : Nat) (aL : Nat → Nat) (ar : Nat → Nat → Int32) (bars : Int32) (h : HM) : Prop :=
  h r = some (.inr (5, [.ref la, .int (nI L), .int bars])) ∧ h la = some (.inl (g_c G 3, 16, .inr (.inr (.inr (.inr (lampF L aL)))))) ∧ L ≤ 16 ∧ ∀ i, i < L → h (aL i) = some (lampE ar i)
def cnt_ (p : Nat → Bool) : Nat → Nat
  | 0 => 0
  | n + 1 => cnt_ p n + (if p n then 1 else 0)
def usL (L : Nat) (ar : Nat → Nat → Int32) (bars : Int32) (k : Nat) : Bool := decide (k < L) && usV bars (ar 2 k) (ar 7 k)
theorem cnt_le (p : Nat → Bool) : ∀ n, cnt_ p n ≤ n
  | 0 => Nat.le_refl 0
  | n + 1 => by
    have := cnt_le p n
    unfold cnt_
    split <;> omega
theorem nearF_y {c : Nat → Bool} {dd : Nat → Int32} {n : Nat} (h : (c n && (decide ((nearF c dd n).1 = -1) || decide (dd n < (nearF c dd n).2))) = true) : nearF c dd (n + 1) = (nI n, dd n) := by
  conv => lhs; unfold nearF
  rw [if_pos h]
theorem nearF_n {c : Nat → Bool} {dd : Nat → Int32} {n : Nat} (h : (c n && (decide ((nearF c dd n).1 = -1) || decide (dd n < (nearF c dd n).2))) = false) : nearF c dd (n + 1) = nearF c dd n := by
  conv => lhs; unfold nearF
  rw [if_neg (by rw [h]; decide)]
theorem nearF_is (c : Nat → Bool) (dd : Nat → Int32) : ∀ n, (nearF c dd n).1 = -1 ∨ ∃ k, k < n ∧ (nearF c dd n).1 = nI k ∧ c k = true
  | 0 => Or.inl rfl
  | n + 1 => by
    have ih := nearF_is c dd n
    cases h : (c n && (decide ((nearF c dd n).1 = -1) || decide (dd n < (nearF c dd n).2))) with
    | true =>
      rw [nearF_y h]
      exact Or.inr ⟨n, by omega, rfl, (Bool.and_eq_true_iff.mp h).1⟩
    | false =>
      rw [nearF_n h]
      rcases ih with e | ⟨k, h1, h2⟩
      · exact Or.inl e
      · exact Or.inr ⟨k, by omega, h2⟩
theorem rigW.fr {G : XG} {r la L : Nat} {aL : Nat → Nat} {ar : Nat → Nat → Int32} {bars : Int32} {h h' : HM} {P : Nat → Prop} (hR : rigW G r la L aL ar bars h) (hf : x_fr P h h') (hP : ∀ q, P q → ∃ n f, h q = some (.inl (g_c G 0, n, .inl f))) : rigW G r la L aL ar bars h' := by
  obtain ⟨h1, h2, h3, h4⟩ := hR
  refine ⟨hf _ _ h1 (fun z => ?_), hf _ _ h2 (fun z => ?_), h3, fun i hi => hf _ _ (h4 i hi) (fun z => ?_)⟩
  · obtain ⟨n, f, e⟩ := hP _ z; rw [h1] at e; simp at e
  · obtain ⟨n, f, e⟩ := hP _ z; rw [h2] at e; simp at e
  · obtain ⟨n, f, e⟩ := hP _ z; rw [h4 i hi] at e; simp [lampE] at e
theorem arrF_no {L : Nat} {ar : Nat → Nat → Int32} {bars : Int32} {told : Nat → Int32} {n : Nat} (h : ¬ n < L ∨ told n = 0) : arrF L ar bars told (n + 1) = arrF L ar bars told n := by
  conv => lhs; unfold arrF
  rw [if_neg]
  rcases h with h | h
  · simp [h]
  · simp [h]
theorem arrF_put {L : Nat} {ar : Nat → Nat → Int32} {bars : Int32} {told : Nat → Int32} {n : Nat} {s : Int32} (h1 : n < L) (h2 : ¬ told n = 0) (hs : (if usV bars (ar 2 n) (ar 7 n) then nI n else nearS L ar bars told (arrF L ar bars told n).2 n) = s) (h0 : 0 ≤ s) (h16 : s < nI 16) : arrF L ar bars told (n + 1) = (upd (arrF L ar bars told n).1 n s, upd (arrF L ar bars told n).2 s.toNatClampNeg (told n)) := by
  subst hs
  conv => lhs; unfold arrF
  rw [if_pos (by simp [h1, h2])]
  dsimp only
  rw [if_pos ⟨h0, h16⟩]
theorem arrF_out {L : Nat} {ar : Nat → Nat → Int32} {bars : Int32} {told : Nat → Int32} {n : Nat} {s : Int32} (hs : (if usV bars (ar 2 n) (ar 7 n) then nI n else nearS L ar bars told (arrF L ar bars told n).2 n) = s) (h0 : ¬ (0 ≤ s ∧ s < nI 16)) : arrF L ar bars told (n + 1) = arrF L ar bars told n := by
  subst hs
  by_cases h : n < L ∧ ¬ told n = 0
  · conv => lhs; unfold arrF
    rw [if_pos (by simp [h.1, h.2])]
    dsimp only
    rw [if_neg h0]
  · refine arrF_no ?_
    by_cases h1 : n < L
    · exact Or.inr (Decidable.not_not.mp (fun z => h ⟨h1, z⟩))
    · exact Or.inl h1
/-- the heap with a cue's two rows told anew -/
def arrH (G : XG) (h : HM) (sA vA : Nat) (p : (Nat → Int32) × (Nat → Int32)) : HM := x_up (x_up h sA (.inl (g_c G 0, 16, .inl p.1))) vA (.inl (g_c G 0, 16, .inl p.2))
theorem arrH_fr (G : XG) (h : HM) (sA vA : Nat) (p : (Nat → Int32) × (Nat → Int32)) : x_fr (fun q => q = sA ∨ q = vA) h (arrH G h sA vA p) := ((x_fr.refl h).up (Or.inl rfl)).up (Or.inr rfl)
theorem arrH_s {G : XG} {h : HM} {sA vA : Nat} {p : (Nat → Int32) × (Nat → Int32)} (n : sA ≠ vA) : arrH G h sA vA p sA = some (.inl (g_c G 0, 16, .inl p.1)) := by unfold arrH; rw [x_up_ne n, x_up_eq]
theorem arrH_v {G : XG} {h : HM} {sA vA : Nat} {p : (Nat → Int32) × (Nat → Int32)} : arrH G h sA vA p vA = some (.inl (g_c G 0, 16, .inl p.2)) := x_up_eq _ _ _
theorem arrH_up {G : XG} {h : HM} {sA vA : Nat} {p q : (Nat → Int32) × (Nat → Int32)} (n : sA ≠ vA) : arrH G (arrH G h sA vA p) sA vA q = arrH G h sA vA q := by
  unfold arrH
  rw [x_up_cm _ _ _ (Ne.symm n), x_up_up, x_up_up]
theorem arrH_2 {G : XG} {h : HM} {sA vA : Nat} {p : (Nat → Int32) × (Nat → Int32)} (n : sA ≠ vA) (f g : Nat → Int32) : x_up (x_up (arrH G h sA vA p) sA (.inl (g_c G 0, 16, .inl f))) vA (.inl (g_c G 0, 16, .inl g)) = arrH G h sA vA (f, g) := by
  have := arrH_up (G := G) (h := h) (p := p) (q := (f, g)) n
  exact this
theorem x_fr.upn {P : Nat → Prop} {h h' : HM} {a : Nat} {e : va_E} (hf : x_fr P h h') (ha : h a = none) : x_fr P h (x_up h' a e) := fun q e' hq hn => by
  rw [x_up_ne (x_none_ne ha hq)]
  exact hf q e' hq hn
theorem x_fr.none1 {a : Nat} {h h' : HM} {q : Nat} {e : va_E} (hf : x_fr (fun z => z = a) h h') (ha : h' a = some e) (hq : h' q = none) : h q = none := by
  cases hc : h q with
  | none => rfl
  | some e0 =>
    have hne : ¬ q = a := fun z => by rw [z, ha] at hq; cases hq
    rw [hf q e0 hc hne] at hq
    cases hq
theorem x_Leq {G : XG} {F : XF} {Q : State → Prop} {a b : Nat} {h : HM} {pc : Nat} {L L' : List (Option Value)} {st : List Value} (e : L = L') (kk : x_W G F Q a b h pc L' st) : x_W G F Q a b h pc L st := e ▸ kk
theorem x_fr.none2 {P : Nat → Prop} {h h' : HM} {q : Nat} (hf : x_fr P h h') (hP : ∀ z, P z → ∃ e, h' z = some e) (hq : h' q = none) : h q = none := by
  cases hc : h q with
  | none => rfl
  | some e0 =>
    by_cases c : P q
    · obtain ⟨e, he⟩ := hP q c
      rw [hq] at he
      cases he
    · rw [hf q e0 hc c] at hq
      cases hq
