/-! orders by ranks -/
theorem dsc_map {f v : Nat → Nat} {lo n : Nat} (hm : ∀ x y, lo ≤ x → x < n → lo ≤ y → y < n → (v (f x) ≤ v (f y) ↔ f x ≤ f y)) : ∀ k, k < n → dsc (fun x => v (f x)) lo k = dsc f lo k := by
  intro k
  induction k with
  | zero => intro _; rfl
  | succ k ih =>
    intro hk
    rw [dsc, dsc]
    by_cases h1 : k < lo
    · rw [if_pos h1, if_pos h1]
    · rw [if_neg h1, if_neg h1]
      have hh := hm (k + 1) k (by omega) hk (by omega) (by omega)
      by_cases h2 : f (k + 1) ≤ f k
      · rw [if_pos h2, if_pos (hh.mpr h2)]
        exact ih (by omega)
      · rw [if_neg h2, if_neg (fun z => h2 (hh.mp z))]
theorem gtr_map {f v : Nat → Nat} {lo n i : Nat} (hm : ∀ x y, lo ≤ x → x < n → lo ≤ y → y < n → (v (f x) ≤ v (f y) ↔ f x ≤ f y)) (h1 : lo ≤ i) (h2 : i < n) : ∀ j, j < n → gtr (fun x => v (f x)) i j = gtr f i j := by
  intro j
  induction j with
  | zero => intro _; rfl
  | succ j ih =>
    intro hj
    rw [gtr, gtr]
    by_cases h3 : i < j + 1 ∧ f (j + 1) ≤ f i
    · rw [if_pos h3, if_pos ⟨h3.1, (hm (j + 1) i (by omega) hj h1 h2).mpr h3.2⟩]
      exact ih (by omega)
    · rw [if_neg h3, if_neg (fun z => h3 ⟨z.1, (hm (j + 1) i (by omega) hj h1 h2).mp z.2⟩)]
theorem sw_map (f v : Nat → Nat) (i j : Nat) : sw (fun x => v (f x)) i j = fun x => v (sw f i j x) := by
  funext x
  unfold sw
  by_cases h1 : x = j
  · rw [if_pos h1, if_pos h1]
  · rw [if_neg h1, if_neg h1]
    by_cases h2 : x = i
    · rw [if_pos h2, if_pos h2]
    · rw [if_neg h2, if_neg h2]
theorem rv_map (v : Nat → Nat) : ∀ k f lo hi, rv k (fun x => v (f x)) lo hi = fun x => v (rv k f lo hi x) := by
  intro k
  induction k with
  | zero => intros; rfl
  | succ k ih =>
    intro f lo hi
    rw [rv, rv]
    by_cases h : lo < hi
    · rw [if_pos h, if_pos h, sw_map, ih]
    · rw [if_neg h, if_neg h]
theorem nxt_none {f v : Nat → Nat} {lo n : Nat} (hn : 1 ≤ n) (hm : ∀ x y, lo ≤ x → x < n → lo ≤ y → y < n → (v (f x) ≤ v (f y) ↔ f x ≤ f y)) (h : nxt f lo n = none) : nxt (fun x => v (f x)) lo n = none := by
  unfold nxt at h ⊢
  rw [dsc_map hm (n - 1) (by omega)]
  cases hd : dsc f lo (n - 1) with
  | none => rfl
  | some i => rw [hd] at h; exact absurd h (fun z => nomatch z)
theorem nxt_some {f v g : Nat → Nat} {lo n : Nat} (hn : 1 ≤ n) (hm : ∀ x y, lo ≤ x → x < n → lo ≤ y → y < n → (v (f x) ≤ v (f y) ↔ f x ≤ f y)) (h : nxt f lo n = some g) : nxt (fun x => v (f x)) lo n = some (fun x => v (g x)) := by
  unfold nxt at h ⊢
  rw [dsc_map hm (n - 1) (by omega)]
  cases hd : dsc f lo (n - 1) with
  | none => rw [hd] at h; exact absurd h (fun z => nomatch z)
  | some i =>
    rw [hd] at h
    have hi := dsc_bd _ _ hd
    have h : some (rv n (sw f i (gtr f i (n - 1))) (i + 1) (n - 1)) = some g := h
    show some (rv n (sw (fun x => v (f x)) i (gtr (fun x => v (f x)) i (n - 1))) (i + 1) (n - 1)) = _
    rw [gtr_map hm hi.1 (by omega) (n - 1) (by omega), sw_map, rv_map, Option.some.inj h]
def fnL (l : List Nat) : Nat → Nat := fun x => l.getD x 0
/-- all orders that begin so, by number -/
def en (m b : Nat) : Nat → List Nat → List (List Nat)
  | 0, pre => [pre]
  | k + 1, pre => (List.range m).flatMap (fun i => if pre.contains (i + b) then [] else en m b k (pre ++ [i + b]))
def chk (lo n : Nat) (l : List Nat) (o : Option (List Nat)) : Bool := match o, nxt (fnL l) lo n with
  | none, none => true
  | some l', some g => (List.range n).map g == l'
  | _, _ => false
def chn (lo n : Nat) : List (List Nat) → Bool
  | [] => true
  | l :: r => chk lo n l r.head? && chn lo n r
def okl (n : Nat) (l : List Nat) : Bool := (List.range n).all (fun x => decide (fnL l x < n) && (List.range x).all (fun y => !(fnL l x == fnL l y)))
theorem okl_of {n : Nat} {l : List Nat} (h : okl n l = true) : ∀ x, x < n → fnL l x < n ∧ ∀ y, y < x → fnL l x ≠ fnL l y := by
  intro x hx
  unfold okl at h
  rw [List.all_eq_true] at h
  have h1 := h x (List.mem_range.mpr hx)
  rw [Bool.and_eq_true] at h1
  refine ⟨of_decide_eq_true h1.1, fun y hy e => ?_⟩
  have h2 := List.all_eq_true.mp h1.2 y (List.mem_range.mpr hy)
  rw [e] at h2
  simp at h2
theorem chk_none {lo n : Nat} {l : List Nat} (h : chk lo n l none = true) : nxt (fnL l) lo n = none := by
  unfold chk at h
  cases hn : nxt (fnL l) lo n with
  | none => rfl
  | some g => rw [hn] at h; exact absurd (show false = true from h) (by decide)
theorem chk_some {lo n : Nat} {l l' : List Nat} (h : chk lo n l (some l') = true) : ∃ g, nxt (fnL l) lo n = some g ∧ ∀ x, x < n → g x = fnL l' x := by
  unfold chk at h
  cases hn : nxt (fnL l) lo n with
  | none => rw [hn] at h; exact absurd (show false = true from h) (by decide)
  | some g =>
    rw [hn] at h
    have h : ((List.range n).map g == l') = true := h
    have h := eq_of_beq h
    refine ⟨g, rfl, fun x hx => ?_⟩
    unfold fnL
    rw [← h, List.getD_eq_getElem?_getD, List.getElem?_map, List.getElem?_range hx]
    rfl
def sOK (lo n : Nat) (L : List (List Nat)) : Bool := chn lo n L && L.all (okl n) && decide (L.length ≤ 720) && (L.head? == some (List.range n))
theorem sOK_of {lo n : Nat} {L : List (List Nat)} (h : sOK lo n L = true) : chn lo n L = true ∧ (∀ l, l ∈ L → okl n l = true) ∧ L.length ≤ 720 ∧ ∃ r, L = List.range n :: r := by
  unfold sOK at h
  rw [Bool.and_eq_true, Bool.and_eq_true, Bool.and_eq_true] at h
  obtain ⟨⟨⟨h1, h2⟩, h3⟩, h4⟩ := h
  refine ⟨h1, List.all_eq_true.mp h2, of_decide_eq_true h3, ?_⟩
  cases L with
  | nil => exact absurd (show false = true from h4) (by decide)
  | cons l r =>
    have h5 : (some l == some (List.range n)) = true := h4
    have h6 : some l = some (List.range n) := eq_of_beq h5
    exact ⟨r, by rw [Option.some.inj h6]⟩
set_option maxRecDepth 100000 in
theorem s_2 : sOK 1 2 (en 1 1 1 [0]) = true := by decide +kernel
set_option maxRecDepth 100000 in
theorem s_4 : sOK 1 4 (en 3 1 3 [0]) = true := by decide +kernel
set_option maxRecDepth 100000 in
theorem s_6 : sOK 1 6 (en 5 1 5 [0]) = true := by decide +kernel
theorem s_n {n : Nat} (hT : tbP n) (h6 : n ≤ 6) : sOK 1 n (en (n - 1) 1 (n - 1) [0]) = true := by
  have h : n = 2 ∨ n = 4 ∨ n = 6 := by
    have := hT.1
    have := hT.2.2
    omega
  rcases h with rfl | rfl | rfl
  · exact s_2
  · exact s_4
  · exact s_6
set_option maxRecDepth 100000 in
theorem w_1 : sOK 0 1 (en 1 0 1 []) = true := by decide +kernel
set_option maxRecDepth 100000 in
theorem w_2 : sOK 0 2 (en 2 0 2 []) = true := by decide +kernel
set_option maxRecDepth 100000 in
theorem w_3 : sOK 0 3 (en 3 0 3 []) = true := by decide +kernel
set_option maxRecDepth 100000 in
theorem w_4 : sOK 0 4 (en 4 0 4 []) = true := by decide +kernel
set_option maxRecDepth 100000 in
theorem w_5 : sOK 0 5 (en 5 0 5 []) = true := by decide +kernel
set_option maxRecDepth 100000 in
theorem w_6 : sOK 0 6 (en 6 0 6 []) = true := by decide +kernel
theorem w_n {n : Nat} (h1 : 1 ≤ n) (h6 : n ≤ 6) : sOK 0 n (en n 0 n []) = true := by
  have h : n = 1 ∨ n = 2 ∨ n = 3 ∨ n = 4 ∨ n = 5 ∨ n = 6 := by omega
  rcases h with rfl | rfl | rfl | rfl | rfl | rfl
  · exact w_1
  · exact w_2
  · exact w_3
  · exact w_4
  · exact w_5
  · exact w_6
/-! the others, rising -/
def inO (t : Nat → Nat) (n p : Nat) : Bool := (List.range (n - 1)).any (fun i => t (i + 1) == p)
def rsL (t : Nat → Nat) (n P : Nat) : List Nat := (List.range P).filter (inO t n)
theorem inO_iff {t : Nat → Nat} {n p : Nat} : inO t n p = true ↔ ∃ i, i < n - 1 ∧ t (i + 1) = p := by
  unfold inO
  rw [List.any_eq_true]
  constructor
  · rintro ⟨i, h1, h2⟩
    exact ⟨i, List.mem_range.mp h1, eq_of_beq h2⟩
  · rintro ⟨i, h1, h2⟩
    exact ⟨i, List.mem_range.mpr h1, by rw [h2]; exact beq_self_eq_true p⟩
theorem flen (c : Nat → Bool) : ∀ P, ((List.range P).filter c).length = fsum (fun p => if c p = true then 1 else 0) P := by
  intro P
  induction P with
  | zero => rfl
  | succ P ih =>
    rw [List.range_succ, List.filter_append, List.length_append, ih]
    show _ = fsum (fun p => if c p = true then 1 else 0) P + if c P = true then 1 else 0
    by_cases h : c P = true
    · rw [if_pos h, List.filter_cons_of_pos h]; rfl
    · rw [if_neg h, List.filter_cons_of_neg h]; rfl
theorem cntI {g : Nat → Nat} {p : Nat} : ∀ m, (∀ i, i < m → ∀ j, j < i → g i ≠ g j) → fsum (fun i => if g i = p then 1 else 0) m = if (List.range m).any (fun i => g i == p) = true then 1 else 0 := by
  intro m
  induction m with
  | zero => intro _; rfl
  | succ m ih =>
    intro h
    rw [fsum, ih (fun i hi => h i (by omega)), List.range_succ, List.any_append]
    by_cases hp : g m = p
    · have h0 : ¬ (List.range m).any (fun i => g i == p) = true := fun z => by
        obtain ⟨i, h1, h2⟩ := List.any_eq_true.mp z
        exact h m (by omega) i (List.mem_range.mp h1) (hp.trans (eq_of_beq h2).symm)
      rw [if_neg h0, if_pos hp, if_pos (by simp [hp])]
    · rw [if_neg hp, Nat.add_zero]
      have h1 : ([m].any fun i => g i == p) = false := by simp [hp]
      rw [h1, Bool.or_false]
theorem rs_len {S : sS} {n : Nat} {t : Nat → Nat} (hT : TbOK S n t) : (rsL t n (sPc S)).length = n - 1 := by
  have hn := hT.1.1
  unfold rsL
  rw [flen]
  have e : ∀ p, (if inO t n p = true then 1 else 0) = fsum (fun i => if t (i + 1) = p then 1 else 0) (n - 1) := fun p => (cntI (g := fun i => t (i + 1)) (n - 1) (fun i hi j hj => (hT.2 (i + 1) (by omega)).2 (j + 1) (by omega))).symm
  rw [fsum_congr (sPc S) (fun p _ => e p), fsum_comm]
  have e2 : ∀ i, i < n - 1 → fsum (fun p => if t (i + 1) = p then 1 else 0) (sPc S) = 1 := fun i hi => by
    have h := fsum_single (c := 1) (p := t (i + 1)) (sPc S)
    rw [if_pos (hT.2 (i + 1) (by omega)).1] at h
    exact (fsum_congr _ (fun p _ => ifc ⟨fun z => z.symm, fun z => z.symm⟩)).trans h
  rw [fsum_congr (n - 1) e2]
  exact ones_sum _
theorem getD_at {l : List Nat} {i : Nat} (h : i < l.length) : l.getD i 0 = l[i] := by
  rw [List.getD_eq_getElem?_getD, List.getElem?_eq_getElem h]
  rfl
theorem inc_at {l : List Nat} (hl : l.Pairwise (· < ·)) {i j : Nat} (hij : i < j) (hj : j < l.length) : l.getD i 0 < l.getD j 0 := by
  rw [getD_at hj, getD_at (show i < l.length by omega)]
  exact List.pairwise_iff_getElem.mp hl i j (by omega) hj hij
theorem rs_inc (t : Nat → Nat) (n P : Nat) : (rsL t n P).Pairwise (· < ·) := List.Pairwise.filter _ List.pairwise_lt_range
theorem rs_mem {t : Nat → Nat} {n P p : Nat} : p ∈ rsL t n P ↔ p < P ∧ ∃ i, i < n - 1 ∧ t (i + 1) = p := by
  unfold rsL
  rw [List.mem_filter, List.mem_range, inO_iff]
/-- who sits at a rank: the first stays, the others rising -/
def vS (S : sS) (t : Nat → Nat) (n r : Nat) : Nat := if r = 0 then t 0 else (rsL t n (sPc S)).getD (r - 1) 0
theorem vS_of {S : sS} {n : Nat} {t : Nat → Nat} (hT : TbOK S n t) {r : Nat} (h0 : 1 ≤ r) (hr : r < n) : vS S t n r < sPc S ∧ ∃ i, i < n - 1 ∧ t (i + 1) = vS S t n r := by
  have hl := rs_len hT
  unfold vS
  rw [if_neg (by omega), getD_at (show r - 1 < (rsL t n (sPc S)).length by omega)]
  exact rs_mem.mp (List.getElem_mem _)
theorem vS_inc {S : sS} {n : Nat} {t : Nat → Nat} (hT : TbOK S n t) {r s : Nat} (h0 : 1 ≤ r) (hrs : r < s) (hs : s < n) : vS S t n r < vS S t n s := by
  have hl := rs_len hT
  unfold vS
  rw [if_neg (by omega), if_neg (by omega)]
  exact inc_at (rs_inc _ _ _) (by omega) (by omega)
theorem vS_le {S : sS} {n : Nat} {t : Nat → Nat} (hT : TbOK S n t) {r s : Nat} (h0 : 1 ≤ r) (hr : r < n) (h1 : 1 ≤ s) (hs : s < n) : vS S t n r ≤ vS S t n s ↔ r ≤ s := by
  rcases Nat.lt_trichotomy r s with h | h | h
  · have := vS_inc hT h0 h hs
    omega
  · rw [h]
    omega
  · have := vS_inc hT h1 h hr
    omega
theorem vS_ne {S : sS} {n : Nat} {t : Nat → Nat} (hT : TbOK S n t) {r s : Nat} (hr : r < n) (hs : s < n) (h : r ≠ s) : vS S t n r ≠ vS S t n s := by
  have key : ∀ s, 1 ≤ s → s < n → vS S t n 0 ≠ vS S t n s := fun s h1 h2 e => by
    obtain ⟨i, hi, ei⟩ := (vS_of hT h1 h2).2
    have e0 : vS S t n 0 = t 0 := if_pos rfl
    exact (hT.2 (i + 1) (by omega)).2 0 (by omega) (by rw [ei, ← e, e0])
  by_cases r0 : r = 0
  · subst r0
    exact key s (by omega) hs
  · by_cases s0 : s = 0
    · subst s0
      exact fun e => key r (by omega) hr e.symm
    · rcases Nat.lt_trichotomy r s with z | z | z
      · have := vS_inc hT (by omega) z hs
        omega
      · exact absurd z h
      · have := vS_inc hT (by omega) z hr
        omega
theorem vS_lt {S : sS} {n : Nat} {t : Nat → Nat} (hT : TbOK S n t) {r : Nat} (hr : r < n) : vS S t n r < sPc S := by
  by_cases r0 : r = 0
  · subst r0
    show (if (0 : Nat) = 0 then t 0 else _) < _
    rw [if_pos rfl]
    exact (hT.2 0 hr).1
  · exact (vS_of hT (by omega) hr).1
/-- the table of an order of ranks -/
def tbL (S : sS) (t : Nat → Nat) (n : Nat) (l : List Nat) : Nat → Nat := fun x => vS S t n (fnL l x)
theorem tbL_ok {S : sS} {n : Nat} {t : Nat → Nat} (hT : TbOK S n t) {l : List Nat} (hl : ∀ x, x < n → fnL l x < n ∧ ∀ y, y < x → fnL l x ≠ fnL l y) : TbOK S n (tbL S t n l) := ⟨hT.1, fun x hx => ⟨vS_lt hT (hl x hx).1, fun y hy => vS_ne hT (hl x hx).1 (hl y (by omega)).1 ((hl x hx).2 y hy)⟩⟩
/-- two rising rows of the same numbers -/
theorem inc_eq {f g : Nat → Nat} {n : Nat} (hf : ∀ a b, 1 ≤ a → a < b → b < n → f a < f b) (hg : ∀ a b, 1 ≤ a → a < b → b < n → g a < g b) (h1 : ∀ a, 1 ≤ a → a < n → ∃ b, 1 ≤ b ∧ b < n ∧ f a = g b) (h2 : ∀ a, 1 ≤ a → a < n → ∃ b, 1 ≤ b ∧ b < n ∧ g a = f b) : ∀ m a, a < m → 1 ≤ a → a < n → f a = g a := by
  intro m
  induction m with
  | zero => intro a h; omega
  | succ m ih =>
    intro a ha a1 an
    obtain ⟨b, b1, bn, e1⟩ := h1 a a1 an
    obtain ⟨c, c1, cn, e2⟩ := h2 a a1 an
    have hb : a ≤ b := by
      rcases Nat.lt_or_ge b a with z | z
      · have := ih b (by omega) b1 bn
        have := hf b a b1 z an
        omega
      · exact z
    have hc : a ≤ c := by
      rcases Nat.lt_or_ge c a with z | z
      · have := ih c (by omega) c1 cn
        have := hg c a c1 z an
        omega
      · exact z
    have k1 : g a ≤ g b := by
      rcases Nat.lt_or_ge a b with z | z
      · exact Nat.le_of_lt (hg a b a1 z bn)
      · rw [show a = b by omega]; exact Nat.le_refl _
    have k2 : f a ≤ f c := by
      rcases Nat.lt_or_ge a c with z | z
      · exact Nat.le_of_lt (hf a c a1 z cn)
      · rw [show a = c by omega]; exact Nat.le_refl _
    omega
