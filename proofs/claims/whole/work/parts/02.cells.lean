/-! the cells of both objects, by their numbers from the first one made on: what each is -/
def zu {α : Type} (f : Nat → α) (i : Nat) (x : α) : Nat → α := fun j => if j = i then x else f j
abbrev zM : Type := (Nat → Nat → Int32) × (Nat → Nat → Int64) × (Nat → Nat → Nat)
abbrev zE : Type := Launch × Nat × (Nat → ClassId) × (Nat → Nat → Nat) × (Nat → ClassId)
abbrev zY : Type := MethodName × ByteArray × Nat × Option FieldType
def gi (σ : zM) (a j : Nat) : Int32 := σ.1 a j
def gl (σ : zM) (a j : Nat) : Int64 := σ.2.1 a j
def gr (σ : zM) (a j : Nat) : Nat := σ.2.2 a j
def si (σ : zM) (a j : Nat) (v : Int32) : zM := (zu σ.1 a (zu (σ.1 a) j v), σ.2.1, σ.2.2)
def sl (σ : zM) (a j : Nat) (v : Int64) : zM := (σ.1, zu σ.2.1 a (zu (σ.2.1 a) j v), σ.2.2)
def sr (σ : zM) (a j : Nat) (v : Nat) : zM := (σ.1, σ.2.1, zu σ.2.2 a (zu (σ.2.2 a) j v))
/-- a whole row of ints anew -/
def sf (σ : zM) (a : Nat) (f : Nat → Int32) : zM := (zu σ.1 a f, σ.2.1, σ.2.2)
theorem gi_si (σ : zM) (a j : Nat) (v : Int32) (x y : Nat) : gi (si σ a j v) x y = if x = a ∧ y = j then v else gi σ x y := by
  unfold gi si zu
  by_cases h : x = a
  · subst h
    by_cases h2 : y = j <;> simp [h2]
  · simp [h]
theorem gi_sl (σ : zM) (a j : Nat) (v : Int64) (x y : Nat) : gi (sl σ a j v) x y = gi σ x y := rfl
theorem gi_sr (σ : zM) (a j : Nat) (v : Nat) (x y : Nat) : gi (sr σ a j v) x y = gi σ x y := rfl
theorem gi_sf (σ : zM) (a : Nat) (f : Nat → Int32) (x y : Nat) : gi (sf σ a f) x y = if x = a then f y else gi σ x y := by
  unfold gi sf zu
  by_cases h : x = a <;> simp [h]
theorem gl_si (σ : zM) (a j : Nat) (v : Int32) (x y : Nat) : gl (si σ a j v) x y = gl σ x y := rfl
theorem gl_sl (σ : zM) (a j : Nat) (v : Int64) (x y : Nat) : gl (sl σ a j v) x y = if x = a ∧ y = j then v else gl σ x y := by
  unfold gl sl zu
  by_cases h : x = a
  · subst h
    by_cases h2 : y = j <;> simp [h2]
  · simp [h]
theorem gl_sr (σ : zM) (a j : Nat) (v : Nat) (x y : Nat) : gl (sr σ a j v) x y = gl σ x y := rfl
theorem gl_sf (σ : zM) (a : Nat) (f : Nat → Int32) (x y : Nat) : gl (sf σ a f) x y = gl σ x y := rfl
theorem gr_si (σ : zM) (a j : Nat) (v : Int32) (x y : Nat) : gr (si σ a j v) x y = gr σ x y := rfl
theorem gr_sl (σ : zM) (a j : Nat) (v : Int64) (x y : Nat) : gr (sl σ a j v) x y = gr σ x y := rfl
theorem gr_sf (σ : zM) (a : Nat) (f : Nat → Int32) (x y : Nat) : gr (sf σ a f) x y = gr σ x y := rfl
theorem gr_sr (σ : zM) (a j : Nat) (v : Nat) (x y : Nat) : gr (sr σ a j v) x y = if x = a ∧ y = j then v else gr σ x y := by
  unfold gr sr zu
  by_cases h : x = a
  · subst h
    by_cases h2 : y = j <;> simp [h2]
  · simp [h]
theorem zM_ext {σ τ : zM} (h1 : ∀ a j, gi σ a j = gi τ a j) (h2 : ∀ a j, gl σ a j = gl τ a j) (h3 : ∀ a j, gr σ a j = gr τ a j) : σ = τ := by
  obtain ⟨a, b, c⟩ := σ
  obtain ⟨a', b', c'⟩ := τ
  have e1 : a = a' := funext fun x => funext fun y => h1 x y
  have e2 : b = b' := funext fun x => funext fun y => h2 x y
  have e3 : c = c' := funext fun x => funext fun y => h3 x y
  rw [e1, e2, e3]
/-- kind and size of each cell: 0 .. 10 an object by its number in vwCl, 11 ints, 12 longs, 13 booleans, 14 Sheets, 15 Boxes, 16 Players, 17 Leaves -/
def zK : List (Nat × Nat) := [(9, 13), (14, 6), (14, 4), (15, 2), (16, 8), (17, 12), (0, 5), (11, 6), (2, 2), (11, 6), (6, 4), (11, 8), (11, 8), (5, 8), (11, 4096), (11, 8), (11, 8), (12, 8), (12, 8), (8, 6), (11, 6), (11, 6), (11, 6), (13, 64),
  (7, 2), (11, 40), (7, 2), (11, 40), (7, 2), (11, 40), (7, 2), (11, 40), (7, 2), (11, 40), (7, 2), (11, 40), (7, 2), (11, 120), (7, 2), (11, 120), (7, 2), (11, 120), (7, 2), (11, 120), (1, 2), (11, 80), (1, 2), (11, 80),
  (4, 6), (11, 8), (4, 6), (11, 8), (4, 6), (11, 8), (4, 6), (11, 8), (4, 6), (11, 8), (4, 6), (11, 8), (4, 6), (11, 8), (4, 6), (11, 8),
  (3, 6), (2, 2), (11, 6), (3, 6), (2, 2), (11, 6), (3, 6), (2, 2), (11, 6), (3, 6), (2, 2), (11, 6), (3, 6), (2, 2), (11, 6), (3, 6), (2, 2), (11, 6), (3, 6), (2, 2), (11, 6), (3, 6), (2, 2), (11, 6), (3, 6), (2, 2), (11, 6), (3, 6), (2, 2), (11, 6), (3, 6), (2, 2), (11, 6), (3, 6), (2, 2), (11, 6),
  (4, 6), (11, 8), (10, 39), (11, 6), (11, 6), (11, 240), (11, 40), (11, 4), (11, 480), (11, 3), (11, 240), (11, 36), (11, 6), (11, 6), (11, 8), (11, 8), (11, 8), (12, 8), (12, 8), (12, 8), (11, 8), (11, 8), (11, 6), (11, 6), (11, 144)]
def kd (k : Nat) : Nat × Nat := zK.getD k (99, 0)
def zr (E : zE) (a : Nat) : Value := .ref (E.2.1 + a)
/-- what an object holds -/
def zO (E : zE) (ci k : Nat) (f : Nat → Int32) (g : Nat → Int64) (r : Nat → Nat) : List Value := match ci with
  | 0 => [zr E (k + 1), .int (f 1), .int (f 2), .long (g 3), .long (g 4)]
  | 1 => [zr E (k + 1), .int (f 1)]
  | 2 => [zr E (k + 1), .int (f 1)]
  | 3 => [zr E (k + 1), .int (f 1), .int (f 2), .int (f 3), .int (f 4), .int (f 5)]
  | 4 => [zr E (k + 1), .int (f 1), .int (f 2), .int (f 3), .int (f 4), zr E (r 5)]
  | 5 => [zr E (k + 1), zr E (k + 2), zr E (k + 3), zr E (k + 4), zr E (k + 5), .int (f 5), .int (f 6), .long (g 7)]
  | 6 => [zr E (k + 1), zr E (k + 2), .int (f 2), .int (f 3)]
  | 7 => [zr E (k + 1), .int (f 1)]
  | 8 => [zr E (k + 1), zr E (k + 2), zr E (k + 3), zr E (k + 4), .int (f 4), .int (f 5)]
  | 9 => [zr E 1, zr E 2, zr E 3, zr E 4, zr E 5, zr E 6, zr E 8, zr E 10, zr E 13, zr E 19, zr E 100, .int (f 11), .int (f 12)]
  | 10 => [.int (f 0), zr E 103, .int (f 2), .long (g 3), .long (g 4), zr E 104, zr E 105, zr E 106, zr E 107, zr E 108, zr E 109, zr E 110, .int (f 12), .int (f 13), zr E 111, zr E 112, .int (f 16), zr E 113, .int (f 18), zr E 114, zr E 115, zr E 116, .int (f 22), zr E 117, zr E 118, zr E 119, .int (f 26), zr E 120, zr E 121, .long (g 29), .int (f 30), .int (f 31), zr E 122, zr E 123, .int (f 34), .int (f 35), zr E 124, .int (f 37), .long (g 38)]
  | _ => []
/-- what a row of objects holds -/
def zLa (k j : Nat) : Nat := match k with
  | 1 => 24 + 2 * j
  | 2 => 36 + 2 * j
  | 3 => 44 + 2 * j
  | 4 => 48 + 2 * j
  | _ => 64 + 3 * j
def zF (E : zE) (q : Nat × Nat) (k : Nat) (f : Nat → Int32) (g : Nat → Int64) (r : Nat → Nat) : va_E :=
  if q.1 ≤ 10 then .inr (q.1, zO E q.1 k f g r)
  else if q.1 = 11 then .inl (E.2.2.2.2 0, q.2, .inl f)
  else if q.1 = 12 then .inl (E.2.2.2.2 1, q.2, .inr (.inl g))
  else if q.1 = 13 then .inl (E.2.2.2.2 2, q.2, .inl f)
  else .inl (E.2.2.2.2 (q.1 - 11), q.2, .inr (.inr (.inr (.inr (fun j => some (E.2.1 + zLa k j))))))
def zC (E : zE) (σ : zM) (k : Nat) : va_E := zF E (kd k) k (σ.1 k) (σ.2.1 k) (σ.2.2 k)
def zW (E : zE) (σ : zM) : va_W := (List.range 125).map (fun k => (E.2.1 + k, zC E σ k))
def zD (E : zE) : va_G := (E.2.2.1, E.2.2.2.1)
def zT (E : zE) : List (ClassId × FieldType) := [(E.2.2.2.2 0, .int), (E.2.2.2.2 1, .long), (E.2.2.2.2 2, .boolean), (E.2.2.2.2 3, .object "PadRound$Sheet"), (E.2.2.2.2 4, .object "PadRound$Box"), (E.2.2.2.2 5, .object "PadRound$Player"), (E.2.2.2.2 6, .object "PadRound$Leaf")]
def zA (E : zE) : Nat → Prop := fun q => E.2.1 ≤ q
theorem kd_lt {k : Nat} (h : (kd k).1 ≠ 99) : k < 125 := by
  rcases Nat.lt_or_ge k 125 with q | q
  · exact q
  · refine absurd ?_ h
    unfold kd
    rw [List.getD_eq_getElem?_getD, List.getElem?_eq_none (by exact q)]
    rfl
theorem zW_get (E : zE) (σ : zM) {k : Nat} (h : k < 125) : (zW E σ)[k]? = some (E.2.1 + k, zC E σ k) := by
  unfold zW
  rw [List.getElem?_map, List.getElem?_range h]
  rfl
theorem zW_at {E : zE} {σ : zM} {i : Nat} {q : Nat × va_E} (h : (zW E σ)[i]? = some q) : i < 125 ∧ q = (E.2.1 + i, zC E σ i) := by
  have hl : i < 125 := by
    have := (List.getElem?_eq_some_iff.mp h).1
    simpa [zW] using this
  rw [zW_get E σ hl] at h
  exact ⟨hl, (Option.some.inj h).symm⟩
theorem zW_D (E : zE) (σ : zM) : va_D (zA E) (zW E σ) := by
  refine ⟨fun i j p q hi hj hpq => ?_, fun k q hk => ?_⟩
  · obtain ⟨-, rfl⟩ := zW_at hi
    obtain ⟨-, rfl⟩ := zW_at hj
    simp at hpq
    omega
  · obtain ⟨-, rfl⟩ := zW_at hk
    exact Nat.le_add_right _ _
/-- one cell anew -/
theorem zW_set (E : zE) {σ τ : zM} {k : Nat} {c : va_E} (hk : k < 125) (h : ∀ x, x ≠ k → σ.1 x = τ.1 x ∧ σ.2.1 x = τ.2.1 x ∧ σ.2.2 x = τ.2.2 x) (hc : zC E τ k = c) : (zW E σ).set k (E.2.1 + k, c) = zW E τ := by
  apply List.ext_getElem?
  intro i
  rw [List.getElem?_set]
  by_cases hi : k = i
  · subst hi
    rw [if_pos rfl, if_pos (by simpa [zW] using hk), zW_get E τ hk, hc]
  · rw [if_neg hi]
    rcases Nat.lt_or_ge i 125 with q | q
    · rw [zW_get E σ q, zW_get E τ q]
      obtain ⟨e1, e2, e3⟩ := h i (fun e => hi e.symm)
      unfold zC
      rw [e1, e2, e3]
    · rw [List.getElem?_eq_none (by simpa [zW] using q), List.getElem?_eq_none (by simpa [zW] using q)]
theorem zC_obj {E : zE} {σ : zM} {a ci : Nat} (h : (kd a).1 = ci) (hc : ci ≤ 10) : zC E σ a = .inr (ci, zO E ci a (σ.1 a) (σ.2.1 a) (σ.2.2 a)) := by
  unfold zC zF
  rw [if_pos (by rw [h]; exact hc), h]
theorem zC_int {E : zE} {σ : zM} {a n : Nat} (h : kd a = (11, n)) : zC E σ a = .inl (E.2.2.2.2 0, n, .inl (σ.1 a)) := by
  unfold zC zF
  rw [h]
  rfl
theorem zC_long {E : zE} {σ : zM} {a n : Nat} (h : kd a = (12, n)) : zC E σ a = .inl (E.2.2.2.2 1, n, .inr (.inl (σ.2.1 a))) := by
  unfold zC zF
  rw [h]
  rfl
theorem zC_bool {E : zE} {σ : zM} {a n : Nat} (h : kd a = (13, n)) : zC E σ a = .inl (E.2.2.2.2 2, n, .inl (σ.1 a)) := by
  unfold zC zF
  rw [h]
  rfl
theorem zC_ref {E : zE} {σ : zM} {a n t : Nat} (h : kd a = (t + 14, n)) : zC E σ a = .inl (E.2.2.2.2 (t + 3), n, .inr (.inr (.inr (.inr (fun j => some (E.2.1 + zLa a j)))))) := by
  unfold zC zF
  rw [h]
  simp
