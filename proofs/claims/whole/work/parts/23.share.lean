/-! sums and shares -/
def fsum (f : Nat → Nat) : Nat → Nat
  | 0 => 0
  | n + 1 => fsum f n + f n
theorem fsum_congr {f g : Nat → Nat} : ∀ n, (∀ i, i < n → f i = g i) → fsum f n = fsum g n := by
  intro n
  induction n with
  | zero => intro _; rfl
  | succ n ih => intro h; rw [fsum, fsum, ih (fun i hi => h i (by omega)), h n (by omega)]
theorem fsum_add (f g : Nat → Nat) : ∀ n, fsum (fun i => f i + g i) n = fsum f n + fsum g n := by
  intro n
  induction n with
  | zero => rfl
  | succ n ih => rw [fsum, fsum, fsum, ih]; omega
theorem fsum_mul (c : Nat) (f : Nat → Nat) : ∀ n, fsum (fun i => c * f i) n = c * fsum f n := by
  intro n
  induction n with
  | zero => rfl
  | succ n ih => rw [fsum, fsum, ih, Nat.mul_add]
theorem fsum_zero : ∀ n, fsum (fun _ => 0) n = 0 := by
  intro n
  induction n with
  | zero => rfl
  | succ n ih => rw [fsum, ih]
theorem fsum_le {f g : Nat → Nat} : ∀ n, (∀ i, i < n → f i ≤ g i) → fsum f n ≤ fsum g n := by
  intro n
  induction n with
  | zero => intro _; exact Nat.le_refl _
  | succ n ih => intro h; rw [fsum, fsum]; have := ih (fun i hi => h i (by omega)); have := h n (by omega); omega
theorem fsum_bd {f : Nat → Nat} {c : Nat} : ∀ n, (∀ i, i < n → f i ≤ c) → fsum f n ≤ c * n := by
  intro n
  induction n with
  | zero => intro _; exact Nat.zero_le _
  | succ n ih => intro h; rw [fsum, Nat.mul_succ]; have := ih (fun i hi => h i (by omega)); have := h n (by omega); omega
theorem fsum_one {f : Nat → Nat} : ∀ n i, i < n → f i ≤ fsum f n := by
  intro n
  induction n with
  | zero => intro i hi; exact absurd hi (by omega)
  | succ n ih =>
    intro i hi
    rw [fsum]
    by_cases h : i = n
    · rw [h]; omega
    · have := ih i (by omega); omega
theorem fsum_eq {f g : Nat → Nat} : ∀ n, (∀ i, i < n → f i ≤ g i) → fsum f n = fsum g n → ∀ i, i < n → f i = g i := by
  intro n
  induction n with
  | zero => intro _ _ i hi; exact absurd hi (by omega)
  | succ n ih =>
    intro h e i hi
    rw [fsum, fsum] at e
    have h1 := fsum_le n (fun i hi => h i (by omega))
    have h2 := h n (by omega)
    by_cases hin : i = n
    · rw [hin]; omega
    · exact ih (fun i hi => h i (by omega)) (by omega) i (by omega)
theorem fsum_single {c p : Nat} : ∀ n, fsum (fun i => if i = p then c else 0) n = if p < n then c else 0 := by
  intro n
  induction n with
  | zero => rfl
  | succ n ih =>
    rw [fsum, ih]
    by_cases h : n = p
    · rw [if_neg (by omega), if_pos h, if_pos (by omega)]; omega
    · rw [if_neg h]
      by_cases h2 : p < n
      · rw [if_pos h2, if_pos (by omega)]; rfl
      · rw [if_neg h2, if_neg (by omega)]
/-- the first of the greatest -/
def amx (f : Nat → Nat) : Nat → Nat
  | 0 => 0
  | n + 1 => if f (amx f n) < f n then n else amx f n
theorem amx_spec (f : Nat → Nat) : ∀ n, 0 < n → amx f n < n ∧ ∀ w, w < n → f w ≤ f (amx f n) ∧ (w < amx f n → f w < f (amx f n)) := by
  intro n
  induction n with
  | zero => intro h; exact absurd h (by omega)
  | succ n ih =>
    intro _
    rw [amx]
    rcases Nat.eq_zero_or_pos n with h0 | h0
    · subst h0
      have : (if f (amx f 0) < f 0 then 0 else amx f 0) = 0 := by split <;> rfl
      rw [this]
      exact ⟨by omega, fun w hw => ⟨by rw [show w = 0 by omega]; omega, fun z => by omega⟩⟩
    · obtain ⟨h1, h2⟩ := ih h0
      by_cases hc : f (amx f n) < f n
      · rw [if_pos hc]
        refine ⟨by omega, fun w hw => ?_⟩
        by_cases hwn : w = n
        · rw [hwn]; exact ⟨by omega, fun z => by omega⟩
        · have := (h2 w (by omega)).1
          exact ⟨by omega, fun _ => by omega⟩
      · rw [if_neg hc]
        refine ⟨by omega, fun w hw => ?_⟩
        by_cases hwn : w = n
        · rw [hwn]; exact ⟨by omega, fun z => by omega⟩
        · exact h2 w (by omega)
theorem amx_uniq {f : Nat → Nat} {n b : Nat} (hb : b < n) (h : ∀ w, w < n → f w ≤ f b ∧ (w < b → f w < f b)) : amx f n = b := by
  obtain ⟨h1, h2⟩ := amx_spec f n (by omega)
  rcases Nat.lt_trichotomy (amx f n) b with q | q | q
  · have := (h _ h1).2 q; have := (h2 b hb).1; omega
  · exact q
  · have := (h2 b hb).2 q; have := (h _ h1).1; omega
theorem amx_congr {f g : Nat → Nat} : ∀ n, (∀ i, i < n → f i = g i) → amx f n = amx g n := by
  intro n
  induction n with
  | zero => intro _; rfl
  | succ n ih =>
    intro h
    rw [amx, amx, ih (fun i hi => h i (by omega)), h n (by omega)]
    rcases Nat.eq_zero_or_pos n with h0 | h0
    · subst h0
      show (if f 0 < g 0 then 0 else 0) = (if g 0 < g 0 then 0 else 0)
      rw [h 0 (by omega)]
    · rw [h _ (by have := (amx_spec g n h0).1; omega)]
/-- shares of so many words by sums -/
def hSb (s : Nat → Nat) (n w : Nat) : Nat := if fsum s n = 0 then 0 else 24 * s w / fsum s n
def hG (s : Nat → Nat) (n fav : Nat) : Nat := if fsum s n = 0 then fav else amx s n
def hSh (s : Nat → Nat) (n fav w : Nat) : Nat := hSb s n w + if w = hG s n fav then 24 - fsum (hSb s n) n else 0
theorem hSb_sum (s : Nat → Nat) (n : Nat) : fsum (hSb s n) n ≤ 24 := by
  by_cases h0 : fsum s n = 0
  · rw [fsum_congr (f := hSb s n) (g := fun _ => 0) n (fun i _ => if_pos h0), fsum_zero]; omega
  · have h1 : fsum (fun w => fsum s n * hSb s n w) n ≤ fsum (fun w => 24 * s w) n := fsum_le n (fun i _ => by
      show fsum s n * hSb s n i ≤ 24 * s i
      rw [show hSb s n i = 24 * s i / fsum s n from if_neg h0]
      exact Nat.mul_div_le _ _)
    rw [fsum_mul, fsum_mul, Nat.mul_comm] at h1
    exact Nat.le_of_mul_le_mul_right h1 (by omega)
theorem hG_lt {s : Nat → Nat} {n fav : Nat} (hf : fav < n) : hG s n fav < n := by
  unfold hG
  split
  · exact hf
  · exact (amx_spec s n (by omega)).1
theorem hSh_le (s : Nat → Nat) (n fav w : Nat) (hw : w < n) : hSh s n fav w ≤ 24 := by
  have h1 := hSb_sum s n
  have h2 : hSb s n w ≤ fsum (hSb s n) n := fsum_one n w hw
  unfold hSh
  split <;> omega
theorem hSh_sum {s : Nat → Nat} {n fav : Nat} (hf : fav < n) : fsum (hSh s n fav) n = 24 := by
  have h1 := hSb_sum s n
  have h2 := hG_lt (s := s) hf
  have e : fsum (hSh s n fav) n = fsum (hSb s n) n + fsum (fun w => if w = hG s n fav then 24 - fsum (hSb s n) n else 0) n := fsum_add _ _ n
  rw [e, fsum_single, if_pos h2]
  omega
/-- the greatest share is that of the greatest sum, the first of alike ones -/
theorem hSh_amx {s : Nat → Nat} {n fav : Nat} (hf : fav < n) : amx (hSh s n fav) n = hG s n fav := by
  refine amx_uniq (hG_lt hf) (fun w hw => ?_)
  have hs := hSb_sum s n
  by_cases h0 : fsum s n = 0
  · have e0 : ∀ v, hSb s n v = 0 := fun v => if_pos h0
    have es : fsum (hSb s n) n = 0 := by rw [fsum_congr (g := fun _ => 0) n (fun i _ => e0 i), fsum_zero]
    unfold hSh
    rw [e0, e0, es, if_pos rfl]
    by_cases hwg : w = hG s n fav
    · rw [if_pos hwg]; exact ⟨by omega, fun z => by omega⟩
    · rw [if_neg hwg]; exact ⟨by omega, fun z => by omega⟩
  · have hg : hG s n fav = amx s n := if_neg h0
    obtain ⟨m1, m2⟩ := amx_spec s n (by omega)
    have eb : ∀ v, hSb s n v = 24 * s v / fsum s n := fun v => if_neg h0
    have mono : hSb s n w ≤ hSb s n (amx s n) := by
      rw [eb, eb]
      exact Nat.div_le_div_right (Nat.mul_le_mul_left 24 (m2 w hw).1)
    rw [hg]
    unfold hSh
    rw [hg, if_pos rfl]
    by_cases hwg : w = amx s n
    · rw [if_pos hwg, hwg]; exact ⟨by omega, fun z => by omega⟩
    · rw [if_neg hwg]
      refine ⟨by omega, fun z => ?_⟩
      rcases Nat.lt_or_ge (fsum (hSb s n) n) 24 with q | q
      · omega
      · have ex : ∀ i, i < n → fsum s n * hSb s n i = 24 * s i := fsum_eq n (fun i _ => by
          show fsum s n * hSb s n i ≤ 24 * s i
          rw [eb]
          exact Nat.mul_div_le _ _) (by rw [fsum_mul, fsum_mul, show fsum (hSb s n) n = 24 by omega, Nat.mul_comm])
        have e1 := ex w hw
        have e2 := ex (amx s n) m1
        have lt := (m2 w hw).2 z
        have : fsum s n * hSb s n w < fsum s n * hSb s n (amx s n) := by omega
        have := Nat.lt_of_mul_lt_mul_left this
        omega
theorem hSh_congr {s s' : Nat → Nat} {n fav : Nat} (h : ∀ i, i < n → s i = s' i) (w : Nat) (hw : w < n) : hSh s n fav w = hSh s' n fav w := by
  have e1 : fsum s n = fsum s' n := fsum_congr n h
  have e2 : ∀ i, i < n → hSb s n i = hSb s' n i := fun i hi => by unfold hSb; rw [e1, h i hi]
  have e3 : hG s n fav = hG s' n fav := by unfold hG; rw [e1, amx_congr n h]
  unfold hSh
  rw [e2 w hw, e3, fsum_congr n e2]
theorem hG_congr {s s' : Nat → Nat} {n fav : Nat} (h : ∀ i, i < n → s i = s' i) : hG s n fav = hG s' n fav := by unfold hG; rw [fsum_congr n h, amx_congr n h]
/-- how many bits -/
def pop (x : Nat) : Nat := fsum (fun i => if x.testBit i then 1 else 0) 10
def xbc (x : Int32) : Int32 :=
  let a := x - ((x.toUInt32 >>> ((nI 1).toUInt32 &&& Int32.toUInt32 31)).toInt32 &&& 1431655765)
  let b := (a &&& 858993459) + ((a.toUInt32 >>> ((nI 2).toUInt32 &&& Int32.toUInt32 31)).toInt32 &&& 858993459)
  let c := (b + (b.toUInt32 >>> ((nI 4).toUInt32 &&& Int32.toUInt32 31)).toInt32) &&& 252645135
  let e := c + (c.toUInt32 >>> ((nI 8).toUInt32 &&& Int32.toUInt32 31)).toInt32
  let f := e + (e.toUInt32 >>> ((nI 16).toUInt32 &&& Int32.toUInt32 31)).toInt32
  f &&& nI 63
theorem xbc_pop : ∀ x, x < 1024 → xbc (nI x) = nI (pop x) := by decide +kernel
set_option maxRecDepth 20000 in
theorem tJ6_bitCount_0f7a4 {E : zE} {d : Nat} {σ : zM} {x : Nat} (hx : x < 1024) : Ret E mJ6_bitCount_0f7a4 d [.int (nI x)] σ (qI fun r τ => r = nI (pop x) ∧ τ = σ) := by
  rw [← xbc_pop x hx]
  refine Ret.of [some (.int (nI x))] (by decide +kernel) (Nat.le_of_ble_eq_true rfl) rfl ?_
  refine z_iload_n 1 dJ6_bitCount_0f7a4_0 rfl rfl ?_
  refine z_iload_n 2 dJ6_bitCount_0f7a4_1 rfl rfl ?_
  refine z_iconst 3 (v := nI 1) dJ6_bitCount_0f7a4_2 rfl rfl ?_
  refine z_iushr 4 dJ6_bitCount_0f7a4_3 rfl ?_
  refine z_ldcw 7 dJ6_bitCount_0f7a4_4 rfl qJ6_265 ?_
  refine z_iand 8 dJ6_bitCount_0f7a4_7 rfl ?_
  refine z_isub 9 dJ6_bitCount_0f7a4_8 rfl ?_
  refine zs_istore_n_0_1 10 rfl dJ6_bitCount_0f7a4_9 rfl rfl ?_
  refine z_iload_n 11 dJ6_bitCount_0f7a4_10 rfl rfl ?_
  refine z_ldcw 14 dJ6_bitCount_0f7a4_11 rfl qJ6_266 ?_
  refine z_iand 15 dJ6_bitCount_0f7a4_14 rfl ?_
  refine z_iload_n 16 dJ6_bitCount_0f7a4_15 rfl rfl ?_
  refine z_iconst 17 (v := nI 2) dJ6_bitCount_0f7a4_16 rfl rfl ?_
  refine z_iushr 18 dJ6_bitCount_0f7a4_17 rfl ?_
  refine z_ldcw 21 dJ6_bitCount_0f7a4_18 rfl qJ6_266 ?_
  refine z_iand 22 dJ6_bitCount_0f7a4_21 rfl ?_
  refine z_iadd 23 dJ6_bitCount_0f7a4_22 rfl ?_
  refine zs_istore_n_0_1 24 rfl dJ6_bitCount_0f7a4_23 rfl rfl ?_
  refine z_iload_n 25 dJ6_bitCount_0f7a4_24 rfl rfl ?_
  refine z_iload_n 26 dJ6_bitCount_0f7a4_25 rfl rfl ?_
  refine z_iconst 27 (v := nI 4) dJ6_bitCount_0f7a4_26 rfl rfl ?_
  refine z_iushr 28 dJ6_bitCount_0f7a4_27 rfl ?_
  refine z_iadd 29 dJ6_bitCount_0f7a4_28 rfl ?_
  refine z_ldcw 32 dJ6_bitCount_0f7a4_29 rfl qJ6_267 ?_
  refine z_iand 33 dJ6_bitCount_0f7a4_32 rfl ?_
  refine zs_istore_n_0_1 34 rfl dJ6_bitCount_0f7a4_33 rfl rfl ?_
  refine z_iload_n 35 dJ6_bitCount_0f7a4_34 rfl rfl ?_
  refine z_iload_n 36 dJ6_bitCount_0f7a4_35 rfl rfl ?_
  refine z_bipush 38 (v := nI 8) dJ6_bitCount_0f7a4_36 rfl rfl ?_
  refine z_iushr 39 dJ6_bitCount_0f7a4_38 rfl ?_
  refine z_iadd 40 dJ6_bitCount_0f7a4_39 rfl ?_
  refine zs_istore_n_0_1 41 rfl dJ6_bitCount_0f7a4_40 rfl rfl ?_
  refine z_iload_n 42 dJ6_bitCount_0f7a4_41 rfl rfl ?_
  refine z_iload_n 43 dJ6_bitCount_0f7a4_42 rfl rfl ?_
  refine z_bipush 45 (v := nI 16) dJ6_bitCount_0f7a4_43 rfl rfl ?_
  refine z_iushr 46 dJ6_bitCount_0f7a4_45 rfl ?_
  refine z_iadd 47 dJ6_bitCount_0f7a4_46 rfl ?_
  refine zs_istore_n_0_1 48 rfl dJ6_bitCount_0f7a4_47 rfl rfl ?_
  refine z_iload_n 49 dJ6_bitCount_0f7a4_48 rfl rfl ?_
  refine z_bipush 51 (v := nI 63) dJ6_bitCount_0f7a4_49 rfl rfl ?_
  refine z_iand 52 dJ6_bitCount_0f7a4_51 rfl ?_
  refine z_ri dJ6_bitCount_0f7a4_52 rfl ?_
  exact ⟨rfl, rfl⟩
theorem pop_or {A D p : Nat} (hp : p < 10) (hA : A.testBit p = false) : pop (D &&& (A ||| 2 ^ p)) = pop (D &&& A) + if D.testBit p then 1 else 0 := by
  unfold pop
  have e : ∀ i, i < 10 → (if (D &&& (A ||| 2 ^ p)).testBit i then 1 else 0) = (if (D &&& A).testBit i then 1 else 0) + (if i = p then (if D.testBit p then 1 else 0) else 0) := by
    intro i hi
    rw [Nat.testBit_and, Nat.testBit_and, Nat.testBit_or, Nat.testBit_two_pow]
    by_cases hip : i = p
    · subst hip
      rw [hA]
      cases D.testBit i <;> simp
    · have h2 : decide (p = i) = false := decide_eq_false (fun z => hip z.symm)
      rw [h2, if_neg hip, Bool.or_false, Nat.add_zero]
  rw [fsum_congr 10 e, fsum_add, fsum_single, if_pos hp]
theorem pop_pset (D : Nat) (g : Nat → Nat) : ∀ n, (∀ i, i < n → g i < 10 ∧ ∀ j, j < i → g i ≠ g j) → pop (D &&& pset g n) = fsum (fun i => if D.testBit (g i) then 1 else 0) n := by
  intro n
  induction n with
  | zero => intro _; rw [pset, Nat.and_zero]; rfl
  | succ n ih =>
    intro h
    rw [pset, fsum, pop_or (h n (by omega)).1 ?_, ih (fun i hi => h i (by omega))]
    rw [← Bool.not_eq_true, pset_bit]
    rintro ⟨i, h1, h2⟩
    exact (h n (by omega)).2 i h1 h2.symm
/-- the sum by which one guesses a word of what is drawn; D: what he who drew would draw of it -/
def gS (q : sPly) (u : Nat → Nat → Nat) (n : Nat) (g : Nat → Nat) (D : Nat → Nat) (w : Nat) : Nat := (if q.1 = 2 ∧ w = q.2.2.2 then 9 else 0) + fsum (fun i => u w (if q.1 = 4 then 9 - g i else g i)) (if q.1 = 3 then 1 else n) + (if q.1 = 5 then 4 * fsum (fun i => if (D w).testBit (g i) then 1 else 0) n else 0)
theorem gS_le {q : sPly} {u : Nat → Nat → Nat} {n : Nat} {g D : Nat → Nat} {w : Nat} (hn : 1 ≤ n) (hn6 : n ≤ 6) (hg : ∀ i, i < n → g i < 10) (hu : ∀ p, p < 10 → u w p ≤ 9) : gS q u n g D w ≤ 87 := by
  unfold gS
  have h1 : fsum (fun i => u w (if q.1 = 4 then 9 - g i else g i)) (if q.1 = 3 then 1 else n) ≤ 9 * (if q.1 = 3 then 1 else n) := by
    refine fsum_bd _ (fun i hi => hu _ ?_)
    have hi2 : i < n := by split at hi <;> omega
    have := hg i hi2
    split <;> omega
  have h2 : fsum (fun i => if (D w).testBit (g i) then 1 else 0) n ≤ 1 * n := fsum_bd n (fun i _ => by split <;> omega)
  have h3 : (if q.1 = 3 then 1 else n) ≤ 6 := by split <;> omega
  have h4 : (if q.1 = 2 ∧ w = q.2.2.2 then 9 else 0) ≤ 9 := by split <;> omega
  have h5 : (if q.1 = 5 then 4 * fsum (fun i => if (D w).testBit (g i) then 1 else 0) n else 0) ≤ 24 := by split <;> omega
  omega
