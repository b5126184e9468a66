/-! soon: what is known by which parts -/
abbrev kP (S : sS) (p w n : Nat) (g : Nat → Nat) : Prop := hG (gSS S p n g none) (sBw S 0) (fv S p) = w
abbrev kS (S : sS) (p w s : Nat) : Prop := kP S p w (pop s) (blG s)
def tuU (S : sS) (p w : Nat) (x : Nat) : Nat := sUs S (sPl S p).2.1 w (if (sPl S p).1 = 4 then 9 - x else x)
theorem gSS_none (S : sS) (p n : Nat) (g : Nat → Nat) (w : Nat) : gSS S p n g none w = (if (sPl S p).1 = 2 ∧ w = (sPl S p).2.2.2 then 9 else 0) + fsum (fun i => tuU S p w (g i)) (if (sPl S p).1 = 3 then 1 else n) := by
  show (if (sPl S p).1 = 2 ∧ w = (sPl S p).2.2.2 then 9 else 0) + fsum (fun i => tuU S p w (g i)) (if (sPl S p).1 = 3 then 1 else n) + (if (sPl S p).1 = 5 then 4 * fsum (fun i => if (0 : Nat).testBit (g i) then 1 else 0) n else 0) = _
  have h : fsum (fun i => if (0 : Nat).testBit (g i) then 1 else 0) n = 0 := (fsum_congr n (fun i _ => by rw [Nat.zero_testBit, if_neg (by decide)])).trans (fsum_zero n)
  have h5 : (if (sPl S p).1 = 5 then 4 * 0 else 0) = 0 := by split <;> rfl
  rw [h, h5, Nat.add_zero]
theorem pset_or_bit {A q b : Nat} : (A ||| 2 ^ q).testBit b = (A.testBit b || decide (q = b)) := by rw [Nat.testBit_or, Nat.testBit_two_pow]
theorem sum_pset (U g : Nat → Nat) : ∀ n, (∀ i, i < n → g i < 10 ∧ ∀ j, j < i → g i ≠ g j) → fsum (fun i => U (g i)) n = fsum (fun b => if (pset g n).testBit b then U b else 0) 10 := by
  intro n
  induction n with
  | zero =>
    intro _
    exact ((fsum_congr 10 (fun b _ => by show (if (0 : Nat).testBit b then U b else 0) = 0; rw [Nat.zero_testBit, if_neg (by decide)])).trans (fsum_zero 10)).symm
  | succ n ih =>
    intro h
    rw [fsum, ih (fun i hi => h i (by omega))]
    have hno : ¬ (pset g n).testBit (g n) = true := fun z => by
      obtain ⟨i, hi, e⟩ := (pset_bit g n (g n)).mp z
      exact (h n (by omega)).2 i hi e.symm
    have hs := fsum_single (c := U (g n)) (p := g n) 10
    rw [if_pos (h n (by omega)).1] at hs
    rw [← hs, ← fsum_add]
    refine fsum_congr 10 (fun b _ => ?_)
    show (if (pset g n).testBit b then U b else 0) + (if b = g n then U (g n) else 0) = if (pset g n ||| 2 ^ g n).testBit b then U b else 0
    rw [pset_or_bit]
    by_cases hb : b = g n
    · rw [hb, if_neg hno, if_pos rfl, if_pos (by rw [decide_eq_true rfl, Bool.or_true]), Nat.zero_add]
    · rw [if_neg hb, Nat.add_zero, decide_eq_false (fun z => hb z.symm), Bool.or_false]
theorem pset_bl {s : Nat} (hs : s < 1024) : pset (blG s) (pop s) = s := by
  refine Nat.eq_of_testBit_eq (fun b => ?_)
  rw [Bool.eq_iff_iff, pset_bit]
  constructor
  · rintro ⟨i, hi, e⟩
    rw [← bl_popS] at hi
    have hm : blG s i ∈ bl s 10 := by
      show (bl s 10).getD i 0 ∈ bl s 10
      rw [getD_at hi]
      exact List.getElem_mem hi
    rw [e] at hm
    exact ((bl_mem s 10 b).mp hm).2
  · intro h
    have hb : b < 10 := by
      rcases Nat.lt_or_ge b 10 with z | z
      · exact z
      · have h2 : s.testBit b = false := Nat.testBit_lt_two_pow (Nat.lt_of_lt_of_le hs (Nat.pow_le_pow_right (by decide) z : 2 ^ 10 ≤ 2 ^ b))
        rw [h2] at h
        exact absurd h (by decide)
    obtain ⟨i, hi, e⟩ := List.mem_iff_getElem.mp ((bl_mem s 10 b).mpr ⟨hb, h⟩)
    refine ⟨i, by rw [← bl_popS]; exact hi, ?_⟩
    show (bl s 10).getD i 0 = b
    rw [getD_at hi]
    exact e
theorem blG_d {s : Nat} : ∀ i, i < pop s → blG s i < 10 ∧ ∀ j, j < i → blG s i ≠ blG s j := by
  intro i hi
  rw [← bl_popS] at hi
  have hm : blG s i ∈ bl s 10 := by
    show (bl s 10).getD i 0 ∈ bl s 10
    rw [getD_at hi]
    exact List.getElem_mem hi
  refine ⟨((bl_mem s 10 _).mp hm).1, fun j hj e => ?_⟩
  have h := inc_at (l := bl s 10) (List.Pairwise.filter _ List.pairwise_lt_range) hj hi
  have e : (bl s 10).getD i 0 = (bl s 10).getD j 0 := e
  omega
/-- by a set alone, unless one takes a part for all -/
theorem kP_set {S : sS} {p w n : Nat} {g : Nat → Nat} (h3 : ¬ (sPl S p).1 = 3) (hg : ∀ i, i < n → g i < 10 ∧ ∀ j, j < i → g i ≠ g j) : kP S p w n g ↔ kS S p w (pset g n) := by
  have hlt : pset g n < 1024 := pset_lt g 10 n (fun i hi => (hg i hi).1)
  have e : hG (gSS S p n g none) (sBw S 0) (fv S p) = hG (gSS S p (pop (pset g n)) (blG (pset g n)) none) (sBw S 0) (fv S p) := hG_congr (fun v _ => by
    rw [gSS_none, gSS_none, if_neg h3, if_neg h3, sum_pset _ g n hg, sum_pset _ (blG (pset g n)) (pop (pset g n)) blG_d, pset_bl hlt])
  show _ = w ↔ _ = w
  rw [e]
theorem blG_one : ∀ q, q < 10 → blG (2 ^ q) 0 = q := by decide +kernel
theorem kP_one {S : sS} {p w n : Nat} {g : Nat → Nat} (h3 : (sPl S p).1 = 3) (hg : g 0 < 10) : kP S p w n g ↔ kS S p w (2 ^ g 0) := by
  have e : hG (gSS S p n g none) (sBw S 0) (fv S p) = hG (gSS S p (pop (2 ^ g 0)) (blG (2 ^ g 0)) none) (sBw S 0) (fv S p) := hG_congr (fun v _ => by
    rw [gSS_none, gSS_none, if_pos h3, if_pos h3]
    show _ + (0 + tuU S p v (g 0)) = _ + (0 + tuU S p v (blG (2 ^ g 0) 0))
    rw [blG_one _ hg])
  show _ = w ↔ _ = w
  rw [e]
/-- the set of parts at places by bits -/
def sM (v : Nat → Nat) (m : Nat) : Nat → Nat
  | 0 => 0
  | i + 1 => if m.testBit i = true then sM v m i ||| 2 ^ v i else sM v m i
theorem sM_bit (v : Nat → Nat) (m : Nat) : ∀ n b, (sM v m n).testBit b = true ↔ ∃ i, i < n ∧ m.testBit i = true ∧ v i = b := by
  intro n
  induction n with
  | zero =>
    intro b
    constructor
    · intro h
      rw [show sM v m 0 = 0 from rfl, Nat.zero_testBit] at h
      exact absurd h (by decide)
    · rintro ⟨i, h, _⟩
      omega
  | succ n ih =>
    intro b
    rw [sM]
    by_cases h : m.testBit n = true
    · rw [if_pos h, pset_or_bit, Bool.or_eq_true, ih]
      constructor
      · rintro (⟨i, h1, h2⟩ | h1)
        · exact ⟨i, by omega, h2⟩
        · exact ⟨n, by omega, h, of_decide_eq_true h1⟩
      · rintro ⟨i, h1, h2, h3⟩
        by_cases hi : i = n
        · exact Or.inr (decide_eq_true (by rw [← hi]; exact h3))
        · exact Or.inl ⟨i, by omega, h2, h3⟩
    · rw [if_neg h, ih]
      constructor
      · rintro ⟨i, h1, h2⟩
        exact ⟨i, by omega, h2⟩
      · rintro ⟨i, h1, h2, h3⟩
        refine ⟨i, ?_, h2, h3⟩
        by_cases hi : i = n
        · rw [hi] at h2
          exact absurd h2 h
        · omega
theorem sM_pset {v f : Nat → Nat} {n j : Nat} (hf : ∀ x, x < j → f x < n) : sM v (pset f j) n = pset (fun x => v (f x)) j := by
  refine Nat.eq_of_testBit_eq (fun b => ?_)
  rw [Bool.eq_iff_iff, sM_bit, pset_bit]
  constructor
  · rintro ⟨i, h1, h2, h3⟩
    obtain ⟨x, hx, e⟩ := (pset_bit f j i).mp h2
    exact ⟨x, hx, by rw [e]; exact h3⟩
  · rintro ⟨x, hx, e⟩
    exact ⟨f x, hf x hx, (pset_bit f j (f x)).mpr ⟨x, hx, rfl⟩, e⟩
theorem sM_one {v : Nat → Nat} {n q : Nat} (hq : q < n) : sM v (2 ^ q) n = 2 ^ v q := by
  have h := sM_pset (v := v) (f := fun _ => q) (n := n) (j := 1) (fun _ _ => hq)
  have e1 : pset (fun _ => q) 1 = 2 ^ q := by show 0 ||| 2 ^ q = _; rw [Nat.zero_or]
  have e2 : pset (fun x => v ((fun _ => q) x)) 1 = 2 ^ v q := by show 0 ||| 2 ^ v q = _; rw [Nat.zero_or]
  rw [e1, e2] at h
  exact h
theorem pop_mono {a c : Nat} (h : ∀ b, b < 10 → a.testBit b = true → c.testBit b = true) : pop a ≤ pop c := fsum_le 10 (fun b hb => by
  show (if a.testBit b then 1 else 0) ≤ if c.testBit b then 1 else 0
  by_cases ha : a.testBit b = true
  · rw [if_pos ha, if_pos (h b hb ha)]; exact Nat.le_refl _
  · rw [if_neg ha]; exact Nat.zero_le _)
theorem pop_psetn {g : Nat → Nat} {n : Nat} (hg : ∀ i, i < n → g i < 10 ∧ ∀ j, j < i → g i ≠ g j) : pop (pset g n) = n := by
  have h := pop_pset (pset g n) g n hg
  rw [Nat.and_self] at h
  rw [h]
  refine (fsum_congr n (fun i hi => ?_)).trans (ones_sum n)
  exact if_pos ((pset_bit g n (g i)).mpr ⟨i, hi, rfl⟩)
theorem lt10 {x : Nat} (h : ∀ b, 10 ≤ b → x.testBit b = false) : x < 1024 := Nat.lt_pow_two_of_testBit x (n := 10) (fun b hb => h b hb)
/-- a set of so many parts, and part of it -/
theorem sM_ok {s n m : Nat} (hs : s < 1024) (hn : pop s = n) (h6 : n ≤ 6) (h1 : 1 ≤ m) (hm : m < 2 ^ n) : sM (blG s) m n < 1024 ∧ 1 ≤ pop (sM (blG s) m n) ∧ pop (sM (blG s) m n) ≤ 6 := by
  have hsub : ∀ b, (sM (blG s) m n).testBit b = true → s.testBit b = true := fun b hb => by
    obtain ⟨i, h1, h2, h3⟩ := (sM_bit _ _ _ _).mp hb
    rw [← pset_bl hs]
    exact (pset_bit _ _ _).mpr ⟨i, by omega, h3⟩
  have hlt : sM (blG s) m n < 1024 := by
    refine lt10 (fun b hb => ?_)
    cases hx : (sM (blG s) m n).testBit b with
    | false => rfl
    | true =>
      have h2 : s.testBit b = false := Nat.testBit_lt_two_pow (Nat.lt_of_lt_of_le hs (Nat.pow_le_pow_right (by decide) hb : 2 ^ 10 ≤ 2 ^ b))
      rw [hsub b hx] at h2
      exact absurd h2 (by decide)
  refine ⟨hlt, ?_, Nat.le_trans (pop_mono (fun b _ hb => hsub b hb)) (by omega)⟩
  have hex : ∃ i, i < n ∧ m.testBit i = true := by
    refine Classical.byContradiction (fun z => ?_)
    have h0 : m = 0 := Nat.eq_of_testBit_eq (fun b => by
      rw [Nat.zero_testBit]
      cases hx : m.testBit b with
      | false => rfl
      | true =>
        rcases Nat.lt_or_ge b n with y | y
        · exact absurd ⟨b, y, hx⟩ z
        · have h2 : m.testBit b = false := Nat.testBit_lt_two_pow (Nat.lt_of_lt_of_le hm (Nat.pow_le_pow_right (by decide) y))
          rw [hx] at h2
          exact absurd h2 (by decide))
    omega
  obtain ⟨i, hi, hb⟩ := hex
  have hbit : (sM (blG s) m n).testBit (blG s i) = true := (sM_bit _ _ _ _).mpr ⟨i, hi, hb, rfl⟩
  have h10 := (blG_d (s := s) i (by omega)).1
  have h2 := fsum_one (f := fun b => if (sM (blG s) m n).testBit b then 1 else 0) 10 (blG s i) h10
  rw [if_pos hbit] at h2
  exact h2
/-! from which one on -/
def kfD (P : Nat → Bool) : Nat → Nat → Nat
  | 0, fr => fr
  | k + 1, fr => if P (k + 1) = true then kfD P k (k + 1) else fr
def kfU (P : Nat → Bool) (n : Nat) : Nat → Nat
  | 0 => n + 1
  | i + 1 => if P (i + 1) = true then (if n < kfU P n i then i + 1 else kfU P n i) else n + 1
theorem kfD_le (P : Nat → Bool) : ∀ k, kfD P k (k + 1) ≤ k + 1 := by
  intro k
  induction k with
  | zero => exact Nat.le_refl _
  | succ k ih =>
    rw [kfD]
    split
    · omega
    · exact Nat.le_refl _
theorem kf_eq (P : Nat → Bool) (n : Nat) : ∀ i, i ≤ n → kfU P n i = if kfD P i (i + 1) = i + 1 then n + 1 else kfD P i (i + 1) := by
  intro i
  induction i with
  | zero => intro _; rfl
  | succ i ih =>
    intro hi
    have hl := kfD_le P i
    rw [kfU, kfD, ih (by omega)]
    by_cases hp : P (i + 1) = true
    · rw [if_pos hp, if_pos hp]
      by_cases h1 : kfD P i (i + 1) = i + 1
      · rw [if_pos h1, if_pos (by omega), h1, if_neg (by omega)]
      · rw [if_neg h1, if_neg (by omega), if_neg (by omega)]
    · rw [if_neg hp, if_neg hp, if_pos rfl]
theorem kf_n (P : Nat → Bool) (n : Nat) : kfU P n n = kfD P n (n + 1) := by
  rw [kf_eq P n n (Nat.le_refl _)]
  split
  · rename_i h
    exact h.symm
  · rfl
theorem kfU_le (P : Nat → Bool) (n : Nat) : ∀ i, i ≤ n → kfU P n i ≤ n + 1 := by
  intro i hi
  rw [kf_eq P n i hi]
  have := kfD_le P i
  split <;> omega
/-- from how many of an order of parts on -/
def kfL (S : sS) (p w n : Nat) (l : List Nat) : Nat := kfD (fun j => decide (kP S p w j (fnL l))) n (n + 1)
abbrev wAcc : Type := Nat × List Nat
def stP (S : sS) (p w n : Nat) (A : wAcc) (l : List Nat) : wAcc := if kfL S p w n l < A.1 then (kfL S p w n l, l) else A
def soL (s n : Nat) : List (List Nat) := (en n 0 n []).map (fun l => l.map (blG s))
def soA (S : sS) (p w s n : Nat) : wAcc := (soL s n).foldl (stP S p w n) (n + 1, [])
def soO (S : sS) (c n : Nat) (A : wAcc) : Int32 × sS := if n < A.1 then (-9, S) else (nI A.1, setR S c (some (n, fun x => nI (fnL A.2 x))))
abbrev soOK (S : sS) (p w r c : Int32) : Prop := inN p (sPc S) ∧ inN w (sBw S 0) ∧ inN r 6 ∧ inN c 6
def spSoon (S : sS) (p w r c : Int32) : Int32 × sS := if ¬ soOK S p w r c then (-1, S) else if ¬ sDf (sR S (zx r)) = 0 then sFd S (sDf (sR S (zx r))) else soO S (zx c) (sSz (sR S (zx r))) (soA S (zx p) (zx w) (rSet (sR S (zx r))) (sSz (sR S (zx r))))
theorem en_len {m b : Nat} : ∀ k pre l, l ∈ en m b k pre → l.length = pre.length + k := by
  intro k
  induction k with
  | zero =>
    intro pre l h
    have h : l ∈ [pre] := h
    rw [List.mem_singleton.mp h]
    rfl
  | succ k ih =>
    intro pre l h
    rw [en, List.mem_flatMap] at h
    obtain ⟨i, _, h2⟩ := h
    by_cases hc : pre.contains (i + b) = true
    · rw [if_pos hc] at h2
      exact absurd h2 List.not_mem_nil
    · rw [if_neg hc] at h2
      rw [ih _ _ h2, List.length_append]
      show pre.length + 1 + k = _
      omega
theorem fnL_map {l : List Nat} {v : Nat → Nat} {x : Nat} (h : x < l.length) : fnL (l.map v) x = v (fnL l x) := by
  unfold fnL
  rw [List.getD_eq_getElem?_getD, List.getElem?_map, List.getElem?_eq_getElem h, getD_at h]
  rfl
